theorem dL_pending_7 : decode cL_pending 7 = .ok (.i2l, 1) := by decide +kernel
theorem dL_pending_8 : decode cL_pending 8 = .ok (.lastore, 1) := by decide +kernel
theorem dL_pending_9 : decode cL_pending 9 = .ok (.goto 6, 3) := by decide +kernel
theorem dL_pending_12 : decode cL_pending 12 = .ok (.astore_n 3, 1) := by decide +kernel
theorem dL_pending_13 : decode cL_pending 13 = .ok (.iconst 1, 1) := by decide +kernel
theorem dL_pending_14 : decode cL_pending 14 = .ok (.ireturn, 1) := by decide +kernel
theorem dL_pending_15 : decode cL_pending 15 = .ok (.iconst 0, 1) := by decide +kernel
theorem dL_pending_16 : decode cL_pending 16 = .ok (.ireturn, 1) := by decide +kernel
set_option maxRecDepth 20000 in
theorem ggL_caught_X2_caught : GoodIn wsL_caught wsX2_caught := goodIn_ca (goodIn_r _ [6, 7, 8, 9, 10, 5, 11, 12, 13, 14, 15, 16, 17, 18, 19, 20, 21, 22, 23, 24, 25, 26, 27, 28, 29, 30, 31, 32, 33, 34, 35, 36, 37, 38, 39, 40, 41, 42] (by decide +kernel) (by decide +kernel)) (goodIn_sub (fun _ h => List.mem_cons_of_mem _ (List.mem_append_right _ h)) (by decide +kernel))
set_option maxRecDepth 20000 in
theorem gL_caught_X2_caught : GoodIn wsL_caught (wsV RL 91 RX2 yX2_caught wsX2_caught) := goodIn_app (goodIn_of _ (by decide +kernel)) ggL_caught_X2_caught
theorem dL_caught_0 : decode cL_caught 0 = .ok (.aload_n 2, 1) := by decide +kernel
theorem dL_caught_1 : decode cL_caught 1 = .ok (.iconst 0, 1) := by decide +kernel
theorem dL_caught_2 : decode cL_caught 2 = .ok (.aload_n 0, 1) := by decide +kernel
theorem dL_caught_3 : decode cL_caught 3 = .ok (.iload_n 1, 1) := by decide +kernel
theorem dL_caught_4 : decode cL_caught 4 = .ok (.invokevirtual 91, 3) := by decide +kernel
theorem dL_caught_7 : decode cL_caught 7 = .ok (.i2l, 1) := by decide +kernel
theorem dL_caught_8 : decode cL_caught 8 = .ok (.lastore, 1) := by decide +kernel
theorem dL_caught_9 : decode cL_caught 9 = .ok (.goto 6, 3) := by decide +kernel
theorem dL_caught_12 : decode cL_caught 12 = .ok (.astore_n 3, 1) := by decide +kernel
theorem dL_caught_13 : decode cL_caught 13 = .ok (.iconst 1, 1) := by decide +kernel
theorem dL_caught_14 : decode cL_caught 14 = .ok (.ireturn, 1) := by decide +kernel
theorem dL_caught_15 : decode cL_caught 15 = .ok (.iconst 0, 1) := by decide +kernel
theorem dL_caught_16 : decode cL_caught 16 = .ok (.ireturn, 1) := by decide +kernel
set_option maxRecDepth 20000 in
theorem ggL_isOrphaned_X2_isOrphaned : GoodIn wsL_isOrphaned wsX2_isOrphaned := goodIn_ca (goodIn_r _ [6, 7, 8, 5, 9, 10, 11, 12, 13, 14, 15, 16, 17, 18, 19, 20, 21, 22, 23, 24, 25, 26, 27, 28, 29, 30, 31, 32, 33, 34, 35, 36, 37, 38, 39, 40, 41, 42, 43, 44, 45, 46, 47, 48, 49, 50, 51, 52, 53, 54, 55, 56] (by decide +kernel) (by decide +kernel)) (goodIn_sub (fun _ h => List.mem_cons_of_mem _ (List.mem_append_right _ h)) (by decide +kernel))
set_option maxRecDepth 20000 in
theorem gL_isOrphaned_X2_isOrphaned : GoodIn wsL_isOrphaned (wsV RL 94 RX2 yX2_isOrphaned wsX2_isOrphaned) := goodIn_app (goodIn_of _ (by decide +kernel)) ggL_isOrphaned_X2_isOrphaned
theorem dL_isOrphaned_0 : decode cL_isOrphaned 0 = .ok (.aload_n 2, 1) := by decide +kernel
theorem dL_isOrphaned_1 : decode cL_isOrphaned 1 = .ok (.iconst 0, 1) := by decide +kernel
theorem dL_isOrphaned_2 : decode cL_isOrphaned 2 = .ok (.aload_n 0, 1) := by decide +kernel
theorem dL_isOrphaned_3 : decode cL_isOrphaned 3 = .ok (.iload_n 1, 1) := by decide +kernel
theorem dL_isOrphaned_4 : decode cL_isOrphaned 4 = .ok (.invokevirtual 94, 3) := by decide +kernel
theorem dL_isOrphaned_7 : decode cL_isOrphaned 7 = .ok (.ifCond .eq 7, 3) := by decide +kernel
theorem dL_isOrphaned_10 : decode cL_isOrphaned 10 = .ok (.lconst 1, 1) := by decide +kernel
theorem dL_isOrphaned_11 : decode cL_isOrphaned 11 = .ok (.goto 4, 3) := by decide +kernel
theorem dL_isOrphaned_14 : decode cL_isOrphaned 14 = .ok (.lconst 0, 1) := by decide +kernel
theorem dL_isOrphaned_15 : decode cL_isOrphaned 15 = .ok (.lastore, 1) := by decide +kernel
theorem dL_isOrphaned_16 : decode cL_isOrphaned 16 = .ok (.goto 6, 3) := by decide +kernel
theorem dL_isOrphaned_19 : decode cL_isOrphaned 19 = .ok (.astore_n 3, 1) := by decide +kernel
theorem dL_isOrphaned_20 : decode cL_isOrphaned 20 = .ok (.iconst 1, 1) := by decide +kernel
theorem dL_isOrphaned_21 : decode cL_isOrphaned 21 = .ok (.ireturn, 1) := by decide +kernel
theorem dL_isOrphaned_22 : decode cL_isOrphaned 22 = .ok (.iconst 0, 1) := by decide +kernel
theorem dL_isOrphaned_23 : decode cL_isOrphaned 23 = .ok (.ireturn, 1) := by decide +kernel
set_option maxRecDepth 20000 in
theorem ggL_waitResult_X2_waitResult : GoodIn wsL_waitResult wsX2_waitResult := goodIn_ca (goodIn_r _ [6, 7, 8, 9, 10, 5, 11, 12, 13, 14, 15, 16, 17, 18, 19, 20, 21, 22, 23, 24, 25, 26, 27, 28, 29, 30, 31, 32, 33, 34, 35, 36, 37, 38, 39, 40, 41, 42] (by decide +kernel) (by decide +kernel)) (goodIn_sub (fun _ h => List.mem_cons_of_mem _ (List.mem_append_right _ h)) (by decide +kernel))
set_option maxRecDepth 20000 in
theorem gL_waitResult_X2_waitResult : GoodIn wsL_waitResult (wsV RL 97 RX2 yX2_waitResult wsX2_waitResult) := goodIn_app (goodIn_of _ (by decide +kernel)) ggL_waitResult_X2_waitResult
theorem dL_waitResult_0 : decode cL_waitResult 0 = .ok (.aload_n 2, 1) := by decide +kernel
theorem dL_waitResult_1 : decode cL_waitResult 1 = .ok (.iconst 0, 1) := by decide +kernel
theorem dL_waitResult_2 : decode cL_waitResult 2 = .ok (.aload_n 0, 1) := by decide +kernel
theorem dL_waitResult_3 : decode cL_waitResult 3 = .ok (.iload_n 1, 1) := by decide +kernel
theorem dL_waitResult_4 : decode cL_waitResult 4 = .ok (.invokevirtual 97, 3) := by decide +kernel
theorem dL_waitResult_7 : decode cL_waitResult 7 = .ok (.i2l, 1) := by decide +kernel
theorem dL_waitResult_8 : decode cL_waitResult 8 = .ok (.lastore, 1) := by decide +kernel
theorem dL_waitResult_9 : decode cL_waitResult 9 = .ok (.goto 6, 3) := by decide +kernel
theorem dL_waitResult_12 : decode cL_waitResult 12 = .ok (.astore_n 3, 1) := by decide +kernel
theorem dL_waitResult_13 : decode cL_waitResult 13 = .ok (.iconst 1, 1) := by decide +kernel
theorem dL_waitResult_14 : decode cL_waitResult 14 = .ok (.ireturn, 1) := by decide +kernel
theorem dL_waitResult_15 : decode cL_waitResult 15 = .ok (.iconst 0, 1) := by decide +kernel
theorem dL_waitResult_16 : decode cL_waitResult 16 = .ok (.ireturn, 1) := by decide +kernel
set_option maxRecDepth 20000 in
theorem ggL_reportedChild_X2_reportedChild : GoodIn wsL_reportedChild wsX2_reportedChild := goodIn_ca (goodIn_r _ [6, 7, 8, 9, 10, 5, 11, 12, 13, 14, 15, 16, 17, 18, 19, 20, 21, 22, 23, 24, 25, 26, 27, 28, 29, 30, 31, 32, 33, 34, 35, 36, 37, 38, 39, 40, 41, 42] (by decide +kernel) (by decide +kernel)) (goodIn_sub (fun _ h => List.mem_cons_of_mem _ (List.mem_append_right _ h)) (by decide +kernel))
set_option maxRecDepth 20000 in
theorem gL_reportedChild_X2_reportedChild : GoodIn wsL_reportedChild (wsV RL 100 RX2 yX2_reportedChild wsX2_reportedChild) := goodIn_app (goodIn_of _ (by decide +kernel)) ggL_reportedChild_X2_reportedChild
theorem dL_reportedChild_0 : decode cL_reportedChild 0 = .ok (.aload_n 2, 1) := by decide +kernel
theorem dL_reportedChild_1 : decode cL_reportedChild 1 = .ok (.iconst 0, 1) := by decide +kernel
theorem dL_reportedChild_2 : decode cL_reportedChild 2 = .ok (.aload_n 0, 1) := by decide +kernel
theorem dL_reportedChild_3 : decode cL_reportedChild 3 = .ok (.iload_n 1, 1) := by decide +kernel
theorem dL_reportedChild_4 : decode cL_reportedChild 4 = .ok (.invokevirtual 100, 3) := by decide +kernel
theorem dL_reportedChild_7 : decode cL_reportedChild 7 = .ok (.i2l, 1) := by decide +kernel
theorem dL_reportedChild_8 : decode cL_reportedChild 8 = .ok (.lastore, 1) := by decide +kernel
theorem dL_reportedChild_9 : decode cL_reportedChild 9 = .ok (.goto 6, 3) := by decide +kernel
theorem dL_reportedChild_12 : decode cL_reportedChild 12 = .ok (.astore_n 3, 1) := by decide +kernel
theorem dL_reportedChild_13 : decode cL_reportedChild 13 = .ok (.iconst 1, 1) := by decide +kernel
theorem dL_reportedChild_14 : decode cL_reportedChild 14 = .ok (.ireturn, 1) := by decide +kernel
theorem dL_reportedChild_15 : decode cL_reportedChild 15 = .ok (.iconst 0, 1) := by decide +kernel
theorem dL_reportedChild_16 : decode cL_reportedChild 16 = .ok (.ireturn, 1) := by decide +kernel
set_option maxRecDepth 20000 in
theorem ggL_reportedValue_X2_reportedValue : GoodIn wsL_reportedValue wsX2_reportedValue := goodIn_ca (goodIn_r _ [6, 7, 8, 9, 10, 5, 11, 12, 13, 14, 15, 16, 17, 18, 19, 20, 21, 22, 23, 24, 25, 26, 27, 28, 29, 30, 31, 32, 33, 34, 35, 36, 37, 38, 39, 40, 41, 42] (by decide +kernel) (by decide +kernel)) (goodIn_sub (fun _ h => List.mem_cons_of_mem _ (List.mem_append_right _ h)) (by decide +kernel))
set_option maxRecDepth 20000 in
theorem gL_reportedValue_X2_reportedValue : GoodIn wsL_reportedValue (wsV RL 103 RX2 yX2_reportedValue wsX2_reportedValue) := goodIn_app (goodIn_of _ (by decide +kernel)) ggL_reportedValue_X2_reportedValue
theorem dL_reportedValue_0 : decode cL_reportedValue 0 = .ok (.aload_n 2, 1) := by decide +kernel
theorem dL_reportedValue_1 : decode cL_reportedValue 1 = .ok (.iconst 0, 1) := by decide +kernel
theorem dL_reportedValue_2 : decode cL_reportedValue 2 = .ok (.aload_n 0, 1) := by decide +kernel
theorem dL_reportedValue_3 : decode cL_reportedValue 3 = .ok (.iload_n 1, 1) := by decide +kernel
theorem dL_reportedValue_4 : decode cL_reportedValue 4 = .ok (.invokevirtual 103, 3) := by decide +kernel
theorem dL_reportedValue_7 : decode cL_reportedValue 7 = .ok (.i2l, 1) := by decide +kernel
theorem dL_reportedValue_8 : decode cL_reportedValue 8 = .ok (.lastore, 1) := by decide +kernel
theorem dL_reportedValue_9 : decode cL_reportedValue 9 = .ok (.goto 6, 3) := by decide +kernel
theorem dL_reportedValue_12 : decode cL_reportedValue 12 = .ok (.astore_n 3, 1) := by decide +kernel
theorem dL_reportedValue_13 : decode cL_reportedValue 13 = .ok (.iconst 1, 1) := by decide +kernel
theorem dL_reportedValue_14 : decode cL_reportedValue 14 = .ok (.ireturn, 1) := by decide +kernel
theorem dL_reportedValue_15 : decode cL_reportedValue 15 = .ok (.iconst 0, 1) := by decide +kernel
theorem dL_reportedValue_16 : decode cL_reportedValue 16 = .ok (.ireturn, 1) := by decide +kernel
set_option maxRecDepth 20000 in
theorem ggL_law_X2_init : GoodIn wsL_law wsX2_init := goodIn_r _ [9, 10, 11, 12, 13, 14, 15, 16, 17, 18, 19, 20, 21, 22, 23, 24, 25, 26, 27, 28, 29, 30, 31, 32, 33, 34, 35, 36, 37, 38, 39, 40, 41, 768, 769, 770, 771, 801, 802, 803, 804, 805, 806, 807, 808, 809, 810, 811, 812, 813, 814, 815, 816, 817, 818, 819, 820, 821, 822, 823, 824, 825, 826] (by decide +kernel) (by decide +kernel)
set_option maxRecDepth 20000 in
theorem gL_law_X2_init : GoodIn wsL_law (wsX2_init) := ggL_law_X2_init
set_option maxRecDepth 20000 in
theorem ggL_law_X3_init : GoodIn wsL_law wsX3_init := goodIn_r _ [44, 45, 11, 12, 46, 47, 26, 48, 49, 50, 51, 52, 53, 54, 55, 56, 57, 58, 59, 60, 61, 62, 63, 64, 65, 66, 67, 68, 69, 70, 71, 72, 772, 773, 774, 775, 776, 777, 778, 779, 780, 781, 782, 783, 784, 785, 786, 787, 788, 789, 790, 791, 792, 793, 794, 795, 796, 797, 798, 799, 800] (by decide +kernel) (by decide +kernel)
set_option maxRecDepth 20000 in
theorem gL_law_X3_init : GoodIn wsL_law (wsX3_init) := ggL_law_X3_init
set_option maxRecDepth 20000 in
theorem ggL_law_L_fork : GoodIn wsL_law wsL_fork := goodIn_ca (goodIn_ca (goodIn_r _ [76, 77, 78, 79, 80, 81, 2, 82, 83, 84, 13, 21, 22, 14, 85, 86, 87, 88, 89, 90, 91, 92, 93, 94, 95, 96, 97, 98, 99, 100, 101, 102, 103, 104, 105, 106, 107, 108, 109, 110, 111, 29, 30, 31, 32, 11, 12, 33, 34, 35, 36, 37, 38, 39, 40, 41, 112, 113, 114, 115, 116, 117, 118, 119, 807, 808, 809, 810, 811, 812, 813, 814, 815, 816, 817, 818, 819, 820, 821, 822, 823, 824, 825, 826, 768, 769, 770, 771] (by decide +kernel) (by decide +kernel)) (goodIn_sub (fun _ h => List.mem_append_left _ (List.mem_append_left _ (List.mem_append_right _ h))) (by decide +kernel))) (goodIn_sub (fun _ h => List.mem_append_left _ (List.mem_append_right _ h)) (by decide +kernel))
set_option maxRecDepth 20000 in
theorem gL_law_L_fork : GoodIn wsL_law (va_wsS RL 110 yL_fork wsL_fork) := goodIn_app (goodIn_of _ (by decide +kernel)) ggL_law_L_fork
set_option maxRecDepth 20000 in
theorem ggL_law_X3_fork : GoodIn wsL_law wsX3_fork := goodIn_r _ [123, 47, 48, 49, 50, 51, 52, 53, 56, 57, 58, 59, 60, 64, 65, 66, 67, 124, 125, 126, 5, 127, 128, 129, 130, 131, 132, 133, 134, 135, 136, 137, 138, 139, 140, 772, 773, 774, 775, 776, 777, 778, 779, 780, 781, 782, 783, 784, 785, 786, 787, 788, 789, 790, 791, 792, 793, 794, 795, 796, 797, 798, 799, 800] (by decide +kernel) (by decide +kernel)
set_option maxRecDepth 20000 in
theorem gL_law_X3_fork : GoodIn wsL_law (wsV RL 115 RX3 yX3_fork wsX3_fork) := goodIn_app (goodIn_of _ (by decide +kernel)) ggL_law_X3_fork
set_option maxRecDepth 20000 in
theorem ggL_law_X3_thrown : GoodIn wsL_law wsX3_thrown := goodIn_r _ [144, 140, 772, 773, 774, 775, 776, 777, 778, 779, 780, 781, 782, 783, 784, 785, 786, 787, 788, 789, 790, 791, 792, 793, 794, 795, 796, 797, 798, 799, 800] (by decide +kernel) (by decide +kernel)
set_option maxRecDepth 20000 in
theorem gL_law_X3_thrown : GoodIn wsL_law (wsV RL 116 RX3 yX3_thrown wsX3_thrown) := goodIn_app (goodIn_of _ (by decide +kernel)) ggL_law_X3_thrown
set_option maxRecDepth 20000 in
theorem ggL_law_L_exec : GoodIn wsL_law wsL_exec := goodIn_ca (goodIn_ca (goodIn_r _ [147, 77, 78, 148, 149, 150, 2, 151, 85, 86, 87, 88, 89, 90, 91, 92, 93, 94, 14, 152, 153, 154, 83, 84, 99, 105, 106, 107, 22, 108, 109, 110, 111, 155, 156, 157, 158, 118, 159, 160, 161, 162, 163, 164, 165, 166, 768, 769, 770, 771, 807, 808, 809, 810, 811, 812, 813, 814, 815, 816, 817, 818, 819, 820, 821, 822, 823, 824, 825, 826] (by decide +kernel) (by decide +kernel)) (goodIn_sub (fun _ h => List.mem_append_left _ (List.mem_append_right _ h)) (by decide +kernel))) (goodIn_sub (fun _ h => List.mem_append_left _ (List.mem_append_left _ (List.mem_append_right _ h))) (by decide +kernel))
set_option maxRecDepth 20000 in
theorem gL_law_L_exec : GoodIn wsL_law (va_wsS RL 119 yL_exec wsL_exec) := goodIn_app (goodIn_of _ (by decide +kernel)) ggL_law_L_exec
set_option maxRecDepth 20000 in
theorem ggL_law_X3_exec : GoodIn wsL_law wsX3_exec := goodIn_r _ [170, 56, 58, 128, 129, 130, 5, 131, 47, 171, 172, 173, 174, 132, 133, 134, 135, 51, 52, 53, 136, 137, 138, 139, 140, 772, 773, 774, 775, 776, 777, 778, 779, 780, 781, 782, 783, 784, 785, 786, 787, 788, 789, 790, 791, 792, 793, 794, 795, 796, 797, 798, 799, 800] (by decide +kernel) (by decide +kernel)
set_option maxRecDepth 20000 in
theorem gL_law_X3_exec : GoodIn wsL_law (wsV RL 121 RX3 yX3_exec wsX3_exec) := goodIn_app (goodIn_of _ (by decide +kernel)) ggL_law_X3_exec
set_option maxRecDepth 20000 in
theorem ggL_law_L_exit : GoodIn wsL_law wsL_exit := goodIn_ca (goodIn_ca (goodIn_ca (goodIn_r _ [177, 77, 178, 78, 179, 180, 181, 2, 182, 85, 86, 87, 88, 89, 90, 91, 92, 93, 94, 14, 183, 184, 185, 186, 187, 152, 153, 154, 83, 84, 99, 105, 106, 107, 22, 108, 109, 110, 111, 188, 189, 190, 191, 192, 101, 19, 20, 18, 193, 194, 195, 196, 100, 197, 198, 199, 200, 116, 41, 40, 201, 202, 203, 204, 159, 34, 35, 205, 206, 207, 208, 209, 210, 211, 212, 213, 214, 215, 216, 217, 218, 219, 39, 220, 221, 222, 223, 224, 225, 226, 227, 228, 229, 230, 231, 232, 233, 234, 17, 235, 236, 27, 237, 28, 238, 239, 240, 241, 242, 243, 244, 245, 246, 247, 26, 248, 249, 250, 251, 252, 253, 254, 255, 102, 103, 104, 256, 257, 258, 259, 260, 261, 262, 263, 264, 265, 266, 267, 268, 269, 270, 271, 272, 273, 274, 275, 276, 277, 278, 279, 280, 281, 282, 118, 117, 283, 284, 285, 286, 287, 288, 289, 290, 291, 292, 293, 294, 295, 296, 297, 298, 33, 299, 300, 301, 302, 303, 304, 305, 306, 307, 308, 309, 310, 311, 312, 313, 36, 37, 38, 314, 315, 316, 317, 318, 319, 320, 321, 322, 323, 324, 325, 326, 327, 328, 329, 330, 331, 332, 333, 334, 335, 336, 337, 338, 339, 340, 341, 342, 343, 344, 345, 346, 347, 348, 349, 350, 351, 352, 353, 354, 768, 769, 770, 771, 807, 808, 809, 810, 811, 812, 813, 814, 815, 816, 817, 818, 819, 820, 821, 822, 823, 824, 825, 826, 801, 802, 803, 804, 805, 806] (by decide +kernel) (by decide +kernel)) (goodIn_sub (fun _ h => List.mem_append_left _ (List.mem_append_right _ h)) (by decide +kernel))) (goodIn_sub (fun _ h => List.mem_append_right _ h) (by decide +kernel))) (goodIn_sub (fun _ h => List.mem_append_left _ (List.mem_append_left _ (List.mem_append_right _ h))) (by decide +kernel))
set_option maxRecDepth 20000 in
theorem gL_law_L_exit : GoodIn wsL_law (va_wsS RL 122 yL_exit wsL_exit) := goodIn_app (goodIn_of _ (by decide +kernel)) ggL_law_L_exit
set_option maxRecDepth 20000 in
theorem ggL_law_X3_exit : GoodIn wsL_law wsX3_exit := goodIn_r _ [358, 128, 129, 130, 5, 131, 47, 171, 172, 173, 174, 132, 133, 134, 135, 51, 52, 53, 136, 137, 138, 139, 140, 359, 360, 361, 362, 71, 61, 62, 58, 72, 48, 50, 68, 69, 363, 364, 365, 366, 49, 367, 368, 369, 370, 371, 372, 373, 374, 60, 375, 376, 377, 378, 379, 380, 381, 382, 70, 383, 384, 385, 386, 387, 388, 389, 390, 391, 392, 393, 394, 395, 396, 64, 56, 397, 398, 399, 400, 63, 401, 402, 403, 404, 57, 405, 406, 407, 408, 59, 409, 410, 411, 412, 65, 66, 67, 413, 414, 415, 416, 54, 55, 417, 418, 419, 420, 421, 422, 423, 424, 772, 773, 774, 775, 776, 777, 778, 779, 780, 781, 782, 783, 784, 785, 786, 787, 788, 789, 790, 791, 792, 793, 794, 795, 796, 797, 798, 799, 800] (by decide +kernel) (by decide +kernel)
set_option maxRecDepth 20000 in
theorem gL_law_X3_exit : GoodIn wsL_law (wsV RL 125 RX3 yX3_exit wsX3_exit) := goodIn_app (goodIn_of _ (by decide +kernel)) ggL_law_X3_exit
set_option maxRecDepth 20000 in
theorem ggL_law_L_waitAny : GoodIn wsL_law wsL_waitAny := goodIn_ca (goodIn_ca (goodIn_r _ [427, 77, 78, 428, 429, 430, 2, 431, 85, 86, 87, 88, 89, 90, 91, 92, 93, 94, 14, 152, 153, 154, 83, 84, 99, 105, 106, 107, 22, 108, 109, 110, 111, 432, 433, 434, 435, 436, 437, 438, 291, 292, 293, 294, 295, 296, 297, 298, 116, 33, 39, 299, 300, 301, 302, 34, 303, 304, 305, 306, 307, 308, 309, 210, 310, 311, 312, 313, 36, 37, 38, 283, 284, 285, 286, 768, 769, 770, 771, 807, 808, 809, 810, 811, 812, 813, 814, 815, 816, 817, 818, 819, 820, 821, 822, 823, 824, 825, 826] (by decide +kernel) (by decide +kernel)) (goodIn_sub (fun _ h => List.mem_append_left _ (List.mem_append_right _ h)) (by decide +kernel))) (goodIn_sub (fun _ h => List.mem_append_left _ (List.mem_append_left _ (List.mem_append_right _ h))) (by decide +kernel))
set_option maxRecDepth 20000 in
theorem gL_law_L_waitAny : GoodIn wsL_law (va_wsS RL 126 yL_waitAny wsL_waitAny) := goodIn_app (goodIn_of _ (by decide +kernel)) ggL_law_L_waitAny
set_option maxRecDepth 20000 in
theorem ggL_law_X3_waitAny : GoodIn wsL_law wsX3_waitAny := goodIn_r _ [442, 128, 129, 130, 5, 131, 47, 171, 172, 173, 174, 132, 133, 134, 135, 51, 52, 53, 136, 137, 138, 139, 140, 443, 444, 445, 446, 54, 55, 413, 414, 415, 416, 48, 64, 61, 62, 63, 409, 410, 411, 412, 65, 66, 67, 772, 773, 774, 775, 776, 777, 778, 779, 780, 781, 782, 783, 784, 785, 786, 787, 788, 789, 790, 791, 792, 793, 794, 795, 796, 797, 798, 799, 800] (by decide +kernel) (by decide +kernel)
set_option maxRecDepth 20000 in
theorem gL_law_X3_waitAny : GoodIn wsL_law (wsV RL 129 RX3 yX3_waitAny wsX3_waitAny) := goodIn_app (goodIn_of _ (by decide +kernel)) ggL_law_X3_waitAny
set_option maxRecDepth 20000 in
theorem ggL_law_L_waitFor : GoodIn wsL_law wsL_waitFor := goodIn_ca (goodIn_ca (goodIn_ca (goodIn_r _ [449, 77, 178, 78, 450, 451, 452, 2, 453, 85, 86, 87, 88, 89, 90, 91, 92, 93, 94, 14, 454, 455, 456, 183, 184, 185, 186, 187, 152, 153, 154, 83, 84, 99, 105, 106, 107, 22, 108, 109, 110, 111, 432, 433, 434, 435, 436, 437, 438, 291, 292, 293, 294, 295, 296, 297, 298, 116, 33, 39, 299, 300, 301, 302, 34, 303, 304, 305, 306, 307, 308, 309, 210, 310, 311, 312, 313, 36, 37, 38, 283, 284, 285, 286, 768, 769, 770, 771, 807, 808, 809, 810, 811, 812, 813, 814, 815, 816, 817, 818, 819, 820, 821, 822, 823, 824, 825, 826] (by decide +kernel) (by decide +kernel)) (goodIn_sub (fun _ h => List.mem_append_left _ (List.mem_append_right _ h)) (by decide +kernel))) (goodIn_sub (fun _ h => List.mem_append_right _ h) (by decide +kernel))) (goodIn_sub (fun _ h => List.mem_append_left _ (List.mem_append_left _ (List.mem_append_right _ h))) (by decide +kernel))
set_option maxRecDepth 20000 in
theorem gL_law_L_waitFor : GoodIn wsL_law (va_wsS RL 130 yL_waitFor wsL_waitFor) := goodIn_app (goodIn_of _ (by decide +kernel)) ggL_law_L_waitFor
set_option maxRecDepth 20000 in
theorem ggL_law_X3_waitFor : GoodIn wsL_law wsX3_waitFor := goodIn_r _ [460, 128, 129, 130, 5, 131, 47, 171, 172, 173, 174, 132, 133, 134, 135, 51, 52, 53, 136, 137, 138, 139, 140, 443, 444, 445, 446, 54, 55, 413, 414, 415, 416, 48, 64, 61, 62, 63, 409, 410, 411, 412, 65, 66, 67, 772, 773, 774, 775, 776, 777, 778, 779, 780, 781, 782, 783, 784, 785, 786, 787, 788, 789, 790, 791, 792, 793, 794, 795, 796, 797, 798, 799, 800] (by decide +kernel) (by decide +kernel)
set_option maxRecDepth 20000 in
theorem gL_law_X3_waitFor : GoodIn wsL_law (wsV RL 133 RX3 yX3_waitFor wsX3_waitFor) := goodIn_app (goodIn_of _ (by decide +kernel)) ggL_law_X3_waitFor
set_option maxRecDepth 20000 in
theorem ggL_law_L_setAction : GoodIn wsL_law wsL_setAction := goodIn_ca (goodIn_ca (goodIn_ca (goodIn_r _ [463, 77, 178, 78, 464, 465, 466, 2, 467, 186, 187, 85, 86, 87, 88, 89, 90, 91, 92, 93, 94, 14, 183, 184, 185, 152, 153, 154, 83, 84, 99, 105, 106, 107, 22, 108, 109, 110, 111, 279, 280, 281, 282, 118, 117, 468, 469, 470, 471, 472, 336, 337, 338, 339, 473, 324, 325, 326, 159, 768, 769, 770, 771, 807, 808, 809, 810, 811, 812, 813, 814, 815, 816, 817, 818, 819, 820, 821, 822, 823, 824, 825, 826] (by decide +kernel) (by decide +kernel)) (goodIn_sub (fun _ h => List.mem_append_right _ h) (by decide +kernel))) (goodIn_sub (fun _ h => List.mem_append_left _ (List.mem_append_right _ h)) (by decide +kernel))) (goodIn_sub (fun _ h => List.mem_append_left _ (List.mem_append_left _ (List.mem_append_right _ h))) (by decide +kernel))
set_option maxRecDepth 20000 in
theorem gL_law_L_setAction : GoodIn wsL_law (va_wsS RL 134 yL_setAction wsL_setAction) := goodIn_app (goodIn_of _ (by decide +kernel)) ggL_law_L_setAction
set_option maxRecDepth 20000 in
theorem ggL_law_X3_setAction : GoodIn wsL_law wsX3_setAction := goodIn_r _ [477, 56, 58, 128, 129, 130, 5, 131, 47, 171, 172, 173, 174, 132, 133, 134, 135, 51, 52, 53, 136, 137, 138, 139, 140, 772, 773, 774, 775, 776, 777, 778, 779, 780, 781, 782, 783, 784, 785, 786, 787, 788, 789, 790, 791, 792, 793, 794, 795, 796, 797, 798, 799, 800] (by decide +kernel) (by decide +kernel)
set_option maxRecDepth 20000 in
theorem gL_law_X3_setAction : GoodIn wsL_law (wsV RL 137 RX3 yX3_setAction wsX3_setAction) := goodIn_app (goodIn_of _ (by decide +kernel)) ggL_law_X3_setAction
set_option maxRecDepth 20000 in
theorem ggL_law_L_setMask : GoodIn wsL_law wsL_setMask := goodIn_ca (goodIn_ca (goodIn_ca (goodIn_r _ [480, 77, 178, 78, 481, 482, 483, 2, 484, 344, 85, 86, 87, 88, 89, 90, 91, 92, 93, 94, 14, 183, 184, 185, 186, 187, 152, 153, 154, 83, 84, 99, 105, 106, 107, 22, 108, 109, 110, 111, 340, 341, 342, 343, 210, 260, 322, 100, 323, 324, 325, 326, 159, 279, 280, 281, 282, 118, 117, 345, 346, 347, 348, 349, 350, 311, 312, 313, 36, 37, 38, 188, 189, 190, 191, 192, 101, 19, 20, 18, 193, 194, 195, 196, 197, 198, 199, 200, 116, 41, 40, 201, 202, 203, 204, 34, 35, 205, 206, 207, 208, 209, 211, 212, 213, 214, 215, 216, 217, 218, 219, 39, 220, 221, 222, 223, 224, 225, 226, 227, 228, 229, 230, 231, 232, 233, 234, 17, 235, 236, 27, 237, 28, 238, 239, 240, 241, 242, 243, 244, 245, 246, 247, 26, 248, 249, 250, 251, 252, 253, 254, 255, 102, 103, 104, 256, 257, 258, 259, 331, 332, 333, 334, 308, 309, 291, 292, 293, 294, 295, 296, 297, 298, 33, 299, 300, 301, 302, 303, 304, 305, 306, 307, 310, 283, 284, 285, 286, 261, 262, 263, 264, 265, 266, 267, 268, 269, 270, 271, 272, 273, 274, 275, 276, 277, 278, 287, 288, 289, 290, 314, 315, 316, 317, 318, 319, 320, 321, 327, 328, 329, 330, 335, 336, 337, 338, 339, 351, 352, 353, 354, 807, 808, 809, 810, 811, 812, 813, 814, 815, 816, 817, 818, 819, 820, 821, 822, 823, 824, 825, 826, 768, 769, 770, 771, 801, 802, 803, 804, 805, 806] (by decide +kernel) (by decide +kernel)) (goodIn_sub (fun _ h => List.mem_append_left _ (List.mem_append_right _ h)) (by decide +kernel))) (goodIn_sub (fun _ h => List.mem_append_right _ h) (by decide +kernel))) (goodIn_sub (fun _ h => List.mem_append_left _ (List.mem_append_left _ (List.mem_append_right _ h))) (by decide +kernel))
set_option maxRecDepth 20000 in
theorem gL_law_L_setMask : GoodIn wsL_law (va_wsS RL 138 yL_setMask wsL_setMask) := goodIn_app (goodIn_of _ (by decide +kernel)) ggL_law_L_setMask
set_option maxRecDepth 20000 in
theorem ggL_law_X3_setMask : GoodIn wsL_law wsX3_setMask := goodIn_r _ [488, 57, 128, 129, 130, 5, 131, 47, 171, 172, 173, 174, 132, 133, 134, 135, 51, 52, 53, 136, 137, 138, 139, 140, 401, 402, 403, 404, 58, 405, 406, 407, 408, 56, 59, 49, 409, 410, 411, 412, 65, 66, 67, 363, 364, 365, 366, 48, 50, 367, 368, 369, 370, 397, 398, 399, 400, 63, 64, 379, 380, 381, 382, 70, 383, 359, 360, 361, 362, 71, 61, 62, 72, 68, 69, 371, 372, 373, 374, 60, 375, 376, 377, 378, 384, 385, 386, 387, 413, 414, 415, 416, 54, 55, 388, 389, 390, 391, 392, 393, 394, 395, 396, 417, 418, 419, 420, 421, 422, 423, 424, 772, 773, 774, 775, 776, 777, 778, 779, 780, 781, 782, 783, 784, 785, 786, 787, 788, 789, 790, 791, 792, 793, 794, 795, 796, 797, 798, 799, 800] (by decide +kernel) (by decide +kernel)
set_option maxRecDepth 20000 in
theorem gL_law_X3_setMask : GoodIn wsL_law (wsV RL 141 RX3 yX3_setMask wsX3_setMask) := goodIn_app (goodIn_of _ (by decide +kernel)) ggL_law_X3_setMask
set_option maxRecDepth 20000 in
theorem ggL_law_L_beginSession : GoodIn wsL_law wsL_beginSession := goodIn_ca (goodIn_ca (goodIn_r _ [491, 77, 78, 492, 493, 494, 2, 495, 83, 84, 100, 101, 85, 86, 87, 88, 89, 90, 91, 92, 93, 94, 14, 152, 153, 154, 99, 105, 106, 107, 22, 108, 109, 110, 111, 496, 497, 498, 499, 807, 808, 809, 810, 811, 812, 813, 814, 815, 816, 817, 818, 819, 820, 821, 822, 823, 824, 825, 826, 768, 769, 770, 771] (by decide +kernel) (by decide +kernel)) (goodIn_sub (fun _ h => List.mem_append_left _ (List.mem_append_left _ (List.mem_append_right _ h))) (by decide +kernel))) (goodIn_sub (fun _ h => List.mem_append_left _ (List.mem_append_right _ h)) (by decide +kernel))
set_option maxRecDepth 20000 in
theorem gL_law_L_beginSession : GoodIn wsL_law (va_wsS RL 142 yL_beginSession wsL_beginSession) := goodIn_app (goodIn_of _ (by decide +kernel)) ggL_law_L_beginSession
set_option maxRecDepth 20000 in
theorem ggL_law_X3_beginSession : GoodIn wsL_law wsX3_beginSession := goodIn_r _ [503, 47, 49, 50, 128, 129, 130, 5, 131, 171, 172, 173, 174, 132, 133, 134, 135, 51, 52, 53, 136, 137, 138, 139, 140, 772, 773, 774, 775, 776, 777, 778, 779, 780, 781, 782, 783, 784, 785, 786, 787, 788, 789, 790, 791, 792, 793, 794, 795, 796, 797, 798, 799, 800] (by decide +kernel) (by decide +kernel)
set_option maxRecDepth 20000 in
theorem gL_law_X3_beginSession : GoodIn wsL_law (wsV RL 145 RX3 yX3_beginSession wsX3_beginSession) := goodIn_app (goodIn_of _ (by decide +kernel)) ggL_law_X3_beginSession
set_option maxRecDepth 20000 in
theorem ggL_law_L_setGroup : GoodIn wsL_law wsL_setGroup := goodIn_ca (goodIn_ca (goodIn_ca (goodIn_r _ [506, 77, 178, 78, 507, 508, 509, 2, 510, 83, 84, 101, 100, 85, 86, 87, 88, 89, 90, 91, 92, 93, 94, 14, 454, 455, 456, 183, 184, 185, 186, 187, 152, 153, 154, 99, 105, 106, 107, 22, 108, 109, 110, 111, 511, 512, 513, 209, 210, 216, 217, 218, 219, 39, 41, 514, 515, 516, 517, 228, 229, 230, 231, 40, 807, 808, 809, 810, 811, 812, 813, 814, 815, 816, 817, 818, 819, 820, 821, 822, 823, 824, 825, 826, 768, 769, 770, 771] (by decide +kernel) (by decide +kernel)) (goodIn_sub (fun _ h => List.mem_append_left _ (List.mem_append_left _ (List.mem_append_right _ h))) (by decide +kernel))) (goodIn_sub (fun _ h => List.mem_append_left _ (List.mem_append_right _ h)) (by decide +kernel))) (goodIn_sub (fun _ h => List.mem_append_right _ h) (by decide +kernel))
set_option maxRecDepth 20000 in
theorem gL_law_L_setGroup : GoodIn wsL_law (va_wsS RL 146 yL_setGroup wsL_setGroup) := goodIn_app (goodIn_of _ (by decide +kernel)) ggL_law_L_setGroup
set_option maxRecDepth 20000 in
theorem ggL_law_X3_setGroup : GoodIn wsL_law wsX3_setGroup := goodIn_r _ [521, 49, 128, 129, 130, 5, 131, 47, 171, 172, 173, 174, 132, 133, 134, 135, 51, 52, 53, 522, 523, 524, 525, 48, 50, 526, 527, 528, 529, 367, 368, 369, 370, 136, 137, 138, 139, 140, 772, 773, 774, 775, 776, 777, 778, 779, 780, 781, 782, 783, 784, 785, 786, 787, 788, 789, 790, 791, 792, 793, 794, 795, 796, 797, 798, 799, 800] (by decide +kernel) (by decide +kernel)
set_option maxRecDepth 20000 in
theorem gL_law_X3_setGroup : GoodIn wsL_law (wsV RL 148 RX3 yX3_setGroup wsX3_setGroup) := goodIn_app (goodIn_of _ (by decide +kernel)) ggL_law_X3_setGroup
set_option maxRecDepth 20000 in
theorem ggL_law_L_setReaper : GoodIn wsL_law wsL_setReaper := goodIn_ca (goodIn_ca (goodIn_r _ [532, 77, 78, 533, 534, 535, 2, 536, 215, 85, 86, 87, 88, 89, 90, 91, 92, 93, 94, 14, 152, 153, 154, 83, 84, 99, 105, 106, 107, 22, 108, 109, 110, 111, 807, 808, 809, 810, 811, 812, 813, 814, 815, 816, 817, 818, 819, 820, 821, 822, 823, 824, 825, 826, 768, 769, 770, 771] (by decide +kernel) (by decide +kernel)) (goodIn_sub (fun _ h => List.mem_append_left _ (List.mem_append_right _ h)) (by decide +kernel))) (goodIn_sub (fun _ h => List.mem_append_left _ (List.mem_append_left _ (List.mem_append_right _ h))) (by decide +kernel))
set_option maxRecDepth 20000 in
theorem gL_law_L_setReaper : GoodIn wsL_law (va_wsS RL 149 yL_setReaper wsL_setReaper) := goodIn_app (goodIn_of _ (by decide +kernel)) ggL_law_L_setReaper
set_option maxRecDepth 20000 in
theorem ggL_law_X3_setReaper : GoodIn wsL_law wsX3_setReaper := goodIn_r _ [540, 60, 128, 129, 130, 5, 131, 47, 171, 172, 173, 174, 132, 133, 134, 135, 51, 52, 53, 136, 137, 138, 139, 140, 772, 773, 774, 775, 776, 777, 778, 779, 780, 781, 782, 783, 784, 785, 786, 787, 788, 789, 790, 791, 792, 793, 794, 795, 796, 797, 798, 799, 800] (by decide +kernel) (by decide +kernel)
set_option maxRecDepth 20000 in
theorem gL_law_X3_setReaper : GoodIn wsL_law (wsV RL 151 RX3 yX3_setReaper wsX3_setReaper) := goodIn_app (goodIn_of _ (by decide +kernel)) ggL_law_X3_setReaper
set_option maxRecDepth 20000 in
theorem ggL_law_L_openTerminal : GoodIn wsL_law wsL_openTerminal := goodIn_ca (goodIn_ca (goodIn_r _ [543, 77, 78, 544, 545, 546, 2, 547, 83, 84, 19, 101, 100, 20, 85, 86, 87, 88, 89, 90, 91, 92, 93, 94, 14, 152, 153, 154, 99, 105, 106, 107, 22, 108, 109, 110, 111, 216, 217, 218, 219, 39, 41, 768, 769, 770, 771, 807, 808, 809, 810, 811, 812, 813, 814, 815, 816, 817, 818, 819, 820, 821, 822, 823, 824, 825, 826] (by decide +kernel) (by decide +kernel)) (goodIn_sub (fun _ h => List.mem_append_left _ (List.mem_append_left _ (List.mem_append_right _ h))) (by decide +kernel))) (goodIn_sub (fun _ h => List.mem_append_left _ (List.mem_append_right _ h)) (by decide +kernel))
set_option maxRecDepth 20000 in
theorem gL_law_L_openTerminal : GoodIn wsL_law (va_wsS RL 152 yL_openTerminal wsL_openTerminal) := goodIn_app (goodIn_of _ (by decide +kernel)) ggL_law_L_openTerminal
set_option maxRecDepth 20000 in
theorem ggL_law_X3_openTerminal : GoodIn wsL_law wsX3_openTerminal := goodIn_r _ [551, 50, 68, 49, 69, 128, 129, 130, 5, 131, 47, 171, 172, 173, 174, 132, 133, 134, 135, 51, 52, 53, 136, 137, 138, 139, 140, 772, 773, 774, 775, 776, 777, 778, 779, 780, 781, 782, 783, 784, 785, 786, 787, 788, 789, 790, 791, 792, 793, 794, 795, 796, 797, 798, 799, 800] (by decide +kernel) (by decide +kernel)
set_option maxRecDepth 20000 in
theorem gL_law_X3_openTerminal : GoodIn wsL_law (wsV RL 154 RX3 yX3_openTerminal wsX3_openTerminal) := goodIn_app (goodIn_of _ (by decide +kernel)) ggL_law_X3_openTerminal
set_option maxRecDepth 20000 in
theorem ggL_law_L_setForeground : GoodIn wsL_law wsL_setForeground := goodIn_ca (goodIn_ca (goodIn_ca (goodIn_r _ [554, 77, 178, 78, 555, 556, 557, 2, 558, 83, 84, 101, 19, 20, 85, 86, 87, 88, 89, 90, 91, 92, 93, 94, 14, 454, 455, 456, 183, 184, 185, 186, 187, 152, 153, 154, 99, 105, 106, 107, 22, 108, 109, 110, 111, 514, 515, 516, 517, 228, 229, 230, 231, 40, 807, 808, 809, 810, 811, 812, 813, 814, 815, 816, 817, 818, 819, 820, 821, 822, 823, 824, 825, 826, 768, 769, 770, 771] (by decide +kernel) (by decide +kernel)) (goodIn_sub (fun _ h => List.mem_append_left _ (List.mem_append_left _ (List.mem_append_right _ h))) (by decide +kernel))) (goodIn_sub (fun _ h => List.mem_append_left _ (List.mem_append_right _ h)) (by decide +kernel))) (goodIn_sub (fun _ h => List.mem_append_right _ h) (by decide +kernel))
set_option maxRecDepth 20000 in
theorem gL_law_L_setForeground : GoodIn wsL_law (va_wsS RL 155 yL_setForeground wsL_setForeground) := goodIn_app (goodIn_of _ (by decide +kernel)) ggL_law_L_setForeground
set_option maxRecDepth 20000 in
theorem ggL_law_X3_setForeground : GoodIn wsL_law wsX3_setForeground := goodIn_r _ [562, 50, 68, 69, 128, 129, 130, 5, 131, 47, 171, 172, 173, 174, 132, 133, 134, 135, 51, 52, 53, 526, 527, 528, 529, 367, 368, 369, 370, 49, 136, 137, 138, 139, 140, 772, 773, 774, 775, 776, 777, 778, 779, 780, 781, 782, 783, 784, 785, 786, 787, 788, 789, 790, 791, 792, 793, 794, 795, 796, 797, 798, 799, 800] (by decide +kernel) (by decide +kernel)
set_option maxRecDepth 20000 in
theorem gL_law_X3_setForeground : GoodIn wsL_law (wsV RL 157 RX3 yX3_setForeground wsX3_setForeground) := goodIn_app (goodIn_of _ (by decide +kernel)) ggL_law_X3_setForeground
set_option maxRecDepth 20000 in
theorem ggL_law_L_send : GoodIn wsL_law wsL_send := goodIn_ca (goodIn_ca (goodIn_r _ [565, 77, 178, 566, 567, 568, 2, 569, 18, 85, 86, 87, 88, 89, 90, 91, 92, 93, 94, 14, 183, 184, 185, 186, 187, 232, 233, 234, 17, 235, 236, 27, 237, 28, 238, 239, 240, 241, 242, 243, 244, 245, 246, 247, 26, 248, 249, 250, 251, 252, 253, 254, 255, 261, 262, 263, 264, 265, 266, 267, 99, 210, 268, 269, 270, 271, 272, 273, 274, 275, 276, 277, 278, 209, 279, 280, 281, 22, 282, 118, 117, 283, 284, 285, 286, 287, 288, 289, 290, 291, 292, 293, 294, 105, 106, 107, 108, 109, 110, 111, 295, 296, 297, 298, 116, 33, 39, 299, 300, 301, 302, 34, 303, 304, 305, 306, 307, 308, 309, 310, 311, 312, 313, 36, 37, 38, 314, 315, 316, 317, 260, 318, 319, 320, 321, 322, 323, 324, 325, 326, 159, 327, 328, 329, 330, 188, 189, 190, 191, 192, 101, 19, 20, 193, 194, 195, 196, 100, 197, 198, 199, 200, 41, 40, 201, 202, 203, 204, 35, 205, 206, 207, 208, 211, 212, 213, 214, 215, 216, 217, 218, 219, 220, 221, 222, 223, 224, 225, 226, 227, 228, 229, 230, 231, 102, 103, 104, 256, 257, 258, 259, 331, 332, 333, 334, 335, 336, 337, 338, 339, 340, 341, 342, 343, 344, 345, 346, 347, 348, 349, 350, 351, 352, 353, 354, 768, 769, 770, 771, 801, 802, 803, 804, 805, 806, 807, 808, 809, 810, 811, 812, 813, 814, 815, 816, 817, 818, 819, 820, 821, 822, 823, 824, 825, 826] (by decide +kernel) (by decide +kernel)) (goodIn_sub (fun _ h => List.mem_append_left _ (List.mem_append_right _ h)) (by decide +kernel))) (goodIn_sub (fun _ h => List.mem_append_right _ h) (by decide +kernel))
set_option maxRecDepth 20000 in
theorem gL_law_L_send : GoodIn wsL_law (va_wsS RL 158 yL_send wsL_send) := goodIn_app (goodIn_of _ (by decide +kernel)) ggL_law_L_send
set_option maxRecDepth 20000 in
theorem ggL_law_X3_send : GoodIn wsL_law wsX3_send := goodIn_r _ [573, 128, 129, 130, 5, 131, 47, 136, 137, 138, 139, 140, 379, 380, 381, 382, 70, 383, 388, 389, 390, 391, 392, 393, 394, 395, 396, 51, 58, 64, 52, 56, 359, 360, 361, 362, 71, 61, 62, 53, 72, 48, 50, 68, 69, 363, 364, 365, 366, 49, 367, 368, 369, 370, 371, 372, 373, 374, 60, 375, 376, 377, 378, 384, 385, 386, 387, 397, 398, 399, 400, 63, 401, 402, 403, 404, 57, 405, 406, 407, 408, 59, 409, 410, 411, 412, 65, 66, 67, 413, 414, 415, 416, 54, 55, 417, 418, 419, 420, 421, 422, 423, 424, 772, 773, 774, 775, 776, 777, 778, 779, 780, 781, 782, 783, 784, 785, 786, 787, 788, 789, 790, 791, 792, 793, 794, 795, 796, 797, 798, 799, 800] (by decide +kernel) (by decide +kernel)
set_option maxRecDepth 20000 in
theorem gL_law_X3_send : GoodIn wsL_law (wsV RL 160 RX3 yX3_send wsX3_send) := goodIn_app (goodIn_of _ (by decide +kernel)) ggL_law_X3_send
set_option maxRecDepth 20000 in
theorem ggL_law_L_sendToGroup : GoodIn wsL_law wsL_sendToGroup := goodIn_ca (goodIn_r _ [576, 178, 577, 578, 579, 2, 580, 454, 455, 456, 183, 184, 185, 186, 187, 224, 225, 226, 227, 14, 18, 99, 228, 229, 230, 22, 231, 40, 109, 232, 233, 234, 17, 235, 236, 27, 237, 28, 238, 239, 240, 241, 242, 243, 244, 245, 246, 247, 26, 248, 249, 250, 251, 252, 253, 254, 255, 261, 262, 263, 264, 265, 266, 267, 210, 268, 269, 270, 271, 272, 273, 274, 91, 92, 93, 94, 275, 276, 277, 278, 209, 279, 280, 281, 282, 118, 117, 283, 284, 285, 286, 287, 288, 289, 290, 291, 292, 293, 294, 105, 106, 107, 108, 110, 111, 295, 296, 297, 298, 116, 33, 39, 299, 300, 301, 302, 34, 303, 304, 305, 306, 307, 308, 309, 310, 311, 312, 313, 36, 37, 38, 314, 315, 316, 317, 260, 318, 319, 320, 321, 322, 323, 324, 325, 326, 159, 327, 328, 329, 330, 188, 189, 190, 191, 192, 101, 19, 20, 193, 194, 195, 196, 100, 197, 198, 199, 200, 41, 201, 202, 203, 204, 35, 205, 206, 207, 208, 211, 212, 213, 214, 215, 216, 217, 218, 219, 220, 221, 222, 223, 102, 103, 104, 256, 257, 258, 259, 331, 332, 333, 334, 335, 336, 337, 338, 339, 340, 341, 342, 343, 344, 345, 346, 347, 348, 349, 350, 351, 352, 353, 354, 768, 769, 770, 771, 807, 808, 809, 810, 811, 812, 813, 814, 815, 816, 817, 818, 819, 820, 821, 822, 823, 824, 825, 826, 801, 802, 803, 804, 805, 806] (by decide +kernel) (by decide +kernel)) (goodIn_sub (fun _ h => List.mem_append_right _ h) (by decide +kernel))
set_option maxRecDepth 20000 in
theorem gL_law_L_sendToGroup : GoodIn wsL_law (va_wsS RL 161 yL_sendToGroup wsL_sendToGroup) := goodIn_app (goodIn_of _ (by decide +kernel)) ggL_law_L_sendToGroup
set_option maxRecDepth 20000 in
theorem ggL_law_X3_sendToGroup : GoodIn wsL_law wsX3_sendToGroup := goodIn_r _ [584, 136, 137, 138, 5, 139, 140, 375, 376, 377, 378, 367, 368, 369, 370, 47, 51, 49, 379, 380, 381, 382, 70, 383, 388, 389, 390, 391, 392, 393, 394, 395, 396, 58, 64, 52, 56, 359, 360, 361, 362, 71, 61, 62, 53, 72, 48, 50, 68, 69, 363, 364, 365, 366, 371, 372, 373, 374, 60, 384, 385, 386, 387, 397, 398, 399, 400, 63, 401, 402, 403, 404, 57, 405, 406, 407, 408, 59, 409, 410, 411, 412, 65, 66, 67, 413, 414, 415, 416, 54, 55, 417, 418, 419, 420, 421, 422, 423, 424, 772, 773, 774, 775, 776, 777, 778, 779, 780, 781, 782, 783, 784, 785, 786, 787, 788, 789, 790, 791, 792, 793, 794, 795, 796, 797, 798, 799, 800] (by decide +kernel) (by decide +kernel)
set_option maxRecDepth 20000 in
theorem gL_law_X3_sendToGroup : GoodIn wsL_law (wsV RL 163 RX3 yX3_sendToGroup wsX3_sendToGroup) := goodIn_app (goodIn_of _ (by decide +kernel)) ggL_law_X3_sendToGroup
set_option maxRecDepth 20000 in
theorem ggL_law_L_type : GoodIn wsL_law wsL_type := goodIn_ca (goodIn_r _ [587, 78, 588, 589, 590, 2, 591, 20, 592, 593, 594, 595, 83, 84, 19, 224, 225, 226, 227, 14, 18, 99, 228, 229, 230, 22, 231, 40, 109, 232, 233, 234, 17, 235, 236, 27, 237, 28, 238, 239, 240, 241, 242, 243, 244, 245, 246, 247, 26, 248, 249, 250, 251, 252, 253, 254, 255, 261, 262, 263, 264, 265, 266, 267, 210, 268, 269, 270, 271, 272, 273, 274, 91, 92, 93, 94, 275, 276, 277, 278, 209, 279, 280, 281, 282, 118, 117, 283, 284, 285, 286, 287, 288, 289, 290, 291, 292, 293, 294, 105, 106, 107, 108, 110, 111, 295, 296, 297, 298, 116, 33, 39, 299, 300, 301, 302, 34, 303, 304, 305, 306, 307, 308, 309, 310, 311, 312, 313, 36, 37, 38, 314, 315, 316, 317, 260, 318, 319, 320, 321, 322, 323, 324, 325, 326, 159, 327, 328, 329, 330, 188, 189, 190, 191, 192, 101, 193, 194, 195, 196, 100, 197, 198, 199, 200, 41, 201, 202, 203, 204, 35, 205, 206, 207, 208, 211, 212, 213, 214, 215, 216, 217, 218, 219, 220, 221, 222, 223, 102, 103, 104, 256, 257, 258, 259, 331, 332, 333, 334, 335, 336, 337, 338, 339, 340, 341, 342, 343, 344, 345, 346, 347, 348, 349, 350, 351, 352, 353, 354, 768, 769, 770, 771, 807, 808, 809, 810, 811, 812, 813, 814, 815, 816, 817, 818, 819, 820, 821, 822, 823, 824, 825, 826, 801, 802, 803, 804, 805, 806] (by decide +kernel) (by decide +kernel)) (goodIn_sub (fun _ h => List.mem_append_left _ (List.mem_append_left _ (List.mem_append_right _ h))) (by decide +kernel))
set_option maxRecDepth 20000 in
theorem gL_law_L_type : GoodIn wsL_law (va_wsS RL 164 yL_type wsL_type) := goodIn_app (goodIn_of _ (by decide +kernel)) ggL_law_L_type
set_option maxRecDepth 20000 in
theorem ggL_law_X3_type : GoodIn wsL_law wsX3_type := goodIn_r _ [599, 68, 69, 136, 137, 138, 5, 139, 140, 375, 376, 377, 378, 367, 368, 369, 370, 47, 51, 49, 379, 380, 381, 382, 70, 383, 388, 389, 390, 391, 392, 393, 394, 395, 396, 58, 64, 52, 56, 359, 360, 361, 362, 71, 61, 62, 53, 72, 48, 50, 363, 364, 365, 366, 371, 372, 373, 374, 60, 384, 385, 386, 387, 397, 398, 399, 400, 63, 401, 402, 403, 404, 57, 405, 406, 407, 408, 59, 409, 410, 411, 412, 65, 66, 67, 413, 414, 415, 416, 54, 55, 417, 418, 419, 420, 421, 422, 423, 424, 772, 773, 774, 775, 776, 777, 778, 779, 780, 781, 782, 783, 784, 785, 786, 787, 788, 789, 790, 791, 792, 793, 794, 795, 796, 797, 798, 799, 800] (by decide +kernel) (by decide +kernel)
set_option maxRecDepth 20000 in
theorem gL_law_X3_type : GoodIn wsL_law (wsV RL 167 RX3 yX3_type wsX3_type) := goodIn_app (goodIn_of _ (by decide +kernel)) ggL_law_X3_type
set_option maxRecDepth 20000 in
theorem ggL_law_L_hangUp : GoodIn wsL_law wsL_hangUp := goodIn_ca (goodIn_r _ [602, 78, 603, 604, 605, 2, 606, 19, 18, 592, 593, 594, 595, 83, 84, 220, 221, 222, 223, 20, 232, 233, 234, 17, 235, 236, 27, 237, 28, 238, 239, 240, 241, 242, 243, 244, 245, 246, 247, 26, 248, 249, 250, 251, 252, 253, 254, 255, 261, 262, 263, 264, 265, 266, 267, 99, 210, 268, 269, 270, 271, 272, 273, 274, 91, 92, 93, 94, 14, 275, 276, 277, 278, 209, 279, 280, 281, 22, 282, 118, 117, 283, 284, 285, 286, 287, 288, 289, 290, 291, 292, 293, 294, 105, 106, 107, 108, 109, 110, 111, 295, 296, 297, 298, 116, 33, 39, 299, 300, 301, 302, 34, 303, 304, 305, 306, 307, 308, 309, 310, 311, 312, 313, 36, 37, 38, 314, 315, 316, 317, 260, 318, 319, 320, 321, 322, 323, 324, 325, 326, 159, 327, 328, 329, 330, 188, 189, 190, 191, 192, 101, 193, 194, 195, 196, 100, 197, 198, 199, 200, 41, 40, 201, 202, 203, 204, 35, 205, 206, 207, 208, 211, 212, 213, 214, 215, 216, 217, 218, 219, 224, 225, 226, 227, 228, 229, 230, 231, 102, 103, 104, 256, 257, 258, 259, 331, 332, 333, 334, 335, 336, 337, 338, 339, 340, 341, 342, 343, 344, 345, 346, 347, 348, 349, 350, 351, 352, 353, 354, 768, 769, 770, 771, 801, 802, 803, 804, 805, 806, 807, 808, 809, 810, 811, 812, 813, 814, 815, 816, 817, 818, 819, 820, 821, 822, 823, 824, 825, 826] (by decide +kernel) (by decide +kernel)) (goodIn_sub (fun _ h => List.mem_append_left _ (List.mem_append_left _ (List.mem_append_right _ h))) (by decide +kernel))
set_option maxRecDepth 20000 in
theorem gL_law_L_hangUp : GoodIn wsL_law (va_wsS RL 168 yL_hangUp wsL_hangUp) := goodIn_app (goodIn_of _ (by decide +kernel)) ggL_law_L_hangUp
set_option maxRecDepth 20000 in
theorem ggL_law_X3_hangUp : GoodIn wsL_law wsX3_hangUp := goodIn_r _ [610, 68, 69, 136, 137, 138, 5, 139, 140, 379, 380, 381, 382, 70, 383, 388, 389, 390, 391, 392, 393, 394, 395, 396, 47, 51, 58, 64, 52, 56, 359, 360, 361, 362, 71, 61, 62, 53, 72, 48, 50, 363, 364, 365, 366, 49, 367, 368, 369, 370, 371, 372, 373, 374, 60, 375, 376, 377, 378, 384, 385, 386, 387, 397, 398, 399, 400, 63, 401, 402, 403, 404, 57, 405, 406, 407, 408, 59, 409, 410, 411, 412, 65, 66, 67, 413, 414, 415, 416, 54, 55, 417, 418, 419, 420, 421, 422, 423, 424, 772, 773, 774, 775, 776, 777, 778, 779, 780, 781, 782, 783, 784, 785, 786, 787, 788, 789, 790, 791, 792, 793, 794, 795, 796, 797, 798, 799, 800] (by decide +kernel) (by decide +kernel)
set_option maxRecDepth 20000 in
theorem gL_law_X3_hangUp : GoodIn wsL_law (wsV RL 171 RX3 yX3_hangUp wsX3_hangUp) := goodIn_app (goodIn_of _ (by decide +kernel)) ggL_law_X3_hangUp
set_option maxRecDepth 20000 in
theorem ggL_law_X2_processes : GoodIn wsL_law wsX2_processes := goodIn_r _ [614, 14, 768, 769, 770, 771] (by decide +kernel) (by decide +kernel)
set_option maxRecDepth 20000 in
theorem gL_law_X2_processes : GoodIn wsL_law (wsV RL 172 RX2 yX2_processes wsX2_processes) := goodIn_app (goodIn_of _ (by decide +kernel)) ggL_law_X2_processes
set_option maxRecDepth 20000 in
theorem ggL_law_X3_processes : GoodIn wsL_law wsX3_processes := goodIn_r _ [618, 140, 47, 772, 773, 774, 775, 776, 777, 778, 779, 780, 781, 782, 783, 784, 785, 786, 787, 788, 789, 790, 791, 792, 793, 794, 795, 796, 797, 798, 799, 800] (by decide +kernel) (by decide +kernel)
set_option maxRecDepth 20000 in
theorem gL_law_X3_processes : GoodIn wsL_law (wsV RL 175 RX3 yX3_processes wsX3_processes) := goodIn_app (goodIn_of _ (by decide +kernel)) ggL_law_X3_processes
set_option maxRecDepth 20000 in
theorem ggL_law_L_exists : GoodIn wsL_law wsL_exists := goodIn_ca (goodIn_r _ [621, 178, 622, 623, 624, 2, 625, 454, 455, 456, 183, 184, 185, 186, 187, 91, 92, 93, 94, 14, 768, 769, 770, 771] (by decide +kernel) (by decide +kernel)) (goodIn_sub (fun _ h => List.mem_append_right _ h) (by decide +kernel))
set_option maxRecDepth 20000 in
theorem gL_law_L_exists : GoodIn wsL_law (va_wsS RL 176 yL_exists wsL_exists) := goodIn_app (goodIn_of _ (by decide +kernel)) ggL_law_L_exists
set_option maxRecDepth 20000 in
theorem ggL_law_X3_exists : GoodIn wsL_law wsX3_exists := goodIn_r _ [629, 47, 136, 137, 138, 5, 139, 140, 772, 773, 774, 775, 776, 777, 778, 779, 780, 781, 782, 783, 784, 785, 786, 787, 788, 789, 790, 791, 792, 793, 794, 795, 796, 797, 798, 799, 800] (by decide +kernel) (by decide +kernel)
set_option maxRecDepth 20000 in
theorem gL_law_X3_exists : GoodIn wsL_law (wsV RL 178 RX3 yX3_exists wsX3_exists) := goodIn_app (goodIn_of _ (by decide +kernel)) ggL_law_X3_exists
set_option maxRecDepth 20000 in
theorem ggL_law_L_state : GoodIn wsL_law wsL_state := goodIn_ca (goodIn_r _ [632, 77, 633, 634, 635, 2, 636, 85, 86, 87, 88, 89, 90, 91, 92, 93, 94, 14, 105, 106, 107, 22, 108, 109, 110, 111, 768, 769, 770, 771, 807, 808, 809, 810, 811, 812, 813, 814, 815, 816, 817, 818, 819, 820, 821, 822, 823, 824, 825, 826] (by decide +kernel) (by decide +kernel)) (goodIn_sub (fun _ h => List.mem_append_left _ (List.mem_append_right _ h)) (by decide +kernel))
set_option maxRecDepth 20000 in
theorem gL_law_L_state : GoodIn wsL_law (va_wsS RL 179 yL_state wsL_state) := goodIn_app (goodIn_of _ (by decide +kernel)) ggL_law_L_state
set_option maxRecDepth 20000 in
theorem ggL_law_X3_state : GoodIn wsL_law wsX3_state := goodIn_r _ [640, 51, 52, 53, 128, 129, 130, 5, 131, 47, 136, 137, 138, 139, 140, 772, 773, 774, 775, 776, 777, 778, 779, 780, 781, 782, 783, 784, 785, 786, 787, 788, 789, 790, 791, 792, 793, 794, 795, 796, 797, 798, 799, 800] (by decide +kernel) (by decide +kernel)
set_option maxRecDepth 20000 in
theorem gL_law_X3_state : GoodIn wsL_law (wsV RL 181 RX3 yX3_state wsX3_state) := goodIn_app (goodIn_of _ (by decide +kernel)) ggL_law_X3_state
set_option maxRecDepth 20000 in
theorem ggL_law_L_parent : GoodIn wsL_law wsL_parent := goodIn_ca (goodIn_r _ [643, 77, 644, 645, 646, 2, 647, 209, 99, 85, 86, 87, 88, 89, 90, 91, 92, 93, 94, 14, 807, 808, 809, 810, 811, 812, 813, 814, 815, 816, 817, 818, 819, 820, 821, 822, 823, 824, 825, 826, 768, 769, 770, 771] (by decide +kernel) (by decide +kernel)) (goodIn_sub (fun _ h => List.mem_append_left _ (List.mem_append_right _ h)) (by decide +kernel))
set_option maxRecDepth 20000 in
theorem gL_law_L_parent : GoodIn wsL_law (va_wsS RL 182 yL_parent wsL_parent) := goodIn_app (goodIn_of _ (by decide +kernel)) ggL_law_L_parent
set_option maxRecDepth 20000 in
theorem ggL_law_X3_parent : GoodIn wsL_law wsX3_parent := goodIn_r _ [651, 48, 652, 653, 654, 5, 655, 128, 129, 130, 131, 47, 136, 137, 138, 139, 140, 772, 773, 774, 775, 776, 777, 778, 779, 780, 781, 782, 783, 784, 785, 786, 787, 788, 789, 790, 791, 792, 793, 794, 795, 796, 797, 798, 799, 800] (by decide +kernel) (by decide +kernel)
set_option maxRecDepth 20000 in
theorem gL_law_X3_parent : GoodIn wsL_law (wsV RL 184 RX3 yX3_parent wsX3_parent) := goodIn_app (goodIn_of _ (by decide +kernel)) ggL_law_X3_parent
set_option maxRecDepth 20000 in
theorem ggL_law_L_group : GoodIn wsL_law wsL_group := goodIn_ca (goodIn_r _ [658, 77, 659, 660, 661, 2, 662, 100, 85, 86, 87, 88, 89, 90, 91, 92, 93, 94, 14, 807, 808, 809, 810, 811, 812, 813, 814, 815, 816, 817, 818, 819, 820, 821, 822, 823, 824, 825, 826, 768, 769, 770, 771] (by decide +kernel) (by decide +kernel)) (goodIn_sub (fun _ h => List.mem_append_left _ (List.mem_append_right _ h)) (by decide +kernel))
set_option maxRecDepth 20000 in
theorem gL_law_L_group : GoodIn wsL_law (va_wsS RL 185 yL_group wsL_group) := goodIn_app (goodIn_of _ (by decide +kernel)) ggL_law_L_group
set_option maxRecDepth 20000 in
theorem ggL_law_X3_group : GoodIn wsL_law wsX3_group := goodIn_r _ [666, 49, 652, 653, 654, 5, 655, 128, 129, 130, 131, 47, 136, 137, 138, 139, 140, 772, 773, 774, 775, 776, 777, 778, 779, 780, 781, 782, 783, 784, 785, 786, 787, 788, 789, 790, 791, 792, 793, 794, 795, 796, 797, 798, 799, 800] (by decide +kernel) (by decide +kernel)
set_option maxRecDepth 20000 in
theorem gL_law_X3_group : GoodIn wsL_law (wsV RL 187 RX3 yX3_group wsX3_group) := goodIn_app (goodIn_of _ (by decide +kernel)) ggL_law_X3_group
set_option maxRecDepth 20000 in
theorem ggL_law_L_session : GoodIn wsL_law wsL_session := goodIn_ca (goodIn_r _ [669, 77, 670, 671, 672, 2, 673, 101, 85, 86, 87, 88, 89, 90, 91, 92, 93, 94, 14, 807, 808, 809, 810, 811, 812, 813, 814, 815, 816, 817, 818, 819, 820, 821, 822, 823, 824, 825, 826, 768, 769, 770, 771] (by decide +kernel) (by decide +kernel)) (goodIn_sub (fun _ h => List.mem_append_left _ (List.mem_append_right _ h)) (by decide +kernel))
set_option maxRecDepth 20000 in
theorem gL_law_L_session : GoodIn wsL_law (va_wsS RL 188 yL_session wsL_session) := goodIn_app (goodIn_of _ (by decide +kernel)) ggL_law_L_session
set_option maxRecDepth 20000 in
theorem ggL_law_X3_session : GoodIn wsL_law wsX3_session := goodIn_r _ [677, 50, 652, 653, 654, 5, 655, 128, 129, 130, 131, 47, 136, 137, 138, 139, 140, 772, 773, 774, 775, 776, 777, 778, 779, 780, 781, 782, 783, 784, 785, 786, 787, 788, 789, 790, 791, 792, 793, 794, 795, 796, 797, 798, 799, 800] (by decide +kernel) (by decide +kernel)
set_option maxRecDepth 20000 in
theorem gL_law_X3_session : GoodIn wsL_law (wsV RL 190 RX3 yX3_session wsX3_session) := goodIn_app (goodIn_of _ (by decide +kernel)) ggL_law_X3_session
set_option maxRecDepth 20000 in
theorem ggL_law_L_pending : GoodIn wsL_law wsL_pending := goodIn_ca (goodIn_r _ [680, 77, 681, 682, 683, 2, 684, 322, 85, 86, 87, 88, 89, 90, 91, 92, 93, 94, 14, 807, 808, 809, 810, 811, 812, 813, 814, 815, 816, 817, 818, 819, 820, 821, 822, 823, 824, 825, 826, 768, 769, 770, 771] (by decide +kernel) (by decide +kernel)) (goodIn_sub (fun _ h => List.mem_append_left _ (List.mem_append_right _ h)) (by decide +kernel))
set_option maxRecDepth 20000 in
theorem gL_law_L_pending : GoodIn wsL_law (va_wsS RL 191 yL_pending wsL_pending) := goodIn_app (goodIn_of _ (by decide +kernel)) ggL_law_L_pending
set_option maxRecDepth 20000 in
theorem ggL_law_X3_pending : GoodIn wsL_law wsX3_pending := goodIn_r _ [688, 58, 652, 653, 654, 5, 655, 128, 129, 130, 131, 47, 136, 137, 138, 139, 140, 772, 773, 774, 775, 776, 777, 778, 779, 780, 781, 782, 783, 784, 785, 786, 787, 788, 789, 790, 791, 792, 793, 794, 795, 796, 797, 798, 799, 800] (by decide +kernel) (by decide +kernel)
set_option maxRecDepth 20000 in
theorem gL_law_X3_pending : GoodIn wsL_law (wsV RL 193 RX3 yX3_pending wsX3_pending) := goodIn_app (goodIn_of _ (by decide +kernel)) ggL_law_X3_pending
set_option maxRecDepth 20000 in
theorem ggL_law_L_caught : GoodIn wsL_law wsL_caught := goodIn_ca (goodIn_r _ [691, 77, 692, 693, 694, 2, 695, 696, 85, 86, 87, 88, 89, 90, 91, 92, 93, 94, 14, 807, 808, 809, 810, 811, 812, 813, 814, 815, 816, 817, 818, 819, 820, 821, 822, 823, 824, 825, 826, 768, 769, 770, 771] (by decide +kernel) (by decide +kernel)) (goodIn_sub (fun _ h => List.mem_append_left _ (List.mem_append_right _ h)) (by decide +kernel))
set_option maxRecDepth 20000 in
theorem gL_law_L_caught : GoodIn wsL_law (va_wsS RL 194 yL_caught wsL_caught) := goodIn_app (goodIn_of _ (by decide +kernel)) ggL_law_L_caught
set_option maxRecDepth 20000 in
theorem ggL_law_X3_caught : GoodIn wsL_law wsX3_caught := goodIn_r _ [700, 59, 652, 653, 654, 5, 655, 128, 129, 130, 131, 47, 136, 137, 138, 139, 140, 772, 773, 774, 775, 776, 777, 778, 779, 780, 781, 782, 783, 784, 785, 786, 787, 788, 789, 790, 791, 792, 793, 794, 795, 796, 797, 798, 799, 800] (by decide +kernel) (by decide +kernel)
set_option maxRecDepth 20000 in
theorem gL_law_X3_caught : GoodIn wsL_law (wsV RL 196 RX3 yX3_caught wsX3_caught) := goodIn_app (goodIn_of _ (by decide +kernel)) ggL_law_X3_caught
set_option maxRecDepth 20000 in
theorem ggL_law_L_isOrphaned : GoodIn wsL_law wsL_isOrphaned := goodIn_ca (goodIn_r _ [703, 178, 704, 705, 706, 2, 707, 454, 455, 456, 183, 184, 185, 186, 187, 193, 194, 195, 196, 14, 100, 197, 198, 199, 22, 200, 109, 116, 41, 40, 102, 103, 104, 768, 769, 770, 771, 807, 808, 809, 810, 811, 812, 813, 814, 815, 816, 817, 818, 819, 820, 821, 822, 823, 824, 825, 826] (by decide +kernel) (by decide +kernel)) (goodIn_sub (fun _ h => List.mem_append_right _ h) (by decide +kernel))
set_option maxRecDepth 20000 in
theorem gL_law_L_isOrphaned : GoodIn wsL_law (va_wsS RL 197 yL_isOrphaned wsL_isOrphaned) := goodIn_app (goodIn_of _ (by decide +kernel)) ggL_law_L_isOrphaned
set_option maxRecDepth 20000 in
theorem ggL_law_X3_isOrphaned : GoodIn wsL_law wsX3_isOrphaned := goodIn_r _ [711, 136, 137, 138, 5, 139, 140, 363, 364, 365, 366, 48, 51, 50, 49, 367, 368, 369, 370, 47, 772, 773, 774, 775, 776, 777, 778, 779, 780, 781, 782, 783, 784, 785, 786, 787, 788, 789, 790, 791, 792, 793, 794, 795, 796, 797, 798, 799, 800] (by decide +kernel) (by decide +kernel)
set_option maxRecDepth 20000 in
theorem gL_law_X3_isOrphaned : GoodIn wsL_law (wsV RL 199 RX3 yX3_isOrphaned wsX3_isOrphaned) := goodIn_app (goodIn_of _ (by decide +kernel)) ggL_law_X3_isOrphaned
set_option maxRecDepth 20000 in
theorem ggL_law_X2_terminalSession : GoodIn wsL_law wsX2_terminalSession := goodIn_r _ [715, 19, 768, 769, 770, 771] (by decide +kernel) (by decide +kernel)
set_option maxRecDepth 20000 in
theorem gL_law_X2_terminalSession : GoodIn wsL_law (wsV RL 200 RX2 yX2_terminalSession wsX2_terminalSession) := goodIn_app (goodIn_of _ (by decide +kernel)) ggL_law_X2_terminalSession
set_option maxRecDepth 20000 in
theorem ggL_law_X3_terminalSession : GoodIn wsL_law wsX3_terminalSession := goodIn_r _ [719, 68, 720, 721, 722, 5, 723, 140, 772, 773, 774, 775, 776, 777, 778, 779, 780, 781, 782, 783, 784, 785, 786, 787, 788, 789, 790, 791, 792, 793, 794, 795, 796, 797, 798, 799, 800] (by decide +kernel) (by decide +kernel)
set_option maxRecDepth 20000 in
theorem gL_law_X3_terminalSession : GoodIn wsL_law (wsV RL 203 RX3 yX3_terminalSession wsX3_terminalSession) := goodIn_app (goodIn_of _ (by decide +kernel)) ggL_law_X3_terminalSession
set_option maxRecDepth 20000 in
theorem ggL_law_X2_foreground : GoodIn wsL_law wsX2_foreground := goodIn_r _ [727, 20, 768, 769, 770, 771] (by decide +kernel) (by decide +kernel)
set_option maxRecDepth 20000 in
theorem gL_law_X2_foreground : GoodIn wsL_law (wsV RL 204 RX2 yX2_foreground wsX2_foreground) := goodIn_app (goodIn_of _ (by decide +kernel)) ggL_law_X2_foreground
set_option maxRecDepth 20000 in
theorem ggL_law_X3_foreground : GoodIn wsL_law wsX3_foreground := goodIn_r _ [731, 69, 720, 721, 722, 5, 723, 140, 772, 773, 774, 775, 776, 777, 778, 779, 780, 781, 782, 783, 784, 785, 786, 787, 788, 789, 790, 791, 792, 793, 794, 795, 796, 797, 798, 799, 800] (by decide +kernel) (by decide +kernel)
set_option maxRecDepth 20000 in
theorem gL_law_X3_foreground : GoodIn wsL_law (wsV RL 207 RX3 yX3_foreground wsX3_foreground) := goodIn_app (goodIn_of _ (by decide +kernel)) ggL_law_X3_foreground
set_option maxRecDepth 20000 in
theorem ggL_law_L_waitResult : GoodIn wsL_law wsL_waitResult := goodIn_ca (goodIn_r _ [734, 77, 735, 736, 737, 2, 738, 739, 85, 86, 87, 88, 89, 90, 91, 92, 93, 94, 14, 807, 808, 809, 810, 811, 812, 813, 814, 815, 816, 817, 818, 819, 820, 821, 822, 823, 824, 825, 826, 768, 769, 770, 771] (by decide +kernel) (by decide +kernel)) (goodIn_sub (fun _ h => List.mem_append_left _ (List.mem_append_right _ h)) (by decide +kernel))
set_option maxRecDepth 20000 in
theorem gL_law_L_waitResult : GoodIn wsL_law (va_wsS RL 208 yL_waitResult wsL_waitResult) := goodIn_app (goodIn_of _ (by decide +kernel)) ggL_law_L_waitResult
set_option maxRecDepth 20000 in
theorem ggL_law_X3_waitResult : GoodIn wsL_law wsX3_waitResult := goodIn_r _ [743, 65, 652, 653, 654, 5, 655, 128, 129, 130, 131, 47, 136, 137, 138, 139, 140, 772, 773, 774, 775, 776, 777, 778, 779, 780, 781, 782, 783, 784, 785, 786, 787, 788, 789, 790, 791, 792, 793, 794, 795, 796, 797, 798, 799, 800] (by decide +kernel) (by decide +kernel)
set_option maxRecDepth 20000 in
theorem gL_law_X3_waitResult : GoodIn wsL_law (wsV RL 210 RX3 yX3_waitResult wsX3_waitResult) := goodIn_app (goodIn_of _ (by decide +kernel)) ggL_law_X3_waitResult
set_option maxRecDepth 20000 in
theorem ggL_law_L_reportedChild : GoodIn wsL_law wsL_reportedChild := goodIn_ca (goodIn_r _ [746, 77, 747, 748, 749, 2, 750, 751, 85, 86, 87, 88, 89, 90, 91, 92, 93, 94, 14, 807, 808, 809, 810, 811, 812, 813, 814, 815, 816, 817, 818, 819, 820, 821, 822, 823, 824, 825, 826, 768, 769, 770, 771] (by decide +kernel) (by decide +kernel)) (goodIn_sub (fun _ h => List.mem_append_left _ (List.mem_append_right _ h)) (by decide +kernel))
set_option maxRecDepth 20000 in
theorem gL_law_L_reportedChild : GoodIn wsL_law (va_wsS RL 211 yL_reportedChild wsL_reportedChild) := goodIn_app (goodIn_of _ (by decide +kernel)) ggL_law_L_reportedChild
set_option maxRecDepth 20000 in
theorem ggL_law_X3_reportedChild : GoodIn wsL_law wsX3_reportedChild := goodIn_r _ [755, 66, 652, 653, 654, 5, 655, 128, 129, 130, 131, 47, 136, 137, 138, 139, 140, 772, 773, 774, 775, 776, 777, 778, 779, 780, 781, 782, 783, 784, 785, 786, 787, 788, 789, 790, 791, 792, 793, 794, 795, 796, 797, 798, 799, 800] (by decide +kernel) (by decide +kernel)
set_option maxRecDepth 20000 in
theorem gL_law_X3_reportedChild : GoodIn wsL_law (wsV RL 213 RX3 yX3_reportedChild wsX3_reportedChild) := goodIn_app (goodIn_of _ (by decide +kernel)) ggL_law_X3_reportedChild
set_option maxRecDepth 20000 in
theorem ggL_law_L_reportedValue : GoodIn wsL_law wsL_reportedValue := goodIn_ca (goodIn_r _ [758, 77, 759, 760, 761, 2, 762, 763, 85, 86, 87, 88, 89, 90, 91, 92, 93, 94, 14, 807, 808, 809, 810, 811, 812, 813, 814, 815, 816, 817, 818, 819, 820, 821, 822, 823, 824, 825, 826, 768, 769, 770, 771] (by decide +kernel) (by decide +kernel)) (goodIn_sub (fun _ h => List.mem_append_left _ (List.mem_append_right _ h)) (by decide +kernel))
set_option maxRecDepth 20000 in
theorem gL_law_L_reportedValue : GoodIn wsL_law (va_wsS RL 214 yL_reportedValue wsL_reportedValue) := goodIn_app (goodIn_of _ (by decide +kernel)) ggL_law_L_reportedValue
set_option maxRecDepth 20000 in
theorem ggL_law_X3_reportedValue : GoodIn wsL_law wsX3_reportedValue := goodIn_r _ [767, 67, 652, 653, 654, 5, 655, 128, 129, 130, 131, 47, 136, 137, 138, 139, 140, 772, 773, 774, 775, 776, 777, 778, 779, 780, 781, 782, 783, 784, 785, 786, 787, 788, 789, 790, 791, 792, 793, 794, 795, 796, 797, 798, 799, 800] (by decide +kernel) (by decide +kernel)
set_option maxRecDepth 20000 in
theorem gL_law_X3_reportedValue : GoodIn wsL_law (wsV RL 216 RX3 yX3_reportedValue wsX3_reportedValue) := goodIn_app (goodIn_of _ (by decide +kernel)) ggL_law_X3_reportedValue
theorem dL_law_0 : decode cL_law 0 = .ok (.new 8, 3) := by decide +kernel
theorem dL_law_3 : decode cL_law 3 = .ok (.dup, 1) := by decide +kernel
theorem dL_law_4 : decode cL_law 4 = .ok (.invokespecial 106, 3) := by decide +kernel
theorem dL_law_7 : decode cL_law 7 = .ok (.astore_n 1, 1) := by decide +kernel
theorem dL_law_8 : decode cL_law 8 = .ok (.new 107, 3) := by decide +kernel
theorem dL_law_11 : decode cL_law 11 = .ok (.dup, 1) := by decide +kernel
theorem dL_law_12 : decode cL_law 12 = .ok (.invokespecial 109, 3) := by decide +kernel
theorem dL_law_15 : decode cL_law 15 = .ok (.astore_n 2, 1) := by decide +kernel
theorem dL_law_16 : decode cL_law 16 = .ok (.iconst 1, 1) := by decide +kernel
theorem dL_law_17 : decode cL_law 17 = .ok (.newarray .long, 2) := by decide +kernel
theorem dL_law_19 : decode cL_law 19 = .ok (.astore_n 3, 1) := by decide +kernel
theorem dL_law_20 : decode cL_law 20 = .ok (.iconst 0, 1) := by decide +kernel
theorem dL_law_21 : decode cL_law 21 = .ok (.istore 4, 2) := by decide +kernel
theorem dL_law_23 : decode cL_law 23 = .ok (.iload 4, 2) := by decide +kernel
theorem dL_law_25 : decode cL_law 25 = .ok (.aload_n 0, 1) := by decide +kernel
theorem dL_law_26 : decode cL_law 26 = .ok (.arraylength, 1) := by decide +kernel
theorem dL_law_27 : decode cL_law 27 = .ok (.iconst 4, 1) := by decide +kernel
theorem dL_law_28 : decode cL_law 28 = .ok (.isub, 1) := by decide +kernel
theorem dL_law_29 : decode cL_law 29 = .ok (.if_icmp .gt 1863, 3) := by decide +kernel
theorem dL_law_32 : decode cL_law 32 = .ok (.aload_n 0, 1) := by decide +kernel
theorem dL_law_33 : decode cL_law 33 = .ok (.iload 4, 2) := by decide +kernel
theorem dL_law_35 : decode cL_law 35 = .ok (.iaload, 1) := by decide +kernel
theorem dL_law_36 : decode cL_law 36 = .ok (.bipush 31, 2) := by decide +kernel
theorem dL_law_38 : decode cL_law 38 = .ok (.iand, 1) := by decide +kernel
theorem dL_law_39 : decode cL_law 39 = .ok (.tableswitch 1847 0 29 #[133, 189, 245, 293, 384, 487, 567, 635, 671, 751, 842, 878, 946, 994, 1062, 1134, 1178, 1191, 1254, 1310, 1366, 1422, 1478, 1534, 1590, 1653, 1666, 1679, 1735, 1791], 133) := by decide +kernel
theorem dL_law_172 : decode cL_law 172 = .ok (.aload_n 1, 1) := by decide +kernel
theorem dL_law_173 : decode cL_law 173 = .ok (.aload_n 0, 1) := by decide +kernel
theorem dL_law_174 : decode cL_law 174 = .ok (.iload 4, 2) := by decide +kernel
theorem dL_law_176 : decode cL_law 176 = .ok (.iconst 1, 1) := by decide +kernel
theorem dL_law_177 : decode cL_law 177 = .ok (.iadd, 1) := by decide +kernel
theorem dL_law_178 : decode cL_law 178 = .ok (.iaload, 1) := by decide +kernel
theorem dL_law_179 : decode cL_law 179 = .ok (.aload_n 3, 1) := by decide +kernel
theorem dL_law_180 : decode cL_law 180 = .ok (.invokestatic 110, 3) := by decide +kernel
theorem dL_law_183 : decode cL_law 183 = .ok (.istore 5, 2) := by decide +kernel
theorem dL_law_185 : decode cL_law 185 = .ok (.aload_n 2, 1) := by decide +kernel
theorem dL_law_186 : decode cL_law 186 = .ok (.aload_n 0, 1) := by decide +kernel
theorem dL_law_187 : decode cL_law 187 = .ok (.iload 4, 2) := by decide +kernel
theorem dL_law_189 : decode cL_law 189 = .ok (.iconst 1, 1) := by decide +kernel
theorem dL_law_190 : decode cL_law 190 = .ok (.iadd, 1) := by decide +kernel
theorem dL_law_191 : decode cL_law 191 = .ok (.iaload, 1) := by decide +kernel
theorem dL_law_192 : decode cL_law 192 = .ok (.invokevirtual 115, 3) := by decide +kernel
theorem dL_law_195 : decode cL_law 195 = .ok (.istore 6, 2) := by decide +kernel
theorem dL_law_197 : decode cL_law 197 = .ok (.aload_n 2, 1) := by decide +kernel
theorem dL_law_198 : decode cL_law 198 = .ok (.invokevirtual 116, 3) := by decide +kernel
theorem dL_law_201 : decode cL_law 201 = .ok (.iload 5, 2) := by decide +kernel
theorem dL_law_203 : decode cL_law 203 = .ok (.if_icmp .eq 5, 3) := by decide +kernel
theorem dL_law_206 : decode cL_law 206 = .ok (.iconst 0, 1) := by decide +kernel
theorem dL_law_207 : decode cL_law 207 = .ok (.ireturn, 1) := by decide +kernel
theorem dL_law_208 : decode cL_law 208 = .ok (.iload 5, 2) := by decide +kernel
theorem dL_law_210 : decode cL_law 210 = .ok (.ifCond .ne 15, 3) := by decide +kernel
theorem dL_law_213 : decode cL_law 213 = .ok (.aload_n 3, 1) := by decide +kernel
theorem dL_law_214 : decode cL_law 214 = .ok (.iconst 0, 1) := by decide +kernel
theorem dL_law_215 : decode cL_law 215 = .ok (.laload, 1) := by decide +kernel
theorem dL_law_216 : decode cL_law 216 = .ok (.iload 6, 2) := by decide +kernel
theorem dL_law_218 : decode cL_law 218 = .ok (.i2l, 1) := by decide +kernel
theorem dL_law_219 : decode cL_law 219 = .ok (.lcmp, 1) := by decide +kernel
theorem dL_law_220 : decode cL_law 220 = .ok (.ifCond .eq 5, 3) := by decide +kernel
theorem dL_law_223 : decode cL_law 223 = .ok (.iconst 0, 1) := by decide +kernel
theorem dL_law_224 : decode cL_law 224 = .ok (.ireturn, 1) := by decide +kernel
theorem dL_law_225 : decode cL_law 225 = .ok (.goto 1661, 3) := by decide +kernel
theorem dL_law_228 : decode cL_law 228 = .ok (.aload_n 1, 1) := by decide +kernel
theorem dL_law_229 : decode cL_law 229 = .ok (.aload_n 0, 1) := by decide +kernel
theorem dL_law_230 : decode cL_law 230 = .ok (.iload 4, 2) := by decide +kernel
theorem dL_law_232 : decode cL_law 232 = .ok (.iconst 1, 1) := by decide +kernel
theorem dL_law_233 : decode cL_law 233 = .ok (.iadd, 1) := by decide +kernel
theorem dL_law_234 : decode cL_law 234 = .ok (.iaload, 1) := by decide +kernel
theorem dL_law_235 : decode cL_law 235 = .ok (.aload_n 3, 1) := by decide +kernel
theorem dL_law_236 : decode cL_law 236 = .ok (.invokestatic 119, 3) := by decide +kernel
theorem dL_law_239 : decode cL_law 239 = .ok (.istore 5, 2) := by decide +kernel
theorem dL_law_241 : decode cL_law 241 = .ok (.aload_n 2, 1) := by decide +kernel
theorem dL_law_242 : decode cL_law 242 = .ok (.aload_n 0, 1) := by decide +kernel
theorem dL_law_243 : decode cL_law 243 = .ok (.iload 4, 2) := by decide +kernel
theorem dL_law_245 : decode cL_law 245 = .ok (.iconst 1, 1) := by decide +kernel
theorem dL_law_246 : decode cL_law 246 = .ok (.iadd, 1) := by decide +kernel
theorem dL_law_247 : decode cL_law 247 = .ok (.iaload, 1) := by decide +kernel
theorem dL_law_248 : decode cL_law 248 = .ok (.invokevirtual 121, 3) := by decide +kernel
theorem dL_law_251 : decode cL_law 251 = .ok (.istore 6, 2) := by decide +kernel
theorem dL_law_253 : decode cL_law 253 = .ok (.aload_n 2, 1) := by decide +kernel
theorem dL_law_254 : decode cL_law 254 = .ok (.invokevirtual 116, 3) := by decide +kernel
theorem dL_law_257 : decode cL_law 257 = .ok (.iload 5, 2) := by decide +kernel
theorem dL_law_259 : decode cL_law 259 = .ok (.if_icmp .eq 5, 3) := by decide +kernel
theorem dL_law_262 : decode cL_law 262 = .ok (.iconst 0, 1) := by decide +kernel
theorem dL_law_263 : decode cL_law 263 = .ok (.ireturn, 1) := by decide +kernel
theorem dL_law_264 : decode cL_law 264 = .ok (.iload 5, 2) := by decide +kernel
theorem dL_law_266 : decode cL_law 266 = .ok (.ifCond .ne 15, 3) := by decide +kernel
theorem dL_law_269 : decode cL_law 269 = .ok (.aload_n 3, 1) := by decide +kernel
theorem dL_law_270 : decode cL_law 270 = .ok (.iconst 0, 1) := by decide +kernel
theorem dL_law_271 : decode cL_law 271 = .ok (.laload, 1) := by decide +kernel
theorem dL_law_272 : decode cL_law 272 = .ok (.iload 6, 2) := by decide +kernel
theorem dL_law_274 : decode cL_law 274 = .ok (.i2l, 1) := by decide +kernel
theorem dL_law_275 : decode cL_law 275 = .ok (.lcmp, 1) := by decide +kernel
theorem dL_law_276 : decode cL_law 276 = .ok (.ifCond .eq 5, 3) := by decide +kernel
theorem dL_law_279 : decode cL_law 279 = .ok (.iconst 0, 1) := by decide +kernel
theorem dL_law_280 : decode cL_law 280 = .ok (.ireturn, 1) := by decide +kernel
theorem dL_law_281 : decode cL_law 281 = .ok (.goto 1605, 3) := by decide +kernel
theorem dL_law_284 : decode cL_law 284 = .ok (.aload_n 1, 1) := by decide +kernel
theorem dL_law_285 : decode cL_law 285 = .ok (.aload_n 0, 1) := by decide +kernel
theorem dL_law_286 : decode cL_law 286 = .ok (.iload 4, 2) := by decide +kernel
theorem dL_law_288 : decode cL_law 288 = .ok (.iconst 1, 1) := by decide +kernel
theorem dL_law_289 : decode cL_law 289 = .ok (.iadd, 1) := by decide +kernel
theorem dL_law_290 : decode cL_law 290 = .ok (.iaload, 1) := by decide +kernel
theorem dL_law_291 : decode cL_law 291 = .ok (.aload_n 0, 1) := by decide +kernel
theorem dL_law_292 : decode cL_law 292 = .ok (.iload 4, 2) := by decide +kernel
theorem dL_law_294 : decode cL_law 294 = .ok (.iconst 2, 1) := by decide +kernel
theorem dL_law_295 : decode cL_law 295 = .ok (.iadd, 1) := by decide +kernel
theorem dL_law_296 : decode cL_law 296 = .ok (.iaload, 1) := by decide +kernel
theorem dL_law_297 : decode cL_law 297 = .ok (.invokestatic 122, 3) := by decide +kernel
theorem dL_law_300 : decode cL_law 300 = .ok (.istore 5, 2) := by decide +kernel
theorem dL_law_302 : decode cL_law 302 = .ok (.aload_n 2, 1) := by decide +kernel
theorem dL_law_303 : decode cL_law 303 = .ok (.aload_n 0, 1) := by decide +kernel
theorem dL_law_304 : decode cL_law 304 = .ok (.iload 4, 2) := by decide +kernel
theorem dL_law_306 : decode cL_law 306 = .ok (.iconst 1, 1) := by decide +kernel
theorem dL_law_307 : decode cL_law 307 = .ok (.iadd, 1) := by decide +kernel
theorem dL_law_308 : decode cL_law 308 = .ok (.iaload, 1) := by decide +kernel
theorem dL_law_309 : decode cL_law 309 = .ok (.aload_n 0, 1) := by decide +kernel
theorem dL_law_310 : decode cL_law 310 = .ok (.iload 4, 2) := by decide +kernel
theorem dL_law_312 : decode cL_law 312 = .ok (.iconst 2, 1) := by decide +kernel
theorem dL_law_313 : decode cL_law 313 = .ok (.iadd, 1) := by decide +kernel
theorem dL_law_314 : decode cL_law 314 = .ok (.iaload, 1) := by decide +kernel
theorem dL_law_315 : decode cL_law 315 = .ok (.invokevirtual 125, 3) := by decide +kernel
theorem dL_law_318 : decode cL_law 318 = .ok (.aload_n 2, 1) := by decide +kernel
theorem dL_law_319 : decode cL_law 319 = .ok (.invokevirtual 116, 3) := by decide +kernel
theorem dL_law_322 : decode cL_law 322 = .ok (.iload 5, 2) := by decide +kernel
theorem dL_law_324 : decode cL_law 324 = .ok (.if_icmp .eq 5, 3) := by decide +kernel
theorem dL_law_327 : decode cL_law 327 = .ok (.iconst 0, 1) := by decide +kernel
theorem dL_law_328 : decode cL_law 328 = .ok (.ireturn, 1) := by decide +kernel
theorem dL_law_329 : decode cL_law 329 = .ok (.goto 1557, 3) := by decide +kernel
theorem dL_law_332 : decode cL_law 332 = .ok (.aload_n 1, 1) := by decide +kernel
theorem dL_law_333 : decode cL_law 333 = .ok (.aload_n 0, 1) := by decide +kernel
theorem dL_law_334 : decode cL_law 334 = .ok (.iload 4, 2) := by decide +kernel
theorem dL_law_336 : decode cL_law 336 = .ok (.iconst 1, 1) := by decide +kernel
theorem dL_law_337 : decode cL_law 337 = .ok (.iadd, 1) := by decide +kernel
theorem dL_law_338 : decode cL_law 338 = .ok (.iaload, 1) := by decide +kernel
theorem dL_law_339 : decode cL_law 339 = .ok (.aload_n 0, 1) := by decide +kernel
theorem dL_law_340 : decode cL_law 340 = .ok (.iload 4, 2) := by decide +kernel
theorem dL_law_342 : decode cL_law 342 = .ok (.iconst 2, 1) := by decide +kernel
theorem dL_law_343 : decode cL_law 343 = .ok (.iadd, 1) := by decide +kernel
theorem dL_law_344 : decode cL_law 344 = .ok (.iaload, 1) := by decide +kernel
theorem dL_law_345 : decode cL_law 345 = .ok (.ifCond .eq 7, 3) := by decide +kernel
theorem dL_law_348 : decode cL_law 348 = .ok (.iconst 1, 1) := by decide +kernel
theorem dL_law_349 : decode cL_law 349 = .ok (.goto 4, 3) := by decide +kernel
theorem dL_law_352 : decode cL_law 352 = .ok (.iconst 0, 1) := by decide +kernel
theorem dL_law_353 : decode cL_law 353 = .ok (.aload_n 3, 1) := by decide +kernel
theorem dL_law_354 : decode cL_law 354 = .ok (.invokestatic 126, 3) := by decide +kernel
theorem dL_law_357 : decode cL_law 357 = .ok (.istore 5, 2) := by decide +kernel
theorem dL_law_359 : decode cL_law 359 = .ok (.aload_n 2, 1) := by decide +kernel
theorem dL_law_360 : decode cL_law 360 = .ok (.aload_n 0, 1) := by decide +kernel
theorem dL_law_361 : decode cL_law 361 = .ok (.iload 4, 2) := by decide +kernel
theorem dL_law_363 : decode cL_law 363 = .ok (.iconst 1, 1) := by decide +kernel
theorem dL_law_364 : decode cL_law 364 = .ok (.iadd, 1) := by decide +kernel
theorem dL_law_365 : decode cL_law 365 = .ok (.iaload, 1) := by decide +kernel
theorem dL_law_366 : decode cL_law 366 = .ok (.aload_n 0, 1) := by decide +kernel
theorem dL_law_367 : decode cL_law 367 = .ok (.iload 4, 2) := by decide +kernel
theorem dL_law_369 : decode cL_law 369 = .ok (.iconst 2, 1) := by decide +kernel
theorem dL_law_370 : decode cL_law 370 = .ok (.iadd, 1) := by decide +kernel
theorem dL_law_371 : decode cL_law 371 = .ok (.iaload, 1) := by decide +kernel
theorem dL_law_372 : decode cL_law 372 = .ok (.ifCond .eq 7, 3) := by decide +kernel
theorem dL_law_375 : decode cL_law 375 = .ok (.iconst 1, 1) := by decide +kernel
theorem dL_law_376 : decode cL_law 376 = .ok (.goto 4, 3) := by decide +kernel
theorem dL_law_379 : decode cL_law 379 = .ok (.iconst 0, 1) := by decide +kernel
theorem dL_law_380 : decode cL_law 380 = .ok (.invokevirtual 129, 3) := by decide +kernel
theorem dL_law_383 : decode cL_law 383 = .ok (.istore 6, 2) := by decide +kernel
theorem dL_law_385 : decode cL_law 385 = .ok (.aload_n 2, 1) := by decide +kernel
theorem dL_law_386 : decode cL_law 386 = .ok (.invokevirtual 116, 3) := by decide +kernel
theorem dL_law_389 : decode cL_law 389 = .ok (.iload 5, 2) := by decide +kernel
theorem dL_law_391 : decode cL_law 391 = .ok (.if_icmp .eq 5, 3) := by decide +kernel
theorem dL_law_394 : decode cL_law 394 = .ok (.iconst 0, 1) := by decide +kernel
theorem dL_law_395 : decode cL_law 395 = .ok (.ireturn, 1) := by decide +kernel
theorem dL_law_396 : decode cL_law 396 = .ok (.iload 5, 2) := by decide +kernel
theorem dL_law_398 : decode cL_law 398 = .ok (.ifCond .ne 22, 3) := by decide +kernel
theorem dL_law_401 : decode cL_law 401 = .ok (.aload_n 3, 1) := by decide +kernel
theorem dL_law_402 : decode cL_law 402 = .ok (.iconst 0, 1) := by decide +kernel
theorem dL_law_403 : decode cL_law 403 = .ok (.laload, 1) := by decide +kernel
theorem dL_law_404 : decode cL_law 404 = .ok (.iload 6, 2) := by decide +kernel
theorem dL_law_406 : decode cL_law 406 = .ok (.ifCond .eq 7, 3) := by decide +kernel
theorem dL_law_409 : decode cL_law 409 = .ok (.lconst 1, 1) := by decide +kernel
theorem dL_law_410 : decode cL_law 410 = .ok (.goto 4, 3) := by decide +kernel
theorem dL_law_413 : decode cL_law 413 = .ok (.lconst 0, 1) := by decide +kernel
theorem dL_law_414 : decode cL_law 414 = .ok (.lcmp, 1) := by decide +kernel
theorem dL_law_415 : decode cL_law 415 = .ok (.ifCond .eq 5, 3) := by decide +kernel
theorem dL_law_418 : decode cL_law 418 = .ok (.iconst 0, 1) := by decide +kernel
theorem dL_law_419 : decode cL_law 419 = .ok (.ireturn, 1) := by decide +kernel
theorem dL_law_420 : decode cL_law 420 = .ok (.goto 1466, 3) := by decide +kernel
theorem dL_law_423 : decode cL_law 423 = .ok (.aload_n 1, 1) := by decide +kernel
theorem dL_law_424 : decode cL_law 424 = .ok (.aload_n 0, 1) := by decide +kernel
theorem dL_law_425 : decode cL_law 425 = .ok (.iload 4, 2) := by decide +kernel
theorem dL_law_427 : decode cL_law 427 = .ok (.iconst 1, 1) := by decide +kernel
theorem dL_law_428 : decode cL_law 428 = .ok (.iadd, 1) := by decide +kernel
theorem dL_law_429 : decode cL_law 429 = .ok (.iaload, 1) := by decide +kernel
theorem dL_law_430 : decode cL_law 430 = .ok (.aload_n 0, 1) := by decide +kernel
theorem dL_law_431 : decode cL_law 431 = .ok (.iload 4, 2) := by decide +kernel
theorem dL_law_433 : decode cL_law 433 = .ok (.iconst 2, 1) := by decide +kernel
theorem dL_law_434 : decode cL_law 434 = .ok (.iadd, 1) := by decide +kernel
theorem dL_law_435 : decode cL_law 435 = .ok (.iaload, 1) := by decide +kernel
theorem dL_law_436 : decode cL_law 436 = .ok (.aload_n 0, 1) := by decide +kernel
theorem dL_law_437 : decode cL_law 437 = .ok (.iload 4, 2) := by decide +kernel
theorem dL_law_439 : decode cL_law 439 = .ok (.iconst 3, 1) := by decide +kernel
theorem dL_law_440 : decode cL_law 440 = .ok (.iadd, 1) := by decide +kernel
theorem dL_law_441 : decode cL_law 441 = .ok (.iaload, 1) := by decide +kernel
theorem dL_law_442 : decode cL_law 442 = .ok (.ifCond .eq 7, 3) := by decide +kernel
theorem dL_law_445 : decode cL_law 445 = .ok (.iconst 1, 1) := by decide +kernel
theorem dL_law_446 : decode cL_law 446 = .ok (.goto 4, 3) := by decide +kernel
theorem dL_law_449 : decode cL_law 449 = .ok (.iconst 0, 1) := by decide +kernel
theorem dL_law_450 : decode cL_law 450 = .ok (.aload_n 3, 1) := by decide +kernel
theorem dL_law_451 : decode cL_law 451 = .ok (.invokestatic 130, 3) := by decide +kernel
theorem dL_law_454 : decode cL_law 454 = .ok (.istore 5, 2) := by decide +kernel
theorem dL_law_456 : decode cL_law 456 = .ok (.aload_n 2, 1) := by decide +kernel
theorem dL_law_457 : decode cL_law 457 = .ok (.aload_n 0, 1) := by decide +kernel
theorem dL_law_458 : decode cL_law 458 = .ok (.iload 4, 2) := by decide +kernel
theorem dL_law_460 : decode cL_law 460 = .ok (.iconst 1, 1) := by decide +kernel
theorem dL_law_461 : decode cL_law 461 = .ok (.iadd, 1) := by decide +kernel
theorem dL_law_462 : decode cL_law 462 = .ok (.iaload, 1) := by decide +kernel
theorem dL_law_463 : decode cL_law 463 = .ok (.aload_n 0, 1) := by decide +kernel
theorem dL_law_464 : decode cL_law 464 = .ok (.iload 4, 2) := by decide +kernel
theorem dL_law_466 : decode cL_law 466 = .ok (.iconst 2, 1) := by decide +kernel
theorem dL_law_467 : decode cL_law 467 = .ok (.iadd, 1) := by decide +kernel
theorem dL_law_468 : decode cL_law 468 = .ok (.iaload, 1) := by decide +kernel
theorem dL_law_469 : decode cL_law 469 = .ok (.aload_n 0, 1) := by decide +kernel
theorem dL_law_470 : decode cL_law 470 = .ok (.iload 4, 2) := by decide +kernel
theorem dL_law_472 : decode cL_law 472 = .ok (.iconst 3, 1) := by decide +kernel
theorem dL_law_473 : decode cL_law 473 = .ok (.iadd, 1) := by decide +kernel
theorem dL_law_474 : decode cL_law 474 = .ok (.iaload, 1) := by decide +kernel
theorem dL_law_475 : decode cL_law 475 = .ok (.ifCond .eq 7, 3) := by decide +kernel
theorem dL_law_478 : decode cL_law 478 = .ok (.iconst 1, 1) := by decide +kernel
theorem dL_law_479 : decode cL_law 479 = .ok (.goto 4, 3) := by decide +kernel
theorem dL_law_482 : decode cL_law 482 = .ok (.iconst 0, 1) := by decide +kernel
theorem dL_law_483 : decode cL_law 483 = .ok (.invokevirtual 133, 3) := by decide +kernel
theorem dL_law_486 : decode cL_law 486 = .ok (.istore 6, 2) := by decide +kernel
theorem dL_law_488 : decode cL_law 488 = .ok (.aload_n 2, 1) := by decide +kernel
theorem dL_law_489 : decode cL_law 489 = .ok (.invokevirtual 116, 3) := by decide +kernel
theorem dL_law_492 : decode cL_law 492 = .ok (.iload 5, 2) := by decide +kernel
theorem dL_law_494 : decode cL_law 494 = .ok (.if_icmp .eq 5, 3) := by decide +kernel
theorem dL_law_497 : decode cL_law 497 = .ok (.iconst 0, 1) := by decide +kernel
theorem dL_law_498 : decode cL_law 498 = .ok (.ireturn, 1) := by decide +kernel
theorem dL_law_499 : decode cL_law 499 = .ok (.iload 5, 2) := by decide +kernel
theorem dL_law_501 : decode cL_law 501 = .ok (.ifCond .ne 22, 3) := by decide +kernel
theorem dL_law_504 : decode cL_law 504 = .ok (.aload_n 3, 1) := by decide +kernel
theorem dL_law_505 : decode cL_law 505 = .ok (.iconst 0, 1) := by decide +kernel
theorem dL_law_506 : decode cL_law 506 = .ok (.laload, 1) := by decide +kernel
theorem dL_law_507 : decode cL_law 507 = .ok (.iload 6, 2) := by decide +kernel
theorem dL_law_509 : decode cL_law 509 = .ok (.ifCond .eq 7, 3) := by decide +kernel
theorem dL_law_512 : decode cL_law 512 = .ok (.lconst 1, 1) := by decide +kernel
theorem dL_law_513 : decode cL_law 513 = .ok (.goto 4, 3) := by decide +kernel
theorem dL_law_516 : decode cL_law 516 = .ok (.lconst 0, 1) := by decide +kernel
theorem dL_law_517 : decode cL_law 517 = .ok (.lcmp, 1) := by decide +kernel
theorem dL_law_518 : decode cL_law 518 = .ok (.ifCond .eq 5, 3) := by decide +kernel
theorem dL_law_521 : decode cL_law 521 = .ok (.iconst 0, 1) := by decide +kernel
theorem dL_law_522 : decode cL_law 522 = .ok (.ireturn, 1) := by decide +kernel
theorem dL_law_523 : decode cL_law 523 = .ok (.goto 1363, 3) := by decide +kernel
theorem dL_law_526 : decode cL_law 526 = .ok (.aload_n 1, 1) := by decide +kernel
theorem dL_law_527 : decode cL_law 527 = .ok (.aload_n 0, 1) := by decide +kernel
theorem dL_law_528 : decode cL_law 528 = .ok (.iload 4, 2) := by decide +kernel
theorem dL_law_530 : decode cL_law 530 = .ok (.iconst 1, 1) := by decide +kernel
theorem dL_law_531 : decode cL_law 531 = .ok (.iadd, 1) := by decide +kernel
theorem dL_law_532 : decode cL_law 532 = .ok (.iaload, 1) := by decide +kernel
theorem dL_law_533 : decode cL_law 533 = .ok (.aload_n 0, 1) := by decide +kernel
theorem dL_law_534 : decode cL_law 534 = .ok (.iload 4, 2) := by decide +kernel
theorem dL_law_536 : decode cL_law 536 = .ok (.iconst 2, 1) := by decide +kernel
theorem dL_law_537 : decode cL_law 537 = .ok (.iadd, 1) := by decide +kernel
theorem dL_law_538 : decode cL_law 538 = .ok (.iaload, 1) := by decide +kernel
theorem dL_law_539 : decode cL_law 539 = .ok (.aload_n 0, 1) := by decide +kernel
theorem dL_law_540 : decode cL_law 540 = .ok (.iload 4, 2) := by decide +kernel
theorem dL_law_542 : decode cL_law 542 = .ok (.iconst 3, 1) := by decide +kernel
theorem dL_law_543 : decode cL_law 543 = .ok (.iadd, 1) := by decide +kernel
theorem dL_law_544 : decode cL_law 544 = .ok (.iaload, 1) := by decide +kernel
theorem dL_law_545 : decode cL_law 545 = .ok (.aload_n 3, 1) := by decide +kernel
theorem dL_law_546 : decode cL_law 546 = .ok (.invokestatic 134, 3) := by decide +kernel
theorem dL_law_549 : decode cL_law 549 = .ok (.istore 5, 2) := by decide +kernel
theorem dL_law_551 : decode cL_law 551 = .ok (.aload_n 2, 1) := by decide +kernel
theorem dL_law_552 : decode cL_law 552 = .ok (.aload_n 0, 1) := by decide +kernel
theorem dL_law_553 : decode cL_law 553 = .ok (.iload 4, 2) := by decide +kernel
theorem dL_law_555 : decode cL_law 555 = .ok (.iconst 1, 1) := by decide +kernel
theorem dL_law_556 : decode cL_law 556 = .ok (.iadd, 1) := by decide +kernel
theorem dL_law_557 : decode cL_law 557 = .ok (.iaload, 1) := by decide +kernel
theorem dL_law_558 : decode cL_law 558 = .ok (.aload_n 0, 1) := by decide +kernel
theorem dL_law_559 : decode cL_law 559 = .ok (.iload 4, 2) := by decide +kernel
theorem dL_law_561 : decode cL_law 561 = .ok (.iconst 2, 1) := by decide +kernel
theorem dL_law_562 : decode cL_law 562 = .ok (.iadd, 1) := by decide +kernel
theorem dL_law_563 : decode cL_law 563 = .ok (.iaload, 1) := by decide +kernel
theorem dL_law_564 : decode cL_law 564 = .ok (.aload_n 0, 1) := by decide +kernel
theorem dL_law_565 : decode cL_law 565 = .ok (.iload 4, 2) := by decide +kernel
theorem dL_law_567 : decode cL_law 567 = .ok (.iconst 3, 1) := by decide +kernel
theorem dL_law_568 : decode cL_law 568 = .ok (.iadd, 1) := by decide +kernel
theorem dL_law_569 : decode cL_law 569 = .ok (.iaload, 1) := by decide +kernel
theorem dL_law_570 : decode cL_law 570 = .ok (.invokevirtual 137, 3) := by decide +kernel
theorem dL_law_573 : decode cL_law 573 = .ok (.istore 6, 2) := by decide +kernel
theorem dL_law_575 : decode cL_law 575 = .ok (.aload_n 2, 1) := by decide +kernel
theorem dL_law_576 : decode cL_law 576 = .ok (.invokevirtual 116, 3) := by decide +kernel
theorem dL_law_579 : decode cL_law 579 = .ok (.iload 5, 2) := by decide +kernel
theorem dL_law_581 : decode cL_law 581 = .ok (.if_icmp .eq 5, 3) := by decide +kernel
theorem dL_law_584 : decode cL_law 584 = .ok (.iconst 0, 1) := by decide +kernel
theorem dL_law_585 : decode cL_law 585 = .ok (.ireturn, 1) := by decide +kernel
theorem dL_law_586 : decode cL_law 586 = .ok (.iload 5, 2) := by decide +kernel
theorem dL_law_588 : decode cL_law 588 = .ok (.ifCond .ne 15, 3) := by decide +kernel
theorem dL_law_591 : decode cL_law 591 = .ok (.aload_n 3, 1) := by decide +kernel
theorem dL_law_592 : decode cL_law 592 = .ok (.iconst 0, 1) := by decide +kernel
theorem dL_law_593 : decode cL_law 593 = .ok (.laload, 1) := by decide +kernel
theorem dL_law_594 : decode cL_law 594 = .ok (.iload 6, 2) := by decide +kernel
theorem dL_law_596 : decode cL_law 596 = .ok (.i2l, 1) := by decide +kernel
theorem dL_law_597 : decode cL_law 597 = .ok (.lcmp, 1) := by decide +kernel
theorem dL_law_598 : decode cL_law 598 = .ok (.ifCond .eq 5, 3) := by decide +kernel
theorem dL_law_601 : decode cL_law 601 = .ok (.iconst 0, 1) := by decide +kernel
theorem dL_law_602 : decode cL_law 602 = .ok (.ireturn, 1) := by decide +kernel
theorem dL_law_603 : decode cL_law 603 = .ok (.goto 1283, 3) := by decide +kernel
theorem dL_law_606 : decode cL_law 606 = .ok (.aload_n 1, 1) := by decide +kernel
theorem dL_law_607 : decode cL_law 607 = .ok (.aload_n 0, 1) := by decide +kernel
theorem dL_law_608 : decode cL_law 608 = .ok (.iload 4, 2) := by decide +kernel
theorem dL_law_610 : decode cL_law 610 = .ok (.iconst 1, 1) := by decide +kernel
theorem dL_law_611 : decode cL_law 611 = .ok (.iadd, 1) := by decide +kernel
theorem dL_law_612 : decode cL_law 612 = .ok (.iaload, 1) := by decide +kernel
theorem dL_law_613 : decode cL_law 613 = .ok (.aload_n 0, 1) := by decide +kernel
theorem dL_law_614 : decode cL_law 614 = .ok (.iload 4, 2) := by decide +kernel
theorem dL_law_616 : decode cL_law 616 = .ok (.iconst 2, 1) := by decide +kernel
theorem dL_law_617 : decode cL_law 617 = .ok (.iadd, 1) := by decide +kernel
theorem dL_law_618 : decode cL_law 618 = .ok (.iaload, 1) := by decide +kernel
theorem dL_law_619 : decode cL_law 619 = .ok (.aload_n 3, 1) := by decide +kernel
theorem dL_law_620 : decode cL_law 620 = .ok (.invokestatic 138, 3) := by decide +kernel
theorem dL_law_623 : decode cL_law 623 = .ok (.istore 5, 2) := by decide +kernel
theorem dL_law_625 : decode cL_law 625 = .ok (.aload_n 2, 1) := by decide +kernel
theorem dL_law_626 : decode cL_law 626 = .ok (.aload_n 0, 1) := by decide +kernel
theorem dL_law_627 : decode cL_law 627 = .ok (.iload 4, 2) := by decide +kernel
theorem dL_law_629 : decode cL_law 629 = .ok (.iconst 1, 1) := by decide +kernel
theorem dL_law_630 : decode cL_law 630 = .ok (.iadd, 1) := by decide +kernel
theorem dL_law_631 : decode cL_law 631 = .ok (.iaload, 1) := by decide +kernel
theorem dL_law_632 : decode cL_law 632 = .ok (.aload_n 0, 1) := by decide +kernel
theorem dL_law_633 : decode cL_law 633 = .ok (.iload 4, 2) := by decide +kernel
theorem dL_law_635 : decode cL_law 635 = .ok (.iconst 2, 1) := by decide +kernel
theorem dL_law_636 : decode cL_law 636 = .ok (.iadd, 1) := by decide +kernel
theorem dL_law_637 : decode cL_law 637 = .ok (.iaload, 1) := by decide +kernel
theorem dL_law_638 : decode cL_law 638 = .ok (.invokevirtual 141, 3) := by decide +kernel
theorem dL_law_641 : decode cL_law 641 = .ok (.istore 6, 2) := by decide +kernel
theorem dL_law_643 : decode cL_law 643 = .ok (.aload_n 2, 1) := by decide +kernel
theorem dL_law_644 : decode cL_law 644 = .ok (.invokevirtual 116, 3) := by decide +kernel
theorem dL_law_647 : decode cL_law 647 = .ok (.iload 5, 2) := by decide +kernel
theorem dL_law_649 : decode cL_law 649 = .ok (.if_icmp .eq 5, 3) := by decide +kernel
theorem dL_law_652 : decode cL_law 652 = .ok (.iconst 0, 1) := by decide +kernel
theorem dL_law_653 : decode cL_law 653 = .ok (.ireturn, 1) := by decide +kernel
theorem dL_law_654 : decode cL_law 654 = .ok (.iload 5, 2) := by decide +kernel
theorem dL_law_656 : decode cL_law 656 = .ok (.ifCond .ne 15, 3) := by decide +kernel
theorem dL_law_659 : decode cL_law 659 = .ok (.aload_n 3, 1) := by decide +kernel
theorem dL_law_660 : decode cL_law 660 = .ok (.iconst 0, 1) := by decide +kernel
theorem dL_law_661 : decode cL_law 661 = .ok (.laload, 1) := by decide +kernel
theorem dL_law_662 : decode cL_law 662 = .ok (.iload 6, 2) := by decide +kernel
theorem dL_law_664 : decode cL_law 664 = .ok (.i2l, 1) := by decide +kernel
theorem dL_law_665 : decode cL_law 665 = .ok (.lcmp, 1) := by decide +kernel
theorem dL_law_666 : decode cL_law 666 = .ok (.ifCond .eq 5, 3) := by decide +kernel
theorem dL_law_669 : decode cL_law 669 = .ok (.iconst 0, 1) := by decide +kernel
theorem dL_law_670 : decode cL_law 670 = .ok (.ireturn, 1) := by decide +kernel
theorem dL_law_671 : decode cL_law 671 = .ok (.goto 1215, 3) := by decide +kernel
theorem dL_law_674 : decode cL_law 674 = .ok (.aload_n 1, 1) := by decide +kernel
theorem dL_law_675 : decode cL_law 675 = .ok (.aload_n 0, 1) := by decide +kernel
theorem dL_law_676 : decode cL_law 676 = .ok (.iload 4, 2) := by decide +kernel
theorem dL_law_678 : decode cL_law 678 = .ok (.iconst 1, 1) := by decide +kernel
theorem dL_law_679 : decode cL_law 679 = .ok (.iadd, 1) := by decide +kernel
theorem dL_law_680 : decode cL_law 680 = .ok (.iaload, 1) := by decide +kernel
theorem dL_law_681 : decode cL_law 681 = .ok (.invokestatic 142, 3) := by decide +kernel
theorem dL_law_684 : decode cL_law 684 = .ok (.istore 5, 2) := by decide +kernel
theorem dL_law_686 : decode cL_law 686 = .ok (.aload_n 2, 1) := by decide +kernel
theorem dL_law_687 : decode cL_law 687 = .ok (.aload_n 0, 1) := by decide +kernel
theorem dL_law_688 : decode cL_law 688 = .ok (.iload 4, 2) := by decide +kernel
theorem dL_law_690 : decode cL_law 690 = .ok (.iconst 1, 1) := by decide +kernel
theorem dL_law_691 : decode cL_law 691 = .ok (.iadd, 1) := by decide +kernel
theorem dL_law_692 : decode cL_law 692 = .ok (.iaload, 1) := by decide +kernel
theorem dL_law_693 : decode cL_law 693 = .ok (.invokevirtual 145, 3) := by decide +kernel
theorem dL_law_696 : decode cL_law 696 = .ok (.aload_n 2, 1) := by decide +kernel
theorem dL_law_697 : decode cL_law 697 = .ok (.invokevirtual 116, 3) := by decide +kernel
theorem dL_law_700 : decode cL_law 700 = .ok (.iload 5, 2) := by decide +kernel
theorem dL_law_702 : decode cL_law 702 = .ok (.if_icmp .eq 5, 3) := by decide +kernel
theorem dL_law_705 : decode cL_law 705 = .ok (.iconst 0, 1) := by decide +kernel
theorem dL_law_706 : decode cL_law 706 = .ok (.ireturn, 1) := by decide +kernel
theorem dL_law_707 : decode cL_law 707 = .ok (.goto 1179, 3) := by decide +kernel
theorem dL_law_710 : decode cL_law 710 = .ok (.aload_n 1, 1) := by decide +kernel
theorem dL_law_711 : decode cL_law 711 = .ok (.aload_n 0, 1) := by decide +kernel
theorem dL_law_712 : decode cL_law 712 = .ok (.iload 4, 2) := by decide +kernel
theorem dL_law_714 : decode cL_law 714 = .ok (.iconst 1, 1) := by decide +kernel
theorem dL_law_715 : decode cL_law 715 = .ok (.iadd, 1) := by decide +kernel
theorem dL_law_716 : decode cL_law 716 = .ok (.iaload, 1) := by decide +kernel
theorem dL_law_717 : decode cL_law 717 = .ok (.aload_n 0, 1) := by decide +kernel
theorem dL_law_718 : decode cL_law 718 = .ok (.iload 4, 2) := by decide +kernel
theorem dL_law_720 : decode cL_law 720 = .ok (.iconst 2, 1) := by decide +kernel
theorem dL_law_721 : decode cL_law 721 = .ok (.iadd, 1) := by decide +kernel
theorem dL_law_722 : decode cL_law 722 = .ok (.iaload, 1) := by decide +kernel
theorem dL_law_723 : decode cL_law 723 = .ok (.aload_n 0, 1) := by decide +kernel
theorem dL_law_724 : decode cL_law 724 = .ok (.iload 4, 2) := by decide +kernel
theorem dL_law_726 : decode cL_law 726 = .ok (.iconst 3, 1) := by decide +kernel
theorem dL_law_727 : decode cL_law 727 = .ok (.iadd, 1) := by decide +kernel
theorem dL_law_728 : decode cL_law 728 = .ok (.iaload, 1) := by decide +kernel
theorem dL_law_729 : decode cL_law 729 = .ok (.aload_n 3, 1) := by decide +kernel
theorem dL_law_730 : decode cL_law 730 = .ok (.invokestatic 146, 3) := by decide +kernel
theorem dL_law_733 : decode cL_law 733 = .ok (.istore 5, 2) := by decide +kernel
theorem dL_law_735 : decode cL_law 735 = .ok (.aload_n 2, 1) := by decide +kernel
theorem dL_law_736 : decode cL_law 736 = .ok (.aload_n 0, 1) := by decide +kernel
theorem dL_law_737 : decode cL_law 737 = .ok (.iload 4, 2) := by decide +kernel
theorem dL_law_739 : decode cL_law 739 = .ok (.iconst 1, 1) := by decide +kernel
theorem dL_law_740 : decode cL_law 740 = .ok (.iadd, 1) := by decide +kernel
theorem dL_law_741 : decode cL_law 741 = .ok (.iaload, 1) := by decide +kernel
theorem dL_law_742 : decode cL_law 742 = .ok (.aload_n 0, 1) := by decide +kernel
theorem dL_law_743 : decode cL_law 743 = .ok (.iload 4, 2) := by decide +kernel
theorem dL_law_745 : decode cL_law 745 = .ok (.iconst 2, 1) := by decide +kernel
theorem dL_law_746 : decode cL_law 746 = .ok (.iadd, 1) := by decide +kernel
theorem dL_law_747 : decode cL_law 747 = .ok (.iaload, 1) := by decide +kernel
theorem dL_law_748 : decode cL_law 748 = .ok (.aload_n 0, 1) := by decide +kernel
theorem dL_law_749 : decode cL_law 749 = .ok (.iload 4, 2) := by decide +kernel
theorem dL_law_751 : decode cL_law 751 = .ok (.iconst 3, 1) := by decide +kernel
theorem dL_law_752 : decode cL_law 752 = .ok (.iadd, 1) := by decide +kernel
theorem dL_law_753 : decode cL_law 753 = .ok (.iaload, 1) := by decide +kernel
theorem dL_law_754 : decode cL_law 754 = .ok (.invokevirtual 148, 3) := by decide +kernel
theorem dL_law_757 : decode cL_law 757 = .ok (.istore 6, 2) := by decide +kernel
theorem dL_law_759 : decode cL_law 759 = .ok (.aload_n 2, 1) := by decide +kernel
theorem dL_law_760 : decode cL_law 760 = .ok (.invokevirtual 116, 3) := by decide +kernel
theorem dL_law_763 : decode cL_law 763 = .ok (.iload 5, 2) := by decide +kernel
theorem dL_law_765 : decode cL_law 765 = .ok (.if_icmp .eq 5, 3) := by decide +kernel
theorem dL_law_768 : decode cL_law 768 = .ok (.iconst 0, 1) := by decide +kernel
theorem dL_law_769 : decode cL_law 769 = .ok (.ireturn, 1) := by decide +kernel
theorem dL_law_770 : decode cL_law 770 = .ok (.iload 5, 2) := by decide +kernel
theorem dL_law_772 : decode cL_law 772 = .ok (.ifCond .ne 15, 3) := by decide +kernel
theorem dL_law_775 : decode cL_law 775 = .ok (.aload_n 3, 1) := by decide +kernel
theorem dL_law_776 : decode cL_law 776 = .ok (.iconst 0, 1) := by decide +kernel
theorem dL_law_777 : decode cL_law 777 = .ok (.laload, 1) := by decide +kernel
theorem dL_law_778 : decode cL_law 778 = .ok (.iload 6, 2) := by decide +kernel
theorem dL_law_780 : decode cL_law 780 = .ok (.i2l, 1) := by decide +kernel
theorem dL_law_781 : decode cL_law 781 = .ok (.lcmp, 1) := by decide +kernel
theorem dL_law_782 : decode cL_law 782 = .ok (.ifCond .eq 5, 3) := by decide +kernel
theorem dL_law_785 : decode cL_law 785 = .ok (.iconst 0, 1) := by decide +kernel
theorem dL_law_786 : decode cL_law 786 = .ok (.ireturn, 1) := by decide +kernel
theorem dL_law_787 : decode cL_law 787 = .ok (.goto 1099, 3) := by decide +kernel
theorem dL_law_790 : decode cL_law 790 = .ok (.aload_n 1, 1) := by decide +kernel
theorem dL_law_791 : decode cL_law 791 = .ok (.aload_n 0, 1) := by decide +kernel
theorem dL_law_792 : decode cL_law 792 = .ok (.iload 4, 2) := by decide +kernel
theorem dL_law_794 : decode cL_law 794 = .ok (.iconst 1, 1) := by decide +kernel
theorem dL_law_795 : decode cL_law 795 = .ok (.iadd, 1) := by decide +kernel
theorem dL_law_796 : decode cL_law 796 = .ok (.iaload, 1) := by decide +kernel
theorem dL_law_797 : decode cL_law 797 = .ok (.aload_n 0, 1) := by decide +kernel
theorem dL_law_798 : decode cL_law 798 = .ok (.iload 4, 2) := by decide +kernel
theorem dL_law_800 : decode cL_law 800 = .ok (.iconst 2, 1) := by decide +kernel
theorem dL_law_801 : decode cL_law 801 = .ok (.iadd, 1) := by decide +kernel
theorem dL_law_802 : decode cL_law 802 = .ok (.iaload, 1) := by decide +kernel
theorem dL_law_803 : decode cL_law 803 = .ok (.ifCond .eq 7, 3) := by decide +kernel
theorem dL_law_806 : decode cL_law 806 = .ok (.iconst 1, 1) := by decide +kernel
theorem dL_law_807 : decode cL_law 807 = .ok (.goto 4, 3) := by decide +kernel
theorem dL_law_810 : decode cL_law 810 = .ok (.iconst 0, 1) := by decide +kernel
theorem dL_law_811 : decode cL_law 811 = .ok (.aload_n 3, 1) := by decide +kernel
theorem dL_law_812 : decode cL_law 812 = .ok (.invokestatic 149, 3) := by decide +kernel
theorem dL_law_815 : decode cL_law 815 = .ok (.istore 5, 2) := by decide +kernel
theorem dL_law_817 : decode cL_law 817 = .ok (.aload_n 2, 1) := by decide +kernel
theorem dL_law_818 : decode cL_law 818 = .ok (.aload_n 0, 1) := by decide +kernel
theorem dL_law_819 : decode cL_law 819 = .ok (.iload 4, 2) := by decide +kernel
theorem dL_law_821 : decode cL_law 821 = .ok (.iconst 1, 1) := by decide +kernel
theorem dL_law_822 : decode cL_law 822 = .ok (.iadd, 1) := by decide +kernel
theorem dL_law_823 : decode cL_law 823 = .ok (.iaload, 1) := by decide +kernel
theorem dL_law_824 : decode cL_law 824 = .ok (.aload_n 0, 1) := by decide +kernel
theorem dL_law_825 : decode cL_law 825 = .ok (.iload 4, 2) := by decide +kernel
theorem dL_law_827 : decode cL_law 827 = .ok (.iconst 2, 1) := by decide +kernel
theorem dL_law_828 : decode cL_law 828 = .ok (.iadd, 1) := by decide +kernel
theorem dL_law_829 : decode cL_law 829 = .ok (.iaload, 1) := by decide +kernel
theorem dL_law_830 : decode cL_law 830 = .ok (.ifCond .eq 7, 3) := by decide +kernel
theorem dL_law_833 : decode cL_law 833 = .ok (.iconst 1, 1) := by decide +kernel
theorem dL_law_834 : decode cL_law 834 = .ok (.goto 4, 3) := by decide +kernel
theorem dL_law_837 : decode cL_law 837 = .ok (.iconst 0, 1) := by decide +kernel
theorem dL_law_838 : decode cL_law 838 = .ok (.invokevirtual 151, 3) := by decide +kernel
theorem dL_law_841 : decode cL_law 841 = .ok (.istore 6, 2) := by decide +kernel
theorem dL_law_843 : decode cL_law 843 = .ok (.aload_n 2, 1) := by decide +kernel
theorem dL_law_844 : decode cL_law 844 = .ok (.invokevirtual 116, 3) := by decide +kernel
theorem dL_law_847 : decode cL_law 847 = .ok (.iload 5, 2) := by decide +kernel
theorem dL_law_849 : decode cL_law 849 = .ok (.if_icmp .eq 5, 3) := by decide +kernel
theorem dL_law_852 : decode cL_law 852 = .ok (.iconst 0, 1) := by decide +kernel
theorem dL_law_853 : decode cL_law 853 = .ok (.ireturn, 1) := by decide +kernel
theorem dL_law_854 : decode cL_law 854 = .ok (.iload 5, 2) := by decide +kernel
theorem dL_law_856 : decode cL_law 856 = .ok (.ifCond .ne 22, 3) := by decide +kernel
theorem dL_law_859 : decode cL_law 859 = .ok (.aload_n 3, 1) := by decide +kernel
theorem dL_law_860 : decode cL_law 860 = .ok (.iconst 0, 1) := by decide +kernel
theorem dL_law_861 : decode cL_law 861 = .ok (.laload, 1) := by decide +kernel
theorem dL_law_862 : decode cL_law 862 = .ok (.iload 6, 2) := by decide +kernel
theorem dL_law_864 : decode cL_law 864 = .ok (.ifCond .eq 7, 3) := by decide +kernel
theorem dL_law_867 : decode cL_law 867 = .ok (.lconst 1, 1) := by decide +kernel
theorem dL_law_868 : decode cL_law 868 = .ok (.goto 4, 3) := by decide +kernel
theorem dL_law_871 : decode cL_law 871 = .ok (.lconst 0, 1) := by decide +kernel
theorem dL_law_872 : decode cL_law 872 = .ok (.lcmp, 1) := by decide +kernel
theorem dL_law_873 : decode cL_law 873 = .ok (.ifCond .eq 5, 3) := by decide +kernel
theorem dL_law_876 : decode cL_law 876 = .ok (.iconst 0, 1) := by decide +kernel
theorem dL_law_877 : decode cL_law 877 = .ok (.ireturn, 1) := by decide +kernel
theorem dL_law_878 : decode cL_law 878 = .ok (.goto 1008, 3) := by decide +kernel
theorem dL_law_881 : decode cL_law 881 = .ok (.aload_n 1, 1) := by decide +kernel
theorem dL_law_882 : decode cL_law 882 = .ok (.aload_n 0, 1) := by decide +kernel
theorem dL_law_883 : decode cL_law 883 = .ok (.iload 4, 2) := by decide +kernel
theorem dL_law_885 : decode cL_law 885 = .ok (.iconst 1, 1) := by decide +kernel
theorem dL_law_886 : decode cL_law 886 = .ok (.iadd, 1) := by decide +kernel
theorem dL_law_887 : decode cL_law 887 = .ok (.iaload, 1) := by decide +kernel
theorem dL_law_888 : decode cL_law 888 = .ok (.invokestatic 152, 3) := by decide +kernel
theorem dL_law_891 : decode cL_law 891 = .ok (.istore 5, 2) := by decide +kernel
theorem dL_law_893 : decode cL_law 893 = .ok (.aload_n 2, 1) := by decide +kernel
theorem dL_law_894 : decode cL_law 894 = .ok (.aload_n 0, 1) := by decide +kernel
theorem dL_law_895 : decode cL_law 895 = .ok (.iload 4, 2) := by decide +kernel
theorem dL_law_897 : decode cL_law 897 = .ok (.iconst 1, 1) := by decide +kernel
theorem dL_law_898 : decode cL_law 898 = .ok (.iadd, 1) := by decide +kernel
theorem dL_law_899 : decode cL_law 899 = .ok (.iaload, 1) := by decide +kernel
theorem dL_law_900 : decode cL_law 900 = .ok (.invokevirtual 154, 3) := by decide +kernel
theorem dL_law_903 : decode cL_law 903 = .ok (.aload_n 2, 1) := by decide +kernel
theorem dL_law_904 : decode cL_law 904 = .ok (.invokevirtual 116, 3) := by decide +kernel
theorem dL_law_907 : decode cL_law 907 = .ok (.iload 5, 2) := by decide +kernel
theorem dL_law_909 : decode cL_law 909 = .ok (.if_icmp .eq 5, 3) := by decide +kernel
theorem dL_law_912 : decode cL_law 912 = .ok (.iconst 0, 1) := by decide +kernel
theorem dL_law_913 : decode cL_law 913 = .ok (.ireturn, 1) := by decide +kernel
theorem dL_law_914 : decode cL_law 914 = .ok (.goto 972, 3) := by decide +kernel
theorem dL_law_917 : decode cL_law 917 = .ok (.aload_n 1, 1) := by decide +kernel
theorem dL_law_918 : decode cL_law 918 = .ok (.aload_n 0, 1) := by decide +kernel
theorem dL_law_919 : decode cL_law 919 = .ok (.iload 4, 2) := by decide +kernel
theorem dL_law_921 : decode cL_law 921 = .ok (.iconst 1, 1) := by decide +kernel
theorem dL_law_922 : decode cL_law 922 = .ok (.iadd, 1) := by decide +kernel
theorem dL_law_923 : decode cL_law 923 = .ok (.iaload, 1) := by decide +kernel
theorem dL_law_924 : decode cL_law 924 = .ok (.aload_n 0, 1) := by decide +kernel
theorem dL_law_925 : decode cL_law 925 = .ok (.iload 4, 2) := by decide +kernel
theorem dL_law_927 : decode cL_law 927 = .ok (.iconst 2, 1) := by decide +kernel
theorem dL_law_928 : decode cL_law 928 = .ok (.iadd, 1) := by decide +kernel
theorem dL_law_929 : decode cL_law 929 = .ok (.iaload, 1) := by decide +kernel
theorem dL_law_930 : decode cL_law 930 = .ok (.aload_n 3, 1) := by decide +kernel
theorem dL_law_931 : decode cL_law 931 = .ok (.invokestatic 155, 3) := by decide +kernel
theorem dL_law_934 : decode cL_law 934 = .ok (.istore 5, 2) := by decide +kernel
theorem dL_law_936 : decode cL_law 936 = .ok (.aload_n 2, 1) := by decide +kernel
theorem dL_law_937 : decode cL_law 937 = .ok (.aload_n 0, 1) := by decide +kernel
theorem dL_law_938 : decode cL_law 938 = .ok (.iload 4, 2) := by decide +kernel
theorem dL_law_940 : decode cL_law 940 = .ok (.iconst 1, 1) := by decide +kernel
theorem dL_law_941 : decode cL_law 941 = .ok (.iadd, 1) := by decide +kernel
theorem dL_law_942 : decode cL_law 942 = .ok (.iaload, 1) := by decide +kernel
theorem dL_law_943 : decode cL_law 943 = .ok (.aload_n 0, 1) := by decide +kernel
theorem dL_law_944 : decode cL_law 944 = .ok (.iload 4, 2) := by decide +kernel
theorem dL_law_946 : decode cL_law 946 = .ok (.iconst 2, 1) := by decide +kernel
theorem dL_law_947 : decode cL_law 947 = .ok (.iadd, 1) := by decide +kernel
theorem dL_law_948 : decode cL_law 948 = .ok (.iaload, 1) := by decide +kernel
theorem dL_law_949 : decode cL_law 949 = .ok (.invokevirtual 157, 3) := by decide +kernel
theorem dL_law_952 : decode cL_law 952 = .ok (.istore 6, 2) := by decide +kernel
theorem dL_law_954 : decode cL_law 954 = .ok (.aload_n 2, 1) := by decide +kernel
theorem dL_law_955 : decode cL_law 955 = .ok (.invokevirtual 116, 3) := by decide +kernel
theorem dL_law_958 : decode cL_law 958 = .ok (.iload 5, 2) := by decide +kernel
theorem dL_law_960 : decode cL_law 960 = .ok (.if_icmp .eq 5, 3) := by decide +kernel
theorem dL_law_963 : decode cL_law 963 = .ok (.iconst 0, 1) := by decide +kernel
theorem dL_law_964 : decode cL_law 964 = .ok (.ireturn, 1) := by decide +kernel
theorem dL_law_965 : decode cL_law 965 = .ok (.iload 5, 2) := by decide +kernel
theorem dL_law_967 : decode cL_law 967 = .ok (.ifCond .ne 15, 3) := by decide +kernel
theorem dL_law_970 : decode cL_law 970 = .ok (.aload_n 3, 1) := by decide +kernel
theorem dL_law_971 : decode cL_law 971 = .ok (.iconst 0, 1) := by decide +kernel
theorem dL_law_972 : decode cL_law 972 = .ok (.laload, 1) := by decide +kernel
theorem dL_law_973 : decode cL_law 973 = .ok (.iload 6, 2) := by decide +kernel
theorem dL_law_975 : decode cL_law 975 = .ok (.i2l, 1) := by decide +kernel
theorem dL_law_976 : decode cL_law 976 = .ok (.lcmp, 1) := by decide +kernel
theorem dL_law_977 : decode cL_law 977 = .ok (.ifCond .eq 5, 3) := by decide +kernel
theorem dL_law_980 : decode cL_law 980 = .ok (.iconst 0, 1) := by decide +kernel
theorem dL_law_981 : decode cL_law 981 = .ok (.ireturn, 1) := by decide +kernel
theorem dL_law_982 : decode cL_law 982 = .ok (.goto 904, 3) := by decide +kernel
theorem dL_law_985 : decode cL_law 985 = .ok (.aload_n 1, 1) := by decide +kernel
theorem dL_law_986 : decode cL_law 986 = .ok (.aload_n 0, 1) := by decide +kernel
theorem dL_law_987 : decode cL_law 987 = .ok (.iload 4, 2) := by decide +kernel
