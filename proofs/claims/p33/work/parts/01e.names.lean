theorem dX2_terminate_117 : decode cX2_terminate 117 = .ok (.iload 10, 2) := by decide +kernel
theorem dX2_terminate_119 : decode cX2_terminate 119 = .ok (.invokestatic 164, 3) := by decide +kernel
theorem dX2_terminate_122 : decode cX2_terminate 122 = .ok (.ifCond .eq 29, 3) := by decide +kernel
theorem dX2_terminate_125 : decode cX2_terminate 125 = .ok (.aload_n 0, 1) := by decide +kernel
theorem dX2_terminate_126 : decode cX2_terminate 126 = .ok (.iload 10, 2) := by decide +kernel
theorem dX2_terminate_128 : decode cX2_terminate 128 = .ok (.invokevirtual 262, 3) := by decide +kernel
theorem dX2_terminate_131 : decode cX2_terminate 131 = .ok (.ifCond .eq 20, 3) := by decide +kernel
theorem dX2_terminate_134 : decode cX2_terminate 134 = .ok (.aload_n 0, 1) := by decide +kernel
theorem dX2_terminate_135 : decode cX2_terminate 135 = .ok (.iload 10, 2) := by decide +kernel
theorem dX2_terminate_137 : decode cX2_terminate 137 = .ok (.iconst 0, 1) := by decide +kernel
theorem dX2_terminate_138 : decode cX2_terminate 138 = .ok (.invokevirtual 134, 3) := by decide +kernel
theorem dX2_terminate_141 : decode cX2_terminate 141 = .ok (.pop, 1) := by decide +kernel
theorem dX2_terminate_142 : decode cX2_terminate 142 = .ok (.aload_n 0, 1) := by decide +kernel
theorem dX2_terminate_143 : decode cX2_terminate 143 = .ok (.iload 10, 2) := by decide +kernel
theorem dX2_terminate_145 : decode cX2_terminate 145 = .ok (.bipush 7, 2) := by decide +kernel
theorem dX2_terminate_147 : decode cX2_terminate 147 = .ok (.invokevirtual 134, 3) := by decide +kernel
theorem dX2_terminate_150 : decode cX2_terminate 150 = .ok (.pop, 1) := by decide +kernel
theorem dX2_terminate_151 : decode cX2_terminate 151 = .ok (.iinc 10 1, 3) := by decide +kernel
theorem dX2_terminate_154 : decode cX2_terminate 154 = .ok (.goto (-46), 3) := by decide +kernel
theorem dX2_terminate_157 : decode cX2_terminate 157 = .ok (.aload_n 0, 1) := by decide +kernel
theorem dX2_terminate_158 : decode cX2_terminate 158 = .ok (.getfield 18, 3) := by decide +kernel
theorem dX2_terminate_161 : decode cX2_terminate 161 = .ok (.bipush 9, 2) := by decide +kernel
theorem dX2_terminate_163 : decode cX2_terminate 163 = .ok (.aload_n 1, 1) := by decide +kernel
theorem dX2_terminate_164 : decode cX2_terminate 164 = .ok (.getfield 151, 3) := by decide +kernel
theorem dX2_terminate_167 : decode cX2_terminate 167 = .ok (.invokevirtual 131, 3) := by decide +kernel
theorem dX2_terminate_170 : decode cX2_terminate 170 = .ok (.return_, 1) := by decide +kernel
set_option maxRecDepth 20000 in
theorem ggX2_handOverChildren_X2_heirOf : GoodIn wsX2_handOverChildren wsX2_heirOf := goodIn_r _ [9, 2, 10, 3, 11, 12, 13, 8, 14, 1, 19, 20, 21, 22, 23, 24, 25, 26, 27, 28, 29, 30, 31, 32, 33, 34, 35, 36, 37, 38, 15, 16, 17, 18] (by decide +kernel) (by decide +kernel)
set_option maxRecDepth 20000 in
theorem gX2_handOverChildren_X2_heirOf : GoodIn wsX2_handOverChildren (wsV RX2 265 RX2 yX2_heirOf wsX2_heirOf) := goodIn_app (goodIn_of _ (by decide +kernel)) ggX2_handOverChildren_X2_heirOf
theorem dX2_handOverChildren_0 : decode cX2_handOverChildren 0 = .ok (.aload_n 0, 1) := by decide +kernel
theorem dX2_handOverChildren_1 : decode cX2_handOverChildren 1 = .ok (.aload_n 1, 1) := by decide +kernel
theorem dX2_handOverChildren_2 : decode cX2_handOverChildren 2 = .ok (.invokevirtual 265, 3) := by decide +kernel
theorem dX2_handOverChildren_5 : decode cX2_handOverChildren 5 = .ok (.astore_n 2, 1) := by decide +kernel
theorem dX2_handOverChildren_6 : decode cX2_handOverChildren 6 = .ok (.lconst 0, 1) := by decide +kernel
theorem dX2_handOverChildren_7 : decode cX2_handOverChildren 7 = .ok (.lstore_n 3, 1) := by decide +kernel
theorem dX2_handOverChildren_8 : decode cX2_handOverChildren 8 = .ok (.aload_n 0, 1) := by decide +kernel
theorem dX2_handOverChildren_9 : decode cX2_handOverChildren 9 = .ok (.getfield 11, 3) := by decide +kernel
theorem dX2_handOverChildren_12 : decode cX2_handOverChildren 12 = .ok (.astore 5, 2) := by decide +kernel
theorem dX2_handOverChildren_14 : decode cX2_handOverChildren 14 = .ok (.aload 5, 2) := by decide +kernel
theorem dX2_handOverChildren_16 : decode cX2_handOverChildren 16 = .ok (.arraylength, 1) := by decide +kernel
theorem dX2_handOverChildren_17 : decode cX2_handOverChildren 17 = .ok (.istore 6, 2) := by decide +kernel
theorem dX2_handOverChildren_19 : decode cX2_handOverChildren 19 = .ok (.iconst 0, 1) := by decide +kernel
theorem dX2_handOverChildren_20 : decode cX2_handOverChildren 20 = .ok (.istore 7, 2) := by decide +kernel
theorem dX2_handOverChildren_22 : decode cX2_handOverChildren 22 = .ok (.iload 7, 2) := by decide +kernel
theorem dX2_handOverChildren_24 : decode cX2_handOverChildren 24 = .ok (.iload 6, 2) := by decide +kernel
theorem dX2_handOverChildren_26 : decode cX2_handOverChildren 26 = .ok (.if_icmp .ge 58, 3) := by decide +kernel
theorem dX2_handOverChildren_29 : decode cX2_handOverChildren 29 = .ok (.aload 5, 2) := by decide +kernel
theorem dX2_handOverChildren_31 : decode cX2_handOverChildren 31 = .ok (.iload 7, 2) := by decide +kernel
theorem dX2_handOverChildren_33 : decode cX2_handOverChildren 33 = .ok (.aaload, 1) := by decide +kernel
theorem dX2_handOverChildren_34 : decode cX2_handOverChildren 34 = .ok (.astore 8, 2) := by decide +kernel
theorem dX2_handOverChildren_36 : decode cX2_handOverChildren 36 = .ok (.aload 8, 2) := by decide +kernel
theorem dX2_handOverChildren_38 : decode cX2_handOverChildren 38 = .ok (.ifnull 40, 3) := by decide +kernel
theorem dX2_handOverChildren_41 : decode cX2_handOverChildren 41 = .ok (.aload 8, 2) := by decide +kernel
theorem dX2_handOverChildren_43 : decode cX2_handOverChildren 43 = .ok (.getfield 147, 3) := by decide +kernel
theorem dX2_handOverChildren_46 : decode cX2_handOverChildren 46 = .ok (.aload_n 1, 1) := by decide +kernel
theorem dX2_handOverChildren_47 : decode cX2_handOverChildren 47 = .ok (.if_acmp .ne 31, 3) := by decide +kernel
theorem dX2_handOverChildren_50 : decode cX2_handOverChildren 50 = .ok (.aload 8, 2) := by decide +kernel
theorem dX2_handOverChildren_52 : decode cX2_handOverChildren 52 = .ok (.aload_n 2, 1) := by decide +kernel
theorem dX2_handOverChildren_53 : decode cX2_handOverChildren 53 = .ok (.putfield 147, 3) := by decide +kernel
theorem dX2_handOverChildren_56 : decode cX2_handOverChildren 56 = .ok (.lload_n 3, 1) := by decide +kernel
theorem dX2_handOverChildren_57 : decode cX2_handOverChildren 57 = .ok (.aload 8, 2) := by decide +kernel
theorem dX2_handOverChildren_59 : decode cX2_handOverChildren 59 = .ok (.getfield 194, 3) := by decide +kernel
theorem dX2_handOverChildren_62 : decode cX2_handOverChildren 62 = .ok (.ifCond .eq 13, 3) := by decide +kernel
theorem dX2_handOverChildren_65 : decode cX2_handOverChildren 65 = .ok (.lconst 1, 1) := by decide +kernel
theorem dX2_handOverChildren_66 : decode cX2_handOverChildren 66 = .ok (.aload 8, 2) := by decide +kernel
theorem dX2_handOverChildren_68 : decode cX2_handOverChildren 68 = .ok (.getfield 151, 3) := by decide +kernel
theorem dX2_handOverChildren_71 : decode cX2_handOverChildren 71 = .ok (.lshl, 1) := by decide +kernel
theorem dX2_handOverChildren_72 : decode cX2_handOverChildren 72 = .ok (.goto 4, 3) := by decide +kernel
theorem dX2_handOverChildren_75 : decode cX2_handOverChildren 75 = .ok (.lconst 0, 1) := by decide +kernel
theorem dX2_handOverChildren_76 : decode cX2_handOverChildren 76 = .ok (.lor, 1) := by decide +kernel
theorem dX2_handOverChildren_77 : decode cX2_handOverChildren 77 = .ok (.lstore_n 3, 1) := by decide +kernel
theorem dX2_handOverChildren_78 : decode cX2_handOverChildren 78 = .ok (.iinc 7 1, 3) := by decide +kernel
theorem dX2_handOverChildren_81 : decode cX2_handOverChildren 81 = .ok (.goto (-59), 3) := by decide +kernel
theorem dX2_handOverChildren_84 : decode cX2_handOverChildren 84 = .ok (.lload_n 3, 1) := by decide +kernel
theorem dX2_handOverChildren_85 : decode cX2_handOverChildren 85 = .ok (.lreturn, 1) := by decide +kernel
set_option maxRecDepth 20000 in
theorem ggX2_heirOf_X2_lookUp : GoodIn wsX2_heirOf wsX2_lookUp := goodIn_r _ [8, 9, 30, 31, 32, 33] (by decide +kernel) (by decide +kernel)
set_option maxRecDepth 20000 in
theorem gX2_heirOf_X2_lookUp : GoodIn wsX2_heirOf (wsV RX2 144 RX2 yX2_lookUp wsX2_lookUp) := goodIn_app (goodIn_of _ (by decide +kernel)) ggX2_heirOf_X2_lookUp
theorem dX2_heirOf_0 : decode cX2_heirOf 0 = .ok (.aload_n 1, 1) := by decide +kernel
theorem dX2_heirOf_1 : decode cX2_heirOf 1 = .ok (.getfield 147, 3) := by decide +kernel
theorem dX2_heirOf_4 : decode cX2_heirOf 4 = .ok (.astore_n 2, 1) := by decide +kernel
theorem dX2_heirOf_5 : decode cX2_heirOf 5 = .ok (.iconst 0, 1) := by decide +kernel
theorem dX2_heirOf_6 : decode cX2_heirOf 6 = .ok (.istore_n 3, 1) := by decide +kernel
theorem dX2_heirOf_7 : decode cX2_heirOf 7 = .ok (.iload_n 3, 1) := by decide +kernel
theorem dX2_heirOf_8 : decode cX2_heirOf 8 = .ok (.bipush 40, 2) := by decide +kernel
theorem dX2_heirOf_10 : decode cX2_heirOf 10 = .ok (.if_icmp .ge 34, 3) := by decide +kernel
theorem dX2_heirOf_13 : decode cX2_heirOf 13 = .ok (.aload_n 2, 1) := by decide +kernel
theorem dX2_heirOf_14 : decode cX2_heirOf 14 = .ok (.ifnull 30, 3) := by decide +kernel
theorem dX2_heirOf_17 : decode cX2_heirOf 17 = .ok (.aload_n 2, 1) := by decide +kernel
theorem dX2_heirOf_18 : decode cX2_heirOf 18 = .ok (.getfield 119, 3) := by decide +kernel
theorem dX2_heirOf_21 : decode cX2_heirOf 21 = .ok (.ifCond .eq 12, 3) := by decide +kernel
theorem dX2_heirOf_24 : decode cX2_heirOf 24 = .ok (.aload_n 2, 1) := by decide +kernel
theorem dX2_heirOf_25 : decode cX2_heirOf 25 = .ok (.getfield 194, 3) := by decide +kernel
theorem dX2_heirOf_28 : decode cX2_heirOf 28 = .ok (.ifCond .ne 5, 3) := by decide +kernel
theorem dX2_heirOf_31 : decode cX2_heirOf 31 = .ok (.aload_n 2, 1) := by decide +kernel
theorem dX2_heirOf_32 : decode cX2_heirOf 32 = .ok (.areturn, 1) := by decide +kernel
theorem dX2_heirOf_33 : decode cX2_heirOf 33 = .ok (.aload_n 2, 1) := by decide +kernel
theorem dX2_heirOf_34 : decode cX2_heirOf 34 = .ok (.getfield 147, 3) := by decide +kernel
theorem dX2_heirOf_37 : decode cX2_heirOf 37 = .ok (.astore_n 2, 1) := by decide +kernel
theorem dX2_heirOf_38 : decode cX2_heirOf 38 = .ok (.iinc 3 1, 3) := by decide +kernel
theorem dX2_heirOf_41 : decode cX2_heirOf 41 = .ok (.goto (-34), 3) := by decide +kernel
theorem dX2_heirOf_44 : decode cX2_heirOf 44 = .ok (.aload_n 0, 1) := by decide +kernel
theorem dX2_heirOf_45 : decode cX2_heirOf 45 = .ok (.iconst 1, 1) := by decide +kernel
theorem dX2_heirOf_46 : decode cX2_heirOf 46 = .ok (.invokevirtual 144, 3) := by decide +kernel
theorem dX2_heirOf_49 : decode cX2_heirOf 49 = .ok (.areturn, 1) := by decide +kernel
set_option maxRecDepth 20000 in
theorem ggX2_beginWait_X2_checkWait : GoodIn wsX2_beginWait wsX2_checkWait := goodIn_r _ [8, 9, 10, 11, 12, 13, 14, 15, 16, 17, 18, 19, 20, 21, 22, 23, 24, 25, 26, 27, 28, 29, 30, 31, 32, 33, 7, 34, 35, 36, 37, 38, 39, 40, 41, 42, 43, 44, 45, 46, 47, 48, 49, 70, 71, 72, 73, 50, 51, 52, 53, 54, 55, 56, 57, 58, 59, 60, 61, 62, 63, 64, 65, 66, 67, 68, 69] (by decide +kernel) (by decide +kernel)
set_option maxRecDepth 20000 in
theorem gX2_beginWait_X2_checkWait : GoodIn wsX2_beginWait (wsV RX2 241 RX2 yX2_checkWait wsX2_checkWait) := goodIn_app (goodIn_of _ (by decide +kernel)) ggX2_beginWait_X2_checkWait
theorem dX2_beginWait_0 : decode cX2_beginWait 0 = .ok (.aload_n 1, 1) := by decide +kernel
theorem dX2_beginWait_1 : decode cX2_beginWait 1 = .ok (.iconst 1, 1) := by decide +kernel
theorem dX2_beginWait_2 : decode cX2_beginWait 2 = .ok (.putfield 269, 3) := by decide +kernel
theorem dX2_beginWait_5 : decode cX2_beginWait 5 = .ok (.aload_n 1, 1) := by decide +kernel
theorem dX2_beginWait_6 : decode cX2_beginWait 6 = .ok (.iload_n 2, 1) := by decide +kernel
theorem dX2_beginWait_7 : decode cX2_beginWait 7 = .ok (.putfield 272, 3) := by decide +kernel
theorem dX2_beginWait_10 : decode cX2_beginWait 10 = .ok (.aload_n 1, 1) := by decide +kernel
theorem dX2_beginWait_11 : decode cX2_beginWait 11 = .ok (.iload_n 3, 1) := by decide +kernel
theorem dX2_beginWait_12 : decode cX2_beginWait 12 = .ok (.putfield 275, 3) := by decide +kernel
theorem dX2_beginWait_15 : decode cX2_beginWait 15 = .ok (.aload_n 0, 1) := by decide +kernel
theorem dX2_beginWait_16 : decode cX2_beginWait 16 = .ok (.aload_n 1, 1) := by decide +kernel
theorem dX2_beginWait_17 : decode cX2_beginWait 17 = .ok (.invokevirtual 241, 3) := by decide +kernel
theorem dX2_beginWait_20 : decode cX2_beginWait 20 = .ok (.aload_n 1, 1) := by decide +kernel
theorem dX2_beginWait_21 : decode cX2_beginWait 21 = .ok (.getfield 269, 3) := by decide +kernel
theorem dX2_beginWait_24 : decode cX2_beginWait 24 = .ok (.ifCond .ne 7, 3) := by decide +kernel
theorem dX2_beginWait_27 : decode cX2_beginWait 27 = .ok (.iconst 1, 1) := by decide +kernel
theorem dX2_beginWait_28 : decode cX2_beginWait 28 = .ok (.goto 4, 3) := by decide +kernel
theorem dX2_beginWait_31 : decode cX2_beginWait 31 = .ok (.iconst 0, 1) := by decide +kernel
theorem dX2_beginWait_32 : decode cX2_beginWait 32 = .ok (.ireturn, 1) := by decide +kernel
set_option maxRecDepth 20000 in
theorem ggX2_checkWait_X1_condition : GoodIn wsX2_checkWait wsX1_condition := goodIn_r _ [6, 7, 8, 9, 47, 48, 49, 50, 51, 52, 53, 54, 55, 56, 57, 58, 59, 60, 61, 62, 63, 64, 65, 66] (by decide +kernel) (by decide +kernel)
set_option maxRecDepth 20000 in
theorem gX2_checkWait_X1_condition : GoodIn wsX2_checkWait (wsV RX2 40 RX1 yX1_condition wsX1_condition) := goodIn_app (goodIn_of _ (by decide +kernel)) ggX2_checkWait_X1_condition
set_option maxRecDepth 20000 in
theorem ggX2_checkWait_X1_awaits : GoodIn wsX2_checkWait wsX1_awaits := goodIn_r _ [13, 14, 15, 16, 47, 48, 49, 50, 51, 52, 53, 54, 55, 56, 57, 58, 59, 60, 61, 62, 63, 64, 65, 66] (by decide +kernel) (by decide +kernel)
set_option maxRecDepth 20000 in
theorem gX2_checkWait_X1_awaits : GoodIn wsX2_checkWait (wsV RX2 278 RX1 yX1_awaits wsX1_awaits) := goodIn_app (goodIn_of _ (by decide +kernel)) ggX2_checkWait_X1_awaits
set_option maxRecDepth 20000 in
theorem ggX2_checkWait_X1_canReport : GoodIn wsX2_checkWait wsX1_canReport := goodIn_r _ [20, 21, 22, 47, 48, 49, 50, 51, 52, 53, 54, 55, 56, 57, 58, 59, 60, 61, 62, 63, 64, 65, 66] (by decide +kernel) (by decide +kernel)
set_option maxRecDepth 20000 in
theorem gX2_checkWait_X1_canReport : GoodIn wsX2_checkWait (wsV RX2 282 RX1 yX1_canReport wsX1_canReport) := goodIn_app (goodIn_of _ (by decide +kernel)) ggX2_checkWait_X1_canReport
set_option maxRecDepth 20000 in
theorem ggX2_checkWait_X2_report : GoodIn wsX2_checkWait wsX2_report := goodIn_r _ [27, 28, 29, 30, 31, 32, 33, 34, 5, 35, 9, 36, 37, 38, 39, 40, 41, 26, 42, 1, 47, 48, 49, 50, 51, 52, 53, 54, 55, 56, 57, 58, 59, 60, 61, 62, 63, 64, 65, 66, 43, 44, 45, 46] (by decide +kernel) (by decide +kernel)
set_option maxRecDepth 20000 in
theorem gX2_checkWait_X2_report : GoodIn wsX2_checkWait (wsV RX2 285 RX2 yX2_report wsX2_report) := goodIn_app (goodIn_of _ (by decide +kernel)) ggX2_checkWait_X2_report
set_option maxRecDepth 20000 in
theorem ggX2_checkWait_X1_endWait : GoodIn wsX2_checkWait wsX1_endWait := goodIn_r _ [35, 9, 36, 37, 38, 47, 48, 49, 50, 51, 52, 53, 54, 55, 56, 57, 58, 59, 60, 61, 62, 63, 64, 65, 66] (by decide +kernel) (by decide +kernel)
set_option maxRecDepth 20000 in
theorem gX2_checkWait_X1_endWait : GoodIn wsX2_checkWait (wsV RX2 288 RX1 yX1_endWait wsX1_endWait) := goodIn_app (goodIn_of _ (by decide +kernel)) ggX2_checkWait_X1_endWait
theorem dX2_checkWait_0 : decode cX2_checkWait 0 = .ok (.aload_n 1, 1) := by decide +kernel
theorem dX2_checkWait_1 : decode cX2_checkWait 1 = .ok (.invokevirtual 40, 3) := by decide +kernel
theorem dX2_checkWait_4 : decode cX2_checkWait 4 = .ok (.iconst 1, 1) := by decide +kernel
theorem dX2_checkWait_5 : decode cX2_checkWait 5 = .ok (.if_icmp .eq 4, 3) := by decide +kernel
theorem dX2_checkWait_8 : decode cX2_checkWait 8 = .ok (.return_, 1) := by decide +kernel
theorem dX2_checkWait_9 : decode cX2_checkWait 9 = .ok (.iconst 1, 1) := by decide +kernel
theorem dX2_checkWait_10 : decode cX2_checkWait 10 = .ok (.istore_n 2, 1) := by decide +kernel
theorem dX2_checkWait_11 : decode cX2_checkWait 11 = .ok (.aload_n 0, 1) := by decide +kernel
theorem dX2_checkWait_12 : decode cX2_checkWait 12 = .ok (.getfield 11, 3) := by decide +kernel
theorem dX2_checkWait_15 : decode cX2_checkWait 15 = .ok (.astore_n 3, 1) := by decide +kernel
theorem dX2_checkWait_16 : decode cX2_checkWait 16 = .ok (.aload_n 3, 1) := by decide +kernel
theorem dX2_checkWait_17 : decode cX2_checkWait 17 = .ok (.arraylength, 1) := by decide +kernel
theorem dX2_checkWait_18 : decode cX2_checkWait 18 = .ok (.istore 4, 2) := by decide +kernel
theorem dX2_checkWait_20 : decode cX2_checkWait 20 = .ok (.iconst 0, 1) := by decide +kernel
theorem dX2_checkWait_21 : decode cX2_checkWait 21 = .ok (.istore 5, 2) := by decide +kernel
theorem dX2_checkWait_23 : decode cX2_checkWait 23 = .ok (.iload 5, 2) := by decide +kernel
theorem dX2_checkWait_25 : decode cX2_checkWait 25 = .ok (.iload 4, 2) := by decide +kernel
theorem dX2_checkWait_27 : decode cX2_checkWait 27 = .ok (.if_icmp .ge 48, 3) := by decide +kernel
theorem dX2_checkWait_30 : decode cX2_checkWait 30 = .ok (.aload_n 3, 1) := by decide +kernel
theorem dX2_checkWait_31 : decode cX2_checkWait 31 = .ok (.iload 5, 2) := by decide +kernel
theorem dX2_checkWait_33 : decode cX2_checkWait 33 = .ok (.aaload, 1) := by decide +kernel
theorem dX2_checkWait_34 : decode cX2_checkWait 34 = .ok (.astore 6, 2) := by decide +kernel
theorem dX2_checkWait_36 : decode cX2_checkWait 36 = .ok (.aload 6, 2) := by decide +kernel
theorem dX2_checkWait_38 : decode cX2_checkWait 38 = .ok (.ifnull 31, 3) := by decide +kernel
theorem dX2_checkWait_41 : decode cX2_checkWait 41 = .ok (.aload_n 1, 1) := by decide +kernel
theorem dX2_checkWait_42 : decode cX2_checkWait 42 = .ok (.aload 6, 2) := by decide +kernel
theorem dX2_checkWait_44 : decode cX2_checkWait 44 = .ok (.invokevirtual 278, 3) := by decide +kernel
theorem dX2_checkWait_47 : decode cX2_checkWait 47 = .ok (.ifCond .eq 22, 3) := by decide +kernel
theorem dX2_checkWait_50 : decode cX2_checkWait 50 = .ok (.iconst 0, 1) := by decide +kernel
theorem dX2_checkWait_51 : decode cX2_checkWait 51 = .ok (.istore_n 2, 1) := by decide +kernel
theorem dX2_checkWait_52 : decode cX2_checkWait 52 = .ok (.aload_n 1, 1) := by decide +kernel
theorem dX2_checkWait_53 : decode cX2_checkWait 53 = .ok (.aload 6, 2) := by decide +kernel
theorem dX2_checkWait_55 : decode cX2_checkWait 55 = .ok (.invokevirtual 282, 3) := by decide +kernel
theorem dX2_checkWait_58 : decode cX2_checkWait 58 = .ok (.ifCond .eq 11, 3) := by decide +kernel
theorem dX2_checkWait_61 : decode cX2_checkWait 61 = .ok (.aload_n 0, 1) := by decide +kernel
theorem dX2_checkWait_62 : decode cX2_checkWait 62 = .ok (.aload_n 1, 1) := by decide +kernel
theorem dX2_checkWait_63 : decode cX2_checkWait 63 = .ok (.aload 6, 2) := by decide +kernel
theorem dX2_checkWait_65 : decode cX2_checkWait 65 = .ok (.invokevirtual 285, 3) := by decide +kernel
theorem dX2_checkWait_68 : decode cX2_checkWait 68 = .ok (.return_, 1) := by decide +kernel
theorem dX2_checkWait_69 : decode cX2_checkWait 69 = .ok (.iinc 5 1, 3) := by decide +kernel
theorem dX2_checkWait_72 : decode cX2_checkWait 72 = .ok (.goto (-49), 3) := by decide +kernel
theorem dX2_checkWait_75 : decode cX2_checkWait 75 = .ok (.iload_n 2, 1) := by decide +kernel
theorem dX2_checkWait_76 : decode cX2_checkWait 76 = .ok (.ifCond .eq 10, 3) := by decide +kernel
theorem dX2_checkWait_79 : decode cX2_checkWait 79 = .ok (.aload_n 1, 1) := by decide +kernel
theorem dX2_checkWait_80 : decode cX2_checkWait 80 = .ok (.iconst 4, 1) := by decide +kernel
theorem dX2_checkWait_81 : decode cX2_checkWait 81 = .ok (.iconst (-1), 1) := by decide +kernel
theorem dX2_checkWait_82 : decode cX2_checkWait 82 = .ok (.iconst (-1), 1) := by decide +kernel
theorem dX2_checkWait_83 : decode cX2_checkWait 83 = .ok (.invokevirtual 288, 3) := by decide +kernel
theorem dX2_checkWait_86 : decode cX2_checkWait 86 = .ok (.return_, 1) := by decide +kernel
set_option maxRecDepth 20000 in
theorem ggX2_report_X1_endWait : GoodIn wsX2_report wsX1_endWait := goodIn_r _ [9, 10, 11, 12, 13, 20, 21, 22, 23, 24, 25, 26, 27, 28, 29, 30, 31, 32, 33, 34, 35, 36, 37, 38, 39] (by decide +kernel) (by decide +kernel)
set_option maxRecDepth 20000 in
theorem gX2_report_X1_endWait : GoodIn wsX2_report (wsV RX2 288 RX1 yX1_endWait wsX1_endWait) := goodIn_app (goodIn_of _ (by decide +kernel)) ggX2_report_X1_endWait
set_option maxRecDepth 20000 in
theorem ggX2_report_X2_remove : GoodIn wsX2_report wsX2_remove := goodIn_r _ [18, 2, 19, 20, 21, 22, 23, 24, 25, 26, 27, 28, 29, 30, 31, 32, 33, 34, 35, 36, 37, 38, 39, 40, 41, 42, 43] (by decide +kernel) (by decide +kernel)
set_option maxRecDepth 20000 in
theorem gX2_report_X2_remove : GoodIn wsX2_report (wsV RX2 235 RX2 yX2_remove wsX2_remove) := goodIn_app (goodIn_of _ (by decide +kernel)) ggX2_report_X2_remove
theorem dX2_report_0 : decode cX2_report 0 = .ok (.aload_n 1, 1) := by decide +kernel
theorem dX2_report_1 : decode cX2_report 1 = .ok (.aload_n 2, 1) := by decide +kernel
theorem dX2_report_2 : decode cX2_report 2 = .ok (.getfield 247, 3) := by decide +kernel
theorem dX2_report_5 : decode cX2_report 5 = .ok (.aload_n 2, 1) := by decide +kernel
theorem dX2_report_6 : decode cX2_report 6 = .ok (.getfield 151, 3) := by decide +kernel
theorem dX2_report_9 : decode cX2_report 9 = .ok (.aload_n 2, 1) := by decide +kernel
theorem dX2_report_10 : decode cX2_report 10 = .ok (.getfield 250, 3) := by decide +kernel
theorem dX2_report_13 : decode cX2_report 13 = .ok (.invokevirtual 288, 3) := by decide +kernel
theorem dX2_report_16 : decode cX2_report 16 = .ok (.aload_n 2, 1) := by decide +kernel
theorem dX2_report_17 : decode cX2_report 17 = .ok (.iconst (-1), 1) := by decide +kernel
theorem dX2_report_18 : decode cX2_report 18 = .ok (.putfield 247, 3) := by decide +kernel
theorem dX2_report_21 : decode cX2_report 21 = .ok (.aload_n 2, 1) := by decide +kernel
theorem dX2_report_22 : decode cX2_report 22 = .ok (.getfield 194, 3) := by decide +kernel
theorem dX2_report_25 : decode cX2_report 25 = .ok (.ifCond .eq 8, 3) := by decide +kernel
theorem dX2_report_28 : decode cX2_report 28 = .ok (.aload_n 0, 1) := by decide +kernel
theorem dX2_report_29 : decode cX2_report 29 = .ok (.aload_n 2, 1) := by decide +kernel
theorem dX2_report_30 : decode cX2_report 30 = .ok (.invokevirtual 235, 3) := by decide +kernel
theorem dX2_report_33 : decode cX2_report 33 = .ok (.return_, 1) := by decide +kernel
theorem dJ6_bitCount_0f7a4_0 : decode cJ6_bitCount_0f7a4 0 = .ok (.iload_n 0, 1) := by decide +kernel
theorem dJ6_bitCount_0f7a4_1 : decode cJ6_bitCount_0f7a4 1 = .ok (.iload_n 0, 1) := by decide +kernel
theorem dJ6_bitCount_0f7a4_2 : decode cJ6_bitCount_0f7a4 2 = .ok (.iconst 1, 1) := by decide +kernel
theorem dJ6_bitCount_0f7a4_3 : decode cJ6_bitCount_0f7a4 3 = .ok (.iushr, 1) := by decide +kernel
theorem dJ6_bitCount_0f7a4_4 : decode cJ6_bitCount_0f7a4 4 = .ok (.ldc_w 265, 3) := by decide +kernel
theorem dJ6_bitCount_0f7a4_7 : decode cJ6_bitCount_0f7a4 7 = .ok (.iand, 1) := by decide +kernel
theorem dJ6_bitCount_0f7a4_8 : decode cJ6_bitCount_0f7a4 8 = .ok (.isub, 1) := by decide +kernel
theorem dJ6_bitCount_0f7a4_9 : decode cJ6_bitCount_0f7a4 9 = .ok (.istore_n 0, 1) := by decide +kernel
theorem dJ6_bitCount_0f7a4_10 : decode cJ6_bitCount_0f7a4 10 = .ok (.iload_n 0, 1) := by decide +kernel
theorem dJ6_bitCount_0f7a4_11 : decode cJ6_bitCount_0f7a4 11 = .ok (.ldc_w 266, 3) := by decide +kernel
theorem dJ6_bitCount_0f7a4_14 : decode cJ6_bitCount_0f7a4 14 = .ok (.iand, 1) := by decide +kernel
theorem dJ6_bitCount_0f7a4_15 : decode cJ6_bitCount_0f7a4 15 = .ok (.iload_n 0, 1) := by decide +kernel
theorem dJ6_bitCount_0f7a4_16 : decode cJ6_bitCount_0f7a4 16 = .ok (.iconst 2, 1) := by decide +kernel
theorem dJ6_bitCount_0f7a4_17 : decode cJ6_bitCount_0f7a4 17 = .ok (.iushr, 1) := by decide +kernel
theorem dJ6_bitCount_0f7a4_18 : decode cJ6_bitCount_0f7a4 18 = .ok (.ldc_w 266, 3) := by decide +kernel
theorem dJ6_bitCount_0f7a4_21 : decode cJ6_bitCount_0f7a4 21 = .ok (.iand, 1) := by decide +kernel
theorem dJ6_bitCount_0f7a4_22 : decode cJ6_bitCount_0f7a4 22 = .ok (.iadd, 1) := by decide +kernel
theorem dJ6_bitCount_0f7a4_23 : decode cJ6_bitCount_0f7a4 23 = .ok (.istore_n 0, 1) := by decide +kernel
theorem dJ6_bitCount_0f7a4_24 : decode cJ6_bitCount_0f7a4 24 = .ok (.iload_n 0, 1) := by decide +kernel
theorem dJ6_bitCount_0f7a4_25 : decode cJ6_bitCount_0f7a4 25 = .ok (.iload_n 0, 1) := by decide +kernel
theorem dJ6_bitCount_0f7a4_26 : decode cJ6_bitCount_0f7a4 26 = .ok (.iconst 4, 1) := by decide +kernel
theorem dJ6_bitCount_0f7a4_27 : decode cJ6_bitCount_0f7a4 27 = .ok (.iushr, 1) := by decide +kernel
theorem dJ6_bitCount_0f7a4_28 : decode cJ6_bitCount_0f7a4 28 = .ok (.iadd, 1) := by decide +kernel
theorem dJ6_bitCount_0f7a4_29 : decode cJ6_bitCount_0f7a4 29 = .ok (.ldc_w 267, 3) := by decide +kernel
theorem dJ6_bitCount_0f7a4_32 : decode cJ6_bitCount_0f7a4 32 = .ok (.iand, 1) := by decide +kernel
theorem dJ6_bitCount_0f7a4_33 : decode cJ6_bitCount_0f7a4 33 = .ok (.istore_n 0, 1) := by decide +kernel
theorem dJ6_bitCount_0f7a4_34 : decode cJ6_bitCount_0f7a4 34 = .ok (.iload_n 0, 1) := by decide +kernel
theorem dJ6_bitCount_0f7a4_35 : decode cJ6_bitCount_0f7a4 35 = .ok (.iload_n 0, 1) := by decide +kernel
theorem dJ6_bitCount_0f7a4_36 : decode cJ6_bitCount_0f7a4 36 = .ok (.bipush 8, 2) := by decide +kernel
theorem dJ6_bitCount_0f7a4_38 : decode cJ6_bitCount_0f7a4 38 = .ok (.iushr, 1) := by decide +kernel
theorem dJ6_bitCount_0f7a4_39 : decode cJ6_bitCount_0f7a4 39 = .ok (.iadd, 1) := by decide +kernel
theorem dJ6_bitCount_0f7a4_40 : decode cJ6_bitCount_0f7a4 40 = .ok (.istore_n 0, 1) := by decide +kernel
theorem dJ6_bitCount_0f7a4_41 : decode cJ6_bitCount_0f7a4 41 = .ok (.iload_n 0, 1) := by decide +kernel
theorem dJ6_bitCount_0f7a4_42 : decode cJ6_bitCount_0f7a4 42 = .ok (.iload_n 0, 1) := by decide +kernel
theorem dJ6_bitCount_0f7a4_43 : decode cJ6_bitCount_0f7a4 43 = .ok (.bipush 16, 2) := by decide +kernel
theorem dJ6_bitCount_0f7a4_45 : decode cJ6_bitCount_0f7a4 45 = .ok (.iushr, 1) := by decide +kernel
theorem dJ6_bitCount_0f7a4_46 : decode cJ6_bitCount_0f7a4 46 = .ok (.iadd, 1) := by decide +kernel
theorem dJ6_bitCount_0f7a4_47 : decode cJ6_bitCount_0f7a4 47 = .ok (.istore_n 0, 1) := by decide +kernel
theorem dJ6_bitCount_0f7a4_48 : decode cJ6_bitCount_0f7a4 48 = .ok (.iload_n 0, 1) := by decide +kernel
theorem dJ6_bitCount_0f7a4_49 : decode cJ6_bitCount_0f7a4 49 = .ok (.bipush 63, 2) := by decide +kernel
theorem dJ6_bitCount_0f7a4_51 : decode cJ6_bitCount_0f7a4 51 = .ok (.iand, 1) := by decide +kernel
theorem dJ6_bitCount_0f7a4_52 : decode cJ6_bitCount_0f7a4 52 = .ok (.ireturn, 1) := by decide +kernel
theorem dJ9_min_7cf53_0 : decode cJ9_min_7cf53 0 = .ok (.iload_n 0, 1) := by decide +kernel
theorem dJ9_min_7cf53_1 : decode cJ9_min_7cf53 1 = .ok (.iload_n 1, 1) := by decide +kernel
theorem dJ9_min_7cf53_2 : decode cJ9_min_7cf53 2 = .ok (.if_icmp .gt 7, 3) := by decide +kernel
theorem dJ9_min_7cf53_5 : decode cJ9_min_7cf53 5 = .ok (.iload_n 0, 1) := by decide +kernel
theorem dJ9_min_7cf53_6 : decode cJ9_min_7cf53 6 = .ok (.goto 4, 3) := by decide +kernel
theorem dJ9_min_7cf53_9 : decode cJ9_min_7cf53 9 = .ok (.iload_n 1, 1) := by decide +kernel
theorem dJ9_min_7cf53_10 : decode cJ9_min_7cf53 10 = .ok (.ireturn, 1) := by decide +kernel
theorem dJ7_copyOf_59c91_0 : decode cJ7_copyOf_59c91 0 = .ok (.iload_n 1, 1) := by decide +kernel
theorem dJ7_copyOf_59c91_1 : decode cJ7_copyOf_59c91 1 = .ok (.aload_n 0, 1) := by decide +kernel
theorem dJ7_copyOf_59c91_2 : decode cJ7_copyOf_59c91 2 = .ok (.arraylength, 1) := by decide +kernel
theorem dJ7_copyOf_59c91_3 : decode cJ7_copyOf_59c91 3 = .ok (.if_icmp .ne 11, 3) := by decide +kernel
theorem dJ7_copyOf_59c91_6 : decode cJ7_copyOf_59c91 6 = .ok (.aload_n 0, 1) := by decide +kernel
theorem dJ7_copyOf_59c91_7 : decode cJ7_copyOf_59c91 7 = .ok (.invokevirtual 316, 3) := by decide +kernel
theorem dJ7_copyOf_59c91_10 : decode cJ7_copyOf_59c91 10 = .ok (.checkcast 317, 3) := by decide +kernel
theorem dJ7_copyOf_59c91_13 : decode cJ7_copyOf_59c91 13 = .ok (.areturn, 1) := by decide +kernel
theorem dJ7_copyOf_59c91_14 : decode cJ7_copyOf_59c91 14 = .ok (.iload_n 1, 1) := by decide +kernel
theorem dJ7_copyOf_59c91_15 : decode cJ7_copyOf_59c91 15 = .ok (.newarray .int, 2) := by decide +kernel
theorem dJ7_copyOf_59c91_17 : decode cJ7_copyOf_59c91 17 = .ok (.astore_n 2, 1) := by decide +kernel
theorem dJ7_copyOf_59c91_18 : decode cJ7_copyOf_59c91 18 = .ok (.aload_n 0, 1) := by decide +kernel
theorem dJ7_copyOf_59c91_19 : decode cJ7_copyOf_59c91 19 = .ok (.iconst 0, 1) := by decide +kernel
theorem dJ7_copyOf_59c91_20 : decode cJ7_copyOf_59c91 20 = .ok (.aload_n 2, 1) := by decide +kernel
theorem dJ7_copyOf_59c91_21 : decode cJ7_copyOf_59c91 21 = .ok (.iconst 0, 1) := by decide +kernel
theorem dJ7_copyOf_59c91_22 : decode cJ7_copyOf_59c91 22 = .ok (.aload_n 0, 1) := by decide +kernel
theorem dJ7_copyOf_59c91_23 : decode cJ7_copyOf_59c91 23 = .ok (.arraylength, 1) := by decide +kernel
theorem dJ7_copyOf_59c91_24 : decode cJ7_copyOf_59c91 24 = .ok (.iload_n 1, 1) := by decide +kernel
theorem dJ7_copyOf_59c91_25 : decode cJ7_copyOf_59c91 25 = .ok (.invokestatic 304, 3) := by decide +kernel
theorem dJ7_copyOf_59c91_28 : decode cJ7_copyOf_59c91 28 = .ok (.invokestatic 150, 3) := by decide +kernel
theorem dJ7_copyOf_59c91_31 : decode cJ7_copyOf_59c91 31 = .ok (.aload_n 2, 1) := by decide +kernel
theorem dJ7_copyOf_59c91_32 : decode cJ7_copyOf_59c91 32 = .ok (.areturn, 1) := by decide +kernel
