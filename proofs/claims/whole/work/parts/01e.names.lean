theorem dX2_noticeEnd_5 : decode cX2_noticeEnd 5 = .ok (.aload_n 2, 1) := by decide +kernel
theorem dX2_noticeEnd_6 : decode cX2_noticeEnd 6 = .ok (.ifnonnull 4, 3) := by decide +kernel
theorem dX2_noticeEnd_9 : decode cX2_noticeEnd 9 = .ok (.return_, 1) := by decide +kernel
theorem dX2_noticeEnd_10 : decode cX2_noticeEnd 10 = .ok (.aload_n 2, 1) := by decide +kernel
theorem dX2_noticeEnd_11 : decode cX2_noticeEnd 11 = .ok (.getfield 151, 3) := by decide +kernel
theorem dX2_noticeEnd_14 : decode cX2_noticeEnd 14 = .ok (.iconst 1, 1) := by decide +kernel
theorem dX2_noticeEnd_15 : decode cX2_noticeEnd 15 = .ok (.if_icmp .eq 12, 3) := by decide +kernel
theorem dX2_noticeEnd_18 : decode cX2_noticeEnd 18 = .ok (.aload_n 2, 1) := by decide +kernel
theorem dX2_noticeEnd_19 : decode cX2_noticeEnd 19 = .ok (.iconst 4, 1) := by decide +kernel
theorem dX2_noticeEnd_20 : decode cX2_noticeEnd 20 = .ok (.invokevirtual 83, 3) := by decide +kernel
theorem dX2_noticeEnd_23 : decode cX2_noticeEnd 23 = .ok (.iconst 1, 1) := by decide +kernel
theorem dX2_noticeEnd_24 : decode cX2_noticeEnd 24 = .ok (.if_icmp .ne 8, 3) := by decide +kernel
theorem dX2_noticeEnd_27 : decode cX2_noticeEnd 27 = .ok (.aload_n 0, 1) := by decide +kernel
theorem dX2_noticeEnd_28 : decode cX2_noticeEnd 28 = .ok (.aload_n 1, 1) := by decide +kernel
theorem dX2_noticeEnd_29 : decode cX2_noticeEnd 29 = .ok (.invokevirtual 235, 3) := by decide +kernel
theorem dX2_noticeEnd_32 : decode cX2_noticeEnd 32 = .ok (.aload_n 0, 1) := by decide +kernel
theorem dX2_noticeEnd_33 : decode cX2_noticeEnd 33 = .ok (.aload_n 2, 1) := by decide +kernel
theorem dX2_noticeEnd_34 : decode cX2_noticeEnd 34 = .ok (.invokevirtual 238, 3) := by decide +kernel
theorem dX2_noticeEnd_37 : decode cX2_noticeEnd 37 = .ok (.return_, 1) := by decide +kernel
set_option maxRecDepth 20000 in
theorem ggX2_noticeStop_X2_tellParent : GoodIn wsX2_noticeStop wsX2_tellParent := goodIn_r _ [7, 8, 9, 10, 11, 12, 6, 13, 14, 15, 16, 17, 18, 19, 20, 21, 22, 23, 24, 25, 26, 27, 28, 29, 30, 31, 32, 33, 34, 35, 36, 37, 38, 39, 40, 41, 42, 43, 44, 45, 46, 47, 48, 49, 50, 51, 52, 53, 54, 55, 56, 57, 58, 59, 60, 61, 62, 63, 64, 65, 66, 67, 68, 69, 70, 71, 72, 73, 74, 75, 76, 77, 78, 79, 80, 81, 82, 83, 84, 85, 86, 87, 88, 89, 90, 91, 92, 93, 94, 95, 96, 97, 98, 99, 100, 101, 102, 103, 104, 105, 106, 107, 108, 109, 110, 111] (by decide +kernel) (by decide +kernel)
set_option maxRecDepth 20000 in
theorem gX2_noticeStop_X2_tellParent : GoodIn wsX2_noticeStop (wsV RX2 238 RX2 yX2_tellParent wsX2_tellParent) := goodIn_app (goodIn_of _ (by decide +kernel)) ggX2_noticeStop_X2_tellParent
theorem dX2_noticeStop_0 : decode cX2_noticeStop 0 = .ok (.aload_n 1, 1) := by decide +kernel
theorem dX2_noticeStop_1 : decode cX2_noticeStop 1 = .ok (.getfield 147, 3) := by decide +kernel
theorem dX2_noticeStop_4 : decode cX2_noticeStop 4 = .ok (.astore_n 2, 1) := by decide +kernel
theorem dX2_noticeStop_5 : decode cX2_noticeStop 5 = .ok (.aload_n 2, 1) := by decide +kernel
theorem dX2_noticeStop_6 : decode cX2_noticeStop 6 = .ok (.ifnull 15, 3) := by decide +kernel
theorem dX2_noticeStop_9 : decode cX2_noticeStop 9 = .ok (.aload_n 1, 1) := by decide +kernel
theorem dX2_noticeStop_10 : decode cX2_noticeStop 10 = .ok (.getfield 191, 3) := by decide +kernel
theorem dX2_noticeStop_13 : decode cX2_noticeStop 13 = .ok (.ifCond .eq 8, 3) := by decide +kernel
theorem dX2_noticeStop_16 : decode cX2_noticeStop 16 = .ok (.aload_n 0, 1) := by decide +kernel
theorem dX2_noticeStop_17 : decode cX2_noticeStop 17 = .ok (.aload_n 2, 1) := by decide +kernel
theorem dX2_noticeStop_18 : decode cX2_noticeStop 18 = .ok (.invokevirtual 238, 3) := by decide +kernel
theorem dX2_noticeStop_21 : decode cX2_noticeStop 21 = .ok (.return_, 1) := by decide +kernel
set_option maxRecDepth 20000 in
theorem ggX2_tellParent_X2_checkWait : GoodIn wsX2_tellParent wsX2_checkWait := goodIn_r _ [7, 8, 9, 10, 11, 12, 13, 14, 15, 16, 17, 18, 19, 20, 21, 22, 23, 24, 25, 26, 27, 28, 29, 30, 31, 32, 6, 33, 34, 1, 35, 36, 37, 38, 39, 40, 41, 42, 43, 44, 45, 46, 47, 96, 97, 98, 99, 76, 77, 78, 79, 80, 81, 82, 83, 84, 85, 86, 87, 88, 89, 90, 91, 92, 93, 94, 95] (by decide +kernel) (by decide +kernel)
set_option maxRecDepth 20000 in
theorem gX2_tellParent_X2_checkWait : GoodIn wsX2_tellParent (wsV RX2 241 RX2 yX2_checkWait wsX2_checkWait) := goodIn_app (goodIn_of _ (by decide +kernel)) ggX2_tellParent_X2_checkWait
set_option maxRecDepth 20000 in
theorem ggX2_tellParent_X0_append : GoodIn wsX2_tellParent wsX0_append := goodIn_r _ [52, 53, 54, 55, 56, 57, 58, 59, 60, 61, 62, 63, 64, 65, 66, 67, 68, 69, 70, 71, 72, 73, 74, 75, 100, 101, 102, 103, 104, 105] (by decide +kernel) (by decide +kernel)
set_option maxRecDepth 20000 in
theorem gX2_tellParent_X0_append : GoodIn wsX2_tellParent (wsV RX2 131 RX0 yX0_append wsX0_append) := goodIn_app (goodIn_of _ (by decide +kernel)) ggX2_tellParent_X0_append
theorem dX2_tellParent_0 : decode cX2_tellParent 0 = .ok (.aload_n 1, 1) := by decide +kernel
theorem dX2_tellParent_1 : decode cX2_tellParent 1 = .ok (.getfield 151, 3) := by decide +kernel
theorem dX2_tellParent_4 : decode cX2_tellParent 4 = .ok (.iconst 1, 1) := by decide +kernel
theorem dX2_tellParent_5 : decode cX2_tellParent 5 = .ok (.if_icmp .eq 20, 3) := by decide +kernel
theorem dX2_tellParent_8 : decode cX2_tellParent 8 = .ok (.aload_n 0, 1) := by decide +kernel
theorem dX2_tellParent_9 : decode cX2_tellParent 9 = .ok (.aload_n 1, 1) := by decide +kernel
theorem dX2_tellParent_10 : decode cX2_tellParent 10 = .ok (.invokevirtual 241, 3) := by decide +kernel
theorem dX2_tellParent_13 : decode cX2_tellParent 13 = .ok (.aload_n 0, 1) := by decide +kernel
theorem dX2_tellParent_14 : decode cX2_tellParent 14 = .ok (.getfield 18, 3) := by decide +kernel
theorem dX2_tellParent_17 : decode cX2_tellParent 17 = .ok (.iconst 4, 1) := by decide +kernel
theorem dX2_tellParent_18 : decode cX2_tellParent 18 = .ok (.aload_n 1, 1) := by decide +kernel
theorem dX2_tellParent_19 : decode cX2_tellParent 19 = .ok (.getfield 151, 3) := by decide +kernel
theorem dX2_tellParent_22 : decode cX2_tellParent 22 = .ok (.invokevirtual 131, 3) := by decide +kernel
theorem dX2_tellParent_25 : decode cX2_tellParent 25 = .ok (.return_, 1) := by decide +kernel
set_option maxRecDepth 20000 in
theorem ggX2_deliver_X1_forget : GoodIn wsX2_deliver wsX1_forget := goodIn_r _ [10, 11, 161, 162, 163, 164, 165, 166, 167, 168, 169, 170, 171, 172, 173, 174, 175, 176, 177, 178, 179, 180] (by decide +kernel) (by decide +kernel)
set_option maxRecDepth 20000 in
theorem gX2_deliver_X1_forget : GoodIn wsX2_deliver (wsV RX2 223 RX1 yX1_forget wsX1_forget) := goodIn_app (goodIn_of _ (by decide +kernel)) ggX2_deliver_X1_forget
set_option maxRecDepth 20000 in
theorem ggX2_deliver_X1_actionFor : GoodIn wsX2_deliver wsX1_actionFor := goodIn_r _ [15, 16, 17, 161, 162, 163, 164, 165, 166, 167, 168, 169, 170, 171, 172, 173, 174, 175, 176, 177, 178, 179, 180] (by decide +kernel) (by decide +kernel)
set_option maxRecDepth 20000 in
theorem gX2_deliver_X1_actionFor : GoodIn wsX2_deliver (wsV RX2 83 RX1 yX1_actionFor wsX1_actionFor) := goodIn_app (goodIn_of _ (by decide +kernel)) ggX2_deliver_X1_actionFor
set_option maxRecDepth 20000 in
theorem ggX2_deliver_X1_catchSignal : GoodIn wsX2_deliver wsX1_catchSignal := goodIn_r _ [21, 22, 23, 24, 25, 26, 9, 27, 28, 29, 30, 161, 162, 163, 164, 165, 166, 167, 168, 169, 170, 171, 172, 173, 174, 175, 176, 177, 178, 179, 180] (by decide +kernel) (by decide +kernel)
set_option maxRecDepth 20000 in
theorem gX2_deliver_X1_catchSignal : GoodIn wsX2_deliver (wsV RX2 244 RX1 yX1_catchSignal wsX1_catchSignal) := goodIn_app (goodIn_of _ (by decide +kernel)) ggX2_deliver_X1_catchSignal
set_option maxRecDepth 20000 in
theorem ggX2_deliver_X2_terminate : GoodIn wsX2_deliver wsX2_terminate := goodIn_r _ [35, 36, 37, 38, 39, 40, 41, 42, 43, 44, 34, 45, 46, 5, 47, 48, 49, 9, 50, 51, 52, 53, 54, 55, 56, 57, 58, 59, 23, 11, 60, 61, 62, 63, 64, 65, 66, 1, 67, 68, 69, 70, 71, 72, 73, 74, 75, 76, 77, 78, 79, 80, 81, 82, 83, 84, 85, 86, 87, 88, 89, 90, 91, 92, 93, 94, 95, 96, 97, 98, 99, 100, 101, 102, 103, 104, 105, 106, 107, 108, 109, 110, 111, 112, 113, 114, 115, 116, 117, 118, 119, 120, 121, 122, 123, 124, 125, 126, 127, 2, 161, 162, 163, 164, 165, 166, 167, 168, 169, 170, 171, 172, 173, 174, 175, 176, 177, 178, 179, 180, 181, 182, 183, 184, 185, 186, 187, 188, 189, 190] (by decide +kernel) (by decide +kernel)
set_option maxRecDepth 20000 in
theorem gX2_deliver_X2_terminate : GoodIn wsX2_deliver (wsV RX2 64 RX2 yX2_terminate wsX2_terminate) := goodIn_app (goodIn_of _ (by decide +kernel)) ggX2_deliver_X2_terminate
set_option maxRecDepth 20000 in
theorem ggX2_deliver_X2_attachedGroups : GoodIn wsX2_deliver wsX2_attachedGroups := goodIn_r _ [45, 46, 5, 47, 48, 49, 9, 50, 51, 52, 53, 54, 181, 182, 183, 184, 161, 162, 163, 164, 165, 166, 167, 168, 169, 170, 171, 172, 173, 174, 175, 176, 177, 178, 179, 180] (by decide +kernel) (by decide +kernel)
set_option maxRecDepth 20000 in
theorem gX2_deliver_X2_attachedGroups : GoodIn wsX2_deliver (wsV RX2 160 RX2 yX2_attachedGroups wsX2_attachedGroups) := goodIn_app (goodIn_of _ (by decide +kernel)) ggX2_deliver_X2_attachedGroups
set_option maxRecDepth 20000 in
theorem ggX2_deliver_X2_contains : GoodIn wsX2_deliver wsX2_contains := goodIn_r _ [123] (by decide +kernel) (by decide +kernel)
set_option maxRecDepth 20000 in
theorem gX2_deliver_X2_contains : GoodIn wsX2_deliver (va_wsS RX2 164 yX2_contains wsX2_contains) := goodIn_app (goodIn_of _ (by decide +kernel)) ggX2_deliver_X2_contains
set_option maxRecDepth 20000 in
theorem ggX2_deliver_X2_stop : GoodIn wsX2_deliver wsX2_stop := goodIn_r _ [131, 2, 132, 133, 40, 41, 93, 94, 95, 96, 97, 98, 99, 100, 101, 102, 103, 104, 105, 106, 107, 108, 109, 110, 111, 112, 113, 114, 115, 116, 117, 118, 119, 120, 161, 162, 163, 164, 165, 166, 167, 168, 169, 170, 171, 172, 173, 174, 175, 176, 177, 178, 179, 180, 181, 182, 183, 184, 185, 186, 187, 188, 189, 190] (by decide +kernel) (by decide +kernel)
set_option maxRecDepth 20000 in
theorem gX2_deliver_X2_stop : GoodIn wsX2_deliver (wsV RX2 229 RX2 yX2_stop wsX2_stop) := goodIn_app (goodIn_of _ (by decide +kernel)) ggX2_deliver_X2_stop
set_option maxRecDepth 20000 in
theorem ggX2_deliver_X2_checkWait : GoodIn wsX2_deliver wsX2_checkWait := goodIn_r _ [137, 46, 138, 139, 140, 9, 141, 51, 59, 23, 142, 143, 144, 145, 52, 146, 80, 147, 148, 149, 150, 60, 151, 152, 153, 154, 34, 155, 132, 41, 133, 1, 156, 25, 26, 27, 28, 29, 30, 157, 158, 159, 160, 181, 182, 183, 184, 161, 162, 163, 164, 165, 166, 167, 168, 169, 170, 171, 172, 173, 174, 175, 176, 177, 178, 179, 180] (by decide +kernel) (by decide +kernel)
set_option maxRecDepth 20000 in
theorem gX2_deliver_X2_checkWait : GoodIn wsX2_deliver (wsV RX2 241 RX2 yX2_checkWait wsX2_checkWait) := goodIn_app (goodIn_of _ (by decide +kernel)) ggX2_deliver_X2_checkWait
theorem dX2_deliver_0 : decode cX2_deliver 0 = .ok (.iconst 0, 1) := by decide +kernel
theorem dX2_deliver_1 : decode cX2_deliver 1 = .ok (.istore_n 2, 1) := by decide +kernel
theorem dX2_deliver_2 : decode cX2_deliver 2 = .ok (.iload_n 2, 1) := by decide +kernel
theorem dX2_deliver_3 : decode cX2_deliver 3 = .ok (.bipush 9, 2) := by decide +kernel
theorem dX2_deliver_5 : decode cX2_deliver 5 = .ok (.if_icmp .ge 112, 3) := by decide +kernel
theorem dX2_deliver_8 : decode cX2_deliver 8 = .ok (.aload_n 1, 1) := by decide +kernel
theorem dX2_deliver_9 : decode cX2_deliver 9 = .ok (.getfield 194, 3) := by decide +kernel
theorem dX2_deliver_12 : decode cX2_deliver 12 = .ok (.ifCond .ne 105, 3) := by decide +kernel
theorem dX2_deliver_15 : decode cX2_deliver 15 = .ok (.aload_n 1, 1) := by decide +kernel
theorem dX2_deliver_16 : decode cX2_deliver 16 = .ok (.getfield 191, 3) := by decide +kernel
theorem dX2_deliver_19 : decode cX2_deliver 19 = .ok (.ifCond .ne 98, 3) := by decide +kernel
theorem dX2_deliver_22 : decode cX2_deliver 22 = .ok (.aload_n 1, 1) := by decide +kernel
theorem dX2_deliver_23 : decode cX2_deliver 23 = .ok (.getfield 154, 3) := by decide +kernel
theorem dX2_deliver_26 : decode cX2_deliver 26 = .ok (.aload_n 1, 1) := by decide +kernel
theorem dX2_deliver_27 : decode cX2_deliver 27 = .ok (.getfield 91, 3) := by decide +kernel
theorem dX2_deliver_30 : decode cX2_deliver 30 = .ok (.iconst (-1), 1) := by decide +kernel
theorem dX2_deliver_31 : decode cX2_deliver 31 = .ok (.ixor, 1) := by decide +kernel
theorem dX2_deliver_32 : decode cX2_deliver 32 = .ok (.iand, 1) := by decide +kernel
theorem dX2_deliver_33 : decode cX2_deliver 33 = .ok (.iconst 1, 1) := by decide +kernel
theorem dX2_deliver_34 : decode cX2_deliver 34 = .ok (.iload_n 2, 1) := by decide +kernel
theorem dX2_deliver_35 : decode cX2_deliver 35 = .ok (.ishl, 1) := by decide +kernel
theorem dX2_deliver_36 : decode cX2_deliver 36 = .ok (.iand, 1) := by decide +kernel
theorem dX2_deliver_37 : decode cX2_deliver 37 = .ok (.ifCond .ne 6, 3) := by decide +kernel
theorem dX2_deliver_40 : decode cX2_deliver 40 = .ok (.goto 71, 3) := by decide +kernel
theorem dX2_deliver_43 : decode cX2_deliver 43 = .ok (.aload_n 1, 1) := by decide +kernel
theorem dX2_deliver_44 : decode cX2_deliver 44 = .ok (.iload_n 2, 1) := by decide +kernel
theorem dX2_deliver_45 : decode cX2_deliver 45 = .ok (.invokevirtual 223, 3) := by decide +kernel
theorem dX2_deliver_48 : decode cX2_deliver 48 = .ok (.aload_n 1, 1) := by decide +kernel
theorem dX2_deliver_49 : decode cX2_deliver 49 = .ok (.iload_n 2, 1) := by decide +kernel
theorem dX2_deliver_50 : decode cX2_deliver 50 = .ok (.invokevirtual 83, 3) := by decide +kernel
theorem dX2_deliver_53 : decode cX2_deliver 53 = .ok (.istore_n 3, 1) := by decide +kernel
theorem dX2_deliver_54 : decode cX2_deliver 54 = .ok (.iload_n 3, 1) := by decide +kernel
theorem dX2_deliver_55 : decode cX2_deliver 55 = .ok (.iconst 2, 1) := by decide +kernel
theorem dX2_deliver_56 : decode cX2_deliver 56 = .ok (.if_icmp .ne 10, 3) := by decide +kernel
theorem dX2_deliver_59 : decode cX2_deliver 59 = .ok (.aload_n 1, 1) := by decide +kernel
theorem dX2_deliver_60 : decode cX2_deliver 60 = .ok (.invokevirtual 244, 3) := by decide +kernel
theorem dX2_deliver_63 : decode cX2_deliver 63 = .ok (.goto 48, 3) := by decide +kernel
theorem dX2_deliver_66 : decode cX2_deliver 66 = .ok (.iload_n 3, 1) := by decide +kernel
theorem dX2_deliver_67 : decode cX2_deliver 67 = .ok (.ifCond .ne 19, 3) := by decide +kernel
theorem dX2_deliver_70 : decode cX2_deliver 70 = .ok (.iload_n 2, 1) := by decide +kernel
theorem dX2_deliver_71 : decode cX2_deliver 71 = .ok (.bipush 6, 2) := by decide +kernel
theorem dX2_deliver_73 : decode cX2_deliver 73 = .ok (.if_icmp .eq 13, 3) := by decide +kernel
theorem dX2_deliver_76 : decode cX2_deliver 76 = .ok (.aload_n 0, 1) := by decide +kernel
theorem dX2_deliver_77 : decode cX2_deliver 77 = .ok (.aload_n 1, 1) := by decide +kernel
theorem dX2_deliver_78 : decode cX2_deliver 78 = .ok (.iconst 1, 1) := by decide +kernel
theorem dX2_deliver_79 : decode cX2_deliver 79 = .ok (.iload_n 2, 1) := by decide +kernel
theorem dX2_deliver_80 : decode cX2_deliver 80 = .ok (.invokevirtual 64, 3) := by decide +kernel
theorem dX2_deliver_83 : decode cX2_deliver 83 = .ok (.goto 28, 3) := by decide +kernel
theorem dX2_deliver_86 : decode cX2_deliver 86 = .ok (.iload_n 3, 1) := by decide +kernel
theorem dX2_deliver_87 : decode cX2_deliver 87 = .ok (.ifCond .ne 24, 3) := by decide +kernel
theorem dX2_deliver_90 : decode cX2_deliver 90 = .ok (.aload_n 0, 1) := by decide +kernel
theorem dX2_deliver_91 : decode cX2_deliver 91 = .ok (.invokevirtual 160, 3) := by decide +kernel
theorem dX2_deliver_94 : decode cX2_deliver 94 = .ok (.aload_n 1, 1) := by decide +kernel
theorem dX2_deliver_95 : decode cX2_deliver 95 = .ok (.getfield 103, 3) := by decide +kernel
theorem dX2_deliver_98 : decode cX2_deliver 98 = .ok (.invokestatic 164, 3) := by decide +kernel
theorem dX2_deliver_101 : decode cX2_deliver 101 = .ok (.ifCond .eq 10, 3) := by decide +kernel
theorem dX2_deliver_104 : decode cX2_deliver 104 = .ok (.aload_n 0, 1) := by decide +kernel
theorem dX2_deliver_105 : decode cX2_deliver 105 = .ok (.aload_n 1, 1) := by decide +kernel
theorem dX2_deliver_106 : decode cX2_deliver 106 = .ok (.bipush 6, 2) := by decide +kernel
theorem dX2_deliver_108 : decode cX2_deliver 108 = .ok (.invokevirtual 229, 3) := by decide +kernel
theorem dX2_deliver_111 : decode cX2_deliver 111 = .ok (.iinc 2 1, 3) := by decide +kernel
theorem dX2_deliver_114 : decode cX2_deliver 114 = .ok (.goto (-112), 3) := by decide +kernel
theorem dX2_deliver_117 : decode cX2_deliver 117 = .ok (.aload_n 0, 1) := by decide +kernel
theorem dX2_deliver_118 : decode cX2_deliver 118 = .ok (.aload_n 1, 1) := by decide +kernel
theorem dX2_deliver_119 : decode cX2_deliver 119 = .ok (.invokevirtual 241, 3) := by decide +kernel
theorem dX2_deliver_122 : decode cX2_deliver 122 = .ok (.return_, 1) := by decide +kernel
set_option maxRecDepth 20000 in
theorem ggX2_stop_X0_append : GoodIn wsX2_stop wsX0_append := goodIn_r _ [10, 11, 12, 13, 14, 15, 16, 17, 18, 19, 20, 21, 22, 23, 24, 25, 26, 27, 28, 29, 30, 31, 32, 33, 58, 59, 60, 61, 62, 63] (by decide +kernel) (by decide +kernel)
set_option maxRecDepth 20000 in
theorem gX2_stop_X0_append : GoodIn wsX2_stop (wsV RX2 131 RX0 yX0_append wsX0_append) := goodIn_app (goodIn_of _ (by decide +kernel)) ggX2_stop_X0_append
theorem dX2_stop_0 : decode cX2_stop 0 = .ok (.aload_n 1, 1) := by decide +kernel
theorem dX2_stop_1 : decode cX2_stop 1 = .ok (.getfield 191, 3) := by decide +kernel
theorem dX2_stop_4 : decode cX2_stop 4 = .ok (.ifCond .ne 31, 3) := by decide +kernel
theorem dX2_stop_7 : decode cX2_stop 7 = .ok (.aload_n 1, 1) := by decide +kernel
theorem dX2_stop_8 : decode cX2_stop 8 = .ok (.iconst 1, 1) := by decide +kernel
theorem dX2_stop_9 : decode cX2_stop 9 = .ok (.putfield 191, 3) := by decide +kernel
theorem dX2_stop_12 : decode cX2_stop 12 = .ok (.aload_n 1, 1) := by decide +kernel
theorem dX2_stop_13 : decode cX2_stop 13 = .ok (.iconst 2, 1) := by decide +kernel
theorem dX2_stop_14 : decode cX2_stop 14 = .ok (.putfield 247, 3) := by decide +kernel
theorem dX2_stop_17 : decode cX2_stop 17 = .ok (.aload_n 1, 1) := by decide +kernel
theorem dX2_stop_18 : decode cX2_stop 18 = .ok (.iload_n 2, 1) := by decide +kernel
theorem dX2_stop_19 : decode cX2_stop 19 = .ok (.putfield 250, 3) := by decide +kernel
theorem dX2_stop_22 : decode cX2_stop 22 = .ok (.aload_n 0, 1) := by decide +kernel
theorem dX2_stop_23 : decode cX2_stop 23 = .ok (.getfield 18, 3) := by decide +kernel
theorem dX2_stop_26 : decode cX2_stop 26 = .ok (.bipush 10, 2) := by decide +kernel
theorem dX2_stop_28 : decode cX2_stop 28 = .ok (.aload_n 1, 1) := by decide +kernel
theorem dX2_stop_29 : decode cX2_stop 29 = .ok (.getfield 151, 3) := by decide +kernel
theorem dX2_stop_32 : decode cX2_stop 32 = .ok (.invokevirtual 131, 3) := by decide +kernel
theorem dX2_stop_35 : decode cX2_stop 35 = .ok (.return_, 1) := by decide +kernel
set_option maxRecDepth 20000 in
theorem ggX2_terminate_X2_attachedGroups : GoodIn wsX2_terminate wsX2_attachedGroups := goodIn_r _ [11, 12, 13, 14, 15, 16, 17, 18, 19, 20, 21, 22, 120, 121, 122, 123, 100, 101, 102, 103, 104, 105, 106, 107, 108, 109, 110, 111, 112, 113, 114, 115, 116, 117, 118, 119] (by decide +kernel) (by decide +kernel)
set_option maxRecDepth 20000 in
theorem gX2_terminate_X2_attachedGroups : GoodIn wsX2_terminate (wsV RX2 160 RX2 yX2_attachedGroups wsX2_attachedGroups) := goodIn_app (goodIn_of _ (by decide +kernel)) ggX2_terminate_X2_attachedGroups
set_option maxRecDepth 20000 in
theorem ggX2_terminate_X1_becomeZombie : GoodIn wsX2_terminate wsX1_becomeZombie := goodIn_r _ [26, 19, 27, 28, 29, 30, 31, 100, 101, 102, 103, 104, 105, 106, 107, 108, 109, 110, 111, 112, 113, 114, 115, 116, 117, 118, 119] (by decide +kernel) (by decide +kernel)
set_option maxRecDepth 20000 in
theorem gX2_terminate_X1_becomeZombie : GoodIn wsX2_terminate (wsV RX2 253 RX1 yX1_becomeZombie wsX1_becomeZombie) := goodIn_app (goodIn_of _ (by decide +kernel)) ggX2_terminate_X1_becomeZombie
set_option maxRecDepth 20000 in
theorem ggX2_terminate_X2_handOverChildren : GoodIn wsX2_terminate wsX2_handOverChildren := goodIn_r _ [35, 12, 36, 37, 6, 38, 39, 40, 10, 41, 42, 43, 44, 45, 46, 120, 121, 122, 123, 100, 101, 102, 103, 104, 105, 106, 107, 108, 109, 110, 111, 112, 113, 114, 115, 116, 117, 118, 119] (by decide +kernel) (by decide +kernel)
set_option maxRecDepth 20000 in
theorem gX2_terminate_X2_handOverChildren : GoodIn wsX2_terminate (wsV RX2 256 RX2 yX2_handOverChildren wsX2_handOverChildren) := goodIn_app (goodIn_of _ (by decide +kernel)) ggX2_terminate_X2_handOverChildren
set_option maxRecDepth 20000 in
theorem ggX2_terminate_X1_leadsSession : GoodIn wsX2_terminate wsX1_leadsSession := goodIn_r _ [50, 51, 21, 100, 101, 102, 103, 104, 105, 106, 107, 108, 109, 110, 111, 112, 113, 114, 115, 116, 117, 118, 119] (by decide +kernel) (by decide +kernel)
set_option maxRecDepth 20000 in
theorem gX2_terminate_X1_leadsSession : GoodIn wsX2_terminate (wsV RX2 123 RX1 yX1_leadsSession wsX1_leadsSession) := goodIn_app (goodIn_of _ (by decide +kernel)) ggX2_terminate_X1_leadsSession
set_option maxRecDepth 20000 in
theorem ggX2_terminate_X2_freeTerminal : GoodIn wsX2_terminate wsX2_freeTerminal := goodIn_r _ [55, 3, 4, 120, 121, 122, 123] (by decide +kernel) (by decide +kernel)
set_option maxRecDepth 20000 in
theorem gX2_terminate_X2_freeTerminal : GoodIn wsX2_terminate (wsV RX2 141 RX2 yX2_freeTerminal wsX2_freeTerminal) := goodIn_app (goodIn_of _ (by decide +kernel)) ggX2_terminate_X2_freeTerminal
set_option maxRecDepth 20000 in
theorem ggX2_terminate_X2_appendForMembers : GoodIn wsX2_terminate wsX2_appendForMembers := goodIn_r _ [59, 12, 5, 6, 60, 61, 62, 17, 63, 22, 19, 64, 65, 66, 67, 68, 69, 70, 71, 72, 73, 74, 75, 76, 77, 78, 79, 80, 81, 82, 83, 84, 85, 86, 87, 88, 89, 90, 91, 120, 121, 122, 123, 100, 101, 102, 103, 104, 105, 106, 107, 108, 109, 110, 111, 112, 113, 114, 115, 116, 117, 118, 119, 124, 125, 126, 127, 128, 129] (by decide +kernel) (by decide +kernel)
set_option maxRecDepth 20000 in
theorem gX2_terminate_X2_appendForMembers : GoodIn wsX2_terminate (wsV RX2 134 RX2 yX2_appendForMembers wsX2_appendForMembers) := goodIn_app (goodIn_of _ (by decide +kernel)) ggX2_terminate_X2_appendForMembers
set_option maxRecDepth 20000 in
theorem ggX2_terminate_X2_contains : GoodIn wsX2_terminate wsX2_contains := goodIn_r _ [94] (by decide +kernel) (by decide +kernel)
set_option maxRecDepth 20000 in
theorem gX2_terminate_X2_contains : GoodIn wsX2_terminate (va_wsS RX2 164 yX2_contains wsX2_contains) := goodIn_app (goodIn_of _ (by decide +kernel)) ggX2_terminate_X2_contains
set_option maxRecDepth 20000 in
theorem ggX2_terminate_X0_append : GoodIn wsX2_terminate wsX0_append := goodIn_r _ [68, 69, 70, 71, 72, 73, 74, 75, 76, 77, 78, 79, 80, 81, 82, 83, 84, 85, 86, 87, 88, 89, 90, 91, 124, 125, 126, 127, 128, 129] (by decide +kernel) (by decide +kernel)
set_option maxRecDepth 20000 in
theorem gX2_terminate_X0_append : GoodIn wsX2_terminate (wsV RX2 131 RX0 yX0_append wsX0_append) := goodIn_app (goodIn_of _ (by decide +kernel)) ggX2_terminate_X0_append
set_option maxRecDepth 20000 in
theorem ggX2_terminate_X2_hasStoppedMember : GoodIn wsX2_terminate wsX2_hasStoppedMember := goodIn_r _ [98, 12, 99, 60, 61, 62, 17, 63, 22, 19, 120, 121, 122, 123, 100, 101, 102, 103, 104, 105, 106, 107, 108, 109, 110, 111, 112, 113, 114, 115, 116, 117, 118, 119] (by decide +kernel) (by decide +kernel)
set_option maxRecDepth 20000 in
theorem gX2_terminate_X2_hasStoppedMember : GoodIn wsX2_terminate (wsV RX2 262 RX2 yX2_hasStoppedMember wsX2_hasStoppedMember) := goodIn_app (goodIn_of _ (by decide +kernel)) ggX2_terminate_X2_hasStoppedMember
theorem dX2_terminate_0 : decode cX2_terminate 0 = .ok (.aload_n 0, 1) := by decide +kernel
theorem dX2_terminate_1 : decode cX2_terminate 1 = .ok (.invokevirtual 160, 3) := by decide +kernel
theorem dX2_terminate_4 : decode cX2_terminate 4 = .ok (.lstore 4, 2) := by decide +kernel
theorem dX2_terminate_6 : decode cX2_terminate 6 = .ok (.aload_n 1, 1) := by decide +kernel
theorem dX2_terminate_7 : decode cX2_terminate 7 = .ok (.iload_n 2, 1) := by decide +kernel
theorem dX2_terminate_8 : decode cX2_terminate 8 = .ok (.iload_n 3, 1) := by decide +kernel
theorem dX2_terminate_9 : decode cX2_terminate 9 = .ok (.invokevirtual 253, 3) := by decide +kernel
theorem dX2_terminate_12 : decode cX2_terminate 12 = .ok (.aload_n 0, 1) := by decide +kernel
theorem dX2_terminate_13 : decode cX2_terminate 13 = .ok (.aload_n 1, 1) := by decide +kernel
theorem dX2_terminate_14 : decode cX2_terminate 14 = .ok (.invokevirtual 256, 3) := by decide +kernel
theorem dX2_terminate_17 : decode cX2_terminate 17 = .ok (.lstore 6, 2) := by decide +kernel
theorem dX2_terminate_19 : decode cX2_terminate 19 = .ok (.lload 4, 2) := by decide +kernel
theorem dX2_terminate_21 : decode cX2_terminate 21 = .ok (.aload_n 0, 1) := by decide +kernel
theorem dX2_terminate_22 : decode cX2_terminate 22 = .ok (.invokevirtual 160, 3) := by decide +kernel
theorem dX2_terminate_25 : decode cX2_terminate 25 = .ok (.ldc2_w 260, 3) := by decide +kernel
theorem dX2_terminate_28 : decode cX2_terminate 28 = .ok (.lxor, 1) := by decide +kernel
theorem dX2_terminate_29 : decode cX2_terminate 29 = .ok (.land, 1) := by decide +kernel
theorem dX2_terminate_30 : decode cX2_terminate 30 = .ok (.lstore 8, 2) := by decide +kernel
theorem dX2_terminate_32 : decode cX2_terminate 32 = .ok (.aload_n 1, 1) := by decide +kernel
theorem dX2_terminate_33 : decode cX2_terminate 33 = .ok (.invokevirtual 123, 3) := by decide +kernel
theorem dX2_terminate_36 : decode cX2_terminate 36 = .ok (.ifCond .eq 32, 3) := by decide +kernel
theorem dX2_terminate_39 : decode cX2_terminate 39 = .ok (.aload_n 1, 1) := by decide +kernel
theorem dX2_terminate_40 : decode cX2_terminate 40 = .ok (.getfield 106, 3) := by decide +kernel
theorem dX2_terminate_43 : decode cX2_terminate 43 = .ok (.aload_n 0, 1) := by decide +kernel
theorem dX2_terminate_44 : decode cX2_terminate 44 = .ok (.getfield 22, 3) := by decide +kernel
theorem dX2_terminate_47 : decode cX2_terminate 47 = .ok (.if_icmp .ne 21, 3) := by decide +kernel
theorem dX2_terminate_50 : decode cX2_terminate 50 = .ok (.aload_n 0, 1) := by decide +kernel
theorem dX2_terminate_51 : decode cX2_terminate 51 = .ok (.getfield 26, 3) := by decide +kernel
theorem dX2_terminate_54 : decode cX2_terminate 54 = .ok (.istore 10, 2) := by decide +kernel
theorem dX2_terminate_56 : decode cX2_terminate 56 = .ok (.aload_n 0, 1) := by decide +kernel
theorem dX2_terminate_57 : decode cX2_terminate 57 = .ok (.invokevirtual 141, 3) := by decide +kernel
theorem dX2_terminate_60 : decode cX2_terminate 60 = .ok (.aload_n 0, 1) := by decide +kernel
theorem dX2_terminate_61 : decode cX2_terminate 61 = .ok (.iload 10, 2) := by decide +kernel
theorem dX2_terminate_63 : decode cX2_terminate 63 = .ok (.iconst 0, 1) := by decide +kernel
theorem dX2_terminate_64 : decode cX2_terminate 64 = .ok (.invokevirtual 134, 3) := by decide +kernel
theorem dX2_terminate_67 : decode cX2_terminate 67 = .ok (.pop, 1) := by decide +kernel
theorem dX2_terminate_68 : decode cX2_terminate 68 = .ok (.iconst 1, 1) := by decide +kernel
theorem dX2_terminate_69 : decode cX2_terminate 69 = .ok (.istore 10, 2) := by decide +kernel
theorem dX2_terminate_71 : decode cX2_terminate 71 = .ok (.iload 10, 2) := by decide +kernel
theorem dX2_terminate_73 : decode cX2_terminate 73 = .ok (.bipush 40, 2) := by decide +kernel
theorem dX2_terminate_75 : decode cX2_terminate 75 = .ok (.if_icmp .gt 30, 3) := by decide +kernel
theorem dX2_terminate_78 : decode cX2_terminate 78 = .ok (.lload 6, 2) := by decide +kernel
theorem dX2_terminate_80 : decode cX2_terminate 80 = .ok (.iload 10, 2) := by decide +kernel
theorem dX2_terminate_82 : decode cX2_terminate 82 = .ok (.invokestatic 164, 3) := by decide +kernel
theorem dX2_terminate_85 : decode cX2_terminate 85 = .ok (.ifCond .eq 14, 3) := by decide +kernel
theorem dX2_terminate_88 : decode cX2_terminate 88 = .ok (.aload_n 0, 1) := by decide +kernel
theorem dX2_terminate_89 : decode cX2_terminate 89 = .ok (.getfield 18, 3) := by decide +kernel
theorem dX2_terminate_92 : decode cX2_terminate 92 = .ok (.bipush 9, 2) := by decide +kernel
theorem dX2_terminate_94 : decode cX2_terminate 94 = .ok (.iload 10, 2) := by decide +kernel
theorem dX2_terminate_96 : decode cX2_terminate 96 = .ok (.invokevirtual 131, 3) := by decide +kernel
theorem dX2_terminate_99 : decode cX2_terminate 99 = .ok (.iinc 10 1, 3) := by decide +kernel
theorem dX2_terminate_102 : decode cX2_terminate 102 = .ok (.goto (-31), 3) := by decide +kernel
theorem dX2_terminate_105 : decode cX2_terminate 105 = .ok (.iconst 1, 1) := by decide +kernel
theorem dX2_terminate_106 : decode cX2_terminate 106 = .ok (.istore 10, 2) := by decide +kernel
theorem dX2_terminate_108 : decode cX2_terminate 108 = .ok (.iload 10, 2) := by decide +kernel
theorem dX2_terminate_110 : decode cX2_terminate 110 = .ok (.bipush 40, 2) := by decide +kernel
theorem dX2_terminate_112 : decode cX2_terminate 112 = .ok (.if_icmp .gt 45, 3) := by decide +kernel
theorem dX2_terminate_115 : decode cX2_terminate 115 = .ok (.lload 8, 2) := by decide +kernel
theorem dX2_terminate_117 : decode cX2_terminate 117 = .ok (.iload 10, 2) := by decide +kernel
theorem dX2_terminate_119 : decode cX2_terminate 119 = .ok (.invokestatic 164, 3) := by decide +kernel
theorem dX2_terminate_122 : decode cX2_terminate 122 = .ok (.ifCond .eq 29, 3) := by decide +kernel
theorem dX2_terminate_125 : decode cX2_terminate 125 = .ok (.aload_n 0, 1) := by decide +kernel
theorem dX2_terminate_126 : decode cX2_terminate 126 = .ok (.iload 10, 2) := by decide +kernel
theorem dX2_terminate_128 : decode cX2_terminate 128 = .ok (.invokevirtual 262, 3) := by decide +kernel
theorem dX2_terminate_131 : decode cX2_terminate 131 = .ok (.ifCond .eq 20, 3) := by decide +kernel
theorem dX2_terminate_134 : decode cX2_terminate 134 = .ok (.aload_n 0, 1) := by decide +kernel
theorem dX2_terminate_135 : decode cX2_terminate 135 = .ok (.iload 10, 2) := by decide +kernel
theorem dX2_terminate_137 : decode cX2_terminate 137 = .ok (.iconst 0, 1) := by decide +kernel
theorem dX2_terminate_138 : decode cX2_terminate 138 = .ok (.invokevirtual 134, 3) := by decide +kernel
theorem dX2_terminate_141 : decode cX2_terminate 141 = .ok (.pop, 1) := by decide +kernel
theorem dX2_terminate_142 : decode cX2_terminate 142 = .ok (.aload_n 0, 1) := by decide +kernel
theorem dX2_terminate_143 : decode cX2_terminate 143 = .ok (.iload 10, 2) := by decide +kernel
theorem dX2_terminate_145 : decode cX2_terminate 145 = .ok (.bipush 7, 2) := by decide +kernel
theorem dX2_terminate_147 : decode cX2_terminate 147 = .ok (.invokevirtual 134, 3) := by decide +kernel
theorem dX2_terminate_150 : decode cX2_terminate 150 = .ok (.pop, 1) := by decide +kernel
theorem dX2_terminate_151 : decode cX2_terminate 151 = .ok (.iinc 10 1, 3) := by decide +kernel
theorem dX2_terminate_154 : decode cX2_terminate 154 = .ok (.goto (-46), 3) := by decide +kernel
theorem dX2_terminate_157 : decode cX2_terminate 157 = .ok (.aload_n 0, 1) := by decide +kernel
theorem dX2_terminate_158 : decode cX2_terminate 158 = .ok (.getfield 18, 3) := by decide +kernel
theorem dX2_terminate_161 : decode cX2_terminate 161 = .ok (.bipush 9, 2) := by decide +kernel
theorem dX2_terminate_163 : decode cX2_terminate 163 = .ok (.aload_n 1, 1) := by decide +kernel
theorem dX2_terminate_164 : decode cX2_terminate 164 = .ok (.getfield 151, 3) := by decide +kernel
theorem dX2_terminate_167 : decode cX2_terminate 167 = .ok (.invokevirtual 131, 3) := by decide +kernel
theorem dX2_terminate_170 : decode cX2_terminate 170 = .ok (.return_, 1) := by decide +kernel
set_option maxRecDepth 20000 in
theorem ggX2_handOverChildren_X2_heirOf : GoodIn wsX2_handOverChildren wsX2_heirOf := goodIn_r _ [9, 2, 10, 3, 11, 12, 13, 8, 14, 1, 19, 20, 21, 22, 23, 24, 25, 26, 27, 28, 29, 30, 31, 32, 33, 34, 35, 36, 37, 38, 15, 16, 17, 18] (by decide +kernel) (by decide +kernel)
set_option maxRecDepth 20000 in
theorem gX2_handOverChildren_X2_heirOf : GoodIn wsX2_handOverChildren (wsV RX2 265 RX2 yX2_heirOf wsX2_heirOf) := goodIn_app (goodIn_of _ (by decide +kernel)) ggX2_handOverChildren_X2_heirOf
theorem dX2_handOverChildren_0 : decode cX2_handOverChildren 0 = .ok (.aload_n 0, 1) := by decide +kernel
theorem dX2_handOverChildren_1 : decode cX2_handOverChildren 1 = .ok (.aload_n 1, 1) := by decide +kernel
theorem dX2_handOverChildren_2 : decode cX2_handOverChildren 2 = .ok (.invokevirtual 265, 3) := by decide +kernel
theorem dX2_handOverChildren_5 : decode cX2_handOverChildren 5 = .ok (.astore_n 2, 1) := by decide +kernel
theorem dX2_handOverChildren_6 : decode cX2_handOverChildren 6 = .ok (.lconst 0, 1) := by decide +kernel
theorem dX2_handOverChildren_7 : decode cX2_handOverChildren 7 = .ok (.lstore_n 3, 1) := by decide +kernel
theorem dX2_handOverChildren_8 : decode cX2_handOverChildren 8 = .ok (.aload_n 0, 1) := by decide +kernel
theorem dX2_handOverChildren_9 : decode cX2_handOverChildren 9 = .ok (.getfield 11, 3) := by decide +kernel
theorem dX2_handOverChildren_12 : decode cX2_handOverChildren 12 = .ok (.astore 5, 2) := by decide +kernel
theorem dX2_handOverChildren_14 : decode cX2_handOverChildren 14 = .ok (.aload 5, 2) := by decide +kernel
theorem dX2_handOverChildren_16 : decode cX2_handOverChildren 16 = .ok (.arraylength, 1) := by decide +kernel
theorem dX2_handOverChildren_17 : decode cX2_handOverChildren 17 = .ok (.istore 6, 2) := by decide +kernel
theorem dX2_handOverChildren_19 : decode cX2_handOverChildren 19 = .ok (.iconst 0, 1) := by decide +kernel
theorem dX2_handOverChildren_20 : decode cX2_handOverChildren 20 = .ok (.istore 7, 2) := by decide +kernel
theorem dX2_handOverChildren_22 : decode cX2_handOverChildren 22 = .ok (.iload 7, 2) := by decide +kernel
theorem dX2_handOverChildren_24 : decode cX2_handOverChildren 24 = .ok (.iload 6, 2) := by decide +kernel
theorem dX2_handOverChildren_26 : decode cX2_handOverChildren 26 = .ok (.if_icmp .ge 58, 3) := by decide +kernel
theorem dX2_handOverChildren_29 : decode cX2_handOverChildren 29 = .ok (.aload 5, 2) := by decide +kernel
theorem dX2_handOverChildren_31 : decode cX2_handOverChildren 31 = .ok (.iload 7, 2) := by decide +kernel
theorem dX2_handOverChildren_33 : decode cX2_handOverChildren 33 = .ok (.aaload, 1) := by decide +kernel
theorem dX2_handOverChildren_34 : decode cX2_handOverChildren 34 = .ok (.astore 8, 2) := by decide +kernel
theorem dX2_handOverChildren_36 : decode cX2_handOverChildren 36 = .ok (.aload 8, 2) := by decide +kernel
theorem dX2_handOverChildren_38 : decode cX2_handOverChildren 38 = .ok (.ifnull 40, 3) := by decide +kernel
theorem dX2_handOverChildren_41 : decode cX2_handOverChildren 41 = .ok (.aload 8, 2) := by decide +kernel
theorem dX2_handOverChildren_43 : decode cX2_handOverChildren 43 = .ok (.getfield 147, 3) := by decide +kernel
theorem dX2_handOverChildren_46 : decode cX2_handOverChildren 46 = .ok (.aload_n 1, 1) := by decide +kernel
theorem dX2_handOverChildren_47 : decode cX2_handOverChildren 47 = .ok (.if_acmp .ne 31, 3) := by decide +kernel
theorem dX2_handOverChildren_50 : decode cX2_handOverChildren 50 = .ok (.aload 8, 2) := by decide +kernel
theorem dX2_handOverChildren_52 : decode cX2_handOverChildren 52 = .ok (.aload_n 2, 1) := by decide +kernel
theorem dX2_handOverChildren_53 : decode cX2_handOverChildren 53 = .ok (.putfield 147, 3) := by decide +kernel
theorem dX2_handOverChildren_56 : decode cX2_handOverChildren 56 = .ok (.lload_n 3, 1) := by decide +kernel
theorem dX2_handOverChildren_57 : decode cX2_handOverChildren 57 = .ok (.aload 8, 2) := by decide +kernel
theorem dX2_handOverChildren_59 : decode cX2_handOverChildren 59 = .ok (.getfield 194, 3) := by decide +kernel
theorem dX2_handOverChildren_62 : decode cX2_handOverChildren 62 = .ok (.ifCond .eq 13, 3) := by decide +kernel
theorem dX2_handOverChildren_65 : decode cX2_handOverChildren 65 = .ok (.lconst 1, 1) := by decide +kernel
theorem dX2_handOverChildren_66 : decode cX2_handOverChildren 66 = .ok (.aload 8, 2) := by decide +kernel
theorem dX2_handOverChildren_68 : decode cX2_handOverChildren 68 = .ok (.getfield 151, 3) := by decide +kernel
theorem dX2_handOverChildren_71 : decode cX2_handOverChildren 71 = .ok (.lshl, 1) := by decide +kernel
theorem dX2_handOverChildren_72 : decode cX2_handOverChildren 72 = .ok (.goto 4, 3) := by decide +kernel
theorem dX2_handOverChildren_75 : decode cX2_handOverChildren 75 = .ok (.lconst 0, 1) := by decide +kernel
theorem dX2_handOverChildren_76 : decode cX2_handOverChildren 76 = .ok (.lor, 1) := by decide +kernel
theorem dX2_handOverChildren_77 : decode cX2_handOverChildren 77 = .ok (.lstore_n 3, 1) := by decide +kernel
theorem dX2_handOverChildren_78 : decode cX2_handOverChildren 78 = .ok (.iinc 7 1, 3) := by decide +kernel
theorem dX2_handOverChildren_81 : decode cX2_handOverChildren 81 = .ok (.goto (-59), 3) := by decide +kernel
theorem dX2_handOverChildren_84 : decode cX2_handOverChildren 84 = .ok (.lload_n 3, 1) := by decide +kernel
theorem dX2_handOverChildren_85 : decode cX2_handOverChildren 85 = .ok (.lreturn, 1) := by decide +kernel
set_option maxRecDepth 20000 in
theorem ggX2_heirOf_X2_lookUp : GoodIn wsX2_heirOf wsX2_lookUp := goodIn_r _ [8, 9, 30, 31, 32, 33] (by decide +kernel) (by decide +kernel)
set_option maxRecDepth 20000 in
theorem gX2_heirOf_X2_lookUp : GoodIn wsX2_heirOf (wsV RX2 144 RX2 yX2_lookUp wsX2_lookUp) := goodIn_app (goodIn_of _ (by decide +kernel)) ggX2_heirOf_X2_lookUp
theorem dX2_heirOf_0 : decode cX2_heirOf 0 = .ok (.aload_n 1, 1) := by decide +kernel
theorem dX2_heirOf_1 : decode cX2_heirOf 1 = .ok (.getfield 147, 3) := by decide +kernel
theorem dX2_heirOf_4 : decode cX2_heirOf 4 = .ok (.astore_n 2, 1) := by decide +kernel
theorem dX2_heirOf_5 : decode cX2_heirOf 5 = .ok (.iconst 0, 1) := by decide +kernel
theorem dX2_heirOf_6 : decode cX2_heirOf 6 = .ok (.istore_n 3, 1) := by decide +kernel
theorem dX2_heirOf_7 : decode cX2_heirOf 7 = .ok (.iload_n 3, 1) := by decide +kernel
theorem dX2_heirOf_8 : decode cX2_heirOf 8 = .ok (.bipush 40, 2) := by decide +kernel
theorem dX2_heirOf_10 : decode cX2_heirOf 10 = .ok (.if_icmp .ge 34, 3) := by decide +kernel
theorem dX2_heirOf_13 : decode cX2_heirOf 13 = .ok (.aload_n 2, 1) := by decide +kernel
theorem dX2_heirOf_14 : decode cX2_heirOf 14 = .ok (.ifnull 30, 3) := by decide +kernel
theorem dX2_heirOf_17 : decode cX2_heirOf 17 = .ok (.aload_n 2, 1) := by decide +kernel
theorem dX2_heirOf_18 : decode cX2_heirOf 18 = .ok (.getfield 119, 3) := by decide +kernel
theorem dX2_heirOf_21 : decode cX2_heirOf 21 = .ok (.ifCond .eq 12, 3) := by decide +kernel
theorem dX2_heirOf_24 : decode cX2_heirOf 24 = .ok (.aload_n 2, 1) := by decide +kernel
theorem dX2_heirOf_25 : decode cX2_heirOf 25 = .ok (.getfield 194, 3) := by decide +kernel
theorem dX2_heirOf_28 : decode cX2_heirOf 28 = .ok (.ifCond .ne 5, 3) := by decide +kernel
theorem dX2_heirOf_31 : decode cX2_heirOf 31 = .ok (.aload_n 2, 1) := by decide +kernel
theorem dX2_heirOf_32 : decode cX2_heirOf 32 = .ok (.areturn, 1) := by decide +kernel
theorem dX2_heirOf_33 : decode cX2_heirOf 33 = .ok (.aload_n 2, 1) := by decide +kernel
theorem dX2_heirOf_34 : decode cX2_heirOf 34 = .ok (.getfield 147, 3) := by decide +kernel
theorem dX2_heirOf_37 : decode cX2_heirOf 37 = .ok (.astore_n 2, 1) := by decide +kernel
theorem dX2_heirOf_38 : decode cX2_heirOf 38 = .ok (.iinc 3 1, 3) := by decide +kernel
theorem dX2_heirOf_41 : decode cX2_heirOf 41 = .ok (.goto (-34), 3) := by decide +kernel
theorem dX2_heirOf_44 : decode cX2_heirOf 44 = .ok (.aload_n 0, 1) := by decide +kernel
theorem dX2_heirOf_45 : decode cX2_heirOf 45 = .ok (.iconst 1, 1) := by decide +kernel
theorem dX2_heirOf_46 : decode cX2_heirOf 46 = .ok (.invokevirtual 144, 3) := by decide +kernel
theorem dX2_heirOf_49 : decode cX2_heirOf 49 = .ok (.areturn, 1) := by decide +kernel
set_option maxRecDepth 20000 in
theorem ggX2_beginWait_X2_checkWait : GoodIn wsX2_beginWait wsX2_checkWait := goodIn_r _ [8, 9, 10, 11, 12, 13, 14, 15, 16, 17, 18, 19, 20, 21, 22, 23, 24, 25, 26, 27, 28, 29, 30, 31, 32, 33, 7, 34, 35, 36, 37, 38, 39, 40, 41, 42, 43, 44, 45, 46, 47, 48, 49, 70, 71, 72, 73, 50, 51, 52, 53, 54, 55, 56, 57, 58, 59, 60, 61, 62, 63, 64, 65, 66, 67, 68, 69] (by decide +kernel) (by decide +kernel)
set_option maxRecDepth 20000 in
theorem gX2_beginWait_X2_checkWait : GoodIn wsX2_beginWait (wsV RX2 241 RX2 yX2_checkWait wsX2_checkWait) := goodIn_app (goodIn_of _ (by decide +kernel)) ggX2_beginWait_X2_checkWait
theorem dX2_beginWait_0 : decode cX2_beginWait 0 = .ok (.aload_n 1, 1) := by decide +kernel
theorem dX2_beginWait_1 : decode cX2_beginWait 1 = .ok (.iconst 1, 1) := by decide +kernel
theorem dX2_beginWait_2 : decode cX2_beginWait 2 = .ok (.putfield 269, 3) := by decide +kernel
theorem dX2_beginWait_5 : decode cX2_beginWait 5 = .ok (.aload_n 1, 1) := by decide +kernel
theorem dX2_beginWait_6 : decode cX2_beginWait 6 = .ok (.iload_n 2, 1) := by decide +kernel
theorem dX2_beginWait_7 : decode cX2_beginWait 7 = .ok (.putfield 272, 3) := by decide +kernel
theorem dX2_beginWait_10 : decode cX2_beginWait 10 = .ok (.aload_n 1, 1) := by decide +kernel
theorem dX2_beginWait_11 : decode cX2_beginWait 11 = .ok (.iload_n 3, 1) := by decide +kernel
theorem dX2_beginWait_12 : decode cX2_beginWait 12 = .ok (.putfield 275, 3) := by decide +kernel
theorem dX2_beginWait_15 : decode cX2_beginWait 15 = .ok (.aload_n 0, 1) := by decide +kernel
theorem dX2_beginWait_16 : decode cX2_beginWait 16 = .ok (.aload_n 1, 1) := by decide +kernel
theorem dX2_beginWait_17 : decode cX2_beginWait 17 = .ok (.invokevirtual 241, 3) := by decide +kernel
theorem dX2_beginWait_20 : decode cX2_beginWait 20 = .ok (.aload_n 1, 1) := by decide +kernel
theorem dX2_beginWait_21 : decode cX2_beginWait 21 = .ok (.getfield 269, 3) := by decide +kernel
theorem dX2_beginWait_24 : decode cX2_beginWait 24 = .ok (.ifCond .ne 7, 3) := by decide +kernel
theorem dX2_beginWait_27 : decode cX2_beginWait 27 = .ok (.iconst 1, 1) := by decide +kernel
theorem dX2_beginWait_28 : decode cX2_beginWait 28 = .ok (.goto 4, 3) := by decide +kernel
theorem dX2_beginWait_31 : decode cX2_beginWait 31 = .ok (.iconst 0, 1) := by decide +kernel
theorem dX2_beginWait_32 : decode cX2_beginWait 32 = .ok (.ireturn, 1) := by decide +kernel
set_option maxRecDepth 20000 in
theorem ggX2_checkWait_X1_condition : GoodIn wsX2_checkWait wsX1_condition := goodIn_r _ [6, 7, 8, 9, 47, 48, 49, 50, 51, 52, 53, 54, 55, 56, 57, 58, 59, 60, 61, 62, 63, 64, 65, 66] (by decide +kernel) (by decide +kernel)
set_option maxRecDepth 20000 in
theorem gX2_checkWait_X1_condition : GoodIn wsX2_checkWait (wsV RX2 40 RX1 yX1_condition wsX1_condition) := goodIn_app (goodIn_of _ (by decide +kernel)) ggX2_checkWait_X1_condition
set_option maxRecDepth 20000 in
theorem ggX2_checkWait_X1_awaits : GoodIn wsX2_checkWait wsX1_awaits := goodIn_r _ [13, 14, 15, 16, 47, 48, 49, 50, 51, 52, 53, 54, 55, 56, 57, 58, 59, 60, 61, 62, 63, 64, 65, 66] (by decide +kernel) (by decide +kernel)
set_option maxRecDepth 20000 in
theorem gX2_checkWait_X1_awaits : GoodIn wsX2_checkWait (wsV RX2 278 RX1 yX1_awaits wsX1_awaits) := goodIn_app (goodIn_of _ (by decide +kernel)) ggX2_checkWait_X1_awaits
set_option maxRecDepth 20000 in
theorem ggX2_checkWait_X1_canReport : GoodIn wsX2_checkWait wsX1_canReport := goodIn_r _ [20, 21, 22, 47, 48, 49, 50, 51, 52, 53, 54, 55, 56, 57, 58, 59, 60, 61, 62, 63, 64, 65, 66] (by decide +kernel) (by decide +kernel)
set_option maxRecDepth 20000 in
theorem gX2_checkWait_X1_canReport : GoodIn wsX2_checkWait (wsV RX2 282 RX1 yX1_canReport wsX1_canReport) := goodIn_app (goodIn_of _ (by decide +kernel)) ggX2_checkWait_X1_canReport
set_option maxRecDepth 20000 in
theorem ggX2_checkWait_X2_report : GoodIn wsX2_checkWait wsX2_report := goodIn_r _ [27, 28, 29, 30, 31, 32, 33, 34, 5, 35, 9, 36, 37, 38, 39, 40, 41, 26, 42, 1, 47, 48, 49, 50, 51, 52, 53, 54, 55, 56, 57, 58, 59, 60, 61, 62, 63, 64, 65, 66, 43, 44, 45, 46] (by decide +kernel) (by decide +kernel)
set_option maxRecDepth 20000 in
theorem gX2_checkWait_X2_report : GoodIn wsX2_checkWait (wsV RX2 285 RX2 yX2_report wsX2_report) := goodIn_app (goodIn_of _ (by decide +kernel)) ggX2_checkWait_X2_report
set_option maxRecDepth 20000 in
theorem ggX2_checkWait_X1_endWait : GoodIn wsX2_checkWait wsX1_endWait := goodIn_r _ [35, 9, 36, 37, 38, 47, 48, 49, 50, 51, 52, 53, 54, 55, 56, 57, 58, 59, 60, 61, 62, 63, 64, 65, 66] (by decide +kernel) (by decide +kernel)
set_option maxRecDepth 20000 in
theorem gX2_checkWait_X1_endWait : GoodIn wsX2_checkWait (wsV RX2 288 RX1 yX1_endWait wsX1_endWait) := goodIn_app (goodIn_of _ (by decide +kernel)) ggX2_checkWait_X1_endWait
theorem dX2_checkWait_0 : decode cX2_checkWait 0 = .ok (.aload_n 1, 1) := by decide +kernel
theorem dX2_checkWait_1 : decode cX2_checkWait 1 = .ok (.invokevirtual 40, 3) := by decide +kernel
theorem dX2_checkWait_4 : decode cX2_checkWait 4 = .ok (.iconst 1, 1) := by decide +kernel
theorem dX2_checkWait_5 : decode cX2_checkWait 5 = .ok (.if_icmp .eq 4, 3) := by decide +kernel
theorem dX2_checkWait_8 : decode cX2_checkWait 8 = .ok (.return_, 1) := by decide +kernel
theorem dX2_checkWait_9 : decode cX2_checkWait 9 = .ok (.iconst 1, 1) := by decide +kernel
theorem dX2_checkWait_10 : decode cX2_checkWait 10 = .ok (.istore_n 2, 1) := by decide +kernel
theorem dX2_checkWait_11 : decode cX2_checkWait 11 = .ok (.aload_n 0, 1) := by decide +kernel
theorem dX2_checkWait_12 : decode cX2_checkWait 12 = .ok (.getfield 11, 3) := by decide +kernel
theorem dX2_checkWait_15 : decode cX2_checkWait 15 = .ok (.astore_n 3, 1) := by decide +kernel
theorem dX2_checkWait_16 : decode cX2_checkWait 16 = .ok (.aload_n 3, 1) := by decide +kernel
theorem dX2_checkWait_17 : decode cX2_checkWait 17 = .ok (.arraylength, 1) := by decide +kernel
theorem dX2_checkWait_18 : decode cX2_checkWait 18 = .ok (.istore 4, 2) := by decide +kernel
theorem dX2_checkWait_20 : decode cX2_checkWait 20 = .ok (.iconst 0, 1) := by decide +kernel
theorem dX2_checkWait_21 : decode cX2_checkWait 21 = .ok (.istore 5, 2) := by decide +kernel
theorem dX2_checkWait_23 : decode cX2_checkWait 23 = .ok (.iload 5, 2) := by decide +kernel
theorem dX2_checkWait_25 : decode cX2_checkWait 25 = .ok (.iload 4, 2) := by decide +kernel
theorem dX2_checkWait_27 : decode cX2_checkWait 27 = .ok (.if_icmp .ge 48, 3) := by decide +kernel
theorem dX2_checkWait_30 : decode cX2_checkWait 30 = .ok (.aload_n 3, 1) := by decide +kernel
theorem dX2_checkWait_31 : decode cX2_checkWait 31 = .ok (.iload 5, 2) := by decide +kernel
theorem dX2_checkWait_33 : decode cX2_checkWait 33 = .ok (.aaload, 1) := by decide +kernel
theorem dX2_checkWait_34 : decode cX2_checkWait 34 = .ok (.astore 6, 2) := by decide +kernel
theorem dX2_checkWait_36 : decode cX2_checkWait 36 = .ok (.aload 6, 2) := by decide +kernel
theorem dX2_checkWait_38 : decode cX2_checkWait 38 = .ok (.ifnull 31, 3) := by decide +kernel
theorem dX2_checkWait_41 : decode cX2_checkWait 41 = .ok (.aload_n 1, 1) := by decide +kernel
theorem dX2_checkWait_42 : decode cX2_checkWait 42 = .ok (.aload 6, 2) := by decide +kernel
theorem dX2_checkWait_44 : decode cX2_checkWait 44 = .ok (.invokevirtual 278, 3) := by decide +kernel
theorem dX2_checkWait_47 : decode cX2_checkWait 47 = .ok (.ifCond .eq 22, 3) := by decide +kernel
theorem dX2_checkWait_50 : decode cX2_checkWait 50 = .ok (.iconst 0, 1) := by decide +kernel
theorem dX2_checkWait_51 : decode cX2_checkWait 51 = .ok (.istore_n 2, 1) := by decide +kernel
theorem dX2_checkWait_52 : decode cX2_checkWait 52 = .ok (.aload_n 1, 1) := by decide +kernel
theorem dX2_checkWait_53 : decode cX2_checkWait 53 = .ok (.aload 6, 2) := by decide +kernel
theorem dX2_checkWait_55 : decode cX2_checkWait 55 = .ok (.invokevirtual 282, 3) := by decide +kernel
theorem dX2_checkWait_58 : decode cX2_checkWait 58 = .ok (.ifCond .eq 11, 3) := by decide +kernel
theorem dX2_checkWait_61 : decode cX2_checkWait 61 = .ok (.aload_n 0, 1) := by decide +kernel
theorem dX2_checkWait_62 : decode cX2_checkWait 62 = .ok (.aload_n 1, 1) := by decide +kernel
theorem dX2_checkWait_63 : decode cX2_checkWait 63 = .ok (.aload 6, 2) := by decide +kernel
theorem dX2_checkWait_65 : decode cX2_checkWait 65 = .ok (.invokevirtual 285, 3) := by decide +kernel
theorem dX2_checkWait_68 : decode cX2_checkWait 68 = .ok (.return_, 1) := by decide +kernel
theorem dX2_checkWait_69 : decode cX2_checkWait 69 = .ok (.iinc 5 1, 3) := by decide +kernel
theorem dX2_checkWait_72 : decode cX2_checkWait 72 = .ok (.goto (-49), 3) := by decide +kernel
theorem dX2_checkWait_75 : decode cX2_checkWait 75 = .ok (.iload_n 2, 1) := by decide +kernel
theorem dX2_checkWait_76 : decode cX2_checkWait 76 = .ok (.ifCond .eq 10, 3) := by decide +kernel
theorem dX2_checkWait_79 : decode cX2_checkWait 79 = .ok (.aload_n 1, 1) := by decide +kernel
theorem dX2_checkWait_80 : decode cX2_checkWait 80 = .ok (.iconst 4, 1) := by decide +kernel
theorem dX2_checkWait_81 : decode cX2_checkWait 81 = .ok (.iconst (-1), 1) := by decide +kernel
theorem dX2_checkWait_82 : decode cX2_checkWait 82 = .ok (.iconst (-1), 1) := by decide +kernel
theorem dX2_checkWait_83 : decode cX2_checkWait 83 = .ok (.invokevirtual 288, 3) := by decide +kernel
theorem dX2_checkWait_86 : decode cX2_checkWait 86 = .ok (.return_, 1) := by decide +kernel
set_option maxRecDepth 20000 in
theorem ggX2_report_X1_endWait : GoodIn wsX2_report wsX1_endWait := goodIn_r _ [9, 10, 11, 12, 13, 20, 21, 22, 23, 24, 25, 26, 27, 28, 29, 30, 31, 32, 33, 34, 35, 36, 37, 38, 39] (by decide +kernel) (by decide +kernel)
set_option maxRecDepth 20000 in
theorem gX2_report_X1_endWait : GoodIn wsX2_report (wsV RX2 288 RX1 yX1_endWait wsX1_endWait) := goodIn_app (goodIn_of _ (by decide +kernel)) ggX2_report_X1_endWait
set_option maxRecDepth 20000 in
theorem ggX2_report_X2_remove : GoodIn wsX2_report wsX2_remove := goodIn_r _ [18, 2, 19, 20, 21, 22, 23, 24, 25, 26, 27, 28, 29, 30, 31, 32, 33, 34, 35, 36, 37, 38, 39, 40, 41, 42, 43] (by decide +kernel) (by decide +kernel)
set_option maxRecDepth 20000 in
theorem gX2_report_X2_remove : GoodIn wsX2_report (wsV RX2 235 RX2 yX2_remove wsX2_remove) := goodIn_app (goodIn_of _ (by decide +kernel)) ggX2_report_X2_remove
theorem dX2_report_0 : decode cX2_report 0 = .ok (.aload_n 1, 1) := by decide +kernel
theorem dX2_report_1 : decode cX2_report 1 = .ok (.aload_n 2, 1) := by decide +kernel
theorem dX2_report_2 : decode cX2_report 2 = .ok (.getfield 247, 3) := by decide +kernel
theorem dX2_report_5 : decode cX2_report 5 = .ok (.aload_n 2, 1) := by decide +kernel
theorem dX2_report_6 : decode cX2_report 6 = .ok (.getfield 151, 3) := by decide +kernel
theorem dX2_report_9 : decode cX2_report 9 = .ok (.aload_n 2, 1) := by decide +kernel
theorem dX2_report_10 : decode cX2_report 10 = .ok (.getfield 250, 3) := by decide +kernel
theorem dX2_report_13 : decode cX2_report 13 = .ok (.invokevirtual 288, 3) := by decide +kernel
theorem dX2_report_16 : decode cX2_report 16 = .ok (.aload_n 2, 1) := by decide +kernel
theorem dX2_report_17 : decode cX2_report 17 = .ok (.iconst (-1), 1) := by decide +kernel
theorem dX2_report_18 : decode cX2_report 18 = .ok (.putfield 247, 3) := by decide +kernel
theorem dX2_report_21 : decode cX2_report 21 = .ok (.aload_n 2, 1) := by decide +kernel
theorem dX2_report_22 : decode cX2_report 22 = .ok (.getfield 194, 3) := by decide +kernel
theorem dX2_report_25 : decode cX2_report 25 = .ok (.ifCond .eq 8, 3) := by decide +kernel
theorem dX2_report_28 : decode cX2_report 28 = .ok (.aload_n 0, 1) := by decide +kernel
theorem dX2_report_29 : decode cX2_report 29 = .ok (.aload_n 2, 1) := by decide +kernel
theorem dX2_report_30 : decode cX2_report 30 = .ok (.invokevirtual 235, 3) := by decide +kernel
theorem dX2_report_33 : decode cX2_report 33 = .ok (.return_, 1) := by decide +kernel
theorem dX3_init_0 : decode cX3_init 0 = .ok (.aload_n 0, 1) := by decide +kernel
theorem dX3_init_1 : decode cX3_init 1 = .ok (.invokespecial 1, 3) := by decide +kernel
theorem dX3_init_4 : decode cX3_init 4 = .ok (.aload_n 0, 1) := by decide +kernel
theorem dX3_init_5 : decode cX3_init 5 = .ok (.bipush 41, 2) := by decide +kernel
theorem dX3_init_7 : decode cX3_init 7 = .ok (.newarray .boolean, 2) := by decide +kernel
theorem dX3_init_9 : decode cX3_init 9 = .ok (.putfield 7, 3) := by decide +kernel
theorem dX3_init_12 : decode cX3_init 12 = .ok (.aload_n 0, 1) := by decide +kernel
theorem dX3_init_13 : decode cX3_init 13 = .ok (.bipush 41, 2) := by decide +kernel
theorem dX3_init_15 : decode cX3_init 15 = .ok (.newarray .int, 2) := by decide +kernel
theorem dX3_init_17 : decode cX3_init 17 = .ok (.putfield 13, 3) := by decide +kernel
theorem dX3_init_20 : decode cX3_init 20 = .ok (.aload_n 0, 1) := by decide +kernel
theorem dX3_init_21 : decode cX3_init 21 = .ok (.bipush 41, 2) := by decide +kernel
theorem dX3_init_23 : decode cX3_init 23 = .ok (.newarray .int, 2) := by decide +kernel
theorem dX3_init_25 : decode cX3_init 25 = .ok (.putfield 17, 3) := by decide +kernel
theorem dX3_init_28 : decode cX3_init 28 = .ok (.aload_n 0, 1) := by decide +kernel
theorem dX3_init_29 : decode cX3_init 29 = .ok (.bipush 41, 2) := by decide +kernel
theorem dX3_init_31 : decode cX3_init 31 = .ok (.newarray .int, 2) := by decide +kernel
theorem dX3_init_33 : decode cX3_init 33 = .ok (.putfield 20, 3) := by decide +kernel
theorem dX3_init_36 : decode cX3_init 36 = .ok (.aload_n 0, 1) := by decide +kernel
theorem dX3_init_37 : decode cX3_init 37 = .ok (.bipush 41, 2) := by decide +kernel
theorem dX3_init_39 : decode cX3_init 39 = .ok (.newarray .boolean, 2) := by decide +kernel
theorem dX3_init_41 : decode cX3_init 41 = .ok (.putfield 23, 3) := by decide +kernel
theorem dX3_init_44 : decode cX3_init 44 = .ok (.aload_n 0, 1) := by decide +kernel
theorem dX3_init_45 : decode cX3_init 45 = .ok (.bipush 41, 2) := by decide +kernel
theorem dX3_init_47 : decode cX3_init 47 = .ok (.newarray .boolean, 2) := by decide +kernel
theorem dX3_init_49 : decode cX3_init 49 = .ok (.putfield 26, 3) := by decide +kernel
theorem dX3_init_52 : decode cX3_init 52 = .ok (.aload_n 0, 1) := by decide +kernel
theorem dX3_init_53 : decode cX3_init 53 = .ok (.bipush 41, 2) := by decide +kernel
theorem dX3_init_55 : decode cX3_init 55 = .ok (.newarray .boolean, 2) := by decide +kernel
theorem dX3_init_57 : decode cX3_init 57 = .ok (.putfield 29, 3) := by decide +kernel
theorem dX3_init_60 : decode cX3_init 60 = .ok (.aload_n 0, 1) := by decide +kernel
theorem dX3_init_61 : decode cX3_init 61 = .ok (.bipush 41, 2) := by decide +kernel
theorem dX3_init_63 : decode cX3_init 63 = .ok (.newarray .int, 2) := by decide +kernel
theorem dX3_init_65 : decode cX3_init 65 = .ok (.putfield 32, 3) := by decide +kernel
theorem dX3_init_68 : decode cX3_init 68 = .ok (.aload_n 0, 1) := by decide +kernel
theorem dX3_init_69 : decode cX3_init 69 = .ok (.bipush 41, 2) := by decide +kernel
theorem dX3_init_71 : decode cX3_init 71 = .ok (.newarray .boolean, 2) := by decide +kernel
theorem dX3_init_73 : decode cX3_init 73 = .ok (.putfield 35, 3) := by decide +kernel
theorem dX3_init_76 : decode cX3_init 76 = .ok (.aload_n 0, 1) := by decide +kernel
theorem dX3_init_77 : decode cX3_init 77 = .ok (.sipush 369, 3) := by decide +kernel
theorem dX3_init_80 : decode cX3_init 80 = .ok (.newarray .int, 2) := by decide +kernel
theorem dX3_init_82 : decode cX3_init 82 = .ok (.putfield 38, 3) := by decide +kernel
theorem dX3_init_85 : decode cX3_init 85 = .ok (.aload_n 0, 1) := by decide +kernel
theorem dX3_init_86 : decode cX3_init 86 = .ok (.bipush 41, 2) := by decide +kernel
theorem dX3_init_88 : decode cX3_init 88 = .ok (.newarray .int, 2) := by decide +kernel
theorem dX3_init_90 : decode cX3_init 90 = .ok (.putfield 41, 3) := by decide +kernel
theorem dX3_init_93 : decode cX3_init 93 = .ok (.aload_n 0, 1) := by decide +kernel
theorem dX3_init_94 : decode cX3_init 94 = .ok (.bipush 41, 2) := by decide +kernel
theorem dX3_init_96 : decode cX3_init 96 = .ok (.newarray .int, 2) := by decide +kernel
theorem dX3_init_98 : decode cX3_init 98 = .ok (.putfield 44, 3) := by decide +kernel
theorem dX3_init_101 : decode cX3_init 101 = .ok (.aload_n 0, 1) := by decide +kernel
theorem dX3_init_102 : decode cX3_init 102 = .ok (.bipush 41, 2) := by decide +kernel
theorem dX3_init_104 : decode cX3_init 104 = .ok (.newarray .int, 2) := by decide +kernel
theorem dX3_init_106 : decode cX3_init 106 = .ok (.putfield 47, 3) := by decide +kernel
theorem dX3_init_109 : decode cX3_init 109 = .ok (.aload_n 0, 1) := by decide +kernel
theorem dX3_init_110 : decode cX3_init 110 = .ok (.bipush 41, 2) := by decide +kernel
theorem dX3_init_112 : decode cX3_init 112 = .ok (.newarray .boolean, 2) := by decide +kernel
theorem dX3_init_114 : decode cX3_init 114 = .ok (.putfield 50, 3) := by decide +kernel
theorem dX3_init_117 : decode cX3_init 117 = .ok (.aload_n 0, 1) := by decide +kernel
theorem dX3_init_118 : decode cX3_init 118 = .ok (.bipush 41, 2) := by decide +kernel
theorem dX3_init_120 : decode cX3_init 120 = .ok (.newarray .int, 2) := by decide +kernel
theorem dX3_init_122 : decode cX3_init 122 = .ok (.putfield 53, 3) := by decide +kernel
theorem dX3_init_125 : decode cX3_init 125 = .ok (.aload_n 0, 1) := by decide +kernel
theorem dX3_init_126 : decode cX3_init 126 = .ok (.bipush 41, 2) := by decide +kernel
theorem dX3_init_128 : decode cX3_init 128 = .ok (.newarray .int, 2) := by decide +kernel
theorem dX3_init_130 : decode cX3_init 130 = .ok (.putfield 56, 3) := by decide +kernel
theorem dX3_init_133 : decode cX3_init 133 = .ok (.aload_n 0, 1) := by decide +kernel
theorem dX3_init_134 : decode cX3_init 134 = .ok (.bipush 41, 2) := by decide +kernel
theorem dX3_init_136 : decode cX3_init 136 = .ok (.newarray .int, 2) := by decide +kernel
theorem dX3_init_138 : decode cX3_init 138 = .ok (.putfield 59, 3) := by decide +kernel
theorem dX3_init_141 : decode cX3_init 141 = .ok (.aload_n 0, 1) := by decide +kernel
theorem dX3_init_142 : decode cX3_init 142 = .ok (.bipush 41, 2) := by decide +kernel
theorem dX3_init_144 : decode cX3_init 144 = .ok (.newarray .boolean, 2) := by decide +kernel
theorem dX3_init_146 : decode cX3_init 146 = .ok (.putfield 62, 3) := by decide +kernel
theorem dX3_init_149 : decode cX3_init 149 = .ok (.aload_n 0, 1) := by decide +kernel
theorem dX3_init_150 : decode cX3_init 150 = .ok (.bipush 41, 2) := by decide +kernel
theorem dX3_init_152 : decode cX3_init 152 = .ok (.newarray .int, 2) := by decide +kernel
theorem dX3_init_154 : decode cX3_init 154 = .ok (.putfield 65, 3) := by decide +kernel
theorem dX3_init_157 : decode cX3_init 157 = .ok (.aload_n 0, 1) := by decide +kernel
theorem dX3_init_158 : decode cX3_init 158 = .ok (.bipush 41, 2) := by decide +kernel
theorem dX3_init_160 : decode cX3_init 160 = .ok (.newarray .int, 2) := by decide +kernel
theorem dX3_init_162 : decode cX3_init 162 = .ok (.putfield 68, 3) := by decide +kernel
theorem dX3_init_165 : decode cX3_init 165 = .ok (.aload_n 0, 1) := by decide +kernel
theorem dX3_init_166 : decode cX3_init 166 = .ok (.bipush 41, 2) := by decide +kernel
theorem dX3_init_168 : decode cX3_init 168 = .ok (.newarray .int, 2) := by decide +kernel
theorem dX3_init_170 : decode cX3_init 170 = .ok (.putfield 71, 3) := by decide +kernel
theorem dX3_init_173 : decode cX3_init 173 = .ok (.aload_n 0, 1) := by decide +kernel
theorem dX3_init_174 : decode cX3_init 174 = .ok (.iconst (-1), 1) := by decide +kernel
theorem dX3_init_175 : decode cX3_init 175 = .ok (.putfield 74, 3) := by decide +kernel
theorem dX3_init_178 : decode cX3_init 178 = .ok (.aload_n 0, 1) := by decide +kernel
theorem dX3_init_179 : decode cX3_init 179 = .ok (.iconst (-1), 1) := by decide +kernel
theorem dX3_init_180 : decode cX3_init 180 = .ok (.putfield 78, 3) := by decide +kernel
theorem dX3_init_183 : decode cX3_init 183 = .ok (.aload_n 0, 1) := by decide +kernel
theorem dX3_init_184 : decode cX3_init 184 = .ok (.sipush 8192, 3) := by decide +kernel
theorem dX3_init_187 : decode cX3_init 187 = .ok (.newarray .int, 2) := by decide +kernel
theorem dX3_init_189 : decode cX3_init 189 = .ok (.putfield 81, 3) := by decide +kernel
theorem dX3_init_192 : decode cX3_init 192 = .ok (.aload_n 0, 1) := by decide +kernel
theorem dX3_init_193 : decode cX3_init 193 = .ok (.bipush 41, 2) := by decide +kernel
theorem dX3_init_195 : decode cX3_init 195 = .ok (.newarray .boolean, 2) := by decide +kernel
theorem dX3_init_197 : decode cX3_init 197 = .ok (.putfield 84, 3) := by decide +kernel
theorem dX3_init_200 : decode cX3_init 200 = .ok (.aload_n 0, 1) := by decide +kernel
theorem dX3_init_201 : decode cX3_init 201 = .ok (.bipush 41, 2) := by decide +kernel
theorem dX3_init_203 : decode cX3_init 203 = .ok (.newarray .boolean, 2) := by decide +kernel
theorem dX3_init_205 : decode cX3_init 205 = .ok (.putfield 87, 3) := by decide +kernel
theorem dX3_init_208 : decode cX3_init 208 = .ok (.aload_n 0, 1) := by decide +kernel
theorem dX3_init_209 : decode cX3_init 209 = .ok (.getfield 7, 3) := by decide +kernel
theorem dX3_init_212 : decode cX3_init 212 = .ok (.iconst 1, 1) := by decide +kernel
theorem dX3_init_213 : decode cX3_init 213 = .ok (.iconst 1, 1) := by decide +kernel
theorem dX3_init_214 : decode cX3_init 214 = .ok (.bastore, 1) := by decide +kernel
theorem dX3_init_215 : decode cX3_init 215 = .ok (.aload_n 0, 1) := by decide +kernel
theorem dX3_init_216 : decode cX3_init 216 = .ok (.getfield 13, 3) := by decide +kernel
theorem dX3_init_219 : decode cX3_init 219 = .ok (.iconst 1, 1) := by decide +kernel
theorem dX3_init_220 : decode cX3_init 220 = .ok (.iconst (-1), 1) := by decide +kernel
theorem dX3_init_221 : decode cX3_init 221 = .ok (.iastore, 1) := by decide +kernel
theorem dX3_init_222 : decode cX3_init 222 = .ok (.aload_n 0, 1) := by decide +kernel
theorem dX3_init_223 : decode cX3_init 223 = .ok (.getfield 17, 3) := by decide +kernel
theorem dX3_init_226 : decode cX3_init 226 = .ok (.iconst 1, 1) := by decide +kernel
theorem dX3_init_227 : decode cX3_init 227 = .ok (.iconst 1, 1) := by decide +kernel
theorem dX3_init_228 : decode cX3_init 228 = .ok (.iastore, 1) := by decide +kernel
theorem dX3_init_229 : decode cX3_init 229 = .ok (.aload_n 0, 1) := by decide +kernel
theorem dX3_init_230 : decode cX3_init 230 = .ok (.getfield 20, 3) := by decide +kernel
theorem dX3_init_233 : decode cX3_init 233 = .ok (.iconst 1, 1) := by decide +kernel
theorem dX3_init_234 : decode cX3_init 234 = .ok (.iconst 1, 1) := by decide +kernel
theorem dX3_init_235 : decode cX3_init 235 = .ok (.iastore, 1) := by decide +kernel
theorem dX3_init_236 : decode cX3_init 236 = .ok (.aload_n 0, 1) := by decide +kernel
theorem dX3_init_237 : decode cX3_init 237 = .ok (.getfield 65, 3) := by decide +kernel
theorem dX3_init_240 : decode cX3_init 240 = .ok (.iconst 1, 1) := by decide +kernel
theorem dX3_init_241 : decode cX3_init 241 = .ok (.iconst (-1), 1) := by decide +kernel
theorem dX3_init_242 : decode cX3_init 242 = .ok (.iastore, 1) := by decide +kernel
theorem dX3_init_243 : decode cX3_init 243 = .ok (.aload_n 0, 1) := by decide +kernel
theorem dX3_init_244 : decode cX3_init 244 = .ok (.getfield 68, 3) := by decide +kernel
theorem dX3_init_247 : decode cX3_init 247 = .ok (.iconst 1, 1) := by decide +kernel
theorem dX3_init_248 : decode cX3_init 248 = .ok (.iconst (-1), 1) := by decide +kernel
theorem dX3_init_249 : decode cX3_init 249 = .ok (.iastore, 1) := by decide +kernel
theorem dX3_init_250 : decode cX3_init 250 = .ok (.aload_n 0, 1) := by decide +kernel
theorem dX3_init_251 : decode cX3_init 251 = .ok (.getfield 71, 3) := by decide +kernel
theorem dX3_init_254 : decode cX3_init 254 = .ok (.iconst 1, 1) := by decide +kernel
theorem dX3_init_255 : decode cX3_init 255 = .ok (.iconst (-1), 1) := by decide +kernel
theorem dX3_init_256 : decode cX3_init 256 = .ok (.iastore, 1) := by decide +kernel
theorem dX3_init_257 : decode cX3_init 257 = .ok (.return_, 1) := by decide +kernel
theorem dX3_thrown_0 : decode cX3_thrown 0 = .ok (.aload_n 0, 1) := by decide +kernel
theorem dX3_thrown_1 : decode cX3_thrown 1 = .ok (.getfield 90, 3) := by decide +kernel
theorem dX3_thrown_4 : decode cX3_thrown 4 = .ok (.ireturn, 1) := by decide +kernel
theorem dX3_fails_0 : decode cX3_fails 0 = .ok (.aload_n 0, 1) := by decide +kernel
theorem dX3_fails_1 : decode cX3_fails 1 = .ok (.iload_n 1, 1) := by decide +kernel
theorem dX3_fails_2 : decode cX3_fails 2 = .ok (.putfield 90, 3) := by decide +kernel
theorem dX3_fails_5 : decode cX3_fails 5 = .ok (.iload_n 1, 1) := by decide +kernel
theorem dX3_fails_6 : decode cX3_fails 6 = .ok (.ifCond .le 7, 3) := by decide +kernel
theorem dX3_fails_9 : decode cX3_fails 9 = .ok (.iconst 1, 1) := by decide +kernel
theorem dX3_fails_10 : decode cX3_fails 10 = .ok (.goto 4, 3) := by decide +kernel
theorem dX3_fails_13 : decode cX3_fails 13 = .ok (.iconst 0, 1) := by decide +kernel
theorem dX3_fails_14 : decode cX3_fails 14 = .ok (.ireturn, 1) := by decide +kernel
theorem dX3_tells_0 : decode cX3_tells 0 = .ok (.aload_n 0, 1) := by decide +kernel
theorem dX3_tells_1 : decode cX3_tells 1 = .ok (.iconst 0, 1) := by decide +kernel
theorem dX3_tells_2 : decode cX3_tells 2 = .ok (.putfield 90, 3) := by decide +kernel
theorem dX3_tells_5 : decode cX3_tells 5 = .ok (.iload_n 1, 1) := by decide +kernel
theorem dX3_tells_6 : decode cX3_tells 6 = .ok (.ireturn, 1) := by decide +kernel
theorem dX3_is_0 : decode cX3_is 0 = .ok (.iload_n 1, 1) := by decide +kernel
theorem dX3_is_1 : decode cX3_is 1 = .ok (.ifCond .le 22, 3) := by decide +kernel
theorem dX3_is_4 : decode cX3_is 4 = .ok (.iload_n 1, 1) := by decide +kernel
theorem dX3_is_5 : decode cX3_is 5 = .ok (.bipush 40, 2) := by decide +kernel
theorem dX3_is_7 : decode cX3_is 7 = .ok (.if_icmp .gt 16, 3) := by decide +kernel
theorem dX3_is_10 : decode cX3_is 10 = .ok (.aload_n 0, 1) := by decide +kernel
theorem dX3_is_11 : decode cX3_is 11 = .ok (.getfield 7, 3) := by decide +kernel
theorem dX3_is_14 : decode cX3_is 14 = .ok (.iload_n 1, 1) := by decide +kernel
theorem dX3_is_15 : decode cX3_is 15 = .ok (.baload, 1) := by decide +kernel
theorem dX3_is_16 : decode cX3_is 16 = .ok (.ifCond .eq 7, 3) := by decide +kernel
theorem dX3_is_19 : decode cX3_is 19 = .ok (.iconst 1, 1) := by decide +kernel
theorem dX3_is_20 : decode cX3_is 20 = .ok (.goto 4, 3) := by decide +kernel
theorem dX3_is_23 : decode cX3_is 23 = .ok (.iconst 0, 1) := by decide +kernel
theorem dX3_is_24 : decode cX3_is 24 = .ok (.ireturn, 1) := by decide +kernel
theorem dX3_isMember_0 : decode cX3_isMember 0 = .ok (.aload_n 0, 1) := by decide +kernel
theorem dX3_isMember_1 : decode cX3_isMember 1 = .ok (.getfield 7, 3) := by decide +kernel
theorem dX3_isMember_4 : decode cX3_isMember 4 = .ok (.iload_n 1, 1) := by decide +kernel
theorem dX3_isMember_5 : decode cX3_isMember 5 = .ok (.baload, 1) := by decide +kernel
theorem dX3_isMember_6 : decode cX3_isMember 6 = .ok (.ifCond .eq 26, 3) := by decide +kernel
theorem dX3_isMember_9 : decode cX3_isMember 9 = .ok (.aload_n 0, 1) := by decide +kernel
theorem dX3_isMember_10 : decode cX3_isMember 10 = .ok (.getfield 23, 3) := by decide +kernel
theorem dX3_isMember_13 : decode cX3_isMember 13 = .ok (.iload_n 1, 1) := by decide +kernel
theorem dX3_isMember_14 : decode cX3_isMember 14 = .ok (.baload, 1) := by decide +kernel
theorem dX3_isMember_15 : decode cX3_isMember 15 = .ok (.ifCond .ne 17, 3) := by decide +kernel
theorem dX3_isMember_18 : decode cX3_isMember 18 = .ok (.aload_n 0, 1) := by decide +kernel
theorem dX3_isMember_19 : decode cX3_isMember 19 = .ok (.getfield 17, 3) := by decide +kernel
theorem dX3_isMember_22 : decode cX3_isMember 22 = .ok (.iload_n 1, 1) := by decide +kernel
theorem dX3_isMember_23 : decode cX3_isMember 23 = .ok (.iaload, 1) := by decide +kernel
theorem dX3_isMember_24 : decode cX3_isMember 24 = .ok (.iload_n 2, 1) := by decide +kernel
theorem dX3_isMember_25 : decode cX3_isMember 25 = .ok (.if_icmp .ne 7, 3) := by decide +kernel
theorem dX3_isMember_28 : decode cX3_isMember 28 = .ok (.iconst 1, 1) := by decide +kernel
theorem dX3_isMember_29 : decode cX3_isMember 29 = .ok (.goto 4, 3) := by decide +kernel
theorem dX3_isMember_32 : decode cX3_isMember 32 = .ok (.iconst 0, 1) := by decide +kernel
theorem dX3_isMember_33 : decode cX3_isMember 33 = .ok (.ireturn, 1) := by decide +kernel
theorem dX3_isRunning_0 : decode cX3_isRunning 0 = .ok (.aload_n 0, 1) := by decide +kernel
theorem dX3_isRunning_1 : decode cX3_isRunning 1 = .ok (.getfield 23, 3) := by decide +kernel
theorem dX3_isRunning_4 : decode cX3_isRunning 4 = .ok (.iload_n 1, 1) := by decide +kernel
theorem dX3_isRunning_5 : decode cX3_isRunning 5 = .ok (.baload, 1) := by decide +kernel
theorem dX3_isRunning_6 : decode cX3_isRunning 6 = .ok (.ifCond .ne 25, 3) := by decide +kernel
theorem dX3_isRunning_9 : decode cX3_isRunning 9 = .ok (.aload_n 0, 1) := by decide +kernel
theorem dX3_isRunning_10 : decode cX3_isRunning 10 = .ok (.getfield 26, 3) := by decide +kernel
theorem dX3_isRunning_13 : decode cX3_isRunning 13 = .ok (.iload_n 1, 1) := by decide +kernel
theorem dX3_isRunning_14 : decode cX3_isRunning 14 = .ok (.baload, 1) := by decide +kernel
theorem dX3_isRunning_15 : decode cX3_isRunning 15 = .ok (.ifCond .ne 16, 3) := by decide +kernel
theorem dX3_isRunning_18 : decode cX3_isRunning 18 = .ok (.aload_n 0, 1) := by decide +kernel
theorem dX3_isRunning_19 : decode cX3_isRunning 19 = .ok (.getfield 29, 3) := by decide +kernel
theorem dX3_isRunning_22 : decode cX3_isRunning 22 = .ok (.iload_n 1, 1) := by decide +kernel
theorem dX3_isRunning_23 : decode cX3_isRunning 23 = .ok (.baload, 1) := by decide +kernel
theorem dX3_isRunning_24 : decode cX3_isRunning 24 = .ok (.ifCond .ne 7, 3) := by decide +kernel
theorem dX3_isRunning_27 : decode cX3_isRunning 27 = .ok (.iconst 1, 1) := by decide +kernel
theorem dX3_isRunning_28 : decode cX3_isRunning 28 = .ok (.goto 4, 3) := by decide +kernel
theorem dX3_isRunning_31 : decode cX3_isRunning 31 = .ok (.iconst 0, 1) := by decide +kernel
theorem dX3_isRunning_32 : decode cX3_isRunning 32 = .ok (.ireturn, 1) := by decide +kernel
set_option maxRecDepth 20000 in
theorem ggX3_cannot_X3_isRunning : GoodIn wsX3_cannot wsX3_isRunning := goodIn_r _ [5, 6, 7, 8, 9, 10, 11, 12, 13, 14, 15, 16, 17, 18, 19, 20, 21, 22, 23, 24, 25, 26, 27, 28, 29, 30, 31, 32, 33, 34, 35, 36, 37] (by decide +kernel) (by decide +kernel)
set_option maxRecDepth 20000 in
theorem gX3_cannot_X3_isRunning : GoodIn wsX3_cannot (wsV RX3 93 RX3 yX3_isRunning wsX3_isRunning) := goodIn_app (goodIn_of _ (by decide +kernel)) ggX3_cannot_X3_isRunning
theorem dX3_cannot_0 : decode cX3_cannot 0 = .ok (.iload_n 1, 1) := by decide +kernel
theorem dX3_cannot_1 : decode cX3_cannot 1 = .ok (.iconst 1, 1) := by decide +kernel
theorem dX3_cannot_2 : decode cX3_cannot 2 = .ok (.if_icmp .eq 11, 3) := by decide +kernel
theorem dX3_cannot_5 : decode cX3_cannot 5 = .ok (.aload_n 0, 1) := by decide +kernel
theorem dX3_cannot_6 : decode cX3_cannot 6 = .ok (.iload_n 1, 1) := by decide +kernel
theorem dX3_cannot_7 : decode cX3_cannot 7 = .ok (.invokevirtual 93, 3) := by decide +kernel
theorem dX3_cannot_10 : decode cX3_cannot 10 = .ok (.ifCond .ne 7, 3) := by decide +kernel
theorem dX3_cannot_13 : decode cX3_cannot 13 = .ok (.iconst 1, 1) := by decide +kernel
theorem dX3_cannot_14 : decode cX3_cannot 14 = .ok (.goto 4, 3) := by decide +kernel
theorem dX3_cannot_17 : decode cX3_cannot 17 = .ok (.iconst 0, 1) := by decide +kernel
theorem dX3_cannot_18 : decode cX3_cannot 18 = .ok (.ireturn, 1) := by decide +kernel
set_option maxRecDepth 20000 in
theorem ggX3_orphaned_X3_isMember : GoodIn wsX3_orphaned wsX3_isMember := goodIn_r _ [9, 10, 2, 4, 11, 12, 13, 14, 15, 16, 17, 18, 19, 20, 21, 22, 23, 24, 25, 26, 27, 28, 29, 30, 31, 32, 33, 34, 35, 36, 37, 38, 39] (by decide +kernel) (by decide +kernel)
set_option maxRecDepth 20000 in
theorem gX3_orphaned_X3_isMember : GoodIn wsX3_orphaned (wsV RX3 97 RX3 yX3_isMember wsX3_isMember) := goodIn_app (goodIn_of _ (by decide +kernel)) ggX3_orphaned_X3_isMember
theorem dX3_orphaned_0 : decode cX3_orphaned 0 = .ok (.iconst 1, 1) := by decide +kernel
theorem dX3_orphaned_1 : decode cX3_orphaned 1 = .ok (.istore_n 2, 1) := by decide +kernel
theorem dX3_orphaned_2 : decode cX3_orphaned 2 = .ok (.iconst 1, 1) := by decide +kernel
theorem dX3_orphaned_3 : decode cX3_orphaned 3 = .ok (.istore_n 3, 1) := by decide +kernel
theorem dX3_orphaned_4 : decode cX3_orphaned 4 = .ok (.iload_n 3, 1) := by decide +kernel
theorem dX3_orphaned_5 : decode cX3_orphaned 5 = .ok (.bipush 40, 2) := by decide +kernel
theorem dX3_orphaned_7 : decode cX3_orphaned 7 = .ok (.if_icmp .gt 78, 3) := by decide +kernel
theorem dX3_orphaned_10 : decode cX3_orphaned 10 = .ok (.aload_n 0, 1) := by decide +kernel
theorem dX3_orphaned_11 : decode cX3_orphaned 11 = .ok (.iload_n 3, 1) := by decide +kernel
theorem dX3_orphaned_12 : decode cX3_orphaned 12 = .ok (.iload_n 1, 1) := by decide +kernel
theorem dX3_orphaned_13 : decode cX3_orphaned 13 = .ok (.invokevirtual 97, 3) := by decide +kernel
theorem dX3_orphaned_16 : decode cX3_orphaned 16 = .ok (.ifCond .eq 63, 3) := by decide +kernel
theorem dX3_orphaned_19 : decode cX3_orphaned 19 = .ok (.iload_n 3, 1) := by decide +kernel
theorem dX3_orphaned_20 : decode cX3_orphaned 20 = .ok (.iconst 1, 1) := by decide +kernel
theorem dX3_orphaned_21 : decode cX3_orphaned 21 = .ok (.if_icmp .eq 58, 3) := by decide +kernel
theorem dX3_orphaned_24 : decode cX3_orphaned 24 = .ok (.aload_n 0, 1) := by decide +kernel
theorem dX3_orphaned_25 : decode cX3_orphaned 25 = .ok (.getfield 13, 3) := by decide +kernel
theorem dX3_orphaned_28 : decode cX3_orphaned 28 = .ok (.iload_n 3, 1) := by decide +kernel
theorem dX3_orphaned_29 : decode cX3_orphaned 29 = .ok (.iaload, 1) := by decide +kernel
theorem dX3_orphaned_30 : decode cX3_orphaned 30 = .ok (.istore 4, 2) := by decide +kernel
theorem dX3_orphaned_32 : decode cX3_orphaned 32 = .ok (.iload_n 2, 1) := by decide +kernel
theorem dX3_orphaned_33 : decode cX3_orphaned 33 = .ok (.ifCond .eq 44, 3) := by decide +kernel
theorem dX3_orphaned_36 : decode cX3_orphaned 36 = .ok (.aload_n 0, 1) := by decide +kernel
theorem dX3_orphaned_37 : decode cX3_orphaned 37 = .ok (.getfield 23, 3) := by decide +kernel
theorem dX3_orphaned_40 : decode cX3_orphaned 40 = .ok (.iload 4, 2) := by decide +kernel
theorem dX3_orphaned_42 : decode cX3_orphaned 42 = .ok (.baload, 1) := by decide +kernel
theorem dX3_orphaned_43 : decode cX3_orphaned 43 = .ok (.ifCond .ne 30, 3) := by decide +kernel
theorem dX3_orphaned_46 : decode cX3_orphaned 46 = .ok (.aload_n 0, 1) := by decide +kernel
theorem dX3_orphaned_47 : decode cX3_orphaned 47 = .ok (.getfield 20, 3) := by decide +kernel
theorem dX3_orphaned_50 : decode cX3_orphaned 50 = .ok (.iload 4, 2) := by decide +kernel
theorem dX3_orphaned_52 : decode cX3_orphaned 52 = .ok (.iaload, 1) := by decide +kernel
theorem dX3_orphaned_53 : decode cX3_orphaned 53 = .ok (.aload_n 0, 1) := by decide +kernel
theorem dX3_orphaned_54 : decode cX3_orphaned 54 = .ok (.getfield 20, 3) := by decide +kernel
theorem dX3_orphaned_57 : decode cX3_orphaned 57 = .ok (.iload_n 3, 1) := by decide +kernel
theorem dX3_orphaned_58 : decode cX3_orphaned 58 = .ok (.iaload, 1) := by decide +kernel
theorem dX3_orphaned_59 : decode cX3_orphaned 59 = .ok (.if_icmp .ne 14, 3) := by decide +kernel
theorem dX3_orphaned_62 : decode cX3_orphaned 62 = .ok (.aload_n 0, 1) := by decide +kernel
theorem dX3_orphaned_63 : decode cX3_orphaned 63 = .ok (.getfield 17, 3) := by decide +kernel
theorem dX3_orphaned_66 : decode cX3_orphaned 66 = .ok (.iload 4, 2) := by decide +kernel
theorem dX3_orphaned_68 : decode cX3_orphaned 68 = .ok (.iaload, 1) := by decide +kernel
theorem dX3_orphaned_69 : decode cX3_orphaned 69 = .ok (.iload_n 1, 1) := by decide +kernel
theorem dX3_orphaned_70 : decode cX3_orphaned 70 = .ok (.if_icmp .ne 7, 3) := by decide +kernel
theorem dX3_orphaned_73 : decode cX3_orphaned 73 = .ok (.iconst 1, 1) := by decide +kernel
theorem dX3_orphaned_74 : decode cX3_orphaned 74 = .ok (.goto 4, 3) := by decide +kernel
theorem dX3_orphaned_77 : decode cX3_orphaned 77 = .ok (.iconst 0, 1) := by decide +kernel
theorem dX3_orphaned_78 : decode cX3_orphaned 78 = .ok (.istore_n 2, 1) := by decide +kernel
theorem dX3_orphaned_79 : decode cX3_orphaned 79 = .ok (.iinc 3 1, 3) := by decide +kernel
theorem dX3_orphaned_82 : decode cX3_orphaned 82 = .ok (.goto (-78), 3) := by decide +kernel
theorem dX3_orphaned_85 : decode cX3_orphaned 85 = .ok (.iload_n 2, 1) := by decide +kernel
theorem dX3_orphaned_86 : decode cX3_orphaned 86 = .ok (.ireturn, 1) := by decide +kernel
theorem dX3_appends_0 : decode cX3_appends 0 = .ok (.aload_n 0, 1) := by decide +kernel
theorem dX3_appends_1 : decode cX3_appends 1 = .ok (.getfield 81, 3) := by decide +kernel
theorem dX3_appends_4 : decode cX3_appends 4 = .ok (.aload_n 0, 1) := by decide +kernel
theorem dX3_appends_5 : decode cX3_appends 5 = .ok (.getfield 101, 3) := by decide +kernel
theorem dX3_appends_8 : decode cX3_appends 8 = .ok (.sipush 1000, 3) := by decide +kernel
theorem dX3_appends_11 : decode cX3_appends 11 = .ok (.iload_n 1, 1) := by decide +kernel
theorem dX3_appends_12 : decode cX3_appends 12 = .ok (.imul, 1) := by decide +kernel
theorem dX3_appends_13 : decode cX3_appends 13 = .ok (.bipush 50, 2) := by decide +kernel
theorem dX3_appends_15 : decode cX3_appends 15 = .ok (.iload_n 2, 1) := by decide +kernel
theorem dX3_appends_16 : decode cX3_appends 16 = .ok (.imul, 1) := by decide +kernel
theorem dX3_appends_17 : decode cX3_appends 17 = .ok (.iadd, 1) := by decide +kernel
theorem dX3_appends_18 : decode cX3_appends 18 = .ok (.iload_n 3, 1) := by decide +kernel
theorem dX3_appends_19 : decode cX3_appends 19 = .ok (.iadd, 1) := by decide +kernel
theorem dX3_appends_20 : decode cX3_appends 20 = .ok (.iastore, 1) := by decide +kernel
theorem dX3_appends_21 : decode cX3_appends 21 = .ok (.aload_n 0, 1) := by decide +kernel
theorem dX3_appends_22 : decode cX3_appends 22 = .ok (.aload_n 0, 1) := by decide +kernel
theorem dX3_appends_23 : decode cX3_appends 23 = .ok (.getfield 101, 3) := by decide +kernel
theorem dX3_appends_26 : decode cX3_appends 26 = .ok (.iconst 1, 1) := by decide +kernel
theorem dX3_appends_27 : decode cX3_appends 27 = .ok (.iadd, 1) := by decide +kernel
theorem dX3_appends_28 : decode cX3_appends 28 = .ok (.sipush 8192, 3) := by decide +kernel
theorem dX3_appends_31 : decode cX3_appends 31 = .ok (.irem, 1) := by decide +kernel
theorem dX3_appends_32 : decode cX3_appends 32 = .ok (.putfield 101, 3) := by decide +kernel
theorem dX3_appends_35 : decode cX3_appends 35 = .ok (.return_, 1) := by decide +kernel
set_option maxRecDepth 20000 in
theorem ggX3_sends_X3_isMember : GoodIn wsX3_sends wsX3_isMember := goodIn_r _ [5, 6, 7, 8, 15, 16, 17, 18, 19, 20, 21, 22, 23, 24, 25, 26, 27, 28, 29, 30, 31, 32, 33, 34, 35, 36, 37, 38, 39, 40, 41, 42, 43] (by decide +kernel) (by decide +kernel)
set_option maxRecDepth 20000 in
theorem gX3_sends_X3_isMember : GoodIn wsX3_sends (wsV RX3 97 RX3 yX3_isMember wsX3_isMember) := goodIn_app (goodIn_of _ (by decide +kernel)) ggX3_sends_X3_isMember
set_option maxRecDepth 20000 in
theorem ggX3_sends_X3_appends : GoodIn wsX3_sends wsX3_appends := goodIn_r _ [12, 13, 14, 15, 16, 17, 18, 19, 20, 21, 22, 23, 24, 25, 26, 27, 28, 29, 30, 31, 32, 33, 34, 35, 36, 37, 38, 39, 40, 41, 42, 43] (by decide +kernel) (by decide +kernel)
set_option maxRecDepth 20000 in
theorem gX3_sends_X3_appends : GoodIn wsX3_sends (wsV RX3 104 RX3 yX3_appends wsX3_appends) := goodIn_app (goodIn_of _ (by decide +kernel)) ggX3_sends_X3_appends
theorem dX3_sends_0 : decode cX3_sends 0 = .ok (.iconst 0, 1) := by decide +kernel
theorem dX3_sends_1 : decode cX3_sends 1 = .ok (.istore_n 3, 1) := by decide +kernel
theorem dX3_sends_2 : decode cX3_sends 2 = .ok (.iconst 1, 1) := by decide +kernel
theorem dX3_sends_3 : decode cX3_sends 3 = .ok (.istore 4, 2) := by decide +kernel
theorem dX3_sends_5 : decode cX3_sends 5 = .ok (.iload 4, 2) := by decide +kernel
theorem dX3_sends_7 : decode cX3_sends 7 = .ok (.bipush 40, 2) := by decide +kernel
theorem dX3_sends_9 : decode cX3_sends 9 = .ok (.if_icmp .gt 30, 3) := by decide +kernel
theorem dX3_sends_12 : decode cX3_sends 12 = .ok (.aload_n 0, 1) := by decide +kernel
theorem dX3_sends_13 : decode cX3_sends 13 = .ok (.iload 4, 2) := by decide +kernel
theorem dX3_sends_15 : decode cX3_sends 15 = .ok (.iload_n 1, 1) := by decide +kernel
theorem dX3_sends_16 : decode cX3_sends 16 = .ok (.invokevirtual 97, 3) := by decide +kernel
theorem dX3_sends_19 : decode cX3_sends 19 = .ok (.ifCond .eq 14, 3) := by decide +kernel
theorem dX3_sends_22 : decode cX3_sends 22 = .ok (.aload_n 0, 1) := by decide +kernel
theorem dX3_sends_23 : decode cX3_sends 23 = .ok (.iconst 1, 1) := by decide +kernel
theorem dX3_sends_24 : decode cX3_sends 24 = .ok (.iload_n 2, 1) := by decide +kernel
theorem dX3_sends_25 : decode cX3_sends 25 = .ok (.iload 4, 2) := by decide +kernel
theorem dX3_sends_27 : decode cX3_sends 27 = .ok (.invokevirtual 104, 3) := by decide +kernel
theorem dX3_sends_30 : decode cX3_sends 30 = .ok (.iinc 3 1, 3) := by decide +kernel
theorem dX3_sends_33 : decode cX3_sends 33 = .ok (.iinc 4 1, 3) := by decide +kernel
theorem dX3_sends_36 : decode cX3_sends 36 = .ok (.goto (-31), 3) := by decide +kernel
theorem dX3_sends_39 : decode cX3_sends 39 = .ok (.iload_n 3, 1) := by decide +kernel
theorem dX3_sends_40 : decode cX3_sends 40 = .ok (.ireturn, 1) := by decide +kernel
set_option maxRecDepth 20000 in
theorem ggX3_stops_X3_appends : GoodIn wsX3_stops wsX3_appends := goodIn_r _ [8, 9, 10, 11, 12, 13, 14, 15, 16, 17, 18, 19, 20, 21, 22, 23, 24, 25, 26, 27, 28, 29, 30, 31, 32, 33, 34, 35, 36, 37, 38, 39] (by decide +kernel) (by decide +kernel)
set_option maxRecDepth 20000 in
theorem gX3_stops_X3_appends : GoodIn wsX3_stops (wsV RX3 104 RX3 yX3_appends wsX3_appends) := goodIn_app (goodIn_of _ (by decide +kernel)) ggX3_stops_X3_appends
theorem dX3_stops_0 : decode cX3_stops 0 = .ok (.aload_n 0, 1) := by decide +kernel
theorem dX3_stops_1 : decode cX3_stops 1 = .ok (.getfield 26, 3) := by decide +kernel
theorem dX3_stops_4 : decode cX3_stops 4 = .ok (.iload_n 1, 1) := by decide +kernel
theorem dX3_stops_5 : decode cX3_stops 5 = .ok (.iconst 1, 1) := by decide +kernel
theorem dX3_stops_6 : decode cX3_stops 6 = .ok (.bastore, 1) := by decide +kernel
theorem dX3_stops_7 : decode cX3_stops 7 = .ok (.aload_n 0, 1) := by decide +kernel
theorem dX3_stops_8 : decode cX3_stops 8 = .ok (.getfield 59, 3) := by decide +kernel
theorem dX3_stops_11 : decode cX3_stops 11 = .ok (.iload_n 1, 1) := by decide +kernel
theorem dX3_stops_12 : decode cX3_stops 12 = .ok (.iload_n 2, 1) := by decide +kernel
theorem dX3_stops_13 : decode cX3_stops 13 = .ok (.iastore, 1) := by decide +kernel
theorem dX3_stops_14 : decode cX3_stops 14 = .ok (.aload_n 0, 1) := by decide +kernel
theorem dX3_stops_15 : decode cX3_stops 15 = .ok (.getfield 62, 3) := by decide +kernel
theorem dX3_stops_18 : decode cX3_stops 18 = .ok (.iload_n 1, 1) := by decide +kernel
theorem dX3_stops_19 : decode cX3_stops 19 = .ok (.iconst 1, 1) := by decide +kernel
theorem dX3_stops_20 : decode cX3_stops 20 = .ok (.bastore, 1) := by decide +kernel
theorem dX3_stops_21 : decode cX3_stops 21 = .ok (.aload_n 0, 1) := by decide +kernel
theorem dX3_stops_22 : decode cX3_stops 22 = .ok (.iconst 3, 1) := by decide +kernel
theorem dX3_stops_23 : decode cX3_stops 23 = .ok (.iconst 0, 1) := by decide +kernel
theorem dX3_stops_24 : decode cX3_stops 24 = .ok (.iload_n 1, 1) := by decide +kernel
theorem dX3_stops_25 : decode cX3_stops 25 = .ok (.invokevirtual 104, 3) := by decide +kernel
theorem dX3_stops_28 : decode cX3_stops 28 = .ok (.return_, 1) := by decide +kernel
theorem dX3_heir_0 : decode cX3_heir 0 = .ok (.aload_n 0, 1) := by decide +kernel
theorem dX3_heir_1 : decode cX3_heir 1 = .ok (.getfield 13, 3) := by decide +kernel
theorem dX3_heir_4 : decode cX3_heir 4 = .ok (.iload_n 1, 1) := by decide +kernel
theorem dX3_heir_5 : decode cX3_heir 5 = .ok (.iaload, 1) := by decide +kernel
theorem dX3_heir_6 : decode cX3_heir 6 = .ok (.istore_n 2, 1) := by decide +kernel
theorem dX3_heir_7 : decode cX3_heir 7 = .ok (.iload_n 2, 1) := by decide +kernel
theorem dX3_heir_8 : decode cX3_heir 8 = .ok (.iconst 1, 1) := by decide +kernel
theorem dX3_heir_9 : decode cX3_heir 9 = .ok (.if_icmp .eq 31, 3) := by decide +kernel
theorem dX3_heir_12 : decode cX3_heir 12 = .ok (.aload_n 0, 1) := by decide +kernel
theorem dX3_heir_13 : decode cX3_heir 13 = .ok (.getfield 50, 3) := by decide +kernel
theorem dX3_heir_16 : decode cX3_heir 16 = .ok (.iload_n 2, 1) := by decide +kernel
theorem dX3_heir_17 : decode cX3_heir 17 = .ok (.baload, 1) := by decide +kernel
theorem dX3_heir_18 : decode cX3_heir 18 = .ok (.ifCond .eq 12, 3) := by decide +kernel
theorem dX3_heir_21 : decode cX3_heir 21 = .ok (.aload_n 0, 1) := by decide +kernel
theorem dX3_heir_22 : decode cX3_heir 22 = .ok (.getfield 23, 3) := by decide +kernel
theorem dX3_heir_25 : decode cX3_heir 25 = .ok (.iload_n 2, 1) := by decide +kernel
theorem dX3_heir_26 : decode cX3_heir 26 = .ok (.baload, 1) := by decide +kernel
theorem dX3_heir_27 : decode cX3_heir 27 = .ok (.ifCond .eq 13, 3) := by decide +kernel
theorem dX3_heir_30 : decode cX3_heir 30 = .ok (.aload_n 0, 1) := by decide +kernel
theorem dX3_heir_31 : decode cX3_heir 31 = .ok (.getfield 13, 3) := by decide +kernel
theorem dX3_heir_34 : decode cX3_heir 34 = .ok (.iload_n 2, 1) := by decide +kernel
theorem dX3_heir_35 : decode cX3_heir 35 = .ok (.iaload, 1) := by decide +kernel
theorem dX3_heir_36 : decode cX3_heir 36 = .ok (.istore_n 2, 1) := by decide +kernel
theorem dX3_heir_37 : decode cX3_heir 37 = .ok (.goto (-30), 3) := by decide +kernel
theorem dX3_heir_40 : decode cX3_heir 40 = .ok (.iload_n 2, 1) := by decide +kernel
theorem dX3_heir_41 : decode cX3_heir 41 = .ok (.ireturn, 1) := by decide +kernel
set_option maxRecDepth 20000 in
theorem ggX3_hasStopped_X3_isMember : GoodIn wsX3_hasStopped wsX3_isMember := goodIn_r _ [6, 7, 8, 9, 10, 11, 12, 13, 14, 15, 16, 17, 18, 19, 20, 21, 22, 23, 24, 25, 26, 27, 28, 29, 30, 31, 32, 33, 34, 35, 36, 37, 38] (by decide +kernel) (by decide +kernel)
set_option maxRecDepth 20000 in
theorem gX3_hasStopped_X3_isMember : GoodIn wsX3_hasStopped (wsV RX3 97 RX3 yX3_isMember wsX3_isMember) := goodIn_app (goodIn_of _ (by decide +kernel)) ggX3_hasStopped_X3_isMember
theorem dX3_hasStopped_0 : decode cX3_hasStopped 0 = .ok (.iconst 0, 1) := by decide +kernel
theorem dX3_hasStopped_1 : decode cX3_hasStopped 1 = .ok (.istore_n 2, 1) := by decide +kernel
theorem dX3_hasStopped_2 : decode cX3_hasStopped 2 = .ok (.iconst 1, 1) := by decide +kernel
theorem dX3_hasStopped_3 : decode cX3_hasStopped 3 = .ok (.istore_n 3, 1) := by decide +kernel
theorem dX3_hasStopped_4 : decode cX3_hasStopped 4 = .ok (.iload_n 3, 1) := by decide +kernel
theorem dX3_hasStopped_5 : decode cX3_hasStopped 5 = .ok (.bipush 40, 2) := by decide +kernel
theorem dX3_hasStopped_7 : decode cX3_hasStopped 7 = .ok (.if_icmp .gt 37, 3) := by decide +kernel
theorem dX3_hasStopped_10 : decode cX3_hasStopped 10 = .ok (.iload_n 2, 1) := by decide +kernel
theorem dX3_hasStopped_11 : decode cX3_hasStopped 11 = .ok (.ifCond .ne 21, 3) := by decide +kernel
theorem dX3_hasStopped_14 : decode cX3_hasStopped 14 = .ok (.aload_n 0, 1) := by decide +kernel
theorem dX3_hasStopped_15 : decode cX3_hasStopped 15 = .ok (.iload_n 3, 1) := by decide +kernel
theorem dX3_hasStopped_16 : decode cX3_hasStopped 16 = .ok (.iload_n 1, 1) := by decide +kernel
theorem dX3_hasStopped_17 : decode cX3_hasStopped 17 = .ok (.invokevirtual 97, 3) := by decide +kernel
theorem dX3_hasStopped_20 : decode cX3_hasStopped 20 = .ok (.ifCond .eq 16, 3) := by decide +kernel
theorem dX3_hasStopped_23 : decode cX3_hasStopped 23 = .ok (.aload_n 0, 1) := by decide +kernel
theorem dX3_hasStopped_24 : decode cX3_hasStopped 24 = .ok (.getfield 26, 3) := by decide +kernel
