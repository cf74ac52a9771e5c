set_option maxRecDepth 20000 in
theorem ggX3_send_X3_appends : GoodIn wsX3_send wsX3_appends := goodIn_r _ [15, 16, 17, 103, 104, 105, 106, 107, 108, 109, 110, 111, 112, 113, 114, 115, 116, 117, 118, 119, 120, 121, 122, 123, 124, 125, 126, 127, 128, 129, 130, 131] (by decide +kernel) (by decide +kernel)
set_option maxRecDepth 20000 in
theorem gX3_send_X3_appends : GoodIn wsX3_send (wsV RX3 104 RX3 yX3_appends wsX3_appends) := goodIn_app (goodIn_of _ (by decide +kernel)) ggX3_send_X3_appends
set_option maxRecDepth 20000 in
theorem ggX3_send_X3_goes : GoodIn wsX3_send wsX3_goes := goodIn_r _ [21, 22, 17, 16, 23, 24, 25, 4, 26, 6, 27, 28, 29, 30, 31, 32, 33, 34, 35, 36, 37, 38, 39, 40, 41, 42, 43, 44, 45, 46, 47, 48, 49, 50, 51, 52, 53, 54, 55, 56, 57, 58, 59, 60, 61, 62, 12, 13, 14, 15, 63, 64, 65, 66, 67, 68, 69, 70, 71, 72, 73, 74, 75, 76, 77, 78, 79, 80, 81, 82, 83, 84, 85, 86, 87, 88, 89, 90, 91, 92, 93, 94, 95, 96, 97, 98, 99, 100, 101, 102, 103, 104, 105, 106, 107, 108, 109, 110, 111, 112, 113, 114, 115, 116, 117, 118, 119, 120, 121, 122, 123, 124, 125, 126, 127, 128, 129, 130, 131] (by decide +kernel) (by decide +kernel)
set_option maxRecDepth 20000 in
theorem gX3_send_X3_goes : GoodIn wsX3_send (wsV RX3 168 RX3 yX3_goes wsX3_goes) := goodIn_app (goodIn_of _ (by decide +kernel)) ggX3_send_X3_goes
theorem dX3_send_0 : decode cX3_send 0 = .ok (.aload_n 0, 1) := by decide +kernel
theorem dX3_send_1 : decode cX3_send 1 = .ok (.aload_n 0, 1) := by decide +kernel
theorem dX3_send_2 : decode cX3_send 2 = .ok (.iload_n 1, 1) := by decide +kernel
theorem dX3_send_3 : decode cX3_send 3 = .ok (.invokevirtual 159, 3) := by decide +kernel
theorem dX3_send_6 : decode cX3_send 6 = .ok (.ifCond .ne 7, 3) := by decide +kernel
theorem dX3_send_9 : decode cX3_send 9 = .ok (.iconst 1, 1) := by decide +kernel
theorem dX3_send_10 : decode cX3_send 10 = .ok (.goto 18, 3) := by decide +kernel
theorem dX3_send_13 : decode cX3_send 13 = .ok (.iload_n 2, 1) := by decide +kernel
theorem dX3_send_14 : decode cX3_send 14 = .ok (.ifCond .lt 9, 3) := by decide +kernel
theorem dX3_send_17 : decode cX3_send 17 = .ok (.iload_n 2, 1) := by decide +kernel
theorem dX3_send_18 : decode cX3_send 18 = .ok (.bipush 9, 2) := by decide +kernel
theorem dX3_send_20 : decode cX3_send 20 = .ok (.if_icmp .lt 7, 3) := by decide +kernel
theorem dX3_send_23 : decode cX3_send 23 = .ok (.iconst 2, 1) := by decide +kernel
theorem dX3_send_24 : decode cX3_send 24 = .ok (.goto 4, 3) := by decide +kernel
theorem dX3_send_27 : decode cX3_send 27 = .ok (.iconst 0, 1) := by decide +kernel
theorem dX3_send_28 : decode cX3_send 28 = .ok (.invokevirtual 162, 3) := by decide +kernel
theorem dX3_send_31 : decode cX3_send 31 = .ok (.ifCond .eq 4, 3) := by decide +kernel
theorem dX3_send_34 : decode cX3_send 34 = .ok (.return_, 1) := by decide +kernel
theorem dX3_send_35 : decode cX3_send 35 = .ok (.aload_n 0, 1) := by decide +kernel
theorem dX3_send_36 : decode cX3_send 36 = .ok (.iconst 1, 1) := by decide +kernel
theorem dX3_send_37 : decode cX3_send 37 = .ok (.iload_n 2, 1) := by decide +kernel
theorem dX3_send_38 : decode cX3_send 38 = .ok (.iload_n 1, 1) := by decide +kernel
theorem dX3_send_39 : decode cX3_send 39 = .ok (.invokevirtual 104, 3) := by decide +kernel
theorem dX3_send_42 : decode cX3_send 42 = .ok (.aload_n 0, 1) := by decide +kernel
theorem dX3_send_43 : decode cX3_send 43 = .ok (.invokevirtual 168, 3) := by decide +kernel
theorem dX3_send_46 : decode cX3_send 46 = .ok (.return_, 1) := by decide +kernel
set_option maxRecDepth 20000 in
theorem ggX3_sendToGroup_X3_fails : GoodIn wsX3_sendToGroup wsX3_fails := goodIn_r _ [5, 6, 99, 100, 101, 102, 103, 104, 105, 106, 107, 108, 109, 110, 111, 112, 113, 114, 115, 116, 117, 118, 119, 120, 121, 122, 123, 124, 125, 126, 127] (by decide +kernel) (by decide +kernel)
set_option maxRecDepth 20000 in
theorem gX3_sendToGroup_X3_fails : GoodIn wsX3_sendToGroup (wsV RX3 162 RX3 yX3_fails wsX3_fails) := goodIn_app (goodIn_of _ (by decide +kernel)) ggX3_sendToGroup_X3_fails
set_option maxRecDepth 20000 in
theorem ggX3_sendToGroup_X3_sends : GoodIn wsX3_sendToGroup wsX3_sends := goodIn_r _ [10, 11, 12, 13, 4, 14, 15, 16, 17, 18, 19, 20, 21, 22, 23, 99, 100, 101, 102, 103, 104, 105, 106, 107, 108, 109, 110, 111, 112, 113, 114, 115, 116, 117, 118, 119, 120, 121, 122, 123, 124, 125, 126, 127] (by decide +kernel) (by decide +kernel)
set_option maxRecDepth 20000 in
theorem gX3_sendToGroup_X3_sends : GoodIn wsX3_sendToGroup (wsV RX3 115 RX3 yX3_sends wsX3_sends) := goodIn_app (goodIn_of _ (by decide +kernel)) ggX3_sendToGroup_X3_sends
set_option maxRecDepth 20000 in
theorem ggX3_sendToGroup_X3_goes : GoodIn wsX3_sendToGroup wsX3_goes := goodIn_r _ [27, 28, 23, 22, 29, 30, 31, 4, 32, 15, 16, 33, 34, 35, 36, 37, 38, 39, 40, 41, 42, 43, 44, 45, 46, 47, 48, 49, 50, 51, 52, 53, 17, 11, 12, 13, 14, 54, 55, 56, 57, 58, 7, 8, 9, 10, 18, 19, 20, 21, 59, 60, 61, 62, 63, 64, 65, 66, 67, 68, 69, 70, 71, 72, 73, 74, 75, 76, 77, 78, 79, 80, 81, 82, 83, 84, 85, 86, 87, 88, 89, 90, 91, 92, 93, 94, 95, 96, 97, 98, 99, 100, 101, 102, 103, 104, 105, 106, 107, 108, 109, 110, 111, 112, 113, 114, 115, 116, 117, 118, 119, 120, 121, 122, 123, 124, 125, 126, 127] (by decide +kernel) (by decide +kernel)
set_option maxRecDepth 20000 in
theorem gX3_sendToGroup_X3_goes : GoodIn wsX3_sendToGroup (wsV RX3 168 RX3 yX3_goes wsX3_goes) := goodIn_app (goodIn_of _ (by decide +kernel)) ggX3_sendToGroup_X3_goes
theorem dX3_sendToGroup_0 : decode cX3_sendToGroup 0 = .ok (.aload_n 0, 1) := by decide +kernel
theorem dX3_sendToGroup_1 : decode cX3_sendToGroup 1 = .ok (.iload_n 1, 1) := by decide +kernel
theorem dX3_sendToGroup_2 : decode cX3_sendToGroup 2 = .ok (.iconst 1, 1) := by decide +kernel
theorem dX3_sendToGroup_3 : decode cX3_sendToGroup 3 = .ok (.if_icmp .lt 19, 3) := by decide +kernel
theorem dX3_sendToGroup_6 : decode cX3_sendToGroup 6 = .ok (.iload_n 1, 1) := by decide +kernel
theorem dX3_sendToGroup_7 : decode cX3_sendToGroup 7 = .ok (.bipush 40, 2) := by decide +kernel
theorem dX3_sendToGroup_9 : decode cX3_sendToGroup 9 = .ok (.if_icmp .gt 13, 3) := by decide +kernel
theorem dX3_sendToGroup_12 : decode cX3_sendToGroup 12 = .ok (.iload_n 2, 1) := by decide +kernel
theorem dX3_sendToGroup_13 : decode cX3_sendToGroup 13 = .ok (.ifCond .lt 9, 3) := by decide +kernel
theorem dX3_sendToGroup_16 : decode cX3_sendToGroup 16 = .ok (.iload_n 2, 1) := by decide +kernel
theorem dX3_sendToGroup_17 : decode cX3_sendToGroup 17 = .ok (.bipush 9, 2) := by decide +kernel
theorem dX3_sendToGroup_19 : decode cX3_sendToGroup 19 = .ok (.if_icmp .lt 7, 3) := by decide +kernel
theorem dX3_sendToGroup_22 : decode cX3_sendToGroup 22 = .ok (.iconst 1, 1) := by decide +kernel
theorem dX3_sendToGroup_23 : decode cX3_sendToGroup 23 = .ok (.goto 4, 3) := by decide +kernel
theorem dX3_sendToGroup_26 : decode cX3_sendToGroup 26 = .ok (.iconst 0, 1) := by decide +kernel
theorem dX3_sendToGroup_27 : decode cX3_sendToGroup 27 = .ok (.invokevirtual 162, 3) := by decide +kernel
theorem dX3_sendToGroup_30 : decode cX3_sendToGroup 30 = .ok (.ifCond .eq 5, 3) := by decide +kernel
theorem dX3_sendToGroup_33 : decode cX3_sendToGroup 33 = .ok (.iconst 0, 1) := by decide +kernel
theorem dX3_sendToGroup_34 : decode cX3_sendToGroup 34 = .ok (.ireturn, 1) := by decide +kernel
theorem dX3_sendToGroup_35 : decode cX3_sendToGroup 35 = .ok (.aload_n 0, 1) := by decide +kernel
theorem dX3_sendToGroup_36 : decode cX3_sendToGroup 36 = .ok (.iload_n 1, 1) := by decide +kernel
theorem dX3_sendToGroup_37 : decode cX3_sendToGroup 37 = .ok (.iload_n 2, 1) := by decide +kernel
theorem dX3_sendToGroup_38 : decode cX3_sendToGroup 38 = .ok (.invokevirtual 115, 3) := by decide +kernel
theorem dX3_sendToGroup_41 : decode cX3_sendToGroup 41 = .ok (.istore_n 3, 1) := by decide +kernel
theorem dX3_sendToGroup_42 : decode cX3_sendToGroup 42 = .ok (.aload_n 0, 1) := by decide +kernel
theorem dX3_sendToGroup_43 : decode cX3_sendToGroup 43 = .ok (.invokevirtual 168, 3) := by decide +kernel
theorem dX3_sendToGroup_46 : decode cX3_sendToGroup 46 = .ok (.iload_n 3, 1) := by decide +kernel
theorem dX3_sendToGroup_47 : decode cX3_sendToGroup 47 = .ok (.ireturn, 1) := by decide +kernel
set_option maxRecDepth 20000 in
theorem ggX3_type_X3_fails : GoodIn wsX3_type wsX3_fails := goodIn_r _ [7, 8, 99, 100, 101, 102, 103, 104, 105, 106, 107, 108, 109, 110, 111, 112, 113, 114, 115, 116, 117, 118, 119, 120, 121, 122, 123, 124, 125, 126, 127] (by decide +kernel) (by decide +kernel)
set_option maxRecDepth 20000 in
theorem gX3_type_X3_fails : GoodIn wsX3_type (wsV RX3 162 RX3 yX3_fails wsX3_fails) := goodIn_app (goodIn_of _ (by decide +kernel)) ggX3_type_X3_fails
set_option maxRecDepth 20000 in
theorem ggX3_type_X3_sends : GoodIn wsX3_type wsX3_sends := goodIn_r _ [12, 13, 14, 15, 6, 16, 17, 18, 19, 20, 21, 22, 23, 24, 25, 99, 100, 101, 102, 103, 104, 105, 106, 107, 108, 109, 110, 111, 112, 113, 114, 115, 116, 117, 118, 119, 120, 121, 122, 123, 124, 125, 126, 127] (by decide +kernel) (by decide +kernel)
set_option maxRecDepth 20000 in
theorem gX3_type_X3_sends : GoodIn wsX3_type (wsV RX3 115 RX3 yX3_sends wsX3_sends) := goodIn_app (goodIn_of _ (by decide +kernel)) ggX3_type_X3_sends
set_option maxRecDepth 20000 in
theorem ggX3_type_X3_goes : GoodIn wsX3_type wsX3_goes := goodIn_r _ [29, 30, 25, 24, 31, 32, 33, 6, 34, 17, 18, 35, 36, 37, 38, 39, 40, 41, 42, 43, 44, 45, 46, 47, 48, 49, 1, 2, 50, 51, 52, 53, 19, 13, 14, 15, 16, 54, 55, 56, 57, 58, 9, 10, 11, 12, 20, 21, 22, 23, 59, 60, 61, 62, 63, 64, 65, 66, 67, 68, 69, 70, 71, 72, 73, 74, 75, 76, 77, 78, 79, 80, 81, 82, 83, 84, 85, 86, 87, 88, 89, 90, 91, 92, 93, 94, 95, 96, 97, 98, 99, 100, 101, 102, 103, 104, 105, 106, 107, 108, 109, 110, 111, 112, 113, 114, 115, 116, 117, 118, 119, 120, 121, 122, 123, 124, 125, 126, 127] (by decide +kernel) (by decide +kernel)
set_option maxRecDepth 20000 in
theorem gX3_type_X3_goes : GoodIn wsX3_type (wsV RX3 168 RX3 yX3_goes wsX3_goes) := goodIn_app (goodIn_of _ (by decide +kernel)) ggX3_type_X3_goes
theorem dX3_type_0 : decode cX3_type 0 = .ok (.aload_n 0, 1) := by decide +kernel
theorem dX3_type_1 : decode cX3_type 1 = .ok (.aload_n 0, 1) := by decide +kernel
theorem dX3_type_2 : decode cX3_type 2 = .ok (.getfield 74, 3) := by decide +kernel
theorem dX3_type_5 : decode cX3_type 5 = .ok (.iconst (-1), 1) := by decide +kernel
theorem dX3_type_6 : decode cX3_type 6 = .ok (.if_icmp .ne 7, 3) := by decide +kernel
theorem dX3_type_9 : decode cX3_type 9 = .ok (.iconst 1, 1) := by decide +kernel
theorem dX3_type_10 : decode cX3_type 10 = .ok (.goto 4, 3) := by decide +kernel
theorem dX3_type_13 : decode cX3_type 13 = .ok (.iconst 0, 1) := by decide +kernel
theorem dX3_type_14 : decode cX3_type 14 = .ok (.invokevirtual 162, 3) := by decide +kernel
theorem dX3_type_17 : decode cX3_type 17 = .ok (.ifCond .eq 5, 3) := by decide +kernel
theorem dX3_type_20 : decode cX3_type 20 = .ok (.iconst 0, 1) := by decide +kernel
theorem dX3_type_21 : decode cX3_type 21 = .ok (.ireturn, 1) := by decide +kernel
theorem dX3_type_22 : decode cX3_type 22 = .ok (.aload_n 0, 1) := by decide +kernel
theorem dX3_type_23 : decode cX3_type 23 = .ok (.aload_n 0, 1) := by decide +kernel
theorem dX3_type_24 : decode cX3_type 24 = .ok (.getfield 78, 3) := by decide +kernel
theorem dX3_type_27 : decode cX3_type 27 = .ok (.iload_n 1, 1) := by decide +kernel
theorem dX3_type_28 : decode cX3_type 28 = .ok (.ifCond .eq 8, 3) := by decide +kernel
theorem dX3_type_31 : decode cX3_type 31 = .ok (.bipush 6, 2) := by decide +kernel
theorem dX3_type_33 : decode cX3_type 33 = .ok (.goto 4, 3) := by decide +kernel
theorem dX3_type_36 : decode cX3_type 36 = .ok (.iconst 1, 1) := by decide +kernel
theorem dX3_type_37 : decode cX3_type 37 = .ok (.invokevirtual 115, 3) := by decide +kernel
theorem dX3_type_40 : decode cX3_type 40 = .ok (.istore_n 2, 1) := by decide +kernel
theorem dX3_type_41 : decode cX3_type 41 = .ok (.aload_n 0, 1) := by decide +kernel
theorem dX3_type_42 : decode cX3_type 42 = .ok (.invokevirtual 168, 3) := by decide +kernel
theorem dX3_type_45 : decode cX3_type 45 = .ok (.iload_n 2, 1) := by decide +kernel
theorem dX3_type_46 : decode cX3_type 46 = .ok (.ireturn, 1) := by decide +kernel
set_option maxRecDepth 20000 in
theorem ggX3_hangUp_X3_fails : GoodIn wsX3_hangUp wsX3_fails := goodIn_r _ [7, 8, 99, 100, 101, 102, 103, 104, 105, 106, 107, 108, 109, 110, 111, 112, 113, 114, 115, 116, 117, 118, 119, 120, 121, 122, 123, 124, 125, 126, 127] (by decide +kernel) (by decide +kernel)
set_option maxRecDepth 20000 in
theorem gX3_hangUp_X3_fails : GoodIn wsX3_hangUp (wsV RX3 162 RX3 yX3_fails wsX3_fails) := goodIn_app (goodIn_of _ (by decide +kernel)) ggX3_hangUp_X3_fails
set_option maxRecDepth 20000 in
theorem ggX3_hangUp_X3_appends : GoodIn wsX3_hangUp wsX3_appends := goodIn_r _ [12, 13, 14, 99, 100, 101, 102, 103, 104, 105, 106, 107, 108, 109, 110, 111, 112, 113, 114, 115, 116, 117, 118, 119, 120, 121, 122, 123, 124, 125, 126, 127] (by decide +kernel) (by decide +kernel)
set_option maxRecDepth 20000 in
theorem gX3_hangUp_X3_appends : GoodIn wsX3_hangUp (wsV RX3 104 RX3 yX3_appends wsX3_appends) := goodIn_app (goodIn_of _ (by decide +kernel)) ggX3_hangUp_X3_appends
set_option maxRecDepth 20000 in
theorem ggX3_hangUp_X3_goes : GoodIn wsX3_hangUp wsX3_goes := goodIn_r _ [18, 19, 14, 13, 20, 21, 22, 6, 23, 24, 25, 26, 27, 28, 29, 30, 31, 32, 33, 34, 35, 36, 37, 38, 39, 40, 1, 2, 41, 42, 43, 44, 45, 46, 47, 48, 49, 50, 51, 52, 53, 54, 55, 56, 57, 58, 9, 10, 11, 12, 59, 60, 61, 62, 63, 64, 65, 66, 67, 68, 69, 70, 71, 72, 73, 74, 75, 76, 77, 78, 79, 80, 81, 82, 83, 84, 85, 86, 87, 88, 89, 90, 91, 92, 93, 94, 95, 96, 97, 98, 99, 100, 101, 102, 103, 104, 105, 106, 107, 108, 109, 110, 111, 112, 113, 114, 115, 116, 117, 118, 119, 120, 121, 122, 123, 124, 125, 126, 127] (by decide +kernel) (by decide +kernel)
set_option maxRecDepth 20000 in
theorem gX3_hangUp_X3_goes : GoodIn wsX3_hangUp (wsV RX3 168 RX3 yX3_goes wsX3_goes) := goodIn_app (goodIn_of _ (by decide +kernel)) ggX3_hangUp_X3_goes
theorem dX3_hangUp_0 : decode cX3_hangUp 0 = .ok (.aload_n 0, 1) := by decide +kernel
theorem dX3_hangUp_1 : decode cX3_hangUp 1 = .ok (.aload_n 0, 1) := by decide +kernel
theorem dX3_hangUp_2 : decode cX3_hangUp 2 = .ok (.getfield 74, 3) := by decide +kernel
theorem dX3_hangUp_5 : decode cX3_hangUp 5 = .ok (.iconst (-1), 1) := by decide +kernel
theorem dX3_hangUp_6 : decode cX3_hangUp 6 = .ok (.if_icmp .ne 7, 3) := by decide +kernel
theorem dX3_hangUp_9 : decode cX3_hangUp 9 = .ok (.iconst 1, 1) := by decide +kernel
theorem dX3_hangUp_10 : decode cX3_hangUp 10 = .ok (.goto 4, 3) := by decide +kernel
theorem dX3_hangUp_13 : decode cX3_hangUp 13 = .ok (.iconst 0, 1) := by decide +kernel
theorem dX3_hangUp_14 : decode cX3_hangUp 14 = .ok (.invokevirtual 162, 3) := by decide +kernel
theorem dX3_hangUp_17 : decode cX3_hangUp 17 = .ok (.ifCond .eq 5, 3) := by decide +kernel
theorem dX3_hangUp_20 : decode cX3_hangUp 20 = .ok (.iconst 0, 1) := by decide +kernel
theorem dX3_hangUp_21 : decode cX3_hangUp 21 = .ok (.ireturn, 1) := by decide +kernel
theorem dX3_hangUp_22 : decode cX3_hangUp 22 = .ok (.aload_n 0, 1) := by decide +kernel
theorem dX3_hangUp_23 : decode cX3_hangUp 23 = .ok (.getfield 74, 3) := by decide +kernel
theorem dX3_hangUp_26 : decode cX3_hangUp 26 = .ok (.istore_n 1, 1) := by decide +kernel
theorem dX3_hangUp_27 : decode cX3_hangUp 27 = .ok (.aload_n 0, 1) := by decide +kernel
theorem dX3_hangUp_28 : decode cX3_hangUp 28 = .ok (.iconst (-1), 1) := by decide +kernel
theorem dX3_hangUp_29 : decode cX3_hangUp 29 = .ok (.putfield 74, 3) := by decide +kernel
theorem dX3_hangUp_32 : decode cX3_hangUp 32 = .ok (.aload_n 0, 1) := by decide +kernel
theorem dX3_hangUp_33 : decode cX3_hangUp 33 = .ok (.iconst (-1), 1) := by decide +kernel
theorem dX3_hangUp_34 : decode cX3_hangUp 34 = .ok (.putfield 78, 3) := by decide +kernel
theorem dX3_hangUp_37 : decode cX3_hangUp 37 = .ok (.aload_n 0, 1) := by decide +kernel
theorem dX3_hangUp_38 : decode cX3_hangUp 38 = .ok (.iconst 1, 1) := by decide +kernel
theorem dX3_hangUp_39 : decode cX3_hangUp 39 = .ok (.iconst 0, 1) := by decide +kernel
theorem dX3_hangUp_40 : decode cX3_hangUp 40 = .ok (.iload_n 1, 1) := by decide +kernel
theorem dX3_hangUp_41 : decode cX3_hangUp 41 = .ok (.invokevirtual 104, 3) := by decide +kernel
theorem dX3_hangUp_44 : decode cX3_hangUp 44 = .ok (.aload_n 0, 1) := by decide +kernel
theorem dX3_hangUp_45 : decode cX3_hangUp 45 = .ok (.invokevirtual 168, 3) := by decide +kernel
theorem dX3_hangUp_48 : decode cX3_hangUp 48 = .ok (.iload_n 1, 1) := by decide +kernel
theorem dX3_hangUp_49 : decode cX3_hangUp 49 = .ok (.ireturn, 1) := by decide +kernel
theorem dX3_processes_0 : decode cX3_processes 0 = .ok (.aload_n 0, 1) := by decide +kernel
theorem dX3_processes_1 : decode cX3_processes 1 = .ok (.iconst 0, 1) := by decide +kernel
theorem dX3_processes_2 : decode cX3_processes 2 = .ok (.putfield 90, 3) := by decide +kernel
theorem dX3_processes_5 : decode cX3_processes 5 = .ok (.iconst 0, 1) := by decide +kernel
theorem dX3_processes_6 : decode cX3_processes 6 = .ok (.istore_n 1, 1) := by decide +kernel
theorem dX3_processes_7 : decode cX3_processes 7 = .ok (.iconst 1, 1) := by decide +kernel
theorem dX3_processes_8 : decode cX3_processes 8 = .ok (.istore_n 2, 1) := by decide +kernel
theorem dX3_processes_9 : decode cX3_processes 9 = .ok (.iload_n 2, 1) := by decide +kernel
theorem dX3_processes_10 : decode cX3_processes 10 = .ok (.bipush 40, 2) := by decide +kernel
theorem dX3_processes_12 : decode cX3_processes 12 = .ok (.if_icmp .gt 26, 3) := by decide +kernel
theorem dX3_processes_15 : decode cX3_processes 15 = .ok (.iload_n 1, 1) := by decide +kernel
theorem dX3_processes_16 : decode cX3_processes 16 = .ok (.aload_n 0, 1) := by decide +kernel
theorem dX3_processes_17 : decode cX3_processes 17 = .ok (.getfield 7, 3) := by decide +kernel
theorem dX3_processes_20 : decode cX3_processes 20 = .ok (.iload_n 2, 1) := by decide +kernel
theorem dX3_processes_21 : decode cX3_processes 21 = .ok (.baload, 1) := by decide +kernel
theorem dX3_processes_22 : decode cX3_processes 22 = .ok (.ifCond .eq 7, 3) := by decide +kernel
theorem dX3_processes_25 : decode cX3_processes 25 = .ok (.iconst 1, 1) := by decide +kernel
theorem dX3_processes_26 : decode cX3_processes 26 = .ok (.goto 4, 3) := by decide +kernel
theorem dX3_processes_29 : decode cX3_processes 29 = .ok (.iconst 0, 1) := by decide +kernel
theorem dX3_processes_30 : decode cX3_processes 30 = .ok (.iadd, 1) := by decide +kernel
theorem dX3_processes_31 : decode cX3_processes 31 = .ok (.istore_n 1, 1) := by decide +kernel
theorem dX3_processes_32 : decode cX3_processes 32 = .ok (.iinc 2 1, 3) := by decide +kernel
theorem dX3_processes_35 : decode cX3_processes 35 = .ok (.goto (-26), 3) := by decide +kernel
theorem dX3_processes_38 : decode cX3_processes 38 = .ok (.iload_n 1, 1) := by decide +kernel
theorem dX3_processes_39 : decode cX3_processes 39 = .ok (.ireturn, 1) := by decide +kernel
set_option maxRecDepth 20000 in
theorem ggX3_exists_X3_fails : GoodIn wsX3_exists wsX3_fails := goodIn_r _ [6, 7, 8, 9, 10, 11, 12, 13, 14, 15, 16, 17, 18, 19, 20, 21, 22, 23, 24, 25, 26, 27, 28, 29, 30, 31, 32, 33, 34, 35, 36] (by decide +kernel) (by decide +kernel)
set_option maxRecDepth 20000 in
theorem gX3_exists_X3_fails : GoodIn wsX3_exists (wsV RX3 162 RX3 yX3_fails wsX3_fails) := goodIn_app (goodIn_of _ (by decide +kernel)) ggX3_exists_X3_fails
theorem dX3_exists_0 : decode cX3_exists 0 = .ok (.aload_n 0, 1) := by decide +kernel
theorem dX3_exists_1 : decode cX3_exists 1 = .ok (.iload_n 1, 1) := by decide +kernel
theorem dX3_exists_2 : decode cX3_exists 2 = .ok (.iconst 1, 1) := by decide +kernel
theorem dX3_exists_3 : decode cX3_exists 3 = .ok (.if_icmp .lt 9, 3) := by decide +kernel
theorem dX3_exists_6 : decode cX3_exists 6 = .ok (.iload_n 1, 1) := by decide +kernel
theorem dX3_exists_7 : decode cX3_exists 7 = .ok (.bipush 40, 2) := by decide +kernel
theorem dX3_exists_9 : decode cX3_exists 9 = .ok (.if_icmp .le 7, 3) := by decide +kernel
theorem dX3_exists_12 : decode cX3_exists 12 = .ok (.iconst 1, 1) := by decide +kernel
theorem dX3_exists_13 : decode cX3_exists 13 = .ok (.goto 4, 3) := by decide +kernel
theorem dX3_exists_16 : decode cX3_exists 16 = .ok (.iconst 0, 1) := by decide +kernel
theorem dX3_exists_17 : decode cX3_exists 17 = .ok (.invokevirtual 162, 3) := by decide +kernel
theorem dX3_exists_20 : decode cX3_exists 20 = .ok (.ifCond .ne 16, 3) := by decide +kernel
theorem dX3_exists_23 : decode cX3_exists 23 = .ok (.aload_n 0, 1) := by decide +kernel
theorem dX3_exists_24 : decode cX3_exists 24 = .ok (.getfield 7, 3) := by decide +kernel
theorem dX3_exists_27 : decode cX3_exists 27 = .ok (.iload_n 1, 1) := by decide +kernel
theorem dX3_exists_28 : decode cX3_exists 28 = .ok (.baload, 1) := by decide +kernel
theorem dX3_exists_29 : decode cX3_exists 29 = .ok (.ifCond .eq 7, 3) := by decide +kernel
theorem dX3_exists_32 : decode cX3_exists 32 = .ok (.iconst 1, 1) := by decide +kernel
theorem dX3_exists_33 : decode cX3_exists 33 = .ok (.goto 4, 3) := by decide +kernel
theorem dX3_exists_36 : decode cX3_exists 36 = .ok (.iconst 0, 1) := by decide +kernel
theorem dX3_exists_37 : decode cX3_exists 37 = .ok (.ireturn, 1) := by decide +kernel
set_option maxRecDepth 20000 in
theorem ggX3_state_X3_is : GoodIn wsX3_state wsX3_is := goodIn_r _ [8, 9, 15, 16, 17, 18, 19, 20, 21, 22, 23, 24, 25, 26, 27, 28, 29, 30, 31, 32, 33, 34, 35, 36, 37, 38, 39, 40, 41, 42, 43] (by decide +kernel) (by decide +kernel)
set_option maxRecDepth 20000 in
theorem gX3_state_X3_is : GoodIn wsX3_state (wsV RX3 159 RX3 yX3_is wsX3_is) := goodIn_app (goodIn_of _ (by decide +kernel)) ggX3_state_X3_is
set_option maxRecDepth 20000 in
theorem ggX3_state_X3_fails : GoodIn wsX3_state wsX3_fails := goodIn_r _ [13, 14, 15, 16, 17, 18, 19, 20, 21, 22, 23, 24, 25, 26, 27, 28, 29, 30, 31, 32, 33, 34, 35, 36, 37, 38, 39, 40, 41, 42, 43] (by decide +kernel) (by decide +kernel)
set_option maxRecDepth 20000 in
theorem gX3_state_X3_fails : GoodIn wsX3_state (wsV RX3 162 RX3 yX3_fails wsX3_fails) := goodIn_app (goodIn_of _ (by decide +kernel)) ggX3_state_X3_fails
theorem dX3_state_0 : decode cX3_state 0 = .ok (.aload_n 0, 1) := by decide +kernel
theorem dX3_state_1 : decode cX3_state 1 = .ok (.aload_n 0, 1) := by decide +kernel
theorem dX3_state_2 : decode cX3_state 2 = .ok (.iload_n 1, 1) := by decide +kernel
theorem dX3_state_3 : decode cX3_state 3 = .ok (.invokevirtual 159, 3) := by decide +kernel
theorem dX3_state_6 : decode cX3_state 6 = .ok (.ifCond .eq 7, 3) := by decide +kernel
theorem dX3_state_9 : decode cX3_state 9 = .ok (.iconst 0, 1) := by decide +kernel
theorem dX3_state_10 : decode cX3_state 10 = .ok (.goto 4, 3) := by decide +kernel
theorem dX3_state_13 : decode cX3_state 13 = .ok (.iconst 1, 1) := by decide +kernel
theorem dX3_state_14 : decode cX3_state 14 = .ok (.invokevirtual 162, 3) := by decide +kernel
theorem dX3_state_17 : decode cX3_state 17 = .ok (.ifCond .eq 5, 3) := by decide +kernel
theorem dX3_state_20 : decode cX3_state 20 = .ok (.iconst 0, 1) := by decide +kernel
theorem dX3_state_21 : decode cX3_state 21 = .ok (.ireturn, 1) := by decide +kernel
theorem dX3_state_22 : decode cX3_state 22 = .ok (.aload_n 0, 1) := by decide +kernel
theorem dX3_state_23 : decode cX3_state 23 = .ok (.getfield 23, 3) := by decide +kernel
theorem dX3_state_26 : decode cX3_state 26 = .ok (.iload_n 1, 1) := by decide +kernel
theorem dX3_state_27 : decode cX3_state 27 = .ok (.baload, 1) := by decide +kernel
theorem dX3_state_28 : decode cX3_state 28 = .ok (.ifCond .eq 7, 3) := by decide +kernel
theorem dX3_state_31 : decode cX3_state 31 = .ok (.iconst 3, 1) := by decide +kernel
theorem dX3_state_32 : decode cX3_state 32 = .ok (.goto 30, 3) := by decide +kernel
theorem dX3_state_35 : decode cX3_state 35 = .ok (.aload_n 0, 1) := by decide +kernel
theorem dX3_state_36 : decode cX3_state 36 = .ok (.getfield 26, 3) := by decide +kernel
theorem dX3_state_39 : decode cX3_state 39 = .ok (.iload_n 1, 1) := by decide +kernel
theorem dX3_state_40 : decode cX3_state 40 = .ok (.baload, 1) := by decide +kernel
theorem dX3_state_41 : decode cX3_state 41 = .ok (.ifCond .eq 7, 3) := by decide +kernel
theorem dX3_state_44 : decode cX3_state 44 = .ok (.iconst 2, 1) := by decide +kernel
theorem dX3_state_45 : decode cX3_state 45 = .ok (.goto 17, 3) := by decide +kernel
theorem dX3_state_48 : decode cX3_state 48 = .ok (.aload_n 0, 1) := by decide +kernel
theorem dX3_state_49 : decode cX3_state 49 = .ok (.getfield 29, 3) := by decide +kernel
theorem dX3_state_52 : decode cX3_state 52 = .ok (.iload_n 1, 1) := by decide +kernel
theorem dX3_state_53 : decode cX3_state 53 = .ok (.baload, 1) := by decide +kernel
theorem dX3_state_54 : decode cX3_state 54 = .ok (.ifCond .eq 7, 3) := by decide +kernel
theorem dX3_state_57 : decode cX3_state 57 = .ok (.iconst 1, 1) := by decide +kernel
theorem dX3_state_58 : decode cX3_state 58 = .ok (.goto 4, 3) := by decide +kernel
theorem dX3_state_61 : decode cX3_state 61 = .ok (.iconst 0, 1) := by decide +kernel
theorem dX3_state_62 : decode cX3_state 62 = .ok (.ireturn, 1) := by decide +kernel
set_option maxRecDepth 20000 in
theorem ggX3_of_X3_is : GoodIn wsX3_of wsX3_is := goodIn_r _ [5, 6, 12, 13, 14, 15, 16, 17, 18, 19, 20, 21, 22, 23, 24, 25, 26, 27, 28, 29, 30, 31, 32, 33, 34, 35, 36, 37, 38, 39, 40] (by decide +kernel) (by decide +kernel)
set_option maxRecDepth 20000 in
theorem gX3_of_X3_is : GoodIn wsX3_of (wsV RX3 159 RX3 yX3_is wsX3_is) := goodIn_app (goodIn_of _ (by decide +kernel)) ggX3_of_X3_is
set_option maxRecDepth 20000 in
theorem ggX3_of_X3_fails : GoodIn wsX3_of wsX3_fails := goodIn_r _ [10, 11, 12, 13, 14, 15, 16, 17, 18, 19, 20, 21, 22, 23, 24, 25, 26, 27, 28, 29, 30, 31, 32, 33, 34, 35, 36, 37, 38, 39, 40] (by decide +kernel) (by decide +kernel)
set_option maxRecDepth 20000 in
theorem gX3_of_X3_fails : GoodIn wsX3_of (wsV RX3 162 RX3 yX3_fails wsX3_fails) := goodIn_app (goodIn_of _ (by decide +kernel)) ggX3_of_X3_fails
theorem dX3_of_0 : decode cX3_of 0 = .ok (.aload_n 0, 1) := by decide +kernel
theorem dX3_of_1 : decode cX3_of 1 = .ok (.aload_n 0, 1) := by decide +kernel
theorem dX3_of_2 : decode cX3_of 2 = .ok (.iload_n 2, 1) := by decide +kernel
theorem dX3_of_3 : decode cX3_of 3 = .ok (.invokevirtual 159, 3) := by decide +kernel
theorem dX3_of_6 : decode cX3_of 6 = .ok (.ifCond .eq 7, 3) := by decide +kernel
theorem dX3_of_9 : decode cX3_of 9 = .ok (.iconst 0, 1) := by decide +kernel
theorem dX3_of_10 : decode cX3_of 10 = .ok (.goto 4, 3) := by decide +kernel
theorem dX3_of_13 : decode cX3_of 13 = .ok (.iconst 1, 1) := by decide +kernel
theorem dX3_of_14 : decode cX3_of 14 = .ok (.invokevirtual 162, 3) := by decide +kernel
theorem dX3_of_17 : decode cX3_of 17 = .ok (.ifCond .eq 7, 3) := by decide +kernel
theorem dX3_of_20 : decode cX3_of 20 = .ok (.iconst 0, 1) := by decide +kernel
theorem dX3_of_21 : decode cX3_of 21 = .ok (.goto 6, 3) := by decide +kernel
theorem dX3_of_24 : decode cX3_of 24 = .ok (.aload_n 1, 1) := by decide +kernel
theorem dX3_of_25 : decode cX3_of 25 = .ok (.iload_n 2, 1) := by decide +kernel
theorem dX3_of_26 : decode cX3_of 26 = .ok (.iaload, 1) := by decide +kernel
theorem dX3_of_27 : decode cX3_of 27 = .ok (.ireturn, 1) := by decide +kernel
set_option maxRecDepth 20000 in
theorem ggX3_parent_X3_of : GoodIn wsX3_parent wsX3_of := goodIn_r _ [6, 7, 8, 9, 5, 10, 11, 12, 13, 14, 15, 16, 17, 18, 19, 20, 21, 22, 23, 24, 25, 26, 27, 28, 29, 30, 31, 32, 33, 34, 35, 36, 37, 38, 39, 40, 41, 42, 43, 44, 45] (by decide +kernel) (by decide +kernel)
set_option maxRecDepth 20000 in
theorem gX3_parent_X3_of : GoodIn wsX3_parent (wsV RX3 182 RX3 yX3_of wsX3_of) := goodIn_app (goodIn_of _ (by decide +kernel)) ggX3_parent_X3_of
theorem dX3_parent_0 : decode cX3_parent 0 = .ok (.aload_n 0, 1) := by decide +kernel
theorem dX3_parent_1 : decode cX3_parent 1 = .ok (.aload_n 0, 1) := by decide +kernel
theorem dX3_parent_2 : decode cX3_parent 2 = .ok (.getfield 13, 3) := by decide +kernel
theorem dX3_parent_5 : decode cX3_parent 5 = .ok (.iload_n 1, 1) := by decide +kernel
theorem dX3_parent_6 : decode cX3_parent 6 = .ok (.invokevirtual 182, 3) := by decide +kernel
theorem dX3_parent_9 : decode cX3_parent 9 = .ok (.ireturn, 1) := by decide +kernel
set_option maxRecDepth 20000 in
theorem ggX3_group_X3_of : GoodIn wsX3_group wsX3_of := goodIn_r _ [6, 7, 8, 9, 5, 10, 11, 12, 13, 14, 15, 16, 17, 18, 19, 20, 21, 22, 23, 24, 25, 26, 27, 28, 29, 30, 31, 32, 33, 34, 35, 36, 37, 38, 39, 40, 41, 42, 43, 44, 45] (by decide +kernel) (by decide +kernel)
set_option maxRecDepth 20000 in
theorem gX3_group_X3_of : GoodIn wsX3_group (wsV RX3 182 RX3 yX3_of wsX3_of) := goodIn_app (goodIn_of _ (by decide +kernel)) ggX3_group_X3_of
theorem dX3_group_0 : decode cX3_group 0 = .ok (.aload_n 0, 1) := by decide +kernel
theorem dX3_group_1 : decode cX3_group 1 = .ok (.aload_n 0, 1) := by decide +kernel
theorem dX3_group_2 : decode cX3_group 2 = .ok (.getfield 17, 3) := by decide +kernel
theorem dX3_group_5 : decode cX3_group 5 = .ok (.iload_n 1, 1) := by decide +kernel
theorem dX3_group_6 : decode cX3_group 6 = .ok (.invokevirtual 182, 3) := by decide +kernel
theorem dX3_group_9 : decode cX3_group 9 = .ok (.ireturn, 1) := by decide +kernel
set_option maxRecDepth 20000 in
theorem ggX3_session_X3_of : GoodIn wsX3_session wsX3_of := goodIn_r _ [6, 7, 8, 9, 5, 10, 11, 12, 13, 14, 15, 16, 17, 18, 19, 20, 21, 22, 23, 24, 25, 26, 27, 28, 29, 30, 31, 32, 33, 34, 35, 36, 37, 38, 39, 40, 41, 42, 43, 44, 45] (by decide +kernel) (by decide +kernel)
set_option maxRecDepth 20000 in
theorem gX3_session_X3_of : GoodIn wsX3_session (wsV RX3 182 RX3 yX3_of wsX3_of) := goodIn_app (goodIn_of _ (by decide +kernel)) ggX3_session_X3_of
theorem dX3_session_0 : decode cX3_session 0 = .ok (.aload_n 0, 1) := by decide +kernel
theorem dX3_session_1 : decode cX3_session 1 = .ok (.aload_n 0, 1) := by decide +kernel
theorem dX3_session_2 : decode cX3_session 2 = .ok (.getfield 20, 3) := by decide +kernel
theorem dX3_session_5 : decode cX3_session 5 = .ok (.iload_n 1, 1) := by decide +kernel
theorem dX3_session_6 : decode cX3_session 6 = .ok (.invokevirtual 182, 3) := by decide +kernel
theorem dX3_session_9 : decode cX3_session 9 = .ok (.ireturn, 1) := by decide +kernel
set_option maxRecDepth 20000 in
theorem ggX3_pending_X3_of : GoodIn wsX3_pending wsX3_of := goodIn_r _ [6, 7, 8, 9, 5, 10, 11, 12, 13, 14, 15, 16, 17, 18, 19, 20, 21, 22, 23, 24, 25, 26, 27, 28, 29, 30, 31, 32, 33, 34, 35, 36, 37, 38, 39, 40, 41, 42, 43, 44, 45] (by decide +kernel) (by decide +kernel)
set_option maxRecDepth 20000 in
theorem gX3_pending_X3_of : GoodIn wsX3_pending (wsV RX3 182 RX3 yX3_of wsX3_of) := goodIn_app (goodIn_of _ (by decide +kernel)) ggX3_pending_X3_of
theorem dX3_pending_0 : decode cX3_pending 0 = .ok (.aload_n 0, 1) := by decide +kernel
theorem dX3_pending_1 : decode cX3_pending 1 = .ok (.aload_n 0, 1) := by decide +kernel
theorem dX3_pending_2 : decode cX3_pending 2 = .ok (.getfield 44, 3) := by decide +kernel
theorem dX3_pending_5 : decode cX3_pending 5 = .ok (.iload_n 1, 1) := by decide +kernel
theorem dX3_pending_6 : decode cX3_pending 6 = .ok (.invokevirtual 182, 3) := by decide +kernel
theorem dX3_pending_9 : decode cX3_pending 9 = .ok (.ireturn, 1) := by decide +kernel
set_option maxRecDepth 20000 in
theorem ggX3_caught_X3_of : GoodIn wsX3_caught wsX3_of := goodIn_r _ [6, 7, 8, 9, 5, 10, 11, 12, 13, 14, 15, 16, 17, 18, 19, 20, 21, 22, 23, 24, 25, 26, 27, 28, 29, 30, 31, 32, 33, 34, 35, 36, 37, 38, 39, 40, 41, 42, 43, 44, 45] (by decide +kernel) (by decide +kernel)
set_option maxRecDepth 20000 in
theorem gX3_caught_X3_of : GoodIn wsX3_caught (wsV RX3 182 RX3 yX3_of wsX3_of) := goodIn_app (goodIn_of _ (by decide +kernel)) ggX3_caught_X3_of
theorem dX3_caught_0 : decode cX3_caught 0 = .ok (.aload_n 0, 1) := by decide +kernel
theorem dX3_caught_1 : decode cX3_caught 1 = .ok (.aload_n 0, 1) := by decide +kernel
theorem dX3_caught_2 : decode cX3_caught 2 = .ok (.getfield 47, 3) := by decide +kernel
theorem dX3_caught_5 : decode cX3_caught 5 = .ok (.iload_n 1, 1) := by decide +kernel
theorem dX3_caught_6 : decode cX3_caught 6 = .ok (.invokevirtual 182, 3) := by decide +kernel
theorem dX3_caught_9 : decode cX3_caught 9 = .ok (.ireturn, 1) := by decide +kernel
set_option maxRecDepth 20000 in
theorem ggX3_isOrphaned_X3_fails : GoodIn wsX3_isOrphaned wsX3_fails := goodIn_r _ [5, 6, 20, 21, 22, 23, 24, 25, 26, 27, 28, 29, 30, 31, 32, 33, 34, 35, 36, 37, 38, 39, 40, 41, 42, 43, 44, 45, 46, 47, 48] (by decide +kernel) (by decide +kernel)
set_option maxRecDepth 20000 in
theorem gX3_isOrphaned_X3_fails : GoodIn wsX3_isOrphaned (wsV RX3 162 RX3 yX3_fails wsX3_fails) := goodIn_app (goodIn_of _ (by decide +kernel)) ggX3_isOrphaned_X3_fails
set_option maxRecDepth 20000 in
theorem ggX3_isOrphaned_X3_orphaned : GoodIn wsX3_isOrphaned wsX3_orphaned := goodIn_r _ [10, 11, 12, 13, 14, 15, 16, 17, 4, 18, 19, 20, 21, 22, 23, 24, 25, 26, 27, 28, 29, 30, 31, 32, 33, 34, 35, 36, 37, 38, 39, 40, 41, 42, 43, 44, 45, 46, 47, 48] (by decide +kernel) (by decide +kernel)
set_option maxRecDepth 20000 in
theorem gX3_isOrphaned_X3_orphaned : GoodIn wsX3_isOrphaned (wsV RX3 108 RX3 yX3_orphaned wsX3_orphaned) := goodIn_app (goodIn_of _ (by decide +kernel)) ggX3_isOrphaned_X3_orphaned
theorem dX3_isOrphaned_0 : decode cX3_isOrphaned 0 = .ok (.aload_n 0, 1) := by decide +kernel
theorem dX3_isOrphaned_1 : decode cX3_isOrphaned 1 = .ok (.iload_n 1, 1) := by decide +kernel
theorem dX3_isOrphaned_2 : decode cX3_isOrphaned 2 = .ok (.iconst 1, 1) := by decide +kernel
theorem dX3_isOrphaned_3 : decode cX3_isOrphaned 3 = .ok (.if_icmp .lt 9, 3) := by decide +kernel
theorem dX3_isOrphaned_6 : decode cX3_isOrphaned 6 = .ok (.iload_n 1, 1) := by decide +kernel
theorem dX3_isOrphaned_7 : decode cX3_isOrphaned 7 = .ok (.bipush 40, 2) := by decide +kernel
theorem dX3_isOrphaned_9 : decode cX3_isOrphaned 9 = .ok (.if_icmp .le 7, 3) := by decide +kernel
theorem dX3_isOrphaned_12 : decode cX3_isOrphaned 12 = .ok (.iconst 1, 1) := by decide +kernel
theorem dX3_isOrphaned_13 : decode cX3_isOrphaned 13 = .ok (.goto 4, 3) := by decide +kernel
theorem dX3_isOrphaned_16 : decode cX3_isOrphaned 16 = .ok (.iconst 0, 1) := by decide +kernel
theorem dX3_isOrphaned_17 : decode cX3_isOrphaned 17 = .ok (.invokevirtual 162, 3) := by decide +kernel
theorem dX3_isOrphaned_20 : decode cX3_isOrphaned 20 = .ok (.ifCond .ne 15, 3) := by decide +kernel
theorem dX3_isOrphaned_23 : decode cX3_isOrphaned 23 = .ok (.aload_n 0, 1) := by decide +kernel
theorem dX3_isOrphaned_24 : decode cX3_isOrphaned 24 = .ok (.iload_n 1, 1) := by decide +kernel
theorem dX3_isOrphaned_25 : decode cX3_isOrphaned 25 = .ok (.invokevirtual 108, 3) := by decide +kernel
theorem dX3_isOrphaned_28 : decode cX3_isOrphaned 28 = .ok (.ifCond .eq 7, 3) := by decide +kernel
theorem dX3_isOrphaned_31 : decode cX3_isOrphaned 31 = .ok (.iconst 1, 1) := by decide +kernel
theorem dX3_isOrphaned_32 : decode cX3_isOrphaned 32 = .ok (.goto 4, 3) := by decide +kernel
theorem dX3_isOrphaned_35 : decode cX3_isOrphaned 35 = .ok (.iconst 0, 1) := by decide +kernel
theorem dX3_isOrphaned_36 : decode cX3_isOrphaned 36 = .ok (.ireturn, 1) := by decide +kernel
set_option maxRecDepth 20000 in
theorem ggX3_terminalSession_X3_tells : GoodIn wsX3_terminalSession wsX3_tells := goodIn_r _ [6, 7, 8, 9, 10, 11, 12, 13, 14, 15, 16, 17, 18, 19, 20, 21, 22, 23, 24, 25, 26, 27, 28, 29, 30, 31, 32, 33, 34, 35, 36] (by decide +kernel) (by decide +kernel)
set_option maxRecDepth 20000 in
theorem gX3_terminalSession_X3_tells : GoodIn wsX3_terminalSession (wsV RX3 186 RX3 yX3_tells wsX3_tells) := goodIn_app (goodIn_of _ (by decide +kernel)) ggX3_terminalSession_X3_tells
theorem dX3_terminalSession_0 : decode cX3_terminalSession 0 = .ok (.aload_n 0, 1) := by decide +kernel
theorem dX3_terminalSession_1 : decode cX3_terminalSession 1 = .ok (.aload_n 0, 1) := by decide +kernel
theorem dX3_terminalSession_2 : decode cX3_terminalSession 2 = .ok (.getfield 74, 3) := by decide +kernel
theorem dX3_terminalSession_5 : decode cX3_terminalSession 5 = .ok (.invokevirtual 186, 3) := by decide +kernel
theorem dX3_terminalSession_8 : decode cX3_terminalSession 8 = .ok (.ireturn, 1) := by decide +kernel
set_option maxRecDepth 20000 in
theorem ggX3_foreground_X3_tells : GoodIn wsX3_foreground wsX3_tells := goodIn_r _ [6, 7, 8, 9, 10, 11, 12, 13, 14, 15, 16, 17, 18, 19, 20, 21, 22, 23, 24, 25, 26, 27, 28, 29, 30, 31, 32, 33, 34, 35, 36] (by decide +kernel) (by decide +kernel)
set_option maxRecDepth 20000 in
theorem gX3_foreground_X3_tells : GoodIn wsX3_foreground (wsV RX3 186 RX3 yX3_tells wsX3_tells) := goodIn_app (goodIn_of _ (by decide +kernel)) ggX3_foreground_X3_tells
theorem dX3_foreground_0 : decode cX3_foreground 0 = .ok (.aload_n 0, 1) := by decide +kernel
theorem dX3_foreground_1 : decode cX3_foreground 1 = .ok (.aload_n 0, 1) := by decide +kernel
theorem dX3_foreground_2 : decode cX3_foreground 2 = .ok (.getfield 78, 3) := by decide +kernel
theorem dX3_foreground_5 : decode cX3_foreground 5 = .ok (.invokevirtual 186, 3) := by decide +kernel
theorem dX3_foreground_8 : decode cX3_foreground 8 = .ok (.ireturn, 1) := by decide +kernel
set_option maxRecDepth 20000 in
theorem ggX3_waitResult_X3_of : GoodIn wsX3_waitResult wsX3_of := goodIn_r _ [6, 7, 8, 9, 5, 10, 11, 12, 13, 14, 15, 16, 17, 18, 19, 20, 21, 22, 23, 24, 25, 26, 27, 28, 29, 30, 31, 32, 33, 34, 35, 36, 37, 38, 39, 40, 41, 42, 43, 44, 45] (by decide +kernel) (by decide +kernel)
set_option maxRecDepth 20000 in
theorem gX3_waitResult_X3_of : GoodIn wsX3_waitResult (wsV RX3 182 RX3 yX3_of wsX3_of) := goodIn_app (goodIn_of _ (by decide +kernel)) ggX3_waitResult_X3_of
theorem dX3_waitResult_0 : decode cX3_waitResult 0 = .ok (.aload_n 0, 1) := by decide +kernel
theorem dX3_waitResult_1 : decode cX3_waitResult 1 = .ok (.aload_n 0, 1) := by decide +kernel
theorem dX3_waitResult_2 : decode cX3_waitResult 2 = .ok (.getfield 65, 3) := by decide +kernel
theorem dX3_waitResult_5 : decode cX3_waitResult 5 = .ok (.iload_n 1, 1) := by decide +kernel
theorem dX3_waitResult_6 : decode cX3_waitResult 6 = .ok (.invokevirtual 182, 3) := by decide +kernel
theorem dX3_waitResult_9 : decode cX3_waitResult 9 = .ok (.ireturn, 1) := by decide +kernel
set_option maxRecDepth 20000 in
theorem ggX3_reportedChild_X3_of : GoodIn wsX3_reportedChild wsX3_of := goodIn_r _ [6, 7, 8, 9, 5, 10, 11, 12, 13, 14, 15, 16, 17, 18, 19, 20, 21, 22, 23, 24, 25, 26, 27, 28, 29, 30, 31, 32, 33, 34, 35, 36, 37, 38, 39, 40, 41, 42, 43, 44, 45] (by decide +kernel) (by decide +kernel)
set_option maxRecDepth 20000 in
theorem gX3_reportedChild_X3_of : GoodIn wsX3_reportedChild (wsV RX3 182 RX3 yX3_of wsX3_of) := goodIn_app (goodIn_of _ (by decide +kernel)) ggX3_reportedChild_X3_of
theorem dX3_reportedChild_0 : decode cX3_reportedChild 0 = .ok (.aload_n 0, 1) := by decide +kernel
theorem dX3_reportedChild_1 : decode cX3_reportedChild 1 = .ok (.aload_n 0, 1) := by decide +kernel
theorem dX3_reportedChild_2 : decode cX3_reportedChild 2 = .ok (.getfield 68, 3) := by decide +kernel
theorem dX3_reportedChild_5 : decode cX3_reportedChild 5 = .ok (.iload_n 1, 1) := by decide +kernel
theorem dX3_reportedChild_6 : decode cX3_reportedChild 6 = .ok (.invokevirtual 182, 3) := by decide +kernel
theorem dX3_reportedChild_9 : decode cX3_reportedChild 9 = .ok (.ireturn, 1) := by decide +kernel
set_option maxRecDepth 20000 in
theorem ggX3_reportedValue_X3_of : GoodIn wsX3_reportedValue wsX3_of := goodIn_r _ [6, 7, 8, 9, 5, 10, 11, 12, 13, 14, 15, 16, 17, 18, 19, 20, 21, 22, 23, 24, 25, 26, 27, 28, 29, 30, 31, 32, 33, 34, 35, 36, 37, 38, 39, 40, 41, 42, 43, 44, 45] (by decide +kernel) (by decide +kernel)
set_option maxRecDepth 20000 in
theorem gX3_reportedValue_X3_of : GoodIn wsX3_reportedValue (wsV RX3 182 RX3 yX3_of wsX3_of) := goodIn_app (goodIn_of _ (by decide +kernel)) ggX3_reportedValue_X3_of
theorem dX3_reportedValue_0 : decode cX3_reportedValue 0 = .ok (.aload_n 0, 1) := by decide +kernel
theorem dX3_reportedValue_1 : decode cX3_reportedValue 1 = .ok (.aload_n 0, 1) := by decide +kernel
theorem dX3_reportedValue_2 : decode cX3_reportedValue 2 = .ok (.getfield 71, 3) := by decide +kernel
theorem dX3_reportedValue_5 : decode cX3_reportedValue 5 = .ok (.iload_n 1, 1) := by decide +kernel
theorem dX3_reportedValue_6 : decode cX3_reportedValue 6 = .ok (.invokevirtual 182, 3) := by decide +kernel
theorem dX3_reportedValue_9 : decode cX3_reportedValue 9 = .ok (.ireturn, 1) := by decide +kernel
theorem dJ6_bitCount_0f7a4_0 : decode cJ6_bitCount_0f7a4 0 = .ok (.iload_n 0, 1) := by decide +kernel
theorem dJ6_bitCount_0f7a4_1 : decode cJ6_bitCount_0f7a4 1 = .ok (.iload_n 0, 1) := by decide +kernel
theorem dJ6_bitCount_0f7a4_2 : decode cJ6_bitCount_0f7a4 2 = .ok (.iconst 1, 1) := by decide +kernel
theorem dJ6_bitCount_0f7a4_3 : decode cJ6_bitCount_0f7a4 3 = .ok (.iushr, 1) := by decide +kernel
theorem dJ6_bitCount_0f7a4_4 : decode cJ6_bitCount_0f7a4 4 = .ok (.ldc_w 265, 3) := by decide +kernel
theorem dJ6_bitCount_0f7a4_7 : decode cJ6_bitCount_0f7a4 7 = .ok (.iand, 1) := by decide +kernel
theorem dJ6_bitCount_0f7a4_8 : decode cJ6_bitCount_0f7a4 8 = .ok (.isub, 1) := by decide +kernel
theorem dJ6_bitCount_0f7a4_9 : decode cJ6_bitCount_0f7a4 9 = .ok (.istore_n 0, 1) := by decide +kernel
theorem dJ6_bitCount_0f7a4_10 : decode cJ6_bitCount_0f7a4 10 = .ok (.iload_n 0, 1) := by decide +kernel
theorem dJ6_bitCount_0f7a4_11 : decode cJ6_bitCount_0f7a4 11 = .ok (.ldc_w 266, 3) := by decide +kernel
theorem dJ6_bitCount_0f7a4_14 : decode cJ6_bitCount_0f7a4 14 = .ok (.iand, 1) := by decide +kernel
theorem dJ6_bitCount_0f7a4_15 : decode cJ6_bitCount_0f7a4 15 = .ok (.iload_n 0, 1) := by decide +kernel
theorem dJ6_bitCount_0f7a4_16 : decode cJ6_bitCount_0f7a4 16 = .ok (.iconst 2, 1) := by decide +kernel
theorem dJ6_bitCount_0f7a4_17 : decode cJ6_bitCount_0f7a4 17 = .ok (.iushr, 1) := by decide +kernel
theorem dJ6_bitCount_0f7a4_18 : decode cJ6_bitCount_0f7a4 18 = .ok (.ldc_w 266, 3) := by decide +kernel
theorem dJ6_bitCount_0f7a4_21 : decode cJ6_bitCount_0f7a4 21 = .ok (.iand, 1) := by decide +kernel
theorem dJ6_bitCount_0f7a4_22 : decode cJ6_bitCount_0f7a4 22 = .ok (.iadd, 1) := by decide +kernel
theorem dJ6_bitCount_0f7a4_23 : decode cJ6_bitCount_0f7a4 23 = .ok (.istore_n 0, 1) := by decide +kernel
theorem dJ6_bitCount_0f7a4_24 : decode cJ6_bitCount_0f7a4 24 = .ok (.iload_n 0, 1) := by decide +kernel
theorem dJ6_bitCount_0f7a4_25 : decode cJ6_bitCount_0f7a4 25 = .ok (.iload_n 0, 1) := by decide +kernel
theorem dJ6_bitCount_0f7a4_26 : decode cJ6_bitCount_0f7a4 26 = .ok (.iconst 4, 1) := by decide +kernel
theorem dJ6_bitCount_0f7a4_27 : decode cJ6_bitCount_0f7a4 27 = .ok (.iushr, 1) := by decide +kernel
theorem dJ6_bitCount_0f7a4_28 : decode cJ6_bitCount_0f7a4 28 = .ok (.iadd, 1) := by decide +kernel
theorem dJ6_bitCount_0f7a4_29 : decode cJ6_bitCount_0f7a4 29 = .ok (.ldc_w 267, 3) := by decide +kernel
theorem dJ6_bitCount_0f7a4_32 : decode cJ6_bitCount_0f7a4 32 = .ok (.iand, 1) := by decide +kernel
theorem dJ6_bitCount_0f7a4_33 : decode cJ6_bitCount_0f7a4 33 = .ok (.istore_n 0, 1) := by decide +kernel
theorem dJ6_bitCount_0f7a4_34 : decode cJ6_bitCount_0f7a4 34 = .ok (.iload_n 0, 1) := by decide +kernel
theorem dJ6_bitCount_0f7a4_35 : decode cJ6_bitCount_0f7a4 35 = .ok (.iload_n 0, 1) := by decide +kernel
theorem dJ6_bitCount_0f7a4_36 : decode cJ6_bitCount_0f7a4 36 = .ok (.bipush 8, 2) := by decide +kernel
theorem dJ6_bitCount_0f7a4_38 : decode cJ6_bitCount_0f7a4 38 = .ok (.iushr, 1) := by decide +kernel
theorem dJ6_bitCount_0f7a4_39 : decode cJ6_bitCount_0f7a4 39 = .ok (.iadd, 1) := by decide +kernel
theorem dJ6_bitCount_0f7a4_40 : decode cJ6_bitCount_0f7a4 40 = .ok (.istore_n 0, 1) := by decide +kernel
theorem dJ6_bitCount_0f7a4_41 : decode cJ6_bitCount_0f7a4 41 = .ok (.iload_n 0, 1) := by decide +kernel
theorem dJ6_bitCount_0f7a4_42 : decode cJ6_bitCount_0f7a4 42 = .ok (.iload_n 0, 1) := by decide +kernel
theorem dJ6_bitCount_0f7a4_43 : decode cJ6_bitCount_0f7a4 43 = .ok (.bipush 16, 2) := by decide +kernel
theorem dJ6_bitCount_0f7a4_45 : decode cJ6_bitCount_0f7a4 45 = .ok (.iushr, 1) := by decide +kernel
theorem dJ6_bitCount_0f7a4_46 : decode cJ6_bitCount_0f7a4 46 = .ok (.iadd, 1) := by decide +kernel
theorem dJ6_bitCount_0f7a4_47 : decode cJ6_bitCount_0f7a4 47 = .ok (.istore_n 0, 1) := by decide +kernel
theorem dJ6_bitCount_0f7a4_48 : decode cJ6_bitCount_0f7a4 48 = .ok (.iload_n 0, 1) := by decide +kernel
theorem dJ6_bitCount_0f7a4_49 : decode cJ6_bitCount_0f7a4 49 = .ok (.bipush 63, 2) := by decide +kernel
theorem dJ6_bitCount_0f7a4_51 : decode cJ6_bitCount_0f7a4 51 = .ok (.iand, 1) := by decide +kernel
theorem dJ6_bitCount_0f7a4_52 : decode cJ6_bitCount_0f7a4 52 = .ok (.ireturn, 1) := by decide +kernel
theorem dJ9_min_7cf53_0 : decode cJ9_min_7cf53 0 = .ok (.iload_n 0, 1) := by decide +kernel
theorem dJ9_min_7cf53_1 : decode cJ9_min_7cf53 1 = .ok (.iload_n 1, 1) := by decide +kernel
theorem dJ9_min_7cf53_2 : decode cJ9_min_7cf53 2 = .ok (.if_icmp .gt 7, 3) := by decide +kernel
theorem dJ9_min_7cf53_5 : decode cJ9_min_7cf53 5 = .ok (.iload_n 0, 1) := by decide +kernel
theorem dJ9_min_7cf53_6 : decode cJ9_min_7cf53 6 = .ok (.goto 4, 3) := by decide +kernel
theorem dJ9_min_7cf53_9 : decode cJ9_min_7cf53 9 = .ok (.iload_n 1, 1) := by decide +kernel
theorem dJ9_min_7cf53_10 : decode cJ9_min_7cf53 10 = .ok (.ireturn, 1) := by decide +kernel
theorem dJ7_copyOf_59c91_0 : decode cJ7_copyOf_59c91 0 = .ok (.iload_n 1, 1) := by decide +kernel
theorem dJ7_copyOf_59c91_1 : decode cJ7_copyOf_59c91 1 = .ok (.aload_n 0, 1) := by decide +kernel
theorem dJ7_copyOf_59c91_2 : decode cJ7_copyOf_59c91 2 = .ok (.arraylength, 1) := by decide +kernel
theorem dJ7_copyOf_59c91_3 : decode cJ7_copyOf_59c91 3 = .ok (.if_icmp .ne 11, 3) := by decide +kernel
theorem dJ7_copyOf_59c91_6 : decode cJ7_copyOf_59c91 6 = .ok (.aload_n 0, 1) := by decide +kernel
theorem dJ7_copyOf_59c91_7 : decode cJ7_copyOf_59c91 7 = .ok (.invokevirtual 316, 3) := by decide +kernel
theorem dJ7_copyOf_59c91_10 : decode cJ7_copyOf_59c91 10 = .ok (.checkcast 317, 3) := by decide +kernel
theorem dJ7_copyOf_59c91_13 : decode cJ7_copyOf_59c91 13 = .ok (.areturn, 1) := by decide +kernel
theorem dJ7_copyOf_59c91_14 : decode cJ7_copyOf_59c91 14 = .ok (.iload_n 1, 1) := by decide +kernel
theorem dJ7_copyOf_59c91_15 : decode cJ7_copyOf_59c91 15 = .ok (.newarray .int, 2) := by decide +kernel
theorem dJ7_copyOf_59c91_17 : decode cJ7_copyOf_59c91 17 = .ok (.astore_n 2, 1) := by decide +kernel
theorem dJ7_copyOf_59c91_18 : decode cJ7_copyOf_59c91 18 = .ok (.aload_n 0, 1) := by decide +kernel
theorem dJ7_copyOf_59c91_19 : decode cJ7_copyOf_59c91 19 = .ok (.iconst 0, 1) := by decide +kernel
theorem dJ7_copyOf_59c91_20 : decode cJ7_copyOf_59c91 20 = .ok (.aload_n 2, 1) := by decide +kernel
theorem dJ7_copyOf_59c91_21 : decode cJ7_copyOf_59c91 21 = .ok (.iconst 0, 1) := by decide +kernel
theorem dJ7_copyOf_59c91_22 : decode cJ7_copyOf_59c91 22 = .ok (.aload_n 0, 1) := by decide +kernel
theorem dJ7_copyOf_59c91_23 : decode cJ7_copyOf_59c91 23 = .ok (.arraylength, 1) := by decide +kernel
theorem dJ7_copyOf_59c91_24 : decode cJ7_copyOf_59c91 24 = .ok (.iload_n 1, 1) := by decide +kernel
theorem dJ7_copyOf_59c91_25 : decode cJ7_copyOf_59c91 25 = .ok (.invokestatic 304, 3) := by decide +kernel
theorem dJ7_copyOf_59c91_28 : decode cJ7_copyOf_59c91 28 = .ok (.invokestatic 150, 3) := by decide +kernel
theorem dJ7_copyOf_59c91_31 : decode cJ7_copyOf_59c91 31 = .ok (.aload_n 2, 1) := by decide +kernel
theorem dJ7_copyOf_59c91_32 : decode cJ7_copyOf_59c91 32 = .ok (.areturn, 1) := by decide +kernel
