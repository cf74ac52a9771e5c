theorem dX2_sendToGroup_23 : decode cX2_sendToGroup 23 = .ok (.ireturn, 1) := by decide +kernel
set_option maxRecDepth 20000 in
theorem ggX2_type_X2_requireTerminal : GoodIn wsX2_type wsX2_requireTerminal := goodIn_ca (goodIn_r _ [6, 7, 8, 9, 214, 215, 216, 217] (by decide +kernel) (by decide +kernel)) (goodIn_sub (fun _ h => List.mem_cons_of_mem _ (List.mem_append_right _ h)) (by decide +kernel))
set_option maxRecDepth 20000 in
theorem gX2_type_X2_requireTerminal : GoodIn wsX2_type (wsV RX2 138 RX2 yX2_requireTerminal wsX2_requireTerminal) := goodIn_app (goodIn_of _ (by decide +kernel)) ggX2_type_X2_requireTerminal
set_option maxRecDepth 20000 in
theorem ggX2_type_X2_appendForMembers : GoodIn wsX2_type wsX2_appendForMembers := goodIn_r _ [13, 14, 15, 16, 17, 18, 19, 20, 21, 22, 23, 24, 25, 26, 27, 28, 29, 30, 31, 32, 33, 34, 35, 36, 37, 38, 39, 40, 41, 42, 43, 44, 45, 46, 47, 48, 49, 50, 51, 214, 215, 216, 217, 218, 219, 220, 221, 222, 223, 224, 225, 226, 227, 228, 229, 230, 231, 232, 233, 234, 235, 236, 237, 238, 239, 240, 241, 242, 243] (by decide +kernel) (by decide +kernel)
set_option maxRecDepth 20000 in
theorem gX2_type_X2_appendForMembers : GoodIn wsX2_type (wsV RX2 134 RX2 yX2_appendForMembers wsX2_appendForMembers) := goodIn_app (goodIn_of _ (by decide +kernel)) ggX2_type_X2_appendForMembers
set_option maxRecDepth 20000 in
theorem ggX2_type_X2_processEvents : GoodIn wsX2_type wsX2_processEvents := goodIn_r _ [55, 56, 15, 57, 58, 16, 59, 60, 61, 62, 27, 63, 64, 29, 30, 32, 65, 66, 67, 68, 69, 5, 70, 14, 71, 72, 73, 74, 75, 76, 77, 78, 20, 79, 80, 81, 82, 83, 84, 85, 86, 87, 88, 89, 90, 91, 92, 93, 94, 95, 96, 97, 23, 98, 99, 100, 101, 102, 103, 104, 105, 106, 107, 108, 109, 110, 111, 112, 113, 114, 115, 116, 117, 118, 119, 120, 121, 122, 123, 124, 125, 24, 25, 26, 28, 31, 33, 34, 35, 36, 37, 38, 39, 40, 41, 42, 43, 44, 45, 46, 47, 48, 49, 50, 51, 126, 127, 128, 129, 130, 131, 132, 133, 134, 135, 136, 137, 138, 139, 140, 141, 142, 143, 144, 145, 146, 147, 148, 149, 150, 9, 1, 151, 152, 153, 154, 155, 156, 157, 158, 159, 160, 22, 161, 162, 163, 164, 165, 166, 167, 168, 169, 170, 171, 172, 173, 174, 175, 176, 177, 178, 179, 180, 181, 182, 10, 11, 12, 13, 17, 18, 19, 21, 183, 184, 185, 186, 187, 188, 189, 190, 191, 192, 193, 194, 195, 196, 197, 198, 199, 200, 201, 202, 203, 204, 205, 206, 207, 208, 209, 210, 211, 212, 213, 214, 215, 216, 217, 238, 239, 240, 241, 242, 243, 218, 219, 220, 221, 222, 223, 224, 225, 226, 227, 228, 229, 230, 231, 232, 233, 234, 235, 236, 237] (by decide +kernel) (by decide +kernel)
set_option maxRecDepth 20000 in
theorem gX2_type_X2_processEvents : GoodIn wsX2_type (wsV RX2 68 RX2 yX2_processEvents wsX2_processEvents) := goodIn_app (goodIn_of _ (by decide +kernel)) ggX2_type_X2_processEvents
theorem dX2_type_0 : decode cX2_type 0 = .ok (.aload_n 0, 1) := by decide +kernel
theorem dX2_type_1 : decode cX2_type 1 = .ok (.invokevirtual 138, 3) := by decide +kernel
theorem dX2_type_4 : decode cX2_type 4 = .ok (.aload_n 0, 1) := by decide +kernel
theorem dX2_type_5 : decode cX2_type 5 = .ok (.aload_n 0, 1) := by decide +kernel
theorem dX2_type_6 : decode cX2_type 6 = .ok (.getfield 26, 3) := by decide +kernel
theorem dX2_type_9 : decode cX2_type 9 = .ok (.iload_n 1, 1) := by decide +kernel
theorem dX2_type_10 : decode cX2_type 10 = .ok (.ifCond .eq 8, 3) := by decide +kernel
theorem dX2_type_13 : decode cX2_type 13 = .ok (.bipush 6, 2) := by decide +kernel
theorem dX2_type_15 : decode cX2_type 15 = .ok (.goto 4, 3) := by decide +kernel
theorem dX2_type_18 : decode cX2_type 18 = .ok (.iconst 1, 1) := by decide +kernel
theorem dX2_type_19 : decode cX2_type 19 = .ok (.invokevirtual 134, 3) := by decide +kernel
theorem dX2_type_22 : decode cX2_type 22 = .ok (.istore_n 2, 1) := by decide +kernel
theorem dX2_type_23 : decode cX2_type 23 = .ok (.aload_n 0, 1) := by decide +kernel
theorem dX2_type_24 : decode cX2_type 24 = .ok (.invokevirtual 68, 3) := by decide +kernel
theorem dX2_type_27 : decode cX2_type 27 = .ok (.iload_n 2, 1) := by decide +kernel
theorem dX2_type_28 : decode cX2_type 28 = .ok (.ireturn, 1) := by decide +kernel
set_option maxRecDepth 20000 in
theorem ggX2_hangUp_X2_requireTerminal : GoodIn wsX2_hangUp wsX2_requireTerminal := goodIn_ca (goodIn_r _ [7, 8, 9, 1, 214, 215, 216, 217] (by decide +kernel) (by decide +kernel)) (goodIn_sub (fun _ h => List.mem_cons_of_mem _ (List.mem_append_right _ h)) (by decide +kernel))
set_option maxRecDepth 20000 in
theorem gX2_hangUp_X2_requireTerminal : GoodIn wsX2_hangUp (wsV RX2 138 RX2 yX2_requireTerminal wsX2_requireTerminal) := goodIn_app (goodIn_of _ (by decide +kernel)) ggX2_hangUp_X2_requireTerminal
set_option maxRecDepth 20000 in
theorem ggX2_hangUp_X2_freeTerminal : GoodIn wsX2_hangUp wsX2_freeTerminal := goodIn_r _ [13, 1, 14, 214, 215, 216, 217] (by decide +kernel) (by decide +kernel)
set_option maxRecDepth 20000 in
theorem gX2_hangUp_X2_freeTerminal : GoodIn wsX2_hangUp (wsV RX2 141 RX2 yX2_freeTerminal wsX2_freeTerminal) := goodIn_app (goodIn_of _ (by decide +kernel)) ggX2_hangUp_X2_freeTerminal
set_option maxRecDepth 20000 in
theorem ggX2_hangUp_X0_append : GoodIn wsX2_hangUp wsX0_append := goodIn_r _ [19, 20, 21, 22, 23, 24, 25, 26, 27, 28, 29, 30, 31, 32, 33, 34, 35, 36, 37, 38, 39, 40, 41, 42, 218, 219, 220, 221, 222, 223] (by decide +kernel) (by decide +kernel)
set_option maxRecDepth 20000 in
theorem gX2_hangUp_X0_append : GoodIn wsX2_hangUp (wsV RX2 131 RX0 yX0_append wsX0_append) := goodIn_app (goodIn_of _ (by decide +kernel)) ggX2_hangUp_X0_append
set_option maxRecDepth 20000 in
theorem ggX2_hangUp_X2_processEvents : GoodIn wsX2_hangUp wsX2_processEvents := goodIn_r _ [46, 47, 2, 48, 49, 50, 51, 52, 53, 54, 18, 55, 56, 20, 21, 23, 57, 58, 59, 60, 61, 6, 62, 63, 64, 65, 66, 67, 68, 69, 70, 71, 72, 73, 74, 75, 76, 77, 78, 79, 80, 81, 82, 83, 84, 85, 86, 87, 88, 89, 90, 91, 92, 93, 94, 95, 96, 97, 98, 99, 100, 101, 102, 103, 104, 105, 106, 107, 108, 109, 110, 111, 112, 113, 114, 115, 116, 117, 118, 119, 120, 15, 16, 17, 19, 22, 24, 25, 26, 27, 28, 29, 30, 31, 32, 33, 34, 35, 36, 37, 38, 39, 40, 41, 42, 121, 122, 123, 124, 125, 126, 127, 128, 129, 130, 131, 132, 133, 134, 135, 136, 137, 138, 139, 140, 141, 142, 143, 144, 145, 1, 14, 146, 147, 148, 149, 150, 151, 152, 153, 154, 155, 156, 157, 158, 159, 160, 161, 162, 163, 164, 165, 166, 167, 168, 169, 170, 171, 172, 173, 174, 10, 11, 12, 13, 175, 176, 177, 178, 179, 180, 181, 182, 183, 184, 185, 186, 187, 188, 189, 190, 191, 192, 193, 194, 195, 196, 197, 198, 199, 200, 201, 202, 203, 204, 205, 206, 207, 208, 209, 210, 211, 212, 213, 214, 215, 216, 217, 218, 219, 220, 221, 222, 223, 224, 225, 226, 227, 228, 229, 230, 231, 232, 233, 234, 235, 236, 237, 238, 239, 240, 241, 242, 243] (by decide +kernel) (by decide +kernel)
set_option maxRecDepth 20000 in
theorem gX2_hangUp_X2_processEvents : GoodIn wsX2_hangUp (wsV RX2 68 RX2 yX2_processEvents wsX2_processEvents) := goodIn_app (goodIn_of _ (by decide +kernel)) ggX2_hangUp_X2_processEvents
theorem dX2_hangUp_0 : decode cX2_hangUp 0 = .ok (.aload_n 0, 1) := by decide +kernel
theorem dX2_hangUp_1 : decode cX2_hangUp 1 = .ok (.invokevirtual 138, 3) := by decide +kernel
theorem dX2_hangUp_4 : decode cX2_hangUp 4 = .ok (.aload_n 0, 1) := by decide +kernel
theorem dX2_hangUp_5 : decode cX2_hangUp 5 = .ok (.getfield 22, 3) := by decide +kernel
theorem dX2_hangUp_8 : decode cX2_hangUp 8 = .ok (.istore_n 1, 1) := by decide +kernel
theorem dX2_hangUp_9 : decode cX2_hangUp 9 = .ok (.aload_n 0, 1) := by decide +kernel
theorem dX2_hangUp_10 : decode cX2_hangUp 10 = .ok (.invokevirtual 141, 3) := by decide +kernel
theorem dX2_hangUp_13 : decode cX2_hangUp 13 = .ok (.aload_n 0, 1) := by decide +kernel
theorem dX2_hangUp_14 : decode cX2_hangUp 14 = .ok (.getfield 18, 3) := by decide +kernel
theorem dX2_hangUp_17 : decode cX2_hangUp 17 = .ok (.iconst 0, 1) := by decide +kernel
theorem dX2_hangUp_18 : decode cX2_hangUp 18 = .ok (.iload_n 1, 1) := by decide +kernel
theorem dX2_hangUp_19 : decode cX2_hangUp 19 = .ok (.invokevirtual 131, 3) := by decide +kernel
theorem dX2_hangUp_22 : decode cX2_hangUp 22 = .ok (.aload_n 0, 1) := by decide +kernel
theorem dX2_hangUp_23 : decode cX2_hangUp 23 = .ok (.invokevirtual 68, 3) := by decide +kernel
theorem dX2_hangUp_26 : decode cX2_hangUp 26 = .ok (.iload_n 1, 1) := by decide +kernel
theorem dX2_hangUp_27 : decode cX2_hangUp 27 = .ok (.ireturn, 1) := by decide +kernel
theorem dX2_processes_0 : decode cX2_processes 0 = .ok (.iconst 0, 1) := by decide +kernel
theorem dX2_processes_1 : decode cX2_processes 1 = .ok (.istore_n 1, 1) := by decide +kernel
theorem dX2_processes_2 : decode cX2_processes 2 = .ok (.aload_n 0, 1) := by decide +kernel
theorem dX2_processes_3 : decode cX2_processes 3 = .ok (.getfield 11, 3) := by decide +kernel
theorem dX2_processes_6 : decode cX2_processes 6 = .ok (.astore_n 2, 1) := by decide +kernel
theorem dX2_processes_7 : decode cX2_processes 7 = .ok (.aload_n 2, 1) := by decide +kernel
theorem dX2_processes_8 : decode cX2_processes 8 = .ok (.arraylength, 1) := by decide +kernel
theorem dX2_processes_9 : decode cX2_processes 9 = .ok (.istore_n 3, 1) := by decide +kernel
theorem dX2_processes_10 : decode cX2_processes 10 = .ok (.iconst 0, 1) := by decide +kernel
theorem dX2_processes_11 : decode cX2_processes 11 = .ok (.istore 4, 2) := by decide +kernel
theorem dX2_processes_13 : decode cX2_processes 13 = .ok (.iload 4, 2) := by decide +kernel
theorem dX2_processes_15 : decode cX2_processes 15 = .ok (.iload_n 3, 1) := by decide +kernel
theorem dX2_processes_16 : decode cX2_processes 16 = .ok (.if_icmp .ge 23, 3) := by decide +kernel
theorem dX2_processes_19 : decode cX2_processes 19 = .ok (.aload_n 2, 1) := by decide +kernel
theorem dX2_processes_20 : decode cX2_processes 20 = .ok (.iload 4, 2) := by decide +kernel
theorem dX2_processes_22 : decode cX2_processes 22 = .ok (.aaload, 1) := by decide +kernel
theorem dX2_processes_23 : decode cX2_processes 23 = .ok (.astore 5, 2) := by decide +kernel
theorem dX2_processes_25 : decode cX2_processes 25 = .ok (.aload 5, 2) := by decide +kernel
theorem dX2_processes_27 : decode cX2_processes 27 = .ok (.ifnull 6, 3) := by decide +kernel
theorem dX2_processes_30 : decode cX2_processes 30 = .ok (.iinc 1 1, 3) := by decide +kernel
theorem dX2_processes_33 : decode cX2_processes 33 = .ok (.iinc 4 1, 3) := by decide +kernel
theorem dX2_processes_36 : decode cX2_processes 36 = .ok (.goto (-23), 3) := by decide +kernel
theorem dX2_processes_39 : decode cX2_processes 39 = .ok (.iload_n 1, 1) := by decide +kernel
theorem dX2_processes_40 : decode cX2_processes 40 = .ok (.ireturn, 1) := by decide +kernel
set_option maxRecDepth 20000 in
theorem ggX2_exists_X2_requireNumber : GoodIn wsX2_exists wsX2_requireNumber := goodIn_ca (goodIn_r _ [4, 5, 6, 3, 7, 8, 9] (by decide +kernel) (by decide +kernel)) (goodIn_sub (fun _ h => List.mem_cons_of_mem _ (List.mem_append_right _ h)) (by decide +kernel))
set_option maxRecDepth 20000 in
theorem gX2_exists_X2_requireNumber : GoodIn wsX2_exists (va_wsS RX2 75 yX2_requireNumber wsX2_requireNumber) := goodIn_app (goodIn_of _ (by decide +kernel)) ggX2_exists_X2_requireNumber
set_option maxRecDepth 20000 in
theorem ggX2_exists_X2_lookUp : GoodIn wsX2_exists wsX2_lookUp := goodIn_r _ [13, 14, 15, 16, 17, 18] (by decide +kernel) (by decide +kernel)
set_option maxRecDepth 20000 in
theorem gX2_exists_X2_lookUp : GoodIn wsX2_exists (wsV RX2 144 RX2 yX2_lookUp wsX2_lookUp) := goodIn_app (goodIn_of _ (by decide +kernel)) ggX2_exists_X2_lookUp
theorem dX2_exists_0 : decode cX2_exists 0 = .ok (.iload_n 1, 1) := by decide +kernel
theorem dX2_exists_1 : decode cX2_exists 1 = .ok (.invokestatic 75, 3) := by decide +kernel
theorem dX2_exists_4 : decode cX2_exists 4 = .ok (.aload_n 0, 1) := by decide +kernel
theorem dX2_exists_5 : decode cX2_exists 5 = .ok (.iload_n 1, 1) := by decide +kernel
theorem dX2_exists_6 : decode cX2_exists 6 = .ok (.invokevirtual 144, 3) := by decide +kernel
theorem dX2_exists_9 : decode cX2_exists 9 = .ok (.ifnull 7, 3) := by decide +kernel
theorem dX2_exists_12 : decode cX2_exists 12 = .ok (.iconst 1, 1) := by decide +kernel
theorem dX2_exists_13 : decode cX2_exists 13 = .ok (.goto 4, 3) := by decide +kernel
theorem dX2_exists_16 : decode cX2_exists 16 = .ok (.iconst 0, 1) := by decide +kernel
theorem dX2_exists_17 : decode cX2_exists 17 = .ok (.ireturn, 1) := by decide +kernel
set_option maxRecDepth 20000 in
theorem ggX2_state_X2_find : GoodIn wsX2_state wsX2_find := goodIn_ca (goodIn_r _ [5, 6, 7, 8, 9, 10, 4, 11, 12, 21, 22, 23, 24] (by decide +kernel) (by decide +kernel)) (goodIn_sub (fun _ h => List.mem_cons_of_mem _ (List.mem_append_right _ h)) (by decide +kernel))
set_option maxRecDepth 20000 in
theorem gX2_state_X2_find : GoodIn wsX2_state (wsV RX2 32 RX2 yX2_find wsX2_find) := goodIn_app (goodIn_of _ (by decide +kernel)) ggX2_state_X2_find
set_option maxRecDepth 20000 in
theorem ggX2_state_X1_condition : GoodIn wsX2_state wsX1_condition := goodIn_r _ [17, 18, 19, 20, 25, 26, 27, 28, 29, 30, 31, 32, 33, 34, 35, 36, 37, 38, 39, 40, 41, 42, 43, 44] (by decide +kernel) (by decide +kernel)
set_option maxRecDepth 20000 in
theorem gX2_state_X1_condition : GoodIn wsX2_state (wsV RX2 40 RX1 yX1_condition wsX1_condition) := goodIn_app (goodIn_of _ (by decide +kernel)) ggX2_state_X1_condition
theorem dX2_state_0 : decode cX2_state 0 = .ok (.aload_n 0, 1) := by decide +kernel
theorem dX2_state_1 : decode cX2_state 1 = .ok (.iload_n 1, 1) := by decide +kernel
theorem dX2_state_2 : decode cX2_state 2 = .ok (.invokevirtual 32, 3) := by decide +kernel
theorem dX2_state_5 : decode cX2_state 5 = .ok (.invokevirtual 40, 3) := by decide +kernel
theorem dX2_state_8 : decode cX2_state 8 = .ok (.ireturn, 1) := by decide +kernel
set_option maxRecDepth 20000 in
theorem ggX2_parent_X2_find : GoodIn wsX2_parent wsX2_find := goodIn_ca (goodIn_r _ [7, 8, 9, 10, 11, 12, 6, 13, 14, 35, 36, 37, 38] (by decide +kernel) (by decide +kernel)) (goodIn_sub (fun _ h => List.mem_cons_of_mem _ (List.mem_append_right _ h)) (by decide +kernel))
set_option maxRecDepth 20000 in
theorem gX2_parent_X2_find : GoodIn wsX2_parent (wsV RX2 32 RX2 yX2_find wsX2_find) := goodIn_app (goodIn_of _ (by decide +kernel)) ggX2_parent_X2_find
theorem dX2_parent_0 : decode cX2_parent 0 = .ok (.aload_n 0, 1) := by decide +kernel
theorem dX2_parent_1 : decode cX2_parent 1 = .ok (.iload_n 1, 1) := by decide +kernel
theorem dX2_parent_2 : decode cX2_parent 2 = .ok (.invokevirtual 32, 3) := by decide +kernel
theorem dX2_parent_5 : decode cX2_parent 5 = .ok (.getfield 147, 3) := by decide +kernel
theorem dX2_parent_8 : decode cX2_parent 8 = .ok (.astore_n 2, 1) := by decide +kernel
theorem dX2_parent_9 : decode cX2_parent 9 = .ok (.aload_n 2, 1) := by decide +kernel
theorem dX2_parent_10 : decode cX2_parent 10 = .ok (.ifnonnull 7, 3) := by decide +kernel
theorem dX2_parent_13 : decode cX2_parent 13 = .ok (.iconst (-1), 1) := by decide +kernel
theorem dX2_parent_14 : decode cX2_parent 14 = .ok (.goto 7, 3) := by decide +kernel
theorem dX2_parent_17 : decode cX2_parent 17 = .ok (.aload_n 2, 1) := by decide +kernel
theorem dX2_parent_18 : decode cX2_parent 18 = .ok (.getfield 151, 3) := by decide +kernel
theorem dX2_parent_21 : decode cX2_parent 21 = .ok (.ireturn, 1) := by decide +kernel
set_option maxRecDepth 20000 in
theorem ggX2_group_X2_find : GoodIn wsX2_group wsX2_find := goodIn_ca (goodIn_r _ [6, 7, 8, 9, 10, 11, 5, 12, 13, 34, 35, 36, 37] (by decide +kernel) (by decide +kernel)) (goodIn_sub (fun _ h => List.mem_cons_of_mem _ (List.mem_append_right _ h)) (by decide +kernel))
set_option maxRecDepth 20000 in
theorem gX2_group_X2_find : GoodIn wsX2_group (wsV RX2 32 RX2 yX2_find wsX2_find) := goodIn_app (goodIn_of _ (by decide +kernel)) ggX2_group_X2_find
theorem dX2_group_0 : decode cX2_group 0 = .ok (.aload_n 0, 1) := by decide +kernel
theorem dX2_group_1 : decode cX2_group 1 = .ok (.iload_n 1, 1) := by decide +kernel
theorem dX2_group_2 : decode cX2_group 2 = .ok (.invokevirtual 32, 3) := by decide +kernel
theorem dX2_group_5 : decode cX2_group 5 = .ok (.getfield 103, 3) := by decide +kernel
theorem dX2_group_8 : decode cX2_group 8 = .ok (.ireturn, 1) := by decide +kernel
set_option maxRecDepth 20000 in
theorem ggX2_session_X2_find : GoodIn wsX2_session wsX2_find := goodIn_ca (goodIn_r _ [6, 7, 8, 9, 10, 11, 5, 12, 13, 34, 35, 36, 37] (by decide +kernel) (by decide +kernel)) (goodIn_sub (fun _ h => List.mem_cons_of_mem _ (List.mem_append_right _ h)) (by decide +kernel))
set_option maxRecDepth 20000 in
theorem gX2_session_X2_find : GoodIn wsX2_session (wsV RX2 32 RX2 yX2_find wsX2_find) := goodIn_app (goodIn_of _ (by decide +kernel)) ggX2_session_X2_find
theorem dX2_session_0 : decode cX2_session 0 = .ok (.aload_n 0, 1) := by decide +kernel
theorem dX2_session_1 : decode cX2_session 1 = .ok (.iload_n 1, 1) := by decide +kernel
theorem dX2_session_2 : decode cX2_session 2 = .ok (.invokevirtual 32, 3) := by decide +kernel
theorem dX2_session_5 : decode cX2_session 5 = .ok (.getfield 106, 3) := by decide +kernel
theorem dX2_session_8 : decode cX2_session 8 = .ok (.ireturn, 1) := by decide +kernel
set_option maxRecDepth 20000 in
theorem ggX2_pending_X2_find : GoodIn wsX2_pending wsX2_find := goodIn_ca (goodIn_r _ [6, 7, 8, 9, 10, 11, 5, 12, 13, 34, 35, 36, 37] (by decide +kernel) (by decide +kernel)) (goodIn_sub (fun _ h => List.mem_cons_of_mem _ (List.mem_append_right _ h)) (by decide +kernel))
set_option maxRecDepth 20000 in
theorem gX2_pending_X2_find : GoodIn wsX2_pending (wsV RX2 32 RX2 yX2_find wsX2_find) := goodIn_app (goodIn_of _ (by decide +kernel)) ggX2_pending_X2_find
theorem dX2_pending_0 : decode cX2_pending 0 = .ok (.aload_n 0, 1) := by decide +kernel
theorem dX2_pending_1 : decode cX2_pending 1 = .ok (.iload_n 1, 1) := by decide +kernel
theorem dX2_pending_2 : decode cX2_pending 2 = .ok (.invokevirtual 32, 3) := by decide +kernel
theorem dX2_pending_5 : decode cX2_pending 5 = .ok (.getfield 154, 3) := by decide +kernel
theorem dX2_pending_8 : decode cX2_pending 8 = .ok (.ireturn, 1) := by decide +kernel
set_option maxRecDepth 20000 in
theorem ggX2_caught_X2_find : GoodIn wsX2_caught wsX2_find := goodIn_ca (goodIn_r _ [6, 7, 8, 9, 10, 11, 5, 12, 13, 34, 35, 36, 37] (by decide +kernel) (by decide +kernel)) (goodIn_sub (fun _ h => List.mem_cons_of_mem _ (List.mem_append_right _ h)) (by decide +kernel))
set_option maxRecDepth 20000 in
theorem gX2_caught_X2_find : GoodIn wsX2_caught (wsV RX2 32 RX2 yX2_find wsX2_find) := goodIn_app (goodIn_of _ (by decide +kernel)) ggX2_caught_X2_find
theorem dX2_caught_0 : decode cX2_caught 0 = .ok (.aload_n 0, 1) := by decide +kernel
theorem dX2_caught_1 : decode cX2_caught 1 = .ok (.iload_n 1, 1) := by decide +kernel
theorem dX2_caught_2 : decode cX2_caught 2 = .ok (.invokevirtual 32, 3) := by decide +kernel
theorem dX2_caught_5 : decode cX2_caught 5 = .ok (.getfield 157, 3) := by decide +kernel
theorem dX2_caught_8 : decode cX2_caught 8 = .ok (.ireturn, 1) := by decide +kernel
set_option maxRecDepth 20000 in
theorem ggX2_isOrphaned_X2_requireNumber : GoodIn wsX2_isOrphaned wsX2_requireNumber := goodIn_ca (goodIn_r _ [4, 5, 6, 3, 7, 8, 9] (by decide +kernel) (by decide +kernel)) (goodIn_sub (fun _ h => List.mem_cons_of_mem _ (List.mem_append_right _ h)) (by decide +kernel))
set_option maxRecDepth 20000 in
theorem gX2_isOrphaned_X2_requireNumber : GoodIn wsX2_isOrphaned (va_wsS RX2 75 yX2_requireNumber wsX2_requireNumber) := goodIn_app (goodIn_of _ (by decide +kernel)) ggX2_isOrphaned_X2_requireNumber
set_option maxRecDepth 20000 in
theorem ggX2_isOrphaned_X2_attachedGroups : GoodIn wsX2_isOrphaned wsX2_attachedGroups := goodIn_r _ [13, 14, 15, 16, 17, 18, 19, 20, 21, 22, 23, 24, 28, 29, 30, 31, 32, 33, 34, 35, 36, 37, 38, 39, 40, 41, 42, 43, 44, 45, 46, 47, 48, 49, 50, 51] (by decide +kernel) (by decide +kernel)
set_option maxRecDepth 20000 in
theorem gX2_isOrphaned_X2_attachedGroups : GoodIn wsX2_isOrphaned (wsV RX2 160 RX2 yX2_attachedGroups wsX2_attachedGroups) := goodIn_app (goodIn_of _ (by decide +kernel)) ggX2_isOrphaned_X2_attachedGroups
set_option maxRecDepth 20000 in
theorem ggX2_isOrphaned_X2_contains : GoodIn wsX2_isOrphaned wsX2_contains := goodIn_r _ [27] (by decide +kernel) (by decide +kernel)
set_option maxRecDepth 20000 in
theorem gX2_isOrphaned_X2_contains : GoodIn wsX2_isOrphaned (va_wsS RX2 164 yX2_contains wsX2_contains) := goodIn_app (goodIn_of _ (by decide +kernel)) ggX2_isOrphaned_X2_contains
theorem dX2_isOrphaned_0 : decode cX2_isOrphaned 0 = .ok (.iload_n 1, 1) := by decide +kernel
theorem dX2_isOrphaned_1 : decode cX2_isOrphaned 1 = .ok (.invokestatic 75, 3) := by decide +kernel
theorem dX2_isOrphaned_4 : decode cX2_isOrphaned 4 = .ok (.aload_n 0, 1) := by decide +kernel
theorem dX2_isOrphaned_5 : decode cX2_isOrphaned 5 = .ok (.invokevirtual 160, 3) := by decide +kernel
theorem dX2_isOrphaned_8 : decode cX2_isOrphaned 8 = .ok (.iload_n 1, 1) := by decide +kernel
theorem dX2_isOrphaned_9 : decode cX2_isOrphaned 9 = .ok (.invokestatic 164, 3) := by decide +kernel
theorem dX2_isOrphaned_12 : decode cX2_isOrphaned 12 = .ok (.ifCond .ne 7, 3) := by decide +kernel
theorem dX2_isOrphaned_15 : decode cX2_isOrphaned 15 = .ok (.iconst 1, 1) := by decide +kernel
theorem dX2_isOrphaned_16 : decode cX2_isOrphaned 16 = .ok (.goto 4, 3) := by decide +kernel
theorem dX2_isOrphaned_19 : decode cX2_isOrphaned 19 = .ok (.iconst 0, 1) := by decide +kernel
theorem dX2_isOrphaned_20 : decode cX2_isOrphaned 20 = .ok (.ireturn, 1) := by decide +kernel
theorem dX2_terminalSession_0 : decode cX2_terminalSession 0 = .ok (.aload_n 0, 1) := by decide +kernel
theorem dX2_terminalSession_1 : decode cX2_terminalSession 1 = .ok (.getfield 22, 3) := by decide +kernel
theorem dX2_terminalSession_4 : decode cX2_terminalSession 4 = .ok (.ireturn, 1) := by decide +kernel
theorem dX2_foreground_0 : decode cX2_foreground 0 = .ok (.aload_n 0, 1) := by decide +kernel
theorem dX2_foreground_1 : decode cX2_foreground 1 = .ok (.getfield 26, 3) := by decide +kernel
theorem dX2_foreground_4 : decode cX2_foreground 4 = .ok (.ireturn, 1) := by decide +kernel
set_option maxRecDepth 20000 in
theorem ggX2_waitResult_X2_find : GoodIn wsX2_waitResult wsX2_find := goodIn_ca (goodIn_r _ [6, 7, 8, 9, 10, 11, 5, 12, 13, 34, 35, 36, 37] (by decide +kernel) (by decide +kernel)) (goodIn_sub (fun _ h => List.mem_cons_of_mem _ (List.mem_append_right _ h)) (by decide +kernel))
set_option maxRecDepth 20000 in
theorem gX2_waitResult_X2_find : GoodIn wsX2_waitResult (wsV RX2 32 RX2 yX2_find wsX2_find) := goodIn_app (goodIn_of _ (by decide +kernel)) ggX2_waitResult_X2_find
theorem dX2_waitResult_0 : decode cX2_waitResult 0 = .ok (.aload_n 0, 1) := by decide +kernel
theorem dX2_waitResult_1 : decode cX2_waitResult 1 = .ok (.iload_n 1, 1) := by decide +kernel
theorem dX2_waitResult_2 : decode cX2_waitResult 2 = .ok (.invokevirtual 32, 3) := by decide +kernel
theorem dX2_waitResult_5 : decode cX2_waitResult 5 = .ok (.getfield 168, 3) := by decide +kernel
theorem dX2_waitResult_8 : decode cX2_waitResult 8 = .ok (.ireturn, 1) := by decide +kernel
set_option maxRecDepth 20000 in
theorem ggX2_reportedChild_X2_find : GoodIn wsX2_reportedChild wsX2_find := goodIn_ca (goodIn_r _ [6, 7, 8, 9, 10, 11, 5, 12, 13, 34, 35, 36, 37] (by decide +kernel) (by decide +kernel)) (goodIn_sub (fun _ h => List.mem_cons_of_mem _ (List.mem_append_right _ h)) (by decide +kernel))
set_option maxRecDepth 20000 in
theorem gX2_reportedChild_X2_find : GoodIn wsX2_reportedChild (wsV RX2 32 RX2 yX2_find wsX2_find) := goodIn_app (goodIn_of _ (by decide +kernel)) ggX2_reportedChild_X2_find
theorem dX2_reportedChild_0 : decode cX2_reportedChild 0 = .ok (.aload_n 0, 1) := by decide +kernel
theorem dX2_reportedChild_1 : decode cX2_reportedChild 1 = .ok (.iload_n 1, 1) := by decide +kernel
theorem dX2_reportedChild_2 : decode cX2_reportedChild 2 = .ok (.invokevirtual 32, 3) := by decide +kernel
theorem dX2_reportedChild_5 : decode cX2_reportedChild 5 = .ok (.getfield 171, 3) := by decide +kernel
theorem dX2_reportedChild_8 : decode cX2_reportedChild 8 = .ok (.ireturn, 1) := by decide +kernel
set_option maxRecDepth 20000 in
theorem ggX2_reportedValue_X2_find : GoodIn wsX2_reportedValue wsX2_find := goodIn_ca (goodIn_r _ [6, 7, 8, 9, 10, 11, 5, 12, 13, 34, 35, 36, 37] (by decide +kernel) (by decide +kernel)) (goodIn_sub (fun _ h => List.mem_cons_of_mem _ (List.mem_append_right _ h)) (by decide +kernel))
set_option maxRecDepth 20000 in
theorem gX2_reportedValue_X2_find : GoodIn wsX2_reportedValue (wsV RX2 32 RX2 yX2_find wsX2_find) := goodIn_app (goodIn_of _ (by decide +kernel)) ggX2_reportedValue_X2_find
theorem dX2_reportedValue_0 : decode cX2_reportedValue 0 = .ok (.aload_n 0, 1) := by decide +kernel
theorem dX2_reportedValue_1 : decode cX2_reportedValue 1 = .ok (.iload_n 1, 1) := by decide +kernel
theorem dX2_reportedValue_2 : decode cX2_reportedValue 2 = .ok (.invokevirtual 32, 3) := by decide +kernel
theorem dX2_reportedValue_5 : decode cX2_reportedValue 5 = .ok (.getfield 174, 3) := by decide +kernel
theorem dX2_reportedValue_8 : decode cX2_reportedValue 8 = .ok (.ireturn, 1) := by decide +kernel
set_option maxRecDepth 20000 in
theorem ggX2_find_X2_lookUp : GoodIn wsX2_find wsX2_lookUp := goodIn_r _ [7, 8, 9, 10, 11, 12] (by decide +kernel) (by decide +kernel)
set_option maxRecDepth 20000 in
theorem gX2_find_X2_lookUp : GoodIn wsX2_find (wsV RX2 144 RX2 yX2_lookUp wsX2_lookUp) := goodIn_app (goodIn_of _ (by decide +kernel)) ggX2_find_X2_lookUp
theorem dX2_find_0 : decode cX2_find 0 = .ok (.aload_n 0, 1) := by decide +kernel
theorem dX2_find_1 : decode cX2_find 1 = .ok (.iload_n 1, 1) := by decide +kernel
theorem dX2_find_2 : decode cX2_find 2 = .ok (.invokevirtual 144, 3) := by decide +kernel
theorem dX2_find_5 : decode cX2_find 5 = .ok (.astore_n 2, 1) := by decide +kernel
theorem dX2_find_6 : decode cX2_find 6 = .ok (.aload_n 2, 1) := by decide +kernel
theorem dX2_find_7 : decode cX2_find 7 = .ok (.ifnonnull 13, 3) := by decide +kernel
theorem dX2_find_10 : decode cX2_find 10 = .ok (.new 177, 3) := by decide +kernel
theorem dX2_find_13 : decode cX2_find 13 = .ok (.dup, 1) := by decide +kernel
theorem dX2_find_14 : decode cX2_find 14 = .ok (.ldc 179, 2) := by decide +kernel
theorem dX2_find_16 : decode cX2_find 16 = .ok (.invokespecial 181, 3) := by decide +kernel
theorem dX2_find_19 : decode cX2_find 19 = .ok (.athrow, 1) := by decide +kernel
theorem dX2_find_20 : decode cX2_find 20 = .ok (.aload_n 2, 1) := by decide +kernel
theorem dX2_find_21 : decode cX2_find 21 = .ok (.areturn, 1) := by decide +kernel
theorem dX2_requireRange_0 : decode cX2_requireRange 0 = .ok (.iload_n 0, 1) := by decide +kernel
theorem dX2_requireRange_1 : decode cX2_requireRange 1 = .ok (.iload_n 1, 1) := by decide +kernel
theorem dX2_requireRange_2 : decode cX2_requireRange 2 = .ok (.if_icmp .lt 8, 3) := by decide +kernel
theorem dX2_requireRange_5 : decode cX2_requireRange 5 = .ok (.iload_n 0, 1) := by decide +kernel
theorem dX2_requireRange_6 : decode cX2_requireRange 6 = .ok (.iload_n 2, 1) := by decide +kernel
theorem dX2_requireRange_7 : decode cX2_requireRange 7 = .ok (.if_icmp .le 13, 3) := by decide +kernel
theorem dX2_requireRange_10 : decode cX2_requireRange 10 = .ok (.new 78, 3) := by decide +kernel
theorem dX2_requireRange_13 : decode cX2_requireRange 13 = .ok (.dup, 1) := by decide +kernel
theorem dX2_requireRange_14 : decode cX2_requireRange 14 = .ok (.ldc 182, 2) := by decide +kernel
theorem dX2_requireRange_16 : decode cX2_requireRange 16 = .ok (.invokespecial 82, 3) := by decide +kernel
theorem dX2_requireRange_19 : decode cX2_requireRange 19 = .ok (.athrow, 1) := by decide +kernel
theorem dX2_requireRange_20 : decode cX2_requireRange 20 = .ok (.return_, 1) := by decide +kernel
set_option maxRecDepth 20000 in
theorem ggX2_requireNumber_X2_requireRange : GoodIn wsX2_requireNumber wsX2_requireRange := goodIn_ca (goodIn_r _ [4, 5, 6] (by decide +kernel) (by decide +kernel)) (goodIn_sub (fun _ h => List.mem_cons_of_mem _ (List.mem_append_right _ h)) (by decide +kernel))
set_option maxRecDepth 20000 in
theorem gX2_requireNumber_X2_requireRange : GoodIn wsX2_requireNumber (va_wsS RX2 60 yX2_requireRange wsX2_requireRange) := goodIn_app (goodIn_of _ (by decide +kernel)) ggX2_requireNumber_X2_requireRange
theorem dX2_requireNumber_0 : decode cX2_requireNumber 0 = .ok (.iload_n 0, 1) := by decide +kernel
theorem dX2_requireNumber_1 : decode cX2_requireNumber 1 = .ok (.iconst 1, 1) := by decide +kernel
theorem dX2_requireNumber_2 : decode cX2_requireNumber 2 = .ok (.bipush 40, 2) := by decide +kernel
theorem dX2_requireNumber_4 : decode cX2_requireNumber 4 = .ok (.invokestatic 60, 3) := by decide +kernel
theorem dX2_requireNumber_7 : decode cX2_requireNumber 7 = .ok (.return_, 1) := by decide +kernel
set_option maxRecDepth 20000 in
theorem ggX2_requireCaller_X1_condition : GoodIn wsX2_requireCaller wsX1_condition := goodIn_r _ [8, 9, 10, 11, 12, 13, 14, 15, 16, 17, 18, 19, 20, 21, 22, 23, 24, 25, 26, 27, 28, 29, 30, 31] (by decide +kernel) (by decide +kernel)
set_option maxRecDepth 20000 in
theorem gX2_requireCaller_X1_condition : GoodIn wsX2_requireCaller (wsV RX2 40 RX1 yX1_condition wsX1_condition) := goodIn_app (goodIn_of _ (by decide +kernel)) ggX2_requireCaller_X1_condition
theorem dX2_requireCaller_0 : decode cX2_requireCaller 0 = .ok (.aload_n 0, 1) := by decide +kernel
theorem dX2_requireCaller_1 : decode cX2_requireCaller 1 = .ok (.getfield 151, 3) := by decide +kernel
theorem dX2_requireCaller_4 : decode cX2_requireCaller 4 = .ok (.iconst 1, 1) := by decide +kernel
theorem dX2_requireCaller_5 : decode cX2_requireCaller 5 = .ok (.if_icmp .eq 10, 3) := by decide +kernel
theorem dX2_requireCaller_8 : decode cX2_requireCaller 8 = .ok (.aload_n 0, 1) := by decide +kernel
theorem dX2_requireCaller_9 : decode cX2_requireCaller 9 = .ok (.invokevirtual 40, 3) := by decide +kernel
theorem dX2_requireCaller_12 : decode cX2_requireCaller 12 = .ok (.ifCond .eq 13, 3) := by decide +kernel
theorem dX2_requireCaller_15 : decode cX2_requireCaller 15 = .ok (.new 43, 3) := by decide +kernel
theorem dX2_requireCaller_18 : decode cX2_requireCaller 18 = .ok (.dup, 1) := by decide +kernel
theorem dX2_requireCaller_19 : decode cX2_requireCaller 19 = .ok (.ldc 184, 2) := by decide +kernel
theorem dX2_requireCaller_21 : decode cX2_requireCaller 21 = .ok (.invokespecial 47, 3) := by decide +kernel
theorem dX2_requireCaller_24 : decode cX2_requireCaller 24 = .ok (.athrow, 1) := by decide +kernel
theorem dX2_requireCaller_25 : decode cX2_requireCaller 25 = .ok (.return_, 1) := by decide +kernel
theorem dX2_requireTerminal_0 : decode cX2_requireTerminal 0 = .ok (.aload_n 0, 1) := by decide +kernel
theorem dX2_requireTerminal_1 : decode cX2_requireTerminal 1 = .ok (.getfield 22, 3) := by decide +kernel
theorem dX2_requireTerminal_4 : decode cX2_requireTerminal 4 = .ok (.iconst (-1), 1) := by decide +kernel
theorem dX2_requireTerminal_5 : decode cX2_requireTerminal 5 = .ok (.if_icmp .ne 13, 3) := by decide +kernel
theorem dX2_requireTerminal_8 : decode cX2_requireTerminal 8 = .ok (.new 43, 3) := by decide +kernel
theorem dX2_requireTerminal_11 : decode cX2_requireTerminal 11 = .ok (.dup, 1) := by decide +kernel
theorem dX2_requireTerminal_12 : decode cX2_requireTerminal 12 = .ok (.ldc 186, 2) := by decide +kernel
theorem dX2_requireTerminal_14 : decode cX2_requireTerminal 14 = .ok (.invokespecial 47, 3) := by decide +kernel
theorem dX2_requireTerminal_17 : decode cX2_requireTerminal 17 = .ok (.athrow, 1) := by decide +kernel
theorem dX2_requireTerminal_18 : decode cX2_requireTerminal 18 = .ok (.return_, 1) := by decide +kernel
theorem dX2_lookUp_0 : decode cX2_lookUp 0 = .ok (.iload_n 1, 1) := by decide +kernel
theorem dX2_lookUp_1 : decode cX2_lookUp 1 = .ok (.iconst 1, 1) := by decide +kernel
theorem dX2_lookUp_2 : decode cX2_lookUp 2 = .ok (.if_icmp .lt 18, 3) := by decide +kernel
theorem dX2_lookUp_5 : decode cX2_lookUp 5 = .ok (.iload_n 1, 1) := by decide +kernel
theorem dX2_lookUp_6 : decode cX2_lookUp 6 = .ok (.bipush 40, 2) := by decide +kernel
theorem dX2_lookUp_8 : decode cX2_lookUp 8 = .ok (.if_icmp .gt 12, 3) := by decide +kernel
theorem dX2_lookUp_11 : decode cX2_lookUp 11 = .ok (.aload_n 0, 1) := by decide +kernel
theorem dX2_lookUp_12 : decode cX2_lookUp 12 = .ok (.getfield 11, 3) := by decide +kernel
theorem dX2_lookUp_15 : decode cX2_lookUp 15 = .ok (.iload_n 1, 1) := by decide +kernel
theorem dX2_lookUp_16 : decode cX2_lookUp 16 = .ok (.aaload, 1) := by decide +kernel
theorem dX2_lookUp_17 : decode cX2_lookUp 17 = .ok (.goto 4, 3) := by decide +kernel
theorem dX2_lookUp_20 : decode cX2_lookUp 20 = .ok (.aconst_null, 1) := by decide +kernel
theorem dX2_lookUp_21 : decode cX2_lookUp 21 = .ok (.areturn, 1) := by decide +kernel
theorem dX2_remove_0 : decode cX2_remove 0 = .ok (.aload_n 1, 1) := by decide +kernel
theorem dX2_remove_1 : decode cX2_remove 1 = .ok (.getfield 151, 3) := by decide +kernel
theorem dX2_remove_4 : decode cX2_remove 4 = .ok (.iconst 1, 1) := by decide +kernel
theorem dX2_remove_5 : decode cX2_remove 5 = .ok (.if_icmp .lt 22, 3) := by decide +kernel
theorem dX2_remove_8 : decode cX2_remove 8 = .ok (.aload_n 1, 1) := by decide +kernel
theorem dX2_remove_9 : decode cX2_remove 9 = .ok (.getfield 151, 3) := by decide +kernel
theorem dX2_remove_12 : decode cX2_remove 12 = .ok (.bipush 40, 2) := by decide +kernel
theorem dX2_remove_14 : decode cX2_remove 14 = .ok (.if_icmp .gt 13, 3) := by decide +kernel
theorem dX2_remove_17 : decode cX2_remove 17 = .ok (.aload_n 0, 1) := by decide +kernel
theorem dX2_remove_18 : decode cX2_remove 18 = .ok (.getfield 11, 3) := by decide +kernel
theorem dX2_remove_21 : decode cX2_remove 21 = .ok (.aload_n 1, 1) := by decide +kernel
theorem dX2_remove_22 : decode cX2_remove 22 = .ok (.getfield 151, 3) := by decide +kernel
theorem dX2_remove_25 : decode cX2_remove 25 = .ok (.aconst_null, 1) := by decide +kernel
theorem dX2_remove_26 : decode cX2_remove 26 = .ok (.aastore, 1) := by decide +kernel
theorem dX2_remove_27 : decode cX2_remove 27 = .ok (.return_, 1) := by decide +kernel
set_option maxRecDepth 20000 in
theorem ggX2_lowestFreePid_X2_contains : GoodIn wsX2_lowestFreePid wsX2_contains := goodIn_r _ [8] (by decide +kernel) (by decide +kernel)
set_option maxRecDepth 20000 in
theorem gX2_lowestFreePid_X2_contains : GoodIn wsX2_lowestFreePid (va_wsS RX2 164 yX2_contains wsX2_contains) := goodIn_app (goodIn_of _ (by decide +kernel)) ggX2_lowestFreePid_X2_contains
theorem dX2_lowestFreePid_0 : decode cX2_lowestFreePid 0 = .ok (.lconst 0, 1) := by decide +kernel
theorem dX2_lowestFreePid_1 : decode cX2_lowestFreePid 1 = .ok (.lstore_n 1, 1) := by decide +kernel
theorem dX2_lowestFreePid_2 : decode cX2_lowestFreePid 2 = .ok (.aload_n 0, 1) := by decide +kernel
theorem dX2_lowestFreePid_3 : decode cX2_lowestFreePid 3 = .ok (.getfield 11, 3) := by decide +kernel
theorem dX2_lowestFreePid_6 : decode cX2_lowestFreePid 6 = .ok (.astore_n 3, 1) := by decide +kernel
theorem dX2_lowestFreePid_7 : decode cX2_lowestFreePid 7 = .ok (.aload_n 3, 1) := by decide +kernel
theorem dX2_lowestFreePid_8 : decode cX2_lowestFreePid 8 = .ok (.arraylength, 1) := by decide +kernel
theorem dX2_lowestFreePid_9 : decode cX2_lowestFreePid 9 = .ok (.istore 4, 2) := by decide +kernel
theorem dX2_lowestFreePid_11 : decode cX2_lowestFreePid 11 = .ok (.iconst 0, 1) := by decide +kernel
theorem dX2_lowestFreePid_12 : decode cX2_lowestFreePid 12 = .ok (.istore 5, 2) := by decide +kernel
theorem dX2_lowestFreePid_14 : decode cX2_lowestFreePid 14 = .ok (.iload 5, 2) := by decide +kernel
theorem dX2_lowestFreePid_16 : decode cX2_lowestFreePid 16 = .ok (.iload 4, 2) := by decide +kernel
theorem dX2_lowestFreePid_18 : decode cX2_lowestFreePid 18 = .ok (.if_icmp .ge 46, 3) := by decide +kernel
theorem dX2_lowestFreePid_21 : decode cX2_lowestFreePid 21 = .ok (.aload_n 3, 1) := by decide +kernel
theorem dX2_lowestFreePid_22 : decode cX2_lowestFreePid 22 = .ok (.iload 5, 2) := by decide +kernel
theorem dX2_lowestFreePid_24 : decode cX2_lowestFreePid 24 = .ok (.aaload, 1) := by decide +kernel
theorem dX2_lowestFreePid_25 : decode cX2_lowestFreePid 25 = .ok (.astore 6, 2) := by decide +kernel
theorem dX2_lowestFreePid_27 : decode cX2_lowestFreePid 27 = .ok (.aload 6, 2) := by decide +kernel
theorem dX2_lowestFreePid_29 : decode cX2_lowestFreePid 29 = .ok (.ifnull 29, 3) := by decide +kernel
theorem dX2_lowestFreePid_32 : decode cX2_lowestFreePid 32 = .ok (.lload_n 1, 1) := by decide +kernel
theorem dX2_lowestFreePid_33 : decode cX2_lowestFreePid 33 = .ok (.lconst 1, 1) := by decide +kernel
theorem dX2_lowestFreePid_34 : decode cX2_lowestFreePid 34 = .ok (.aload 6, 2) := by decide +kernel
theorem dX2_lowestFreePid_36 : decode cX2_lowestFreePid 36 = .ok (.getfield 151, 3) := by decide +kernel
theorem dX2_lowestFreePid_39 : decode cX2_lowestFreePid 39 = .ok (.lshl, 1) := by decide +kernel
theorem dX2_lowestFreePid_40 : decode cX2_lowestFreePid 40 = .ok (.lconst 1, 1) := by decide +kernel
theorem dX2_lowestFreePid_41 : decode cX2_lowestFreePid 41 = .ok (.aload 6, 2) := by decide +kernel
theorem dX2_lowestFreePid_43 : decode cX2_lowestFreePid 43 = .ok (.getfield 103, 3) := by decide +kernel
theorem dX2_lowestFreePid_46 : decode cX2_lowestFreePid 46 = .ok (.lshl, 1) := by decide +kernel
theorem dX2_lowestFreePid_47 : decode cX2_lowestFreePid 47 = .ok (.lor, 1) := by decide +kernel
theorem dX2_lowestFreePid_48 : decode cX2_lowestFreePid 48 = .ok (.lconst 1, 1) := by decide +kernel
theorem dX2_lowestFreePid_49 : decode cX2_lowestFreePid 49 = .ok (.aload 6, 2) := by decide +kernel
theorem dX2_lowestFreePid_51 : decode cX2_lowestFreePid 51 = .ok (.getfield 106, 3) := by decide +kernel
theorem dX2_lowestFreePid_54 : decode cX2_lowestFreePid 54 = .ok (.lshl, 1) := by decide +kernel
theorem dX2_lowestFreePid_55 : decode cX2_lowestFreePid 55 = .ok (.lor, 1) := by decide +kernel
theorem dX2_lowestFreePid_56 : decode cX2_lowestFreePid 56 = .ok (.lor, 1) := by decide +kernel
theorem dX2_lowestFreePid_57 : decode cX2_lowestFreePid 57 = .ok (.lstore_n 1, 1) := by decide +kernel
theorem dX2_lowestFreePid_58 : decode cX2_lowestFreePid 58 = .ok (.iinc 5 1, 3) := by decide +kernel
theorem dX2_lowestFreePid_61 : decode cX2_lowestFreePid 61 = .ok (.goto (-47), 3) := by decide +kernel
theorem dX2_lowestFreePid_64 : decode cX2_lowestFreePid 64 = .ok (.iconst 1, 1) := by decide +kernel
theorem dX2_lowestFreePid_65 : decode cX2_lowestFreePid 65 = .ok (.istore_n 3, 1) := by decide +kernel
theorem dX2_lowestFreePid_66 : decode cX2_lowestFreePid 66 = .ok (.iload_n 3, 1) := by decide +kernel
theorem dX2_lowestFreePid_67 : decode cX2_lowestFreePid 67 = .ok (.bipush 40, 2) := by decide +kernel
theorem dX2_lowestFreePid_69 : decode cX2_lowestFreePid 69 = .ok (.if_icmp .gt 19, 3) := by decide +kernel
theorem dX2_lowestFreePid_72 : decode cX2_lowestFreePid 72 = .ok (.lload_n 1, 1) := by decide +kernel
theorem dX2_lowestFreePid_73 : decode cX2_lowestFreePid 73 = .ok (.iload_n 3, 1) := by decide +kernel
theorem dX2_lowestFreePid_74 : decode cX2_lowestFreePid 74 = .ok (.invokestatic 164, 3) := by decide +kernel
theorem dX2_lowestFreePid_77 : decode cX2_lowestFreePid 77 = .ok (.ifCond .ne 5, 3) := by decide +kernel
theorem dX2_lowestFreePid_80 : decode cX2_lowestFreePid 80 = .ok (.iload_n 3, 1) := by decide +kernel
theorem dX2_lowestFreePid_81 : decode cX2_lowestFreePid 81 = .ok (.ireturn, 1) := by decide +kernel
theorem dX2_lowestFreePid_82 : decode cX2_lowestFreePid 82 = .ok (.iinc 3 1, 3) := by decide +kernel
theorem dX2_lowestFreePid_85 : decode cX2_lowestFreePid 85 = .ok (.goto (-19), 3) := by decide +kernel
theorem dX2_lowestFreePid_88 : decode cX2_lowestFreePid 88 = .ok (.iconst (-1), 1) := by decide +kernel
theorem dX2_lowestFreePid_89 : decode cX2_lowestFreePid 89 = .ok (.ireturn, 1) := by decide +kernel
theorem dX2_isGroupOfAny_0 : decode cX2_isGroupOfAny 0 = .ok (.aload_n 0, 1) := by decide +kernel
theorem dX2_isGroupOfAny_1 : decode cX2_isGroupOfAny 1 = .ok (.getfield 11, 3) := by decide +kernel
theorem dX2_isGroupOfAny_4 : decode cX2_isGroupOfAny 4 = .ok (.astore_n 2, 1) := by decide +kernel
theorem dX2_isGroupOfAny_5 : decode cX2_isGroupOfAny 5 = .ok (.aload_n 2, 1) := by decide +kernel
theorem dX2_isGroupOfAny_6 : decode cX2_isGroupOfAny 6 = .ok (.arraylength, 1) := by decide +kernel
theorem dX2_isGroupOfAny_7 : decode cX2_isGroupOfAny 7 = .ok (.istore_n 3, 1) := by decide +kernel
theorem dX2_isGroupOfAny_8 : decode cX2_isGroupOfAny 8 = .ok (.iconst 0, 1) := by decide +kernel
theorem dX2_isGroupOfAny_9 : decode cX2_isGroupOfAny 9 = .ok (.istore 4, 2) := by decide +kernel
theorem dX2_isGroupOfAny_11 : decode cX2_isGroupOfAny 11 = .ok (.iload 4, 2) := by decide +kernel
theorem dX2_isGroupOfAny_13 : decode cX2_isGroupOfAny 13 = .ok (.iload_n 3, 1) := by decide +kernel
theorem dX2_isGroupOfAny_14 : decode cX2_isGroupOfAny 14 = .ok (.if_icmp .ge 31, 3) := by decide +kernel
theorem dX2_isGroupOfAny_17 : decode cX2_isGroupOfAny 17 = .ok (.aload_n 2, 1) := by decide +kernel
theorem dX2_isGroupOfAny_18 : decode cX2_isGroupOfAny 18 = .ok (.iload 4, 2) := by decide +kernel
theorem dX2_isGroupOfAny_20 : decode cX2_isGroupOfAny 20 = .ok (.aaload, 1) := by decide +kernel
theorem dX2_isGroupOfAny_21 : decode cX2_isGroupOfAny 21 = .ok (.astore 5, 2) := by decide +kernel
theorem dX2_isGroupOfAny_23 : decode cX2_isGroupOfAny 23 = .ok (.aload 5, 2) := by decide +kernel
theorem dX2_isGroupOfAny_25 : decode cX2_isGroupOfAny 25 = .ok (.ifnull 14, 3) := by decide +kernel
theorem dX2_isGroupOfAny_28 : decode cX2_isGroupOfAny 28 = .ok (.aload 5, 2) := by decide +kernel
theorem dX2_isGroupOfAny_30 : decode cX2_isGroupOfAny 30 = .ok (.getfield 103, 3) := by decide +kernel
theorem dX2_isGroupOfAny_33 : decode cX2_isGroupOfAny 33 = .ok (.iload_n 1, 1) := by decide +kernel
theorem dX2_isGroupOfAny_34 : decode cX2_isGroupOfAny 34 = .ok (.if_icmp .ne 5, 3) := by decide +kernel
theorem dX2_isGroupOfAny_37 : decode cX2_isGroupOfAny 37 = .ok (.iconst 1, 1) := by decide +kernel
theorem dX2_isGroupOfAny_38 : decode cX2_isGroupOfAny 38 = .ok (.ireturn, 1) := by decide +kernel
theorem dX2_isGroupOfAny_39 : decode cX2_isGroupOfAny 39 = .ok (.iinc 4 1, 3) := by decide +kernel
theorem dX2_isGroupOfAny_42 : decode cX2_isGroupOfAny 42 = .ok (.goto (-31), 3) := by decide +kernel
theorem dX2_isGroupOfAny_45 : decode cX2_isGroupOfAny 45 = .ok (.iconst 0, 1) := by decide +kernel
theorem dX2_isGroupOfAny_46 : decode cX2_isGroupOfAny 46 = .ok (.ireturn, 1) := by decide +kernel
set_option maxRecDepth 20000 in
theorem ggX2_hasMemberIn_X1_isMemberOf : GoodIn wsX2_hasMemberIn wsX1_isMemberOf := goodIn_r _ [7, 8, 9, 14, 15, 16, 17, 18, 19, 20, 21, 22, 23, 24, 25, 26, 27, 28, 29, 30, 31, 32, 33] (by decide +kernel) (by decide +kernel)
set_option maxRecDepth 20000 in
theorem gX2_hasMemberIn_X1_isMemberOf : GoodIn wsX2_hasMemberIn (wsV RX2 188 RX1 yX1_isMemberOf wsX1_isMemberOf) := goodIn_app (goodIn_of _ (by decide +kernel)) ggX2_hasMemberIn_X1_isMemberOf
theorem dX2_hasMemberIn_0 : decode cX2_hasMemberIn 0 = .ok (.aload_n 0, 1) := by decide +kernel
theorem dX2_hasMemberIn_1 : decode cX2_hasMemberIn 1 = .ok (.getfield 11, 3) := by decide +kernel
theorem dX2_hasMemberIn_4 : decode cX2_hasMemberIn 4 = .ok (.astore_n 3, 1) := by decide +kernel
theorem dX2_hasMemberIn_5 : decode cX2_hasMemberIn 5 = .ok (.aload_n 3, 1) := by decide +kernel
theorem dX2_hasMemberIn_6 : decode cX2_hasMemberIn 6 = .ok (.arraylength, 1) := by decide +kernel
theorem dX2_hasMemberIn_7 : decode cX2_hasMemberIn 7 = .ok (.istore 4, 2) := by decide +kernel
theorem dX2_hasMemberIn_9 : decode cX2_hasMemberIn 9 = .ok (.iconst 0, 1) := by decide +kernel
theorem dX2_hasMemberIn_10 : decode cX2_hasMemberIn 10 = .ok (.istore 5, 2) := by decide +kernel
theorem dX2_hasMemberIn_12 : decode cX2_hasMemberIn 12 = .ok (.iload 5, 2) := by decide +kernel
theorem dX2_hasMemberIn_14 : decode cX2_hasMemberIn 14 = .ok (.iload 4, 2) := by decide +kernel
theorem dX2_hasMemberIn_16 : decode cX2_hasMemberIn 16 = .ok (.if_icmp .ge 40, 3) := by decide +kernel
theorem dX2_hasMemberIn_19 : decode cX2_hasMemberIn 19 = .ok (.aload_n 3, 1) := by decide +kernel
theorem dX2_hasMemberIn_20 : decode cX2_hasMemberIn 20 = .ok (.iload 5, 2) := by decide +kernel
theorem dX2_hasMemberIn_22 : decode cX2_hasMemberIn 22 = .ok (.aaload, 1) := by decide +kernel
theorem dX2_hasMemberIn_23 : decode cX2_hasMemberIn 23 = .ok (.astore 6, 2) := by decide +kernel
theorem dX2_hasMemberIn_25 : decode cX2_hasMemberIn 25 = .ok (.aload 6, 2) := by decide +kernel
theorem dX2_hasMemberIn_27 : decode cX2_hasMemberIn 27 = .ok (.ifnull 23, 3) := by decide +kernel
theorem dX2_hasMemberIn_30 : decode cX2_hasMemberIn 30 = .ok (.aload 6, 2) := by decide +kernel
theorem dX2_hasMemberIn_32 : decode cX2_hasMemberIn 32 = .ok (.iload_n 1, 1) := by decide +kernel
theorem dX2_hasMemberIn_33 : decode cX2_hasMemberIn 33 = .ok (.invokevirtual 188, 3) := by decide +kernel
theorem dX2_hasMemberIn_36 : decode cX2_hasMemberIn 36 = .ok (.ifCond .eq 14, 3) := by decide +kernel
theorem dX2_hasMemberIn_39 : decode cX2_hasMemberIn 39 = .ok (.aload 6, 2) := by decide +kernel
theorem dX2_hasMemberIn_41 : decode cX2_hasMemberIn 41 = .ok (.getfield 106, 3) := by decide +kernel
theorem dX2_hasMemberIn_44 : decode cX2_hasMemberIn 44 = .ok (.iload_n 2, 1) := by decide +kernel
theorem dX2_hasMemberIn_45 : decode cX2_hasMemberIn 45 = .ok (.if_icmp .ne 5, 3) := by decide +kernel
theorem dX2_hasMemberIn_48 : decode cX2_hasMemberIn 48 = .ok (.iconst 1, 1) := by decide +kernel
theorem dX2_hasMemberIn_49 : decode cX2_hasMemberIn 49 = .ok (.ireturn, 1) := by decide +kernel
theorem dX2_hasMemberIn_50 : decode cX2_hasMemberIn 50 = .ok (.iinc 5 1, 3) := by decide +kernel
theorem dX2_hasMemberIn_53 : decode cX2_hasMemberIn 53 = .ok (.goto (-41), 3) := by decide +kernel
theorem dX2_hasMemberIn_56 : decode cX2_hasMemberIn 56 = .ok (.iconst 0, 1) := by decide +kernel
theorem dX2_hasMemberIn_57 : decode cX2_hasMemberIn 57 = .ok (.ireturn, 1) := by decide +kernel
set_option maxRecDepth 20000 in
theorem ggX2_hasStoppedMember_X1_isMemberOf : GoodIn wsX2_hasStoppedMember wsX1_isMemberOf := goodIn_r _ [7, 8, 9, 14, 15, 16, 17, 18, 19, 20, 21, 22, 23, 24, 25, 26, 27, 28, 29, 30, 31, 32, 33] (by decide +kernel) (by decide +kernel)
set_option maxRecDepth 20000 in
theorem gX2_hasStoppedMember_X1_isMemberOf : GoodIn wsX2_hasStoppedMember (wsV RX2 188 RX1 yX1_isMemberOf wsX1_isMemberOf) := goodIn_app (goodIn_of _ (by decide +kernel)) ggX2_hasStoppedMember_X1_isMemberOf
theorem dX2_hasStoppedMember_0 : decode cX2_hasStoppedMember 0 = .ok (.aload_n 0, 1) := by decide +kernel
theorem dX2_hasStoppedMember_1 : decode cX2_hasStoppedMember 1 = .ok (.getfield 11, 3) := by decide +kernel
theorem dX2_hasStoppedMember_4 : decode cX2_hasStoppedMember 4 = .ok (.astore_n 2, 1) := by decide +kernel
theorem dX2_hasStoppedMember_5 : decode cX2_hasStoppedMember 5 = .ok (.aload_n 2, 1) := by decide +kernel
theorem dX2_hasStoppedMember_6 : decode cX2_hasStoppedMember 6 = .ok (.arraylength, 1) := by decide +kernel
theorem dX2_hasStoppedMember_7 : decode cX2_hasStoppedMember 7 = .ok (.istore_n 3, 1) := by decide +kernel
theorem dX2_hasStoppedMember_8 : decode cX2_hasStoppedMember 8 = .ok (.iconst 0, 1) := by decide +kernel
theorem dX2_hasStoppedMember_9 : decode cX2_hasStoppedMember 9 = .ok (.istore 4, 2) := by decide +kernel
theorem dX2_hasStoppedMember_11 : decode cX2_hasStoppedMember 11 = .ok (.iload 4, 2) := by decide +kernel
theorem dX2_hasStoppedMember_13 : decode cX2_hasStoppedMember 13 = .ok (.iload_n 3, 1) := by decide +kernel
theorem dX2_hasStoppedMember_14 : decode cX2_hasStoppedMember 14 = .ok (.if_icmp .ge 39, 3) := by decide +kernel
theorem dX2_hasStoppedMember_17 : decode cX2_hasStoppedMember 17 = .ok (.aload_n 2, 1) := by decide +kernel
theorem dX2_hasStoppedMember_18 : decode cX2_hasStoppedMember 18 = .ok (.iload 4, 2) := by decide +kernel
theorem dX2_hasStoppedMember_20 : decode cX2_hasStoppedMember 20 = .ok (.aaload, 1) := by decide +kernel
theorem dX2_hasStoppedMember_21 : decode cX2_hasStoppedMember 21 = .ok (.astore 5, 2) := by decide +kernel
theorem dX2_hasStoppedMember_23 : decode cX2_hasStoppedMember 23 = .ok (.aload 5, 2) := by decide +kernel
theorem dX2_hasStoppedMember_25 : decode cX2_hasStoppedMember 25 = .ok (.ifnull 22, 3) := by decide +kernel
theorem dX2_hasStoppedMember_28 : decode cX2_hasStoppedMember 28 = .ok (.aload 5, 2) := by decide +kernel
theorem dX2_hasStoppedMember_30 : decode cX2_hasStoppedMember 30 = .ok (.iload_n 1, 1) := by decide +kernel
theorem dX2_hasStoppedMember_31 : decode cX2_hasStoppedMember 31 = .ok (.invokevirtual 188, 3) := by decide +kernel
theorem dX2_hasStoppedMember_34 : decode cX2_hasStoppedMember 34 = .ok (.ifCond .eq 13, 3) := by decide +kernel
theorem dX2_hasStoppedMember_37 : decode cX2_hasStoppedMember 37 = .ok (.aload 5, 2) := by decide +kernel
theorem dX2_hasStoppedMember_39 : decode cX2_hasStoppedMember 39 = .ok (.getfield 191, 3) := by decide +kernel
theorem dX2_hasStoppedMember_42 : decode cX2_hasStoppedMember 42 = .ok (.ifCond .eq 5, 3) := by decide +kernel
theorem dX2_hasStoppedMember_45 : decode cX2_hasStoppedMember 45 = .ok (.iconst 1, 1) := by decide +kernel
theorem dX2_hasStoppedMember_46 : decode cX2_hasStoppedMember 46 = .ok (.ireturn, 1) := by decide +kernel
theorem dX2_hasStoppedMember_47 : decode cX2_hasStoppedMember 47 = .ok (.iinc 4 1, 3) := by decide +kernel
theorem dX2_hasStoppedMember_50 : decode cX2_hasStoppedMember 50 = .ok (.goto (-39), 3) := by decide +kernel
theorem dX2_hasStoppedMember_53 : decode cX2_hasStoppedMember 53 = .ok (.iconst 0, 1) := by decide +kernel
theorem dX2_hasStoppedMember_54 : decode cX2_hasStoppedMember 54 = .ok (.ireturn, 1) := by decide +kernel
set_option maxRecDepth 20000 in
theorem ggX2_mayMove_X1_leadsSession : GoodIn wsX2_mayMove wsX1_leadsSession := goodIn_r _ [8, 9, 10, 11, 12, 13, 14, 15, 16, 17, 18, 19, 20, 21, 22, 23, 24, 25, 26, 27, 28, 29, 30] (by decide +kernel) (by decide +kernel)
set_option maxRecDepth 20000 in
theorem gX2_mayMove_X1_leadsSession : GoodIn wsX2_mayMove (wsV RX2 123 RX1 yX1_leadsSession wsX1_leadsSession) := goodIn_app (goodIn_of _ (by decide +kernel)) ggX2_mayMove_X1_leadsSession
theorem dX2_mayMove_0 : decode cX2_mayMove 0 = .ok (.aload_n 1, 1) := by decide +kernel
theorem dX2_mayMove_1 : decode cX2_mayMove 1 = .ok (.aload_n 0, 1) := by decide +kernel
theorem dX2_mayMove_2 : decode cX2_mayMove 2 = .ok (.if_acmp .eq 11, 3) := by decide +kernel
theorem dX2_mayMove_5 : decode cX2_mayMove 5 = .ok (.aload_n 1, 1) := by decide +kernel
theorem dX2_mayMove_6 : decode cX2_mayMove 6 = .ok (.getfield 147, 3) := by decide +kernel
theorem dX2_mayMove_9 : decode cX2_mayMove 9 = .ok (.aload_n 0, 1) := by decide +kernel
theorem dX2_mayMove_10 : decode cX2_mayMove 10 = .ok (.if_acmp .ne 32, 3) := by decide +kernel
theorem dX2_mayMove_13 : decode cX2_mayMove 13 = .ok (.aload_n 1, 1) := by decide +kernel
theorem dX2_mayMove_14 : decode cX2_mayMove 14 = .ok (.getfield 194, 3) := by decide +kernel
theorem dX2_mayMove_17 : decode cX2_mayMove 17 = .ok (.ifCond .ne 25, 3) := by decide +kernel
theorem dX2_mayMove_20 : decode cX2_mayMove 20 = .ok (.aload_n 1, 1) := by decide +kernel
theorem dX2_mayMove_21 : decode cX2_mayMove 21 = .ok (.invokevirtual 123, 3) := by decide +kernel
theorem dX2_mayMove_24 : decode cX2_mayMove 24 = .ok (.ifCond .ne 18, 3) := by decide +kernel
theorem dX2_mayMove_27 : decode cX2_mayMove 27 = .ok (.aload_n 1, 1) := by decide +kernel
theorem dX2_mayMove_28 : decode cX2_mayMove 28 = .ok (.getfield 106, 3) := by decide +kernel
theorem dX2_mayMove_31 : decode cX2_mayMove 31 = .ok (.aload_n 0, 1) := by decide +kernel
theorem dX2_mayMove_32 : decode cX2_mayMove 32 = .ok (.getfield 106, 3) := by decide +kernel
theorem dX2_mayMove_35 : decode cX2_mayMove 35 = .ok (.if_icmp .ne 7, 3) := by decide +kernel
theorem dX2_mayMove_38 : decode cX2_mayMove 38 = .ok (.iconst 1, 1) := by decide +kernel
theorem dX2_mayMove_39 : decode cX2_mayMove 39 = .ok (.goto 4, 3) := by decide +kernel
theorem dX2_mayMove_42 : decode cX2_mayMove 42 = .ok (.iconst 0, 1) := by decide +kernel
theorem dX2_mayMove_43 : decode cX2_mayMove 43 = .ok (.ireturn, 1) := by decide +kernel
set_option maxRecDepth 20000 in
theorem ggX2_attachedGroups_X1_attachesItsGroup : GoodIn wsX2_attachedGroups wsX1_attachesItsGroup := goodIn_r _ [7, 8, 9, 10, 11, 16, 17, 18, 19, 20, 21, 22, 23, 24, 25, 26, 27, 28, 29, 30, 31, 32, 33, 34, 35] (by decide +kernel) (by decide +kernel)
set_option maxRecDepth 20000 in
theorem gX2_attachedGroups_X1_attachesItsGroup : GoodIn wsX2_attachedGroups (wsV RX2 197 RX1 yX1_attachesItsGroup wsX1_attachesItsGroup) := goodIn_app (goodIn_of _ (by decide +kernel)) ggX2_attachedGroups_X1_attachesItsGroup
theorem dX2_attachedGroups_0 : decode cX2_attachedGroups 0 = .ok (.lconst 0, 1) := by decide +kernel
theorem dX2_attachedGroups_1 : decode cX2_attachedGroups 1 = .ok (.lstore_n 1, 1) := by decide +kernel
theorem dX2_attachedGroups_2 : decode cX2_attachedGroups 2 = .ok (.aload_n 0, 1) := by decide +kernel
theorem dX2_attachedGroups_3 : decode cX2_attachedGroups 3 = .ok (.getfield 11, 3) := by decide +kernel
theorem dX2_attachedGroups_6 : decode cX2_attachedGroups 6 = .ok (.astore_n 3, 1) := by decide +kernel
theorem dX2_attachedGroups_7 : decode cX2_attachedGroups 7 = .ok (.aload_n 3, 1) := by decide +kernel
theorem dX2_attachedGroups_8 : decode cX2_attachedGroups 8 = .ok (.arraylength, 1) := by decide +kernel
theorem dX2_attachedGroups_9 : decode cX2_attachedGroups 9 = .ok (.istore 4, 2) := by decide +kernel
theorem dX2_attachedGroups_11 : decode cX2_attachedGroups 11 = .ok (.iconst 0, 1) := by decide +kernel
theorem dX2_attachedGroups_12 : decode cX2_attachedGroups 12 = .ok (.istore 5, 2) := by decide +kernel
theorem dX2_attachedGroups_14 : decode cX2_attachedGroups 14 = .ok (.iload 5, 2) := by decide +kernel
theorem dX2_attachedGroups_16 : decode cX2_attachedGroups 16 = .ok (.iload 4, 2) := by decide +kernel
theorem dX2_attachedGroups_18 : decode cX2_attachedGroups 18 = .ok (.if_icmp .ge 38, 3) := by decide +kernel
theorem dX2_attachedGroups_21 : decode cX2_attachedGroups 21 = .ok (.aload_n 3, 1) := by decide +kernel
theorem dX2_attachedGroups_22 : decode cX2_attachedGroups 22 = .ok (.iload 5, 2) := by decide +kernel
theorem dX2_attachedGroups_24 : decode cX2_attachedGroups 24 = .ok (.aaload, 1) := by decide +kernel
theorem dX2_attachedGroups_25 : decode cX2_attachedGroups 25 = .ok (.astore 6, 2) := by decide +kernel
theorem dX2_attachedGroups_27 : decode cX2_attachedGroups 27 = .ok (.aload 6, 2) := by decide +kernel
theorem dX2_attachedGroups_29 : decode cX2_attachedGroups 29 = .ok (.ifnull 21, 3) := by decide +kernel
theorem dX2_attachedGroups_32 : decode cX2_attachedGroups 32 = .ok (.aload 6, 2) := by decide +kernel
theorem dX2_attachedGroups_34 : decode cX2_attachedGroups 34 = .ok (.invokevirtual 197, 3) := by decide +kernel
theorem dX2_attachedGroups_37 : decode cX2_attachedGroups 37 = .ok (.ifCond .eq 13, 3) := by decide +kernel
theorem dX2_attachedGroups_40 : decode cX2_attachedGroups 40 = .ok (.lload_n 1, 1) := by decide +kernel
theorem dX2_attachedGroups_41 : decode cX2_attachedGroups 41 = .ok (.lconst 1, 1) := by decide +kernel
theorem dX2_attachedGroups_42 : decode cX2_attachedGroups 42 = .ok (.aload 6, 2) := by decide +kernel
theorem dX2_attachedGroups_44 : decode cX2_attachedGroups 44 = .ok (.getfield 103, 3) := by decide +kernel
theorem dX2_attachedGroups_47 : decode cX2_attachedGroups 47 = .ok (.lshl, 1) := by decide +kernel
theorem dX2_attachedGroups_48 : decode cX2_attachedGroups 48 = .ok (.lor, 1) := by decide +kernel
theorem dX2_attachedGroups_49 : decode cX2_attachedGroups 49 = .ok (.lstore_n 1, 1) := by decide +kernel
theorem dX2_attachedGroups_50 : decode cX2_attachedGroups 50 = .ok (.iinc 5 1, 3) := by decide +kernel
theorem dX2_attachedGroups_53 : decode cX2_attachedGroups 53 = .ok (.goto (-39), 3) := by decide +kernel
theorem dX2_attachedGroups_56 : decode cX2_attachedGroups 56 = .ok (.lload_n 1, 1) := by decide +kernel
theorem dX2_attachedGroups_57 : decode cX2_attachedGroups 57 = .ok (.lreturn, 1) := by decide +kernel
theorem dX2_contains_0 : decode cX2_contains 0 = .ok (.lload_n 0, 1) := by decide +kernel
theorem dX2_contains_1 : decode cX2_contains 1 = .ok (.iload_n 2, 1) := by decide +kernel
theorem dX2_contains_2 : decode cX2_contains 2 = .ok (.lshr, 1) := by decide +kernel
theorem dX2_contains_3 : decode cX2_contains 3 = .ok (.lconst 1, 1) := by decide +kernel
theorem dX2_contains_4 : decode cX2_contains 4 = .ok (.land, 1) := by decide +kernel
theorem dX2_contains_5 : decode cX2_contains 5 = .ok (.lconst 1, 1) := by decide +kernel
theorem dX2_contains_6 : decode cX2_contains 6 = .ok (.lcmp, 1) := by decide +kernel
theorem dX2_contains_7 : decode cX2_contains 7 = .ok (.ifCond .ne 7, 3) := by decide +kernel
theorem dX2_contains_10 : decode cX2_contains 10 = .ok (.iconst 1, 1) := by decide +kernel
theorem dX2_contains_11 : decode cX2_contains 11 = .ok (.goto 4, 3) := by decide +kernel
theorem dX2_contains_14 : decode cX2_contains 14 = .ok (.iconst 0, 1) := by decide +kernel
theorem dX2_contains_15 : decode cX2_contains 15 = .ok (.ireturn, 1) := by decide +kernel
theorem dX2_freeTerminal_0 : decode cX2_freeTerminal 0 = .ok (.aload_n 0, 1) := by decide +kernel
theorem dX2_freeTerminal_1 : decode cX2_freeTerminal 1 = .ok (.iconst (-1), 1) := by decide +kernel
theorem dX2_freeTerminal_2 : decode cX2_freeTerminal 2 = .ok (.putfield 22, 3) := by decide +kernel
theorem dX2_freeTerminal_5 : decode cX2_freeTerminal 5 = .ok (.aload_n 0, 1) := by decide +kernel
theorem dX2_freeTerminal_6 : decode cX2_freeTerminal 6 = .ok (.iconst (-1), 1) := by decide +kernel
theorem dX2_freeTerminal_7 : decode cX2_freeTerminal 7 = .ok (.putfield 26, 3) := by decide +kernel
theorem dX2_freeTerminal_10 : decode cX2_freeTerminal 10 = .ok (.return_, 1) := by decide +kernel
set_option maxRecDepth 20000 in
theorem ggX2_appendForMembers_X1_isMemberOf : GoodIn wsX2_appendForMembers wsX1_isMemberOf := goodIn_r _ [8, 9, 10, 43, 44, 45, 46, 47, 48, 49, 50, 51, 52, 53, 54, 55, 56, 57, 58, 59, 60, 61, 62] (by decide +kernel) (by decide +kernel)
set_option maxRecDepth 20000 in
theorem gX2_appendForMembers_X1_isMemberOf : GoodIn wsX2_appendForMembers (wsV RX2 188 RX1 yX1_isMemberOf wsX1_isMemberOf) := goodIn_app (goodIn_of _ (by decide +kernel)) ggX2_appendForMembers_X1_isMemberOf
set_option maxRecDepth 20000 in
theorem ggX2_appendForMembers_X0_append : GoodIn wsX2_appendForMembers wsX0_append := goodIn_r _ [15, 16, 17, 18, 19, 20, 21, 22, 23, 24, 25, 26, 27, 28, 29, 30, 31, 32, 33, 34, 35, 36, 37, 38, 63, 64, 65, 66, 67, 68] (by decide +kernel) (by decide +kernel)
set_option maxRecDepth 20000 in
theorem gX2_appendForMembers_X0_append : GoodIn wsX2_appendForMembers (wsV RX2 131 RX0 yX0_append wsX0_append) := goodIn_app (goodIn_of _ (by decide +kernel)) ggX2_appendForMembers_X0_append
theorem dX2_appendForMembers_0 : decode cX2_appendForMembers 0 = .ok (.iconst 0, 1) := by decide +kernel
theorem dX2_appendForMembers_1 : decode cX2_appendForMembers 1 = .ok (.istore_n 3, 1) := by decide +kernel
theorem dX2_appendForMembers_2 : decode cX2_appendForMembers 2 = .ok (.aload_n 0, 1) := by decide +kernel
theorem dX2_appendForMembers_3 : decode cX2_appendForMembers 3 = .ok (.getfield 11, 3) := by decide +kernel
theorem dX2_appendForMembers_6 : decode cX2_appendForMembers 6 = .ok (.astore 4, 2) := by decide +kernel
theorem dX2_appendForMembers_8 : decode cX2_appendForMembers 8 = .ok (.aload 4, 2) := by decide +kernel
theorem dX2_appendForMembers_10 : decode cX2_appendForMembers 10 = .ok (.arraylength, 1) := by decide +kernel
theorem dX2_appendForMembers_11 : decode cX2_appendForMembers 11 = .ok (.istore 5, 2) := by decide +kernel
theorem dX2_appendForMembers_13 : decode cX2_appendForMembers 13 = .ok (.iconst 0, 1) := by decide +kernel
theorem dX2_appendForMembers_14 : decode cX2_appendForMembers 14 = .ok (.istore 6, 2) := by decide +kernel
theorem dX2_appendForMembers_16 : decode cX2_appendForMembers 16 = .ok (.iload 6, 2) := by decide +kernel
theorem dX2_appendForMembers_18 : decode cX2_appendForMembers 18 = .ok (.iload 5, 2) := by decide +kernel
theorem dX2_appendForMembers_20 : decode cX2_appendForMembers 20 = .ok (.if_icmp .ge 46, 3) := by decide +kernel
theorem dX2_appendForMembers_23 : decode cX2_appendForMembers 23 = .ok (.aload 4, 2) := by decide +kernel
theorem dX2_appendForMembers_25 : decode cX2_appendForMembers 25 = .ok (.iload 6, 2) := by decide +kernel
theorem dX2_appendForMembers_27 : decode cX2_appendForMembers 27 = .ok (.aaload, 1) := by decide +kernel
theorem dX2_appendForMembers_28 : decode cX2_appendForMembers 28 = .ok (.astore 7, 2) := by decide +kernel
theorem dX2_appendForMembers_30 : decode cX2_appendForMembers 30 = .ok (.aload 7, 2) := by decide +kernel
theorem dX2_appendForMembers_32 : decode cX2_appendForMembers 32 = .ok (.ifnull 28, 3) := by decide +kernel
theorem dX2_appendForMembers_35 : decode cX2_appendForMembers 35 = .ok (.aload 7, 2) := by decide +kernel
theorem dX2_appendForMembers_37 : decode cX2_appendForMembers 37 = .ok (.iload_n 1, 1) := by decide +kernel
theorem dX2_appendForMembers_38 : decode cX2_appendForMembers 38 = .ok (.invokevirtual 188, 3) := by decide +kernel
theorem dX2_appendForMembers_41 : decode cX2_appendForMembers 41 = .ok (.ifCond .eq 19, 3) := by decide +kernel
theorem dX2_appendForMembers_44 : decode cX2_appendForMembers 44 = .ok (.aload_n 0, 1) := by decide +kernel
theorem dX2_appendForMembers_45 : decode cX2_appendForMembers 45 = .ok (.getfield 18, 3) := by decide +kernel
theorem dX2_appendForMembers_48 : decode cX2_appendForMembers 48 = .ok (.iload_n 2, 1) := by decide +kernel
theorem dX2_appendForMembers_49 : decode cX2_appendForMembers 49 = .ok (.aload 7, 2) := by decide +kernel
theorem dX2_appendForMembers_51 : decode cX2_appendForMembers 51 = .ok (.getfield 151, 3) := by decide +kernel
theorem dX2_appendForMembers_54 : decode cX2_appendForMembers 54 = .ok (.invokevirtual 131, 3) := by decide +kernel
theorem dX2_appendForMembers_57 : decode cX2_appendForMembers 57 = .ok (.iinc 3 1, 3) := by decide +kernel
theorem dX2_appendForMembers_60 : decode cX2_appendForMembers 60 = .ok (.iinc 6 1, 3) := by decide +kernel
theorem dX2_appendForMembers_63 : decode cX2_appendForMembers 63 = .ok (.goto (-47), 3) := by decide +kernel
theorem dX2_appendForMembers_66 : decode cX2_appendForMembers 66 = .ok (.iload_n 3, 1) := by decide +kernel
theorem dX2_appendForMembers_67 : decode cX2_appendForMembers 67 = .ok (.ireturn, 1) := by decide +kernel
set_option maxRecDepth 20000 in
theorem ggX2_processEvents_X0_advance : GoodIn wsX2_processEvents wsX0_advance := goodIn_r _ [11, 12, 13, 14, 15, 16, 17, 208, 209, 210, 211, 212, 213] (by decide +kernel) (by decide +kernel)
set_option maxRecDepth 20000 in
theorem gX2_processEvents_X0_advance : GoodIn wsX2_processEvents (wsV RX2 201 RX0 yX0_advance wsX0_advance) := goodIn_app (goodIn_of _ (by decide +kernel)) ggX2_processEvents_X0_advance
set_option maxRecDepth 20000 in
theorem ggX2_processEvents_X2_lookUp : GoodIn wsX2_processEvents wsX2_lookUp := goodIn_r _ [22, 23, 204, 205, 206, 207] (by decide +kernel) (by decide +kernel)
set_option maxRecDepth 20000 in
theorem gX2_processEvents_X2_lookUp : GoodIn wsX2_processEvents (wsV RX2 144 RX2 yX2_lookUp wsX2_lookUp) := goodIn_app (goodIn_of _ (by decide +kernel)) ggX2_processEvents_X2_lookUp
set_option maxRecDepth 20000 in
theorem ggX2_processEvents_X2_noticeEnd : GoodIn wsX2_processEvents wsX2_noticeEnd := goodIn_r _ [27, 28, 5, 29, 30, 31, 32, 33, 34, 35, 36, 37, 38, 21, 39, 23, 40, 41, 42, 43, 2, 44, 45, 46, 47, 48, 49, 50, 51, 52, 53, 54, 55, 56, 57, 58, 59, 60, 61, 62, 63, 64, 65, 66, 67, 68, 69, 70, 71, 72, 73, 6, 74, 75, 76, 77, 78, 79, 80, 81, 82, 83, 10, 84, 13, 14, 85, 15, 86, 87, 88, 89, 90, 91, 92, 93, 94, 95, 96, 97, 98, 99, 100, 101, 102, 103, 104, 214, 215, 216, 217, 218, 219, 220, 221, 222, 223, 224, 225, 226, 227, 228, 229, 230, 231, 232, 233, 204, 205, 206, 207, 208, 209, 210, 211, 212, 213] (by decide +kernel) (by decide +kernel)
set_option maxRecDepth 20000 in
theorem gX2_processEvents_X2_noticeEnd : GoodIn wsX2_processEvents (wsV RX2 210 RX2 yX2_noticeEnd wsX2_noticeEnd) := goodIn_app (goodIn_of _ (by decide +kernel)) ggX2_processEvents_X2_noticeEnd
set_option maxRecDepth 20000 in
theorem ggX2_processEvents_X2_noticeStop : GoodIn wsX2_processEvents wsX2_noticeStop := goodIn_r _ [108, 28, 109, 40, 41, 42, 21, 43, 5, 2, 44, 45, 46, 47, 23, 48, 49, 50, 32, 51, 52, 53, 54, 55, 56, 57, 58, 59, 60, 61, 62, 63, 64, 65, 66, 67, 68, 69, 70, 71, 72, 73, 6, 74, 75, 76, 77, 78, 79, 80, 36, 37, 38, 39, 81, 82, 83, 10, 84, 13, 14, 85, 15, 86, 87, 88, 89, 90, 91, 92, 93, 94, 95, 96, 97, 98, 99, 100, 101, 102, 103, 104, 214, 215, 216, 217, 218, 219, 220, 221, 222, 223, 224, 225, 226, 227, 228, 229, 230, 231, 232, 233, 204, 205, 206, 207, 208, 209, 210, 211, 212, 213] (by decide +kernel) (by decide +kernel)
set_option maxRecDepth 20000 in
theorem gX2_processEvents_X2_noticeStop : GoodIn wsX2_processEvents (wsV RX2 213 RX2 yX2_noticeStop wsX2_noticeStop) := goodIn_app (goodIn_of _ (by decide +kernel)) ggX2_processEvents_X2_noticeStop
set_option maxRecDepth 20000 in
theorem ggX2_processEvents_X2_takeSignal : GoodIn wsX2_processEvents wsX2_takeSignal := goodIn_r _ [113, 114, 115, 116, 117, 32, 118, 119, 120, 121, 122, 123, 53, 66, 124, 125, 126, 21, 127, 128, 129, 130, 131, 2, 5, 132, 133, 134, 135, 23, 136, 137, 138, 139, 140, 52, 59, 141, 142, 143, 144, 145, 146, 54, 147, 148, 149, 150, 151, 28, 6, 152, 153, 154, 155, 156, 18, 19, 20, 22, 157, 158, 159, 160, 61, 161, 162, 163, 164, 165, 166, 167, 168, 169, 170, 171, 172, 81, 82, 83, 10, 84, 13, 14, 85, 15, 86, 87, 88, 89, 90, 91, 92, 93, 94, 95, 96, 97, 98, 99, 100, 101, 102, 103, 104, 173, 174, 175, 176, 177, 178, 179, 109, 180, 181, 182, 183, 72, 73, 184, 185, 186, 187, 188, 30, 31, 33, 34, 35, 189, 190, 191, 192, 193, 29, 194, 195, 196, 197, 198, 199, 75, 76, 77, 78, 79, 80, 44, 45, 46, 47, 48, 49, 50, 51, 55, 56, 57, 58, 60, 62, 63, 64, 65, 67, 68, 69, 70, 71, 74, 36, 37, 38, 39, 214, 215, 216, 217, 218, 219, 220, 221, 222, 223, 224, 225, 226, 227, 228, 229, 230, 231, 232, 233, 204, 205, 206, 207, 208, 209, 210, 211, 212, 213] (by decide +kernel) (by decide +kernel)
set_option maxRecDepth 20000 in
theorem gX2_processEvents_X2_takeSignal : GoodIn wsX2_processEvents (wsV RX2 216 RX2 yX2_takeSignal wsX2_takeSignal) := goodIn_app (goodIn_of _ (by decide +kernel)) ggX2_processEvents_X2_takeSignal
set_option maxRecDepth 20000 in
theorem ggX2_processEvents_X0_clear : GoodIn wsX2_processEvents wsX0_clear := goodIn_r _ [203, 12, 13, 208, 209, 210, 211, 212, 213] (by decide +kernel) (by decide +kernel)
set_option maxRecDepth 20000 in
theorem gX2_processEvents_X0_clear : GoodIn wsX2_processEvents (wsV RX2 220 RX0 yX0_clear wsX0_clear) := goodIn_app (goodIn_of _ (by decide +kernel)) ggX2_processEvents_X0_clear
theorem dX2_processEvents_0 : decode cX2_processEvents 0 = .ok (.iconst 0, 1) := by decide +kernel
theorem dX2_processEvents_1 : decode cX2_processEvents 1 = .ok (.istore_n 1, 1) := by decide +kernel
theorem dX2_processEvents_2 : decode cX2_processEvents 2 = .ok (.iload_n 1, 1) := by decide +kernel
theorem dX2_processEvents_3 : decode cX2_processEvents 3 = .ok (.ldc 200, 2) := by decide +kernel
theorem dX2_processEvents_5 : decode cX2_processEvents 5 = .ok (.if_icmp .ge 100, 3) := by decide +kernel
theorem dX2_processEvents_8 : decode cX2_processEvents 8 = .ok (.aload_n 0, 1) := by decide +kernel
theorem dX2_processEvents_9 : decode cX2_processEvents 9 = .ok (.getfield 18, 3) := by decide +kernel
theorem dX2_processEvents_12 : decode cX2_processEvents 12 = .ok (.invokevirtual 201, 3) := by decide +kernel
theorem dX2_processEvents_15 : decode cX2_processEvents 15 = .ok (.ifCond .eq 90, 3) := by decide +kernel
theorem dX2_processEvents_18 : decode cX2_processEvents 18 = .ok (.aload_n 0, 1) := by decide +kernel
theorem dX2_processEvents_19 : decode cX2_processEvents 19 = .ok (.getfield 18, 3) := by decide +kernel
theorem dX2_processEvents_22 : decode cX2_processEvents 22 = .ok (.getfield 204, 3) := by decide +kernel
theorem dX2_processEvents_25 : decode cX2_processEvents 25 = .ok (.istore_n 2, 1) := by decide +kernel
theorem dX2_processEvents_26 : decode cX2_processEvents 26 = .ok (.aload_n 0, 1) := by decide +kernel
theorem dX2_processEvents_27 : decode cX2_processEvents 27 = .ok (.aload_n 0, 1) := by decide +kernel
theorem dX2_processEvents_28 : decode cX2_processEvents 28 = .ok (.getfield 18, 3) := by decide +kernel
theorem dX2_processEvents_31 : decode cX2_processEvents 31 = .ok (.getfield 207, 3) := by decide +kernel
theorem dX2_processEvents_34 : decode cX2_processEvents 34 = .ok (.invokevirtual 144, 3) := by decide +kernel
theorem dX2_processEvents_37 : decode cX2_processEvents 37 = .ok (.astore_n 3, 1) := by decide +kernel
theorem dX2_processEvents_38 : decode cX2_processEvents 38 = .ok (.aload_n 3, 1) := by decide +kernel
theorem dX2_processEvents_39 : decode cX2_processEvents 39 = .ok (.ifnull 17, 3) := by decide +kernel
theorem dX2_processEvents_42 : decode cX2_processEvents 42 = .ok (.iload_n 2, 1) := by decide +kernel
theorem dX2_processEvents_43 : decode cX2_processEvents 43 = .ok (.bipush 9, 2) := by decide +kernel
theorem dX2_processEvents_45 : decode cX2_processEvents 45 = .ok (.if_icmp .ne 11, 3) := by decide +kernel
theorem dX2_processEvents_48 : decode cX2_processEvents 48 = .ok (.aload_n 0, 1) := by decide +kernel
theorem dX2_processEvents_49 : decode cX2_processEvents 49 = .ok (.aload_n 3, 1) := by decide +kernel
theorem dX2_processEvents_50 : decode cX2_processEvents 50 = .ok (.invokevirtual 210, 3) := by decide +kernel
theorem dX2_processEvents_53 : decode cX2_processEvents 53 = .ok (.goto 46, 3) := by decide +kernel
theorem dX2_processEvents_56 : decode cX2_processEvents 56 = .ok (.aload_n 3, 1) := by decide +kernel
theorem dX2_processEvents_57 : decode cX2_processEvents 57 = .ok (.ifnull 17, 3) := by decide +kernel
theorem dX2_processEvents_60 : decode cX2_processEvents 60 = .ok (.iload_n 2, 1) := by decide +kernel
theorem dX2_processEvents_61 : decode cX2_processEvents 61 = .ok (.bipush 10, 2) := by decide +kernel
theorem dX2_processEvents_63 : decode cX2_processEvents 63 = .ok (.if_icmp .ne 11, 3) := by decide +kernel
theorem dX2_processEvents_66 : decode cX2_processEvents 66 = .ok (.aload_n 0, 1) := by decide +kernel
theorem dX2_processEvents_67 : decode cX2_processEvents 67 = .ok (.aload_n 3, 1) := by decide +kernel
theorem dX2_processEvents_68 : decode cX2_processEvents 68 = .ok (.invokevirtual 213, 3) := by decide +kernel
theorem dX2_processEvents_71 : decode cX2_processEvents 71 = .ok (.goto 28, 3) := by decide +kernel
theorem dX2_processEvents_74 : decode cX2_processEvents 74 = .ok (.aload_n 3, 1) := by decide +kernel
theorem dX2_processEvents_75 : decode cX2_processEvents 75 = .ok (.ifnull 24, 3) := by decide +kernel
theorem dX2_processEvents_78 : decode cX2_processEvents 78 = .ok (.aload_n 3, 1) := by decide +kernel
theorem dX2_processEvents_79 : decode cX2_processEvents 79 = .ok (.getfield 151, 3) := by decide +kernel
theorem dX2_processEvents_82 : decode cX2_processEvents 82 = .ok (.iconst 1, 1) := by decide +kernel
theorem dX2_processEvents_83 : decode cX2_processEvents 83 = .ok (.if_icmp .eq 16, 3) := by decide +kernel
theorem dX2_processEvents_86 : decode cX2_processEvents 86 = .ok (.aload_n 3, 1) := by decide +kernel
theorem dX2_processEvents_87 : decode cX2_processEvents 87 = .ok (.getfield 194, 3) := by decide +kernel
theorem dX2_processEvents_90 : decode cX2_processEvents 90 = .ok (.ifCond .ne 9, 3) := by decide +kernel
theorem dX2_processEvents_93 : decode cX2_processEvents 93 = .ok (.aload_n 0, 1) := by decide +kernel
theorem dX2_processEvents_94 : decode cX2_processEvents 94 = .ok (.aload_n 3, 1) := by decide +kernel
theorem dX2_processEvents_95 : decode cX2_processEvents 95 = .ok (.iload_n 2, 1) := by decide +kernel
theorem dX2_processEvents_96 : decode cX2_processEvents 96 = .ok (.invokevirtual 216, 3) := by decide +kernel
theorem dX2_processEvents_99 : decode cX2_processEvents 99 = .ok (.iinc 1 1, 3) := by decide +kernel
theorem dX2_processEvents_102 : decode cX2_processEvents 102 = .ok (.goto (-100), 3) := by decide +kernel
theorem dX2_processEvents_105 : decode cX2_processEvents 105 = .ok (.aload_n 0, 1) := by decide +kernel
theorem dX2_processEvents_106 : decode cX2_processEvents 106 = .ok (.getfield 18, 3) := by decide +kernel
theorem dX2_processEvents_109 : decode cX2_processEvents 109 = .ok (.invokevirtual 220, 3) := by decide +kernel
theorem dX2_processEvents_112 : decode cX2_processEvents 112 = .ok (.return_, 1) := by decide +kernel
set_option maxRecDepth 20000 in
theorem ggX2_takeSignal_X1_forget : GoodIn wsX2_takeSignal wsX1_forget := goodIn_r _ [6, 7, 174, 175, 176, 177, 178, 179, 180, 181, 182, 183, 184, 185, 186, 187, 188, 189, 190, 191, 192, 193] (by decide +kernel) (by decide +kernel)
set_option maxRecDepth 20000 in
theorem gX2_takeSignal_X1_forget : GoodIn wsX2_takeSignal (wsV RX2 223 RX1 yX1_forget wsX1_forget) := goodIn_app (goodIn_of _ (by decide +kernel)) ggX2_takeSignal_X1_forget
set_option maxRecDepth 20000 in
theorem ggX2_takeSignal_X1_resume : GoodIn wsX2_takeSignal wsX1_resume := goodIn_r _ [11, 12, 13, 174, 175, 176, 177, 178, 179, 180, 181, 182, 183, 184, 185, 186, 187, 188, 189, 190, 191, 192, 193] (by decide +kernel) (by decide +kernel)
set_option maxRecDepth 20000 in
theorem gX2_takeSignal_X1_resume : GoodIn wsX2_takeSignal (wsV RX2 226 RX1 yX1_resume wsX1_resume) := goodIn_app (goodIn_of _ (by decide +kernel)) ggX2_takeSignal_X1_resume
set_option maxRecDepth 20000 in
theorem ggX2_takeSignal_X2_terminate : GoodIn wsX2_takeSignal wsX2_terminate := goodIn_r _ [18, 19, 20, 21, 22, 23, 24, 25, 26, 27, 17, 28, 29, 30, 31, 32, 33, 5, 34, 35, 36, 37, 38, 39, 40, 41, 42, 12, 43, 7, 13, 44, 45, 46, 47, 48, 49, 50, 51, 52, 53, 54, 55, 56, 57, 58, 59, 60, 61, 62, 63, 64, 65, 66, 67, 68, 69, 70, 71, 72, 73, 74, 75, 76, 77, 78, 79, 80, 81, 82, 83, 84, 85, 86, 87, 88, 89, 90, 91, 92, 93, 94, 95, 96, 97, 98, 99, 100, 101, 102, 103, 104, 105, 106, 107, 108, 109, 110, 111, 112, 174, 175, 176, 177, 178, 179, 180, 181, 182, 183, 184, 185, 186, 187, 188, 189, 190, 191, 192, 193, 194, 195, 196, 197, 198, 199, 200, 201, 202, 203] (by decide +kernel) (by decide +kernel)
set_option maxRecDepth 20000 in
theorem gX2_takeSignal_X2_terminate : GoodIn wsX2_takeSignal (wsV RX2 64 RX2 yX2_terminate wsX2_terminate) := goodIn_app (goodIn_of _ (by decide +kernel)) ggX2_takeSignal_X2_terminate
set_option maxRecDepth 20000 in
theorem ggX2_takeSignal_X2_stop : GoodIn wsX2_takeSignal wsX2_stop := goodIn_r _ [116, 112, 117, 118, 23, 24, 77, 78, 79, 80, 81, 82, 83, 84, 85, 86, 87, 88, 89, 90, 91, 92, 93, 94, 95, 96, 97, 98, 99, 100, 101, 102, 103, 104, 174, 175, 176, 177, 178, 179, 180, 181, 182, 183, 184, 185, 186, 187, 188, 189, 190, 191, 192, 193, 194, 195, 196, 197, 198, 199, 200, 201, 202, 203] (by decide +kernel) (by decide +kernel)
set_option maxRecDepth 20000 in
theorem gX2_takeSignal_X2_stop : GoodIn wsX2_takeSignal (wsV RX2 229 RX2 yX2_stop wsX2_stop) := goodIn_app (goodIn_of _ (by decide +kernel)) ggX2_takeSignal_X2_stop
set_option maxRecDepth 20000 in
theorem ggX2_takeSignal_X1_heeds : GoodIn wsX2_takeSignal wsX1_heeds := goodIn_r _ [122, 123, 124, 125, 5, 126, 127, 128, 174, 175, 176, 177, 178, 179, 180, 181, 182, 183, 184, 185, 186, 187, 188, 189, 190, 191, 192, 193] (by decide +kernel) (by decide +kernel)
set_option maxRecDepth 20000 in
theorem gX2_takeSignal_X1_heeds : GoodIn wsX2_takeSignal (wsV RX2 232 RX1 yX1_heeds wsX1_heeds) := goodIn_app (goodIn_of _ (by decide +kernel)) ggX2_takeSignal_X1_heeds
set_option maxRecDepth 20000 in
theorem ggX2_takeSignal_X2_deliver : GoodIn wsX2_takeSignal wsX2_deliver := goodIn_r _ [132, 50, 112, 1, 133, 30, 2, 3, 4, 5, 6, 7, 134, 124, 125, 126, 127, 128, 135, 136, 137, 138, 139, 43, 140, 141, 142, 143, 144, 145, 146, 14, 15, 16, 17, 18, 19, 20, 21, 22, 23, 24, 25, 26, 27, 28, 29, 31, 32, 33, 34, 35, 36, 37, 38, 39, 40, 41, 42, 12, 13, 44, 45, 46, 47, 48, 49, 51, 52, 53, 54, 55, 56, 57, 58, 59, 60, 61, 62, 63, 64, 65, 66, 67, 68, 69, 70, 71, 72, 73, 74, 75, 76, 77, 78, 79, 80, 81, 82, 83, 84, 85, 86, 87, 88, 89, 90, 91, 92, 93, 94, 95, 96, 97, 98, 99, 100, 101, 102, 103, 104, 105, 106, 107, 108, 109, 110, 111, 113, 114, 115, 116, 117, 118, 147, 148, 149, 150, 151, 152, 153, 154, 155, 156, 157, 158, 159, 160, 161, 162, 163, 164, 165, 166, 167, 168, 169, 170, 171, 172, 173, 174, 175, 176, 177, 178, 179, 180, 181, 182, 183, 184, 185, 186, 187, 188, 189, 190, 191, 192, 193, 194, 195, 196, 197, 198, 199, 200, 201, 202, 203] (by decide +kernel) (by decide +kernel)
set_option maxRecDepth 20000 in
theorem gX2_takeSignal_X2_deliver : GoodIn wsX2_takeSignal (wsV RX2 94 RX2 yX2_deliver wsX2_deliver) := goodIn_app (goodIn_of _ (by decide +kernel)) ggX2_takeSignal_X2_deliver
theorem dX2_takeSignal_0 : decode cX2_takeSignal 0 = .ok (.iload_n 2, 1) := by decide +kernel
theorem dX2_takeSignal_1 : decode cX2_takeSignal 1 = .ok (.bipush 7, 2) := by decide +kernel
theorem dX2_takeSignal_3 : decode cX2_takeSignal 3 = .ok (.if_icmp .ne 16, 3) := by decide +kernel
theorem dX2_takeSignal_6 : decode cX2_takeSignal 6 = .ok (.aload_n 1, 1) := by decide +kernel
theorem dX2_takeSignal_7 : decode cX2_takeSignal 7 = .ok (.bipush 6, 2) := by decide +kernel
theorem dX2_takeSignal_9 : decode cX2_takeSignal 9 = .ok (.invokevirtual 223, 3) := by decide +kernel
theorem dX2_takeSignal_12 : decode cX2_takeSignal 12 = .ok (.aload_n 1, 1) := by decide +kernel
theorem dX2_takeSignal_13 : decode cX2_takeSignal 13 = .ok (.invokevirtual 226, 3) := by decide +kernel
theorem dX2_takeSignal_16 : decode cX2_takeSignal 16 = .ok (.goto 20, 3) := by decide +kernel
theorem dX2_takeSignal_19 : decode cX2_takeSignal 19 = .ok (.iload_n 2, 1) := by decide +kernel
theorem dX2_takeSignal_20 : decode cX2_takeSignal 20 = .ok (.iconst 5, 1) := by decide +kernel
theorem dX2_takeSignal_21 : decode cX2_takeSignal 21 = .ok (.if_icmp .eq 9, 3) := by decide +kernel
theorem dX2_takeSignal_24 : decode cX2_takeSignal 24 = .ok (.iload_n 2, 1) := by decide +kernel
theorem dX2_takeSignal_25 : decode cX2_takeSignal 25 = .ok (.bipush 6, 2) := by decide +kernel
theorem dX2_takeSignal_27 : decode cX2_takeSignal 27 = .ok (.if_icmp .ne 9, 3) := by decide +kernel
theorem dX2_takeSignal_30 : decode cX2_takeSignal 30 = .ok (.aload_n 1, 1) := by decide +kernel
theorem dX2_takeSignal_31 : decode cX2_takeSignal 31 = .ok (.bipush 7, 2) := by decide +kernel
theorem dX2_takeSignal_33 : decode cX2_takeSignal 33 = .ok (.invokevirtual 223, 3) := by decide +kernel
theorem dX2_takeSignal_36 : decode cX2_takeSignal 36 = .ok (.iload_n 2, 1) := by decide +kernel
theorem dX2_takeSignal_37 : decode cX2_takeSignal 37 = .ok (.iconst 2, 1) := by decide +kernel
theorem dX2_takeSignal_38 : decode cX2_takeSignal 38 = .ok (.if_icmp .ne 13, 3) := by decide +kernel
theorem dX2_takeSignal_41 : decode cX2_takeSignal 41 = .ok (.aload_n 0, 1) := by decide +kernel
theorem dX2_takeSignal_42 : decode cX2_takeSignal 42 = .ok (.aload_n 1, 1) := by decide +kernel
theorem dX2_takeSignal_43 : decode cX2_takeSignal 43 = .ok (.iconst 1, 1) := by decide +kernel
theorem dX2_takeSignal_44 : decode cX2_takeSignal 44 = .ok (.iconst 2, 1) := by decide +kernel
theorem dX2_takeSignal_45 : decode cX2_takeSignal 45 = .ok (.invokevirtual 64, 3) := by decide +kernel
theorem dX2_takeSignal_48 : decode cX2_takeSignal 48 = .ok (.goto 37, 3) := by decide +kernel
theorem dX2_takeSignal_51 : decode cX2_takeSignal 51 = .ok (.iload_n 2, 1) := by decide +kernel
theorem dX2_takeSignal_52 : decode cX2_takeSignal 52 = .ok (.iconst 5, 1) := by decide +kernel
theorem dX2_takeSignal_53 : decode cX2_takeSignal 53 = .ok (.if_icmp .ne 12, 3) := by decide +kernel
theorem dX2_takeSignal_56 : decode cX2_takeSignal 56 = .ok (.aload_n 0, 1) := by decide +kernel
theorem dX2_takeSignal_57 : decode cX2_takeSignal 57 = .ok (.aload_n 1, 1) := by decide +kernel
theorem dX2_takeSignal_58 : decode cX2_takeSignal 58 = .ok (.iconst 5, 1) := by decide +kernel
theorem dX2_takeSignal_59 : decode cX2_takeSignal 59 = .ok (.invokevirtual 229, 3) := by decide +kernel
theorem dX2_takeSignal_62 : decode cX2_takeSignal 62 = .ok (.goto 23, 3) := by decide +kernel
theorem dX2_takeSignal_65 : decode cX2_takeSignal 65 = .ok (.aload_n 1, 1) := by decide +kernel
theorem dX2_takeSignal_66 : decode cX2_takeSignal 66 = .ok (.iload_n 2, 1) := by decide +kernel
theorem dX2_takeSignal_67 : decode cX2_takeSignal 67 = .ok (.invokevirtual 232, 3) := by decide +kernel
theorem dX2_takeSignal_70 : decode cX2_takeSignal 70 = .ok (.ifCond .eq 15, 3) := by decide +kernel
theorem dX2_takeSignal_73 : decode cX2_takeSignal 73 = .ok (.aload_n 1, 1) := by decide +kernel
theorem dX2_takeSignal_74 : decode cX2_takeSignal 74 = .ok (.dup, 1) := by decide +kernel
theorem dX2_takeSignal_75 : decode cX2_takeSignal 75 = .ok (.getfield 154, 3) := by decide +kernel
theorem dX2_takeSignal_78 : decode cX2_takeSignal 78 = .ok (.iconst 1, 1) := by decide +kernel
theorem dX2_takeSignal_79 : decode cX2_takeSignal 79 = .ok (.iload_n 2, 1) := by decide +kernel
theorem dX2_takeSignal_80 : decode cX2_takeSignal 80 = .ok (.ishl, 1) := by decide +kernel
theorem dX2_takeSignal_81 : decode cX2_takeSignal 81 = .ok (.ior, 1) := by decide +kernel
theorem dX2_takeSignal_82 : decode cX2_takeSignal 82 = .ok (.putfield 154, 3) := by decide +kernel
theorem dX2_takeSignal_85 : decode cX2_takeSignal 85 = .ok (.aload_n 0, 1) := by decide +kernel
theorem dX2_takeSignal_86 : decode cX2_takeSignal 86 = .ok (.aload_n 1, 1) := by decide +kernel
theorem dX2_takeSignal_87 : decode cX2_takeSignal 87 = .ok (.invokevirtual 94, 3) := by decide +kernel
theorem dX2_takeSignal_90 : decode cX2_takeSignal 90 = .ok (.return_, 1) := by decide +kernel
set_option maxRecDepth 20000 in
theorem ggX2_noticeEnd_X1_actionFor : GoodIn wsX2_noticeEnd wsX1_actionFor := goodIn_r _ [7, 8, 9, 87, 88, 89, 90, 91, 92, 93, 94, 95, 96, 97, 98, 99, 100, 101, 102, 103, 104, 105, 106] (by decide +kernel) (by decide +kernel)
set_option maxRecDepth 20000 in
theorem gX2_noticeEnd_X1_actionFor : GoodIn wsX2_noticeEnd (wsV RX2 83 RX1 yX1_actionFor wsX1_actionFor) := goodIn_app (goodIn_of _ (by decide +kernel)) ggX2_noticeEnd_X1_actionFor
set_option maxRecDepth 20000 in
theorem ggX2_noticeEnd_X2_remove : GoodIn wsX2_noticeEnd wsX2_remove := goodIn_r _ [14, 2, 15, 87, 88, 89, 90, 91, 92, 93, 94, 95, 96, 97, 98, 99, 100, 101, 102, 103, 104, 105, 106, 107, 108, 109, 110] (by decide +kernel) (by decide +kernel)
set_option maxRecDepth 20000 in
theorem gX2_noticeEnd_X2_remove : GoodIn wsX2_noticeEnd (wsV RX2 235 RX2 yX2_remove wsX2_remove) := goodIn_app (goodIn_of _ (by decide +kernel)) ggX2_noticeEnd_X2_remove
set_option maxRecDepth 20000 in
theorem ggX2_noticeEnd_X2_tellParent : GoodIn wsX2_noticeEnd wsX2_tellParent := goodIn_r _ [19, 2, 20, 21, 22, 23, 13, 24, 15, 25, 26, 27, 6, 28, 29, 30, 31, 32, 33, 34, 35, 36, 37, 38, 39, 40, 41, 42, 43, 44, 45, 46, 47, 48, 49, 50, 51, 52, 53, 54, 55, 56, 57, 58, 10, 11, 12, 14, 59, 60, 61, 62, 63, 64, 65, 66, 67, 68, 69, 70, 71, 72, 73, 74, 75, 76, 77, 78, 79, 80, 81, 82, 83, 84, 85, 86, 87, 88, 89, 90, 91, 92, 93, 94, 95, 96, 97, 98, 99, 100, 101, 102, 103, 104, 105, 106, 107, 108, 109, 110, 111, 112, 113, 114, 115, 116] (by decide +kernel) (by decide +kernel)
set_option maxRecDepth 20000 in
theorem gX2_noticeEnd_X2_tellParent : GoodIn wsX2_noticeEnd (wsV RX2 238 RX2 yX2_tellParent wsX2_tellParent) := goodIn_app (goodIn_of _ (by decide +kernel)) ggX2_noticeEnd_X2_tellParent
theorem dX2_noticeEnd_0 : decode cX2_noticeEnd 0 = .ok (.aload_n 1, 1) := by decide +kernel
theorem dX2_noticeEnd_1 : decode cX2_noticeEnd 1 = .ok (.getfield 147, 3) := by decide +kernel
theorem dX2_noticeEnd_4 : decode cX2_noticeEnd 4 = .ok (.astore_n 2, 1) := by decide +kernel
theorem dX2_noticeEnd_5 : decode cX2_noticeEnd 5 = .ok (.aload_n 2, 1) := by decide +kernel
theorem dX2_noticeEnd_6 : decode cX2_noticeEnd 6 = .ok (.ifnonnull 4, 3) := by decide +kernel
theorem dX2_noticeEnd_9 : decode cX2_noticeEnd 9 = .ok (.return_, 1) := by decide +kernel
theorem dX2_noticeEnd_10 : decode cX2_noticeEnd 10 = .ok (.aload_n 2, 1) := by decide +kernel
theorem dX2_noticeEnd_11 : decode cX2_noticeEnd 11 = .ok (.getfield 151, 3) := by decide +kernel
theorem dX2_noticeEnd_14 : decode cX2_noticeEnd 14 = .ok (.iconst 1, 1) := by decide +kernel
theorem dX2_noticeEnd_15 : decode cX2_noticeEnd 15 = .ok (.if_icmp .eq 12, 3) := by decide +kernel
theorem dX2_noticeEnd_18 : decode cX2_noticeEnd 18 = .ok (.aload_n 2, 1) := by decide +kernel
theorem dX2_noticeEnd_19 : decode cX2_noticeEnd 19 = .ok (.iconst 4, 1) := by decide +kernel
theorem dX2_noticeEnd_20 : decode cX2_noticeEnd 20 = .ok (.invokevirtual 83, 3) := by decide +kernel
theorem dX2_noticeEnd_23 : decode cX2_noticeEnd 23 = .ok (.iconst 1, 1) := by decide +kernel
theorem dX2_noticeEnd_24 : decode cX2_noticeEnd 24 = .ok (.if_icmp .ne 8, 3) := by decide +kernel
theorem dX2_noticeEnd_27 : decode cX2_noticeEnd 27 = .ok (.aload_n 0, 1) := by decide +kernel
theorem dX2_noticeEnd_28 : decode cX2_noticeEnd 28 = .ok (.aload_n 1, 1) := by decide +kernel
theorem dX2_noticeEnd_29 : decode cX2_noticeEnd 29 = .ok (.invokevirtual 235, 3) := by decide +kernel
theorem dX2_noticeEnd_32 : decode cX2_noticeEnd 32 = .ok (.aload_n 0, 1) := by decide +kernel
theorem dX2_noticeEnd_33 : decode cX2_noticeEnd 33 = .ok (.aload_n 2, 1) := by decide +kernel
theorem dX2_noticeEnd_34 : decode cX2_noticeEnd 34 = .ok (.invokevirtual 238, 3) := by decide +kernel
theorem dX2_noticeEnd_37 : decode cX2_noticeEnd 37 = .ok (.return_, 1) := by decide +kernel
set_option maxRecDepth 20000 in
theorem ggX2_noticeStop_X2_tellParent : GoodIn wsX2_noticeStop wsX2_tellParent := goodIn_r _ [7, 8, 9, 10, 11, 12, 6, 13, 14, 15, 16, 17, 18, 19, 20, 21, 22, 23, 24, 25, 26, 27, 28, 29, 30, 31, 32, 33, 34, 35, 36, 37, 38, 39, 40, 41, 42, 43, 44, 45, 46, 47, 48, 49, 50, 51, 52, 53, 54, 55, 56, 57, 58, 59, 60, 61, 62, 63, 64, 65, 66, 67, 68, 69, 70, 71, 72, 73, 74, 75, 76, 77, 78, 79, 80, 81, 82, 83, 84, 85, 86, 87, 88, 89, 90, 91, 92, 93, 94, 95, 96, 97, 98, 99, 100, 101, 102, 103, 104, 105, 106, 107, 108, 109, 110, 111] (by decide +kernel) (by decide +kernel)
set_option maxRecDepth 20000 in
theorem gX2_noticeStop_X2_tellParent : GoodIn wsX2_noticeStop (wsV RX2 238 RX2 yX2_tellParent wsX2_tellParent) := goodIn_app (goodIn_of _ (by decide +kernel)) ggX2_noticeStop_X2_tellParent
theorem dX2_noticeStop_0 : decode cX2_noticeStop 0 = .ok (.aload_n 1, 1) := by decide +kernel
theorem dX2_noticeStop_1 : decode cX2_noticeStop 1 = .ok (.getfield 147, 3) := by decide +kernel
theorem dX2_noticeStop_4 : decode cX2_noticeStop 4 = .ok (.astore_n 2, 1) := by decide +kernel
theorem dX2_noticeStop_5 : decode cX2_noticeStop 5 = .ok (.aload_n 2, 1) := by decide +kernel
theorem dX2_noticeStop_6 : decode cX2_noticeStop 6 = .ok (.ifnull 15, 3) := by decide +kernel
theorem dX2_noticeStop_9 : decode cX2_noticeStop 9 = .ok (.aload_n 1, 1) := by decide +kernel
theorem dX2_noticeStop_10 : decode cX2_noticeStop 10 = .ok (.getfield 191, 3) := by decide +kernel
theorem dX2_noticeStop_13 : decode cX2_noticeStop 13 = .ok (.ifCond .eq 8, 3) := by decide +kernel
theorem dX2_noticeStop_16 : decode cX2_noticeStop 16 = .ok (.aload_n 0, 1) := by decide +kernel
theorem dX2_noticeStop_17 : decode cX2_noticeStop 17 = .ok (.aload_n 2, 1) := by decide +kernel
theorem dX2_noticeStop_18 : decode cX2_noticeStop 18 = .ok (.invokevirtual 238, 3) := by decide +kernel
theorem dX2_noticeStop_21 : decode cX2_noticeStop 21 = .ok (.return_, 1) := by decide +kernel
set_option maxRecDepth 20000 in
theorem ggX2_tellParent_X2_checkWait : GoodIn wsX2_tellParent wsX2_checkWait := goodIn_r _ [7, 8, 9, 10, 11, 12, 13, 14, 15, 16, 17, 18, 19, 20, 21, 22, 23, 24, 25, 26, 27, 28, 29, 30, 31, 32, 6, 33, 34, 1, 35, 36, 37, 38, 39, 40, 41, 42, 43, 44, 45, 46, 47, 96, 97, 98, 99, 76, 77, 78, 79, 80, 81, 82, 83, 84, 85, 86, 87, 88, 89, 90, 91, 92, 93, 94, 95] (by decide +kernel) (by decide +kernel)
set_option maxRecDepth 20000 in
theorem gX2_tellParent_X2_checkWait : GoodIn wsX2_tellParent (wsV RX2 241 RX2 yX2_checkWait wsX2_checkWait) := goodIn_app (goodIn_of _ (by decide +kernel)) ggX2_tellParent_X2_checkWait
set_option maxRecDepth 20000 in
theorem ggX2_tellParent_X0_append : GoodIn wsX2_tellParent wsX0_append := goodIn_r _ [52, 53, 54, 55, 56, 57, 58, 59, 60, 61, 62, 63, 64, 65, 66, 67, 68, 69, 70, 71, 72, 73, 74, 75, 100, 101, 102, 103, 104, 105] (by decide +kernel) (by decide +kernel)
set_option maxRecDepth 20000 in
theorem gX2_tellParent_X0_append : GoodIn wsX2_tellParent (wsV RX2 131 RX0 yX0_append wsX0_append) := goodIn_app (goodIn_of _ (by decide +kernel)) ggX2_tellParent_X0_append
theorem dX2_tellParent_0 : decode cX2_tellParent 0 = .ok (.aload_n 1, 1) := by decide +kernel
theorem dX2_tellParent_1 : decode cX2_tellParent 1 = .ok (.getfield 151, 3) := by decide +kernel
theorem dX2_tellParent_4 : decode cX2_tellParent 4 = .ok (.iconst 1, 1) := by decide +kernel
theorem dX2_tellParent_5 : decode cX2_tellParent 5 = .ok (.if_icmp .eq 20, 3) := by decide +kernel
theorem dX2_tellParent_8 : decode cX2_tellParent 8 = .ok (.aload_n 0, 1) := by decide +kernel
theorem dX2_tellParent_9 : decode cX2_tellParent 9 = .ok (.aload_n 1, 1) := by decide +kernel
theorem dX2_tellParent_10 : decode cX2_tellParent 10 = .ok (.invokevirtual 241, 3) := by decide +kernel
theorem dX2_tellParent_13 : decode cX2_tellParent 13 = .ok (.aload_n 0, 1) := by decide +kernel
theorem dX2_tellParent_14 : decode cX2_tellParent 14 = .ok (.getfield 18, 3) := by decide +kernel
theorem dX2_tellParent_17 : decode cX2_tellParent 17 = .ok (.iconst 4, 1) := by decide +kernel
theorem dX2_tellParent_18 : decode cX2_tellParent 18 = .ok (.aload_n 1, 1) := by decide +kernel
theorem dX2_tellParent_19 : decode cX2_tellParent 19 = .ok (.getfield 151, 3) := by decide +kernel
theorem dX2_tellParent_22 : decode cX2_tellParent 22 = .ok (.invokevirtual 131, 3) := by decide +kernel
theorem dX2_tellParent_25 : decode cX2_tellParent 25 = .ok (.return_, 1) := by decide +kernel
set_option maxRecDepth 20000 in
theorem ggX2_deliver_X1_forget : GoodIn wsX2_deliver wsX1_forget := goodIn_r _ [10, 11, 161, 162, 163, 164, 165, 166, 167, 168, 169, 170, 171, 172, 173, 174, 175, 176, 177, 178, 179, 180] (by decide +kernel) (by decide +kernel)
set_option maxRecDepth 20000 in
theorem gX2_deliver_X1_forget : GoodIn wsX2_deliver (wsV RX2 223 RX1 yX1_forget wsX1_forget) := goodIn_app (goodIn_of _ (by decide +kernel)) ggX2_deliver_X1_forget
set_option maxRecDepth 20000 in
theorem ggX2_deliver_X1_actionFor : GoodIn wsX2_deliver wsX1_actionFor := goodIn_r _ [15, 16, 17, 161, 162, 163, 164, 165, 166, 167, 168, 169, 170, 171, 172, 173, 174, 175, 176, 177, 178, 179, 180] (by decide +kernel) (by decide +kernel)
set_option maxRecDepth 20000 in
theorem gX2_deliver_X1_actionFor : GoodIn wsX2_deliver (wsV RX2 83 RX1 yX1_actionFor wsX1_actionFor) := goodIn_app (goodIn_of _ (by decide +kernel)) ggX2_deliver_X1_actionFor
set_option maxRecDepth 20000 in
theorem ggX2_deliver_X1_catchSignal : GoodIn wsX2_deliver wsX1_catchSignal := goodIn_r _ [21, 22, 23, 24, 25, 26, 9, 27, 28, 29, 30, 161, 162, 163, 164, 165, 166, 167, 168, 169, 170, 171, 172, 173, 174, 175, 176, 177, 178, 179, 180] (by decide +kernel) (by decide +kernel)
set_option maxRecDepth 20000 in
theorem gX2_deliver_X1_catchSignal : GoodIn wsX2_deliver (wsV RX2 244 RX1 yX1_catchSignal wsX1_catchSignal) := goodIn_app (goodIn_of _ (by decide +kernel)) ggX2_deliver_X1_catchSignal
set_option maxRecDepth 20000 in
theorem ggX2_deliver_X2_terminate : GoodIn wsX2_deliver wsX2_terminate := goodIn_r _ [35, 36, 37, 38, 39, 40, 41, 42, 43, 44, 34, 45, 46, 5, 47, 48, 49, 9, 50, 51, 52, 53, 54, 55, 56, 57, 58, 59, 23, 11, 60, 61, 62, 63, 64, 65, 66, 1, 67, 68, 69, 70, 71, 72, 73, 74, 75, 76, 77, 78, 79, 80, 81, 82, 83, 84, 85, 86, 87, 88, 89, 90, 91, 92, 93, 94, 95, 96, 97, 98, 99, 100, 101, 102, 103, 104, 105, 106, 107, 108, 109, 110, 111, 112, 113, 114, 115, 116, 117, 118, 119, 120, 121, 122, 123, 124, 125, 126, 127, 2, 161, 162, 163, 164, 165, 166, 167, 168, 169, 170, 171, 172, 173, 174, 175, 176, 177, 178, 179, 180, 181, 182, 183, 184, 185, 186, 187, 188, 189, 190] (by decide +kernel) (by decide +kernel)
set_option maxRecDepth 20000 in
theorem gX2_deliver_X2_terminate : GoodIn wsX2_deliver (wsV RX2 64 RX2 yX2_terminate wsX2_terminate) := goodIn_app (goodIn_of _ (by decide +kernel)) ggX2_deliver_X2_terminate
set_option maxRecDepth 20000 in
theorem ggX2_deliver_X2_attachedGroups : GoodIn wsX2_deliver wsX2_attachedGroups := goodIn_r _ [45, 46, 5, 47, 48, 49, 9, 50, 51, 52, 53, 54, 181, 182, 183, 184, 161, 162, 163, 164, 165, 166, 167, 168, 169, 170, 171, 172, 173, 174, 175, 176, 177, 178, 179, 180] (by decide +kernel) (by decide +kernel)
set_option maxRecDepth 20000 in
theorem gX2_deliver_X2_attachedGroups : GoodIn wsX2_deliver (wsV RX2 160 RX2 yX2_attachedGroups wsX2_attachedGroups) := goodIn_app (goodIn_of _ (by decide +kernel)) ggX2_deliver_X2_attachedGroups
set_option maxRecDepth 20000 in
theorem ggX2_deliver_X2_contains : GoodIn wsX2_deliver wsX2_contains := goodIn_r _ [123] (by decide +kernel) (by decide +kernel)
set_option maxRecDepth 20000 in
theorem gX2_deliver_X2_contains : GoodIn wsX2_deliver (va_wsS RX2 164 yX2_contains wsX2_contains) := goodIn_app (goodIn_of _ (by decide +kernel)) ggX2_deliver_X2_contains
set_option maxRecDepth 20000 in
theorem ggX2_deliver_X2_stop : GoodIn wsX2_deliver wsX2_stop := goodIn_r _ [131, 2, 132, 133, 40, 41, 93, 94, 95, 96, 97, 98, 99, 100, 101, 102, 103, 104, 105, 106, 107, 108, 109, 110, 111, 112, 113, 114, 115, 116, 117, 118, 119, 120, 161, 162, 163, 164, 165, 166, 167, 168, 169, 170, 171, 172, 173, 174, 175, 176, 177, 178, 179, 180, 181, 182, 183, 184, 185, 186, 187, 188, 189, 190] (by decide +kernel) (by decide +kernel)
set_option maxRecDepth 20000 in
theorem gX2_deliver_X2_stop : GoodIn wsX2_deliver (wsV RX2 229 RX2 yX2_stop wsX2_stop) := goodIn_app (goodIn_of _ (by decide +kernel)) ggX2_deliver_X2_stop
set_option maxRecDepth 20000 in
theorem ggX2_deliver_X2_checkWait : GoodIn wsX2_deliver wsX2_checkWait := goodIn_r _ [137, 46, 138, 139, 140, 9, 141, 51, 59, 23, 142, 143, 144, 145, 52, 146, 80, 147, 148, 149, 150, 60, 151, 152, 153, 154, 34, 155, 132, 41, 133, 1, 156, 25, 26, 27, 28, 29, 30, 157, 158, 159, 160, 181, 182, 183, 184, 161, 162, 163, 164, 165, 166, 167, 168, 169, 170, 171, 172, 173, 174, 175, 176, 177, 178, 179, 180] (by decide +kernel) (by decide +kernel)
set_option maxRecDepth 20000 in
theorem gX2_deliver_X2_checkWait : GoodIn wsX2_deliver (wsV RX2 241 RX2 yX2_checkWait wsX2_checkWait) := goodIn_app (goodIn_of _ (by decide +kernel)) ggX2_deliver_X2_checkWait
theorem dX2_deliver_0 : decode cX2_deliver 0 = .ok (.iconst 0, 1) := by decide +kernel
theorem dX2_deliver_1 : decode cX2_deliver 1 = .ok (.istore_n 2, 1) := by decide +kernel
theorem dX2_deliver_2 : decode cX2_deliver 2 = .ok (.iload_n 2, 1) := by decide +kernel
theorem dX2_deliver_3 : decode cX2_deliver 3 = .ok (.bipush 9, 2) := by decide +kernel
theorem dX2_deliver_5 : decode cX2_deliver 5 = .ok (.if_icmp .ge 112, 3) := by decide +kernel
theorem dX2_deliver_8 : decode cX2_deliver 8 = .ok (.aload_n 1, 1) := by decide +kernel
theorem dX2_deliver_9 : decode cX2_deliver 9 = .ok (.getfield 194, 3) := by decide +kernel
theorem dX2_deliver_12 : decode cX2_deliver 12 = .ok (.ifCond .ne 105, 3) := by decide +kernel
theorem dX2_deliver_15 : decode cX2_deliver 15 = .ok (.aload_n 1, 1) := by decide +kernel
theorem dX2_deliver_16 : decode cX2_deliver 16 = .ok (.getfield 191, 3) := by decide +kernel
theorem dX2_deliver_19 : decode cX2_deliver 19 = .ok (.ifCond .ne 98, 3) := by decide +kernel
theorem dX2_deliver_22 : decode cX2_deliver 22 = .ok (.aload_n 1, 1) := by decide +kernel
theorem dX2_deliver_23 : decode cX2_deliver 23 = .ok (.getfield 154, 3) := by decide +kernel
theorem dX2_deliver_26 : decode cX2_deliver 26 = .ok (.aload_n 1, 1) := by decide +kernel
theorem dX2_deliver_27 : decode cX2_deliver 27 = .ok (.getfield 91, 3) := by decide +kernel
theorem dX2_deliver_30 : decode cX2_deliver 30 = .ok (.iconst (-1), 1) := by decide +kernel
theorem dX2_deliver_31 : decode cX2_deliver 31 = .ok (.ixor, 1) := by decide +kernel
theorem dX2_deliver_32 : decode cX2_deliver 32 = .ok (.iand, 1) := by decide +kernel
theorem dX2_deliver_33 : decode cX2_deliver 33 = .ok (.iconst 1, 1) := by decide +kernel
theorem dX2_deliver_34 : decode cX2_deliver 34 = .ok (.iload_n 2, 1) := by decide +kernel
theorem dX2_deliver_35 : decode cX2_deliver 35 = .ok (.ishl, 1) := by decide +kernel
theorem dX2_deliver_36 : decode cX2_deliver 36 = .ok (.iand, 1) := by decide +kernel
theorem dX2_deliver_37 : decode cX2_deliver 37 = .ok (.ifCond .ne 6, 3) := by decide +kernel
theorem dX2_deliver_40 : decode cX2_deliver 40 = .ok (.goto 71, 3) := by decide +kernel
theorem dX2_deliver_43 : decode cX2_deliver 43 = .ok (.aload_n 1, 1) := by decide +kernel
theorem dX2_deliver_44 : decode cX2_deliver 44 = .ok (.iload_n 2, 1) := by decide +kernel
theorem dX2_deliver_45 : decode cX2_deliver 45 = .ok (.invokevirtual 223, 3) := by decide +kernel
theorem dX2_deliver_48 : decode cX2_deliver 48 = .ok (.aload_n 1, 1) := by decide +kernel
theorem dX2_deliver_49 : decode cX2_deliver 49 = .ok (.iload_n 2, 1) := by decide +kernel
theorem dX2_deliver_50 : decode cX2_deliver 50 = .ok (.invokevirtual 83, 3) := by decide +kernel
theorem dX2_deliver_53 : decode cX2_deliver 53 = .ok (.istore_n 3, 1) := by decide +kernel
theorem dX2_deliver_54 : decode cX2_deliver 54 = .ok (.iload_n 3, 1) := by decide +kernel
theorem dX2_deliver_55 : decode cX2_deliver 55 = .ok (.iconst 2, 1) := by decide +kernel
theorem dX2_deliver_56 : decode cX2_deliver 56 = .ok (.if_icmp .ne 10, 3) := by decide +kernel
theorem dX2_deliver_59 : decode cX2_deliver 59 = .ok (.aload_n 1, 1) := by decide +kernel
theorem dX2_deliver_60 : decode cX2_deliver 60 = .ok (.invokevirtual 244, 3) := by decide +kernel
theorem dX2_deliver_63 : decode cX2_deliver 63 = .ok (.goto 48, 3) := by decide +kernel
theorem dX2_deliver_66 : decode cX2_deliver 66 = .ok (.iload_n 3, 1) := by decide +kernel
theorem dX2_deliver_67 : decode cX2_deliver 67 = .ok (.ifCond .ne 19, 3) := by decide +kernel
theorem dX2_deliver_70 : decode cX2_deliver 70 = .ok (.iload_n 2, 1) := by decide +kernel
theorem dX2_deliver_71 : decode cX2_deliver 71 = .ok (.bipush 6, 2) := by decide +kernel
theorem dX2_deliver_73 : decode cX2_deliver 73 = .ok (.if_icmp .eq 13, 3) := by decide +kernel
theorem dX2_deliver_76 : decode cX2_deliver 76 = .ok (.aload_n 0, 1) := by decide +kernel
theorem dX2_deliver_77 : decode cX2_deliver 77 = .ok (.aload_n 1, 1) := by decide +kernel
theorem dX2_deliver_78 : decode cX2_deliver 78 = .ok (.iconst 1, 1) := by decide +kernel
theorem dX2_deliver_79 : decode cX2_deliver 79 = .ok (.iload_n 2, 1) := by decide +kernel
theorem dX2_deliver_80 : decode cX2_deliver 80 = .ok (.invokevirtual 64, 3) := by decide +kernel
theorem dX2_deliver_83 : decode cX2_deliver 83 = .ok (.goto 28, 3) := by decide +kernel
theorem dX2_deliver_86 : decode cX2_deliver 86 = .ok (.iload_n 3, 1) := by decide +kernel
theorem dX2_deliver_87 : decode cX2_deliver 87 = .ok (.ifCond .ne 24, 3) := by decide +kernel
theorem dX2_deliver_90 : decode cX2_deliver 90 = .ok (.aload_n 0, 1) := by decide +kernel
theorem dX2_deliver_91 : decode cX2_deliver 91 = .ok (.invokevirtual 160, 3) := by decide +kernel
theorem dX2_deliver_94 : decode cX2_deliver 94 = .ok (.aload_n 1, 1) := by decide +kernel
theorem dX2_deliver_95 : decode cX2_deliver 95 = .ok (.getfield 103, 3) := by decide +kernel
theorem dX2_deliver_98 : decode cX2_deliver 98 = .ok (.invokestatic 164, 3) := by decide +kernel
theorem dX2_deliver_101 : decode cX2_deliver 101 = .ok (.ifCond .eq 10, 3) := by decide +kernel
theorem dX2_deliver_104 : decode cX2_deliver 104 = .ok (.aload_n 0, 1) := by decide +kernel
theorem dX2_deliver_105 : decode cX2_deliver 105 = .ok (.aload_n 1, 1) := by decide +kernel
theorem dX2_deliver_106 : decode cX2_deliver 106 = .ok (.bipush 6, 2) := by decide +kernel
theorem dX2_deliver_108 : decode cX2_deliver 108 = .ok (.invokevirtual 229, 3) := by decide +kernel
theorem dX2_deliver_111 : decode cX2_deliver 111 = .ok (.iinc 2 1, 3) := by decide +kernel
theorem dX2_deliver_114 : decode cX2_deliver 114 = .ok (.goto (-112), 3) := by decide +kernel
theorem dX2_deliver_117 : decode cX2_deliver 117 = .ok (.aload_n 0, 1) := by decide +kernel
theorem dX2_deliver_118 : decode cX2_deliver 118 = .ok (.aload_n 1, 1) := by decide +kernel
theorem dX2_deliver_119 : decode cX2_deliver 119 = .ok (.invokevirtual 241, 3) := by decide +kernel
theorem dX2_deliver_122 : decode cX2_deliver 122 = .ok (.return_, 1) := by decide +kernel
set_option maxRecDepth 20000 in
theorem ggX2_stop_X0_append : GoodIn wsX2_stop wsX0_append := goodIn_r _ [10, 11, 12, 13, 14, 15, 16, 17, 18, 19, 20, 21, 22, 23, 24, 25, 26, 27, 28, 29, 30, 31, 32, 33, 58, 59, 60, 61, 62, 63] (by decide +kernel) (by decide +kernel)
set_option maxRecDepth 20000 in
theorem gX2_stop_X0_append : GoodIn wsX2_stop (wsV RX2 131 RX0 yX0_append wsX0_append) := goodIn_app (goodIn_of _ (by decide +kernel)) ggX2_stop_X0_append
theorem dX2_stop_0 : decode cX2_stop 0 = .ok (.aload_n 1, 1) := by decide +kernel
theorem dX2_stop_1 : decode cX2_stop 1 = .ok (.getfield 191, 3) := by decide +kernel
theorem dX2_stop_4 : decode cX2_stop 4 = .ok (.ifCond .ne 31, 3) := by decide +kernel
theorem dX2_stop_7 : decode cX2_stop 7 = .ok (.aload_n 1, 1) := by decide +kernel
theorem dX2_stop_8 : decode cX2_stop 8 = .ok (.iconst 1, 1) := by decide +kernel
theorem dX2_stop_9 : decode cX2_stop 9 = .ok (.putfield 191, 3) := by decide +kernel
theorem dX2_stop_12 : decode cX2_stop 12 = .ok (.aload_n 1, 1) := by decide +kernel
theorem dX2_stop_13 : decode cX2_stop 13 = .ok (.iconst 2, 1) := by decide +kernel
theorem dX2_stop_14 : decode cX2_stop 14 = .ok (.putfield 247, 3) := by decide +kernel
theorem dX2_stop_17 : decode cX2_stop 17 = .ok (.aload_n 1, 1) := by decide +kernel
theorem dX2_stop_18 : decode cX2_stop 18 = .ok (.iload_n 2, 1) := by decide +kernel
theorem dX2_stop_19 : decode cX2_stop 19 = .ok (.putfield 250, 3) := by decide +kernel
theorem dX2_stop_22 : decode cX2_stop 22 = .ok (.aload_n 0, 1) := by decide +kernel
theorem dX2_stop_23 : decode cX2_stop 23 = .ok (.getfield 18, 3) := by decide +kernel
theorem dX2_stop_26 : decode cX2_stop 26 = .ok (.bipush 10, 2) := by decide +kernel
theorem dX2_stop_28 : decode cX2_stop 28 = .ok (.aload_n 1, 1) := by decide +kernel
theorem dX2_stop_29 : decode cX2_stop 29 = .ok (.getfield 151, 3) := by decide +kernel
theorem dX2_stop_32 : decode cX2_stop 32 = .ok (.invokevirtual 131, 3) := by decide +kernel
theorem dX2_stop_35 : decode cX2_stop 35 = .ok (.return_, 1) := by decide +kernel
set_option maxRecDepth 20000 in
theorem ggX2_terminate_X2_attachedGroups : GoodIn wsX2_terminate wsX2_attachedGroups := goodIn_r _ [11, 12, 13, 14, 15, 16, 17, 18, 19, 20, 21, 22, 120, 121, 122, 123, 100, 101, 102, 103, 104, 105, 106, 107, 108, 109, 110, 111, 112, 113, 114, 115, 116, 117, 118, 119] (by decide +kernel) (by decide +kernel)
set_option maxRecDepth 20000 in
theorem gX2_terminate_X2_attachedGroups : GoodIn wsX2_terminate (wsV RX2 160 RX2 yX2_attachedGroups wsX2_attachedGroups) := goodIn_app (goodIn_of _ (by decide +kernel)) ggX2_terminate_X2_attachedGroups
set_option maxRecDepth 20000 in
theorem ggX2_terminate_X1_becomeZombie : GoodIn wsX2_terminate wsX1_becomeZombie := goodIn_r _ [26, 19, 27, 28, 29, 30, 31, 100, 101, 102, 103, 104, 105, 106, 107, 108, 109, 110, 111, 112, 113, 114, 115, 116, 117, 118, 119] (by decide +kernel) (by decide +kernel)
set_option maxRecDepth 20000 in
theorem gX2_terminate_X1_becomeZombie : GoodIn wsX2_terminate (wsV RX2 253 RX1 yX1_becomeZombie wsX1_becomeZombie) := goodIn_app (goodIn_of _ (by decide +kernel)) ggX2_terminate_X1_becomeZombie
set_option maxRecDepth 20000 in
theorem ggX2_terminate_X2_handOverChildren : GoodIn wsX2_terminate wsX2_handOverChildren := goodIn_r _ [35, 12, 36, 37, 6, 38, 39, 40, 10, 41, 42, 43, 44, 45, 46, 120, 121, 122, 123, 100, 101, 102, 103, 104, 105, 106, 107, 108, 109, 110, 111, 112, 113, 114, 115, 116, 117, 118, 119] (by decide +kernel) (by decide +kernel)
set_option maxRecDepth 20000 in
theorem gX2_terminate_X2_handOverChildren : GoodIn wsX2_terminate (wsV RX2 256 RX2 yX2_handOverChildren wsX2_handOverChildren) := goodIn_app (goodIn_of _ (by decide +kernel)) ggX2_terminate_X2_handOverChildren
set_option maxRecDepth 20000 in
theorem ggX2_terminate_X1_leadsSession : GoodIn wsX2_terminate wsX1_leadsSession := goodIn_r _ [50, 51, 21, 100, 101, 102, 103, 104, 105, 106, 107, 108, 109, 110, 111, 112, 113, 114, 115, 116, 117, 118, 119] (by decide +kernel) (by decide +kernel)
set_option maxRecDepth 20000 in
theorem gX2_terminate_X1_leadsSession : GoodIn wsX2_terminate (wsV RX2 123 RX1 yX1_leadsSession wsX1_leadsSession) := goodIn_app (goodIn_of _ (by decide +kernel)) ggX2_terminate_X1_leadsSession
set_option maxRecDepth 20000 in
theorem ggX2_terminate_X2_freeTerminal : GoodIn wsX2_terminate wsX2_freeTerminal := goodIn_r _ [55, 3, 4, 120, 121, 122, 123] (by decide +kernel) (by decide +kernel)
set_option maxRecDepth 20000 in
theorem gX2_terminate_X2_freeTerminal : GoodIn wsX2_terminate (wsV RX2 141 RX2 yX2_freeTerminal wsX2_freeTerminal) := goodIn_app (goodIn_of _ (by decide +kernel)) ggX2_terminate_X2_freeTerminal
set_option maxRecDepth 20000 in
theorem ggX2_terminate_X2_appendForMembers : GoodIn wsX2_terminate wsX2_appendForMembers := goodIn_r _ [59, 12, 5, 6, 60, 61, 62, 17, 63, 22, 19, 64, 65, 66, 67, 68, 69, 70, 71, 72, 73, 74, 75, 76, 77, 78, 79, 80, 81, 82, 83, 84, 85, 86, 87, 88, 89, 90, 91, 120, 121, 122, 123, 100, 101, 102, 103, 104, 105, 106, 107, 108, 109, 110, 111, 112, 113, 114, 115, 116, 117, 118, 119, 124, 125, 126, 127, 128, 129] (by decide +kernel) (by decide +kernel)
set_option maxRecDepth 20000 in
theorem gX2_terminate_X2_appendForMembers : GoodIn wsX2_terminate (wsV RX2 134 RX2 yX2_appendForMembers wsX2_appendForMembers) := goodIn_app (goodIn_of _ (by decide +kernel)) ggX2_terminate_X2_appendForMembers
set_option maxRecDepth 20000 in
theorem ggX2_terminate_X2_contains : GoodIn wsX2_terminate wsX2_contains := goodIn_r _ [94] (by decide +kernel) (by decide +kernel)
set_option maxRecDepth 20000 in
theorem gX2_terminate_X2_contains : GoodIn wsX2_terminate (va_wsS RX2 164 yX2_contains wsX2_contains) := goodIn_app (goodIn_of _ (by decide +kernel)) ggX2_terminate_X2_contains
set_option maxRecDepth 20000 in
theorem ggX2_terminate_X0_append : GoodIn wsX2_terminate wsX0_append := goodIn_r _ [68, 69, 70, 71, 72, 73, 74, 75, 76, 77, 78, 79, 80, 81, 82, 83, 84, 85, 86, 87, 88, 89, 90, 91, 124, 125, 126, 127, 128, 129] (by decide +kernel) (by decide +kernel)
set_option maxRecDepth 20000 in
theorem gX2_terminate_X0_append : GoodIn wsX2_terminate (wsV RX2 131 RX0 yX0_append wsX0_append) := goodIn_app (goodIn_of _ (by decide +kernel)) ggX2_terminate_X0_append
set_option maxRecDepth 20000 in
theorem ggX2_terminate_X2_hasStoppedMember : GoodIn wsX2_terminate wsX2_hasStoppedMember := goodIn_r _ [98, 12, 99, 60, 61, 62, 17, 63, 22, 19, 120, 121, 122, 123, 100, 101, 102, 103, 104, 105, 106, 107, 108, 109, 110, 111, 112, 113, 114, 115, 116, 117, 118, 119] (by decide +kernel) (by decide +kernel)
set_option maxRecDepth 20000 in
theorem gX2_terminate_X2_hasStoppedMember : GoodIn wsX2_terminate (wsV RX2 262 RX2 yX2_hasStoppedMember wsX2_hasStoppedMember) := goodIn_app (goodIn_of _ (by decide +kernel)) ggX2_terminate_X2_hasStoppedMember
theorem dX2_terminate_0 : decode cX2_terminate 0 = .ok (.aload_n 0, 1) := by decide +kernel
theorem dX2_terminate_1 : decode cX2_terminate 1 = .ok (.invokevirtual 160, 3) := by decide +kernel
theorem dX2_terminate_4 : decode cX2_terminate 4 = .ok (.lstore 4, 2) := by decide +kernel
theorem dX2_terminate_6 : decode cX2_terminate 6 = .ok (.aload_n 1, 1) := by decide +kernel
theorem dX2_terminate_7 : decode cX2_terminate 7 = .ok (.iload_n 2, 1) := by decide +kernel
theorem dX2_terminate_8 : decode cX2_terminate 8 = .ok (.iload_n 3, 1) := by decide +kernel
theorem dX2_terminate_9 : decode cX2_terminate 9 = .ok (.invokevirtual 253, 3) := by decide +kernel
theorem dX2_terminate_12 : decode cX2_terminate 12 = .ok (.aload_n 0, 1) := by decide +kernel
theorem dX2_terminate_13 : decode cX2_terminate 13 = .ok (.aload_n 1, 1) := by decide +kernel
theorem dX2_terminate_14 : decode cX2_terminate 14 = .ok (.invokevirtual 256, 3) := by decide +kernel
theorem dX2_terminate_17 : decode cX2_terminate 17 = .ok (.lstore 6, 2) := by decide +kernel
theorem dX2_terminate_19 : decode cX2_terminate 19 = .ok (.lload 4, 2) := by decide +kernel
theorem dX2_terminate_21 : decode cX2_terminate 21 = .ok (.aload_n 0, 1) := by decide +kernel
theorem dX2_terminate_22 : decode cX2_terminate 22 = .ok (.invokevirtual 160, 3) := by decide +kernel
theorem dX2_terminate_25 : decode cX2_terminate 25 = .ok (.ldc2_w 260, 3) := by decide +kernel
theorem dX2_terminate_28 : decode cX2_terminate 28 = .ok (.lxor, 1) := by decide +kernel
theorem dX2_terminate_29 : decode cX2_terminate 29 = .ok (.land, 1) := by decide +kernel
theorem dX2_terminate_30 : decode cX2_terminate 30 = .ok (.lstore 8, 2) := by decide +kernel
theorem dX2_terminate_32 : decode cX2_terminate 32 = .ok (.aload_n 1, 1) := by decide +kernel
theorem dX2_terminate_33 : decode cX2_terminate 33 = .ok (.invokevirtual 123, 3) := by decide +kernel
theorem dX2_terminate_36 : decode cX2_terminate 36 = .ok (.ifCond .eq 32, 3) := by decide +kernel
theorem dX2_terminate_39 : decode cX2_terminate 39 = .ok (.aload_n 1, 1) := by decide +kernel
theorem dX2_terminate_40 : decode cX2_terminate 40 = .ok (.getfield 106, 3) := by decide +kernel
theorem dX2_terminate_43 : decode cX2_terminate 43 = .ok (.aload_n 0, 1) := by decide +kernel
theorem dX2_terminate_44 : decode cX2_terminate 44 = .ok (.getfield 22, 3) := by decide +kernel
theorem dX2_terminate_47 : decode cX2_terminate 47 = .ok (.if_icmp .ne 21, 3) := by decide +kernel
theorem dX2_terminate_50 : decode cX2_terminate 50 = .ok (.aload_n 0, 1) := by decide +kernel
theorem dX2_terminate_51 : decode cX2_terminate 51 = .ok (.getfield 26, 3) := by decide +kernel
theorem dX2_terminate_54 : decode cX2_terminate 54 = .ok (.istore 10, 2) := by decide +kernel
theorem dX2_terminate_56 : decode cX2_terminate 56 = .ok (.aload_n 0, 1) := by decide +kernel
theorem dX2_terminate_57 : decode cX2_terminate 57 = .ok (.invokevirtual 141, 3) := by decide +kernel
theorem dX2_terminate_60 : decode cX2_terminate 60 = .ok (.aload_n 0, 1) := by decide +kernel
theorem dX2_terminate_61 : decode cX2_terminate 61 = .ok (.iload 10, 2) := by decide +kernel
theorem dX2_terminate_63 : decode cX2_terminate 63 = .ok (.iconst 0, 1) := by decide +kernel
theorem dX2_terminate_64 : decode cX2_terminate 64 = .ok (.invokevirtual 134, 3) := by decide +kernel
theorem dX2_terminate_67 : decode cX2_terminate 67 = .ok (.pop, 1) := by decide +kernel
theorem dX2_terminate_68 : decode cX2_terminate 68 = .ok (.iconst 1, 1) := by decide +kernel
theorem dX2_terminate_69 : decode cX2_terminate 69 = .ok (.istore 10, 2) := by decide +kernel
theorem dX2_terminate_71 : decode cX2_terminate 71 = .ok (.iload 10, 2) := by decide +kernel
theorem dX2_terminate_73 : decode cX2_terminate 73 = .ok (.bipush 40, 2) := by decide +kernel
theorem dX2_terminate_75 : decode cX2_terminate 75 = .ok (.if_icmp .gt 30, 3) := by decide +kernel
theorem dX2_terminate_78 : decode cX2_terminate 78 = .ok (.lload 6, 2) := by decide +kernel
theorem dX2_terminate_80 : decode cX2_terminate 80 = .ok (.iload 10, 2) := by decide +kernel
theorem dX2_terminate_82 : decode cX2_terminate 82 = .ok (.invokestatic 164, 3) := by decide +kernel
theorem dX2_terminate_85 : decode cX2_terminate 85 = .ok (.ifCond .eq 14, 3) := by decide +kernel
theorem dX2_terminate_88 : decode cX2_terminate 88 = .ok (.aload_n 0, 1) := by decide +kernel
theorem dX2_terminate_89 : decode cX2_terminate 89 = .ok (.getfield 18, 3) := by decide +kernel
theorem dX2_terminate_92 : decode cX2_terminate 92 = .ok (.bipush 9, 2) := by decide +kernel
theorem dX2_terminate_94 : decode cX2_terminate 94 = .ok (.iload 10, 2) := by decide +kernel
theorem dX2_terminate_96 : decode cX2_terminate 96 = .ok (.invokevirtual 131, 3) := by decide +kernel
theorem dX2_terminate_99 : decode cX2_terminate 99 = .ok (.iinc 10 1, 3) := by decide +kernel
theorem dX2_terminate_102 : decode cX2_terminate 102 = .ok (.goto (-31), 3) := by decide +kernel
theorem dX2_terminate_105 : decode cX2_terminate 105 = .ok (.iconst 1, 1) := by decide +kernel
theorem dX2_terminate_106 : decode cX2_terminate 106 = .ok (.istore 10, 2) := by decide +kernel
theorem dX2_terminate_108 : decode cX2_terminate 108 = .ok (.iload 10, 2) := by decide +kernel
theorem dX2_terminate_110 : decode cX2_terminate 110 = .ok (.bipush 40, 2) := by decide +kernel
theorem dX2_terminate_112 : decode cX2_terminate 112 = .ok (.if_icmp .gt 45, 3) := by decide +kernel
theorem dX2_terminate_115 : decode cX2_terminate 115 = .ok (.lload 8, 2) := by decide +kernel
