theorem dX0_init_0 : decode cX0_init 0 = .ok (.aload_n 0, 1) := by decide +kernel
theorem dX0_init_1 : decode cX0_init 1 = .ok (.invokespecial 3, 3) := by decide +kernel
theorem dX0_init_4 : decode cX0_init 4 = .ok (.aload_n 0, 1) := by decide +kernel
theorem dX0_init_5 : decode cX0_init 5 = .ok (.bipush 64, 2) := by decide +kernel
theorem dX0_init_7 : decode cX0_init 7 = .ok (.newarray .int, 2) := by decide +kernel
theorem dX0_init_9 : decode cX0_init 9 = .ok (.putfield 11, 3) := by decide +kernel
theorem dX0_init_12 : decode cX0_init 12 = .ok (.aload_n 0, 1) := by decide +kernel
theorem dX0_init_13 : decode cX0_init 13 = .ok (.bipush 64, 2) := by decide +kernel
theorem dX0_init_15 : decode cX0_init 15 = .ok (.newarray .int, 2) := by decide +kernel
theorem dX0_init_17 : decode cX0_init 17 = .ok (.putfield 15, 3) := by decide +kernel
theorem dX0_init_20 : decode cX0_init 20 = .ok (.return_, 1) := by decide +kernel
set_option maxRecDepth 20000 in
theorem ggX0_append_J7_copyOf_59c91 : GoodIn wsX0_append wsJ7_copyOf_59c91 := goodIn_r _ [8, 9, 10, 11, 12, 13, 14, 15, 16, 17, 18, 19, 20, 21, 22, 23] (by decide +kernel) (by decide +kernel)
set_option maxRecDepth 20000 in
theorem gX0_append_J7_copyOf_59c91 : GoodIn wsX0_append (va_wsS RX0 23 yJ7_copyOf_59c91 wsJ7_copyOf_59c91) := goodIn_app (goodIn_of _ (by decide +kernel)) ggX0_append_J7_copyOf_59c91
theorem dX0_append_0 : decode cX0_append 0 = .ok (.aload_n 0, 1) := by decide +kernel
theorem dX0_append_1 : decode cX0_append 1 = .ok (.getfield 18, 3) := by decide +kernel
theorem dX0_append_4 : decode cX0_append 4 = .ok (.aload_n 0, 1) := by decide +kernel
theorem dX0_append_5 : decode cX0_append 5 = .ok (.getfield 11, 3) := by decide +kernel
theorem dX0_append_8 : decode cX0_append 8 = .ok (.arraylength, 1) := by decide +kernel
theorem dX0_append_9 : decode cX0_append 9 = .ok (.if_icmp .lt 46, 3) := by decide +kernel
theorem dX0_append_12 : decode cX0_append 12 = .ok (.aload_n 0, 1) := by decide +kernel
theorem dX0_append_13 : decode cX0_append 13 = .ok (.getfield 18, 3) := by decide +kernel
theorem dX0_append_16 : decode cX0_append 16 = .ok (.ldc 22, 2) := by decide +kernel
theorem dX0_append_18 : decode cX0_append 18 = .ok (.if_icmp .ge 37, 3) := by decide +kernel
theorem dX0_append_21 : decode cX0_append 21 = .ok (.aload_n 0, 1) := by decide +kernel
theorem dX0_append_22 : decode cX0_append 22 = .ok (.aload_n 0, 1) := by decide +kernel
theorem dX0_append_23 : decode cX0_append 23 = .ok (.getfield 11, 3) := by decide +kernel
theorem dX0_append_26 : decode cX0_append 26 = .ok (.iconst 2, 1) := by decide +kernel
theorem dX0_append_27 : decode cX0_append 27 = .ok (.aload_n 0, 1) := by decide +kernel
theorem dX0_append_28 : decode cX0_append 28 = .ok (.getfield 18, 3) := by decide +kernel
theorem dX0_append_31 : decode cX0_append 31 = .ok (.imul, 1) := by decide +kernel
theorem dX0_append_32 : decode cX0_append 32 = .ok (.invokestatic 23, 3) := by decide +kernel
theorem dX0_append_35 : decode cX0_append 35 = .ok (.putfield 11, 3) := by decide +kernel
theorem dX0_append_38 : decode cX0_append 38 = .ok (.aload_n 0, 1) := by decide +kernel
theorem dX0_append_39 : decode cX0_append 39 = .ok (.aload_n 0, 1) := by decide +kernel
theorem dX0_append_40 : decode cX0_append 40 = .ok (.getfield 15, 3) := by decide +kernel
theorem dX0_append_43 : decode cX0_append 43 = .ok (.iconst 2, 1) := by decide +kernel
theorem dX0_append_44 : decode cX0_append 44 = .ok (.aload_n 0, 1) := by decide +kernel
theorem dX0_append_45 : decode cX0_append 45 = .ok (.getfield 18, 3) := by decide +kernel
theorem dX0_append_48 : decode cX0_append 48 = .ok (.imul, 1) := by decide +kernel
theorem dX0_append_49 : decode cX0_append 49 = .ok (.invokestatic 23, 3) := by decide +kernel
theorem dX0_append_52 : decode cX0_append 52 = .ok (.putfield 15, 3) := by decide +kernel
theorem dX0_append_55 : decode cX0_append 55 = .ok (.aload_n 0, 1) := by decide +kernel
theorem dX0_append_56 : decode cX0_append 56 = .ok (.getfield 18, 3) := by decide +kernel
theorem dX0_append_59 : decode cX0_append 59 = .ok (.aload_n 0, 1) := by decide +kernel
theorem dX0_append_60 : decode cX0_append 60 = .ok (.getfield 11, 3) := by decide +kernel
theorem dX0_append_63 : decode cX0_append 63 = .ok (.arraylength, 1) := by decide +kernel
theorem dX0_append_64 : decode cX0_append 64 = .ok (.if_icmp .ge 45, 3) := by decide +kernel
theorem dX0_append_67 : decode cX0_append 67 = .ok (.aload_n 0, 1) := by decide +kernel
theorem dX0_append_68 : decode cX0_append 68 = .ok (.getfield 18, 3) := by decide +kernel
theorem dX0_append_71 : decode cX0_append 71 = .ok (.aload_n 0, 1) := by decide +kernel
theorem dX0_append_72 : decode cX0_append 72 = .ok (.getfield 15, 3) := by decide +kernel
theorem dX0_append_75 : decode cX0_append 75 = .ok (.arraylength, 1) := by decide +kernel
theorem dX0_append_76 : decode cX0_append 76 = .ok (.if_icmp .ge 33, 3) := by decide +kernel
theorem dX0_append_79 : decode cX0_append 79 = .ok (.aload_n 0, 1) := by decide +kernel
theorem dX0_append_80 : decode cX0_append 80 = .ok (.getfield 11, 3) := by decide +kernel
theorem dX0_append_83 : decode cX0_append 83 = .ok (.aload_n 0, 1) := by decide +kernel
theorem dX0_append_84 : decode cX0_append 84 = .ok (.getfield 18, 3) := by decide +kernel
theorem dX0_append_87 : decode cX0_append 87 = .ok (.iload_n 1, 1) := by decide +kernel
theorem dX0_append_88 : decode cX0_append 88 = .ok (.iastore, 1) := by decide +kernel
theorem dX0_append_89 : decode cX0_append 89 = .ok (.aload_n 0, 1) := by decide +kernel
theorem dX0_append_90 : decode cX0_append 90 = .ok (.getfield 15, 3) := by decide +kernel
theorem dX0_append_93 : decode cX0_append 93 = .ok (.aload_n 0, 1) := by decide +kernel
theorem dX0_append_94 : decode cX0_append 94 = .ok (.getfield 18, 3) := by decide +kernel
theorem dX0_append_97 : decode cX0_append 97 = .ok (.iload_n 2, 1) := by decide +kernel
theorem dX0_append_98 : decode cX0_append 98 = .ok (.iastore, 1) := by decide +kernel
theorem dX0_append_99 : decode cX0_append 99 = .ok (.aload_n 0, 1) := by decide +kernel
theorem dX0_append_100 : decode cX0_append 100 = .ok (.dup, 1) := by decide +kernel
theorem dX0_append_101 : decode cX0_append 101 = .ok (.getfield 18, 3) := by decide +kernel
theorem dX0_append_104 : decode cX0_append 104 = .ok (.iconst 1, 1) := by decide +kernel
theorem dX0_append_105 : decode cX0_append 105 = .ok (.iadd, 1) := by decide +kernel
theorem dX0_append_106 : decode cX0_append 106 = .ok (.putfield 18, 3) := by decide +kernel
theorem dX0_append_109 : decode cX0_append 109 = .ok (.return_, 1) := by decide +kernel
theorem dX0_advance_0 : decode cX0_advance 0 = .ok (.aload_n 0, 1) := by decide +kernel
theorem dX0_advance_1 : decode cX0_advance 1 = .ok (.getfield 29, 3) := by decide +kernel
theorem dX0_advance_4 : decode cX0_advance 4 = .ok (.aload_n 0, 1) := by decide +kernel
theorem dX0_advance_5 : decode cX0_advance 5 = .ok (.getfield 18, 3) := by decide +kernel
theorem dX0_advance_8 : decode cX0_advance 8 = .ok (.if_icmp .ge 27, 3) := by decide +kernel
theorem dX0_advance_11 : decode cX0_advance 11 = .ok (.aload_n 0, 1) := by decide +kernel
theorem dX0_advance_12 : decode cX0_advance 12 = .ok (.getfield 29, 3) := by decide +kernel
theorem dX0_advance_15 : decode cX0_advance 15 = .ok (.aload_n 0, 1) := by decide +kernel
theorem dX0_advance_16 : decode cX0_advance 16 = .ok (.getfield 11, 3) := by decide +kernel
theorem dX0_advance_19 : decode cX0_advance 19 = .ok (.arraylength, 1) := by decide +kernel
theorem dX0_advance_20 : decode cX0_advance 20 = .ok (.if_icmp .ge 15, 3) := by decide +kernel
theorem dX0_advance_23 : decode cX0_advance 23 = .ok (.aload_n 0, 1) := by decide +kernel
theorem dX0_advance_24 : decode cX0_advance 24 = .ok (.getfield 29, 3) := by decide +kernel
theorem dX0_advance_27 : decode cX0_advance 27 = .ok (.aload_n 0, 1) := by decide +kernel
theorem dX0_advance_28 : decode cX0_advance 28 = .ok (.getfield 15, 3) := by decide +kernel
theorem dX0_advance_31 : decode cX0_advance 31 = .ok (.arraylength, 1) := by decide +kernel
theorem dX0_advance_32 : decode cX0_advance 32 = .ok (.if_icmp .lt 5, 3) := by decide +kernel
theorem dX0_advance_35 : decode cX0_advance 35 = .ok (.iconst 0, 1) := by decide +kernel
theorem dX0_advance_36 : decode cX0_advance 36 = .ok (.ireturn, 1) := by decide +kernel
theorem dX0_advance_37 : decode cX0_advance 37 = .ok (.aload_n 0, 1) := by decide +kernel
theorem dX0_advance_38 : decode cX0_advance 38 = .ok (.aload_n 0, 1) := by decide +kernel
theorem dX0_advance_39 : decode cX0_advance 39 = .ok (.getfield 11, 3) := by decide +kernel
theorem dX0_advance_42 : decode cX0_advance 42 = .ok (.aload_n 0, 1) := by decide +kernel
theorem dX0_advance_43 : decode cX0_advance 43 = .ok (.getfield 29, 3) := by decide +kernel
theorem dX0_advance_46 : decode cX0_advance 46 = .ok (.iaload, 1) := by decide +kernel
theorem dX0_advance_47 : decode cX0_advance 47 = .ok (.putfield 32, 3) := by decide +kernel
theorem dX0_advance_50 : decode cX0_advance 50 = .ok (.aload_n 0, 1) := by decide +kernel
theorem dX0_advance_51 : decode cX0_advance 51 = .ok (.aload_n 0, 1) := by decide +kernel
theorem dX0_advance_52 : decode cX0_advance 52 = .ok (.getfield 15, 3) := by decide +kernel
theorem dX0_advance_55 : decode cX0_advance 55 = .ok (.aload_n 0, 1) := by decide +kernel
theorem dX0_advance_56 : decode cX0_advance 56 = .ok (.getfield 29, 3) := by decide +kernel
theorem dX0_advance_59 : decode cX0_advance 59 = .ok (.iaload, 1) := by decide +kernel
theorem dX0_advance_60 : decode cX0_advance 60 = .ok (.putfield 35, 3) := by decide +kernel
theorem dX0_advance_63 : decode cX0_advance 63 = .ok (.aload_n 0, 1) := by decide +kernel
theorem dX0_advance_64 : decode cX0_advance 64 = .ok (.dup, 1) := by decide +kernel
theorem dX0_advance_65 : decode cX0_advance 65 = .ok (.getfield 29, 3) := by decide +kernel
theorem dX0_advance_68 : decode cX0_advance 68 = .ok (.iconst 1, 1) := by decide +kernel
theorem dX0_advance_69 : decode cX0_advance 69 = .ok (.iadd, 1) := by decide +kernel
theorem dX0_advance_70 : decode cX0_advance 70 = .ok (.putfield 29, 3) := by decide +kernel
theorem dX0_advance_73 : decode cX0_advance 73 = .ok (.iconst 1, 1) := by decide +kernel
theorem dX0_advance_74 : decode cX0_advance 74 = .ok (.ireturn, 1) := by decide +kernel
theorem dX0_clear_0 : decode cX0_clear 0 = .ok (.aload_n 0, 1) := by decide +kernel
theorem dX0_clear_1 : decode cX0_clear 1 = .ok (.iconst 0, 1) := by decide +kernel
theorem dX0_clear_2 : decode cX0_clear 2 = .ok (.putfield 29, 3) := by decide +kernel
theorem dX0_clear_5 : decode cX0_clear 5 = .ok (.aload_n 0, 1) := by decide +kernel
theorem dX0_clear_6 : decode cX0_clear 6 = .ok (.iconst 0, 1) := by decide +kernel
theorem dX0_clear_7 : decode cX0_clear 7 = .ok (.putfield 18, 3) := by decide +kernel
theorem dX0_clear_10 : decode cX0_clear 10 = .ok (.return_, 1) := by decide +kernel
theorem dX1_init_0 : decode cX1_init 0 = .ok (.aload_n 0, 1) := by decide +kernel
theorem dX1_init_1 : decode cX1_init 1 = .ok (.invokespecial 3, 3) := by decide +kernel
theorem dX1_init_4 : decode cX1_init 4 = .ok (.aload_n 0, 1) := by decide +kernel
theorem dX1_init_5 : decode cX1_init 5 = .ok (.iconst (-1), 1) := by decide +kernel
theorem dX1_init_6 : decode cX1_init 6 = .ok (.putfield 9, 3) := by decide +kernel
theorem dX1_init_9 : decode cX1_init 9 = .ok (.aload_n 0, 1) := by decide +kernel
theorem dX1_init_10 : decode cX1_init 10 = .ok (.iconst (-1), 1) := by decide +kernel
theorem dX1_init_11 : decode cX1_init 11 = .ok (.putfield 15, 3) := by decide +kernel
theorem dX1_init_14 : decode cX1_init 14 = .ok (.aload_n 0, 1) := by decide +kernel
theorem dX1_init_15 : decode cX1_init 15 = .ok (.iconst (-1), 1) := by decide +kernel
theorem dX1_init_16 : decode cX1_init 16 = .ok (.putfield 18, 3) := by decide +kernel
theorem dX1_init_19 : decode cX1_init 19 = .ok (.aload_n 0, 1) := by decide +kernel
theorem dX1_init_20 : decode cX1_init 20 = .ok (.iconst (-1), 1) := by decide +kernel
theorem dX1_init_21 : decode cX1_init 21 = .ok (.putfield 21, 3) := by decide +kernel
theorem dX1_init_24 : decode cX1_init 24 = .ok (.aload_n 0, 1) := by decide +kernel
theorem dX1_init_25 : decode cX1_init 25 = .ok (.iconst (-1), 1) := by decide +kernel
theorem dX1_init_26 : decode cX1_init 26 = .ok (.putfield 24, 3) := by decide +kernel
theorem dX1_init_29 : decode cX1_init 29 = .ok (.aload_n 0, 1) := by decide +kernel
theorem dX1_init_30 : decode cX1_init 30 = .ok (.iconst (-1), 1) := by decide +kernel
theorem dX1_init_31 : decode cX1_init 31 = .ok (.putfield 27, 3) := by decide +kernel
theorem dX1_init_34 : decode cX1_init 34 = .ok (.aload_n 0, 1) := by decide +kernel
theorem dX1_init_35 : decode cX1_init 35 = .ok (.iload_n 1, 1) := by decide +kernel
theorem dX1_init_36 : decode cX1_init 36 = .ok (.putfield 30, 3) := by decide +kernel
theorem dX1_init_39 : decode cX1_init 39 = .ok (.aload_n 0, 1) := by decide +kernel
theorem dX1_init_40 : decode cX1_init 40 = .ok (.iload_n 1, 1) := by decide +kernel
theorem dX1_init_41 : decode cX1_init 41 = .ok (.putfield 33, 3) := by decide +kernel
theorem dX1_init_44 : decode cX1_init 44 = .ok (.aload_n 0, 1) := by decide +kernel
theorem dX1_init_45 : decode cX1_init 45 = .ok (.iload_n 1, 1) := by decide +kernel
theorem dX1_init_46 : decode cX1_init 46 = .ok (.putfield 36, 3) := by decide +kernel
theorem dX1_init_49 : decode cX1_init 49 = .ok (.return_, 1) := by decide +kernel
theorem dX1_inherit_0 : decode cX1_inherit 0 = .ok (.aload_n 0, 1) := by decide +kernel
theorem dX1_inherit_1 : decode cX1_inherit 1 = .ok (.aload_n 1, 1) := by decide +kernel
theorem dX1_inherit_2 : decode cX1_inherit 2 = .ok (.putfield 39, 3) := by decide +kernel
theorem dX1_inherit_5 : decode cX1_inherit 5 = .ok (.aload_n 0, 1) := by decide +kernel
theorem dX1_inherit_6 : decode cX1_inherit 6 = .ok (.aload_n 1, 1) := by decide +kernel
theorem dX1_inherit_7 : decode cX1_inherit 7 = .ok (.getfield 33, 3) := by decide +kernel
theorem dX1_inherit_10 : decode cX1_inherit 10 = .ok (.putfield 33, 3) := by decide +kernel
theorem dX1_inherit_13 : decode cX1_inherit 13 = .ok (.aload_n 0, 1) := by decide +kernel
theorem dX1_inherit_14 : decode cX1_inherit 14 = .ok (.aload_n 1, 1) := by decide +kernel
theorem dX1_inherit_15 : decode cX1_inherit 15 = .ok (.getfield 36, 3) := by decide +kernel
theorem dX1_inherit_18 : decode cX1_inherit 18 = .ok (.putfield 36, 3) := by decide +kernel
theorem dX1_inherit_21 : decode cX1_inherit 21 = .ok (.aload_n 0, 1) := by decide +kernel
theorem dX1_inherit_22 : decode cX1_inherit 22 = .ok (.aload_n 1, 1) := by decide +kernel
theorem dX1_inherit_23 : decode cX1_inherit 23 = .ok (.getfield 43, 3) := by decide +kernel
theorem dX1_inherit_26 : decode cX1_inherit 26 = .ok (.putfield 43, 3) := by decide +kernel
theorem dX1_inherit_29 : decode cX1_inherit 29 = .ok (.aload_n 0, 1) := by decide +kernel
theorem dX1_inherit_30 : decode cX1_inherit 30 = .ok (.aload_n 1, 1) := by decide +kernel
theorem dX1_inherit_31 : decode cX1_inherit 31 = .ok (.getfield 46, 3) := by decide +kernel
theorem dX1_inherit_34 : decode cX1_inherit 34 = .ok (.putfield 46, 3) := by decide +kernel
theorem dX1_inherit_37 : decode cX1_inherit 37 = .ok (.aload_n 0, 1) := by decide +kernel
theorem dX1_inherit_38 : decode cX1_inherit 38 = .ok (.aload_n 1, 1) := by decide +kernel
theorem dX1_inherit_39 : decode cX1_inherit 39 = .ok (.getfield 49, 3) := by decide +kernel
theorem dX1_inherit_42 : decode cX1_inherit 42 = .ok (.putfield 49, 3) := by decide +kernel
theorem dX1_inherit_45 : decode cX1_inherit 45 = .ok (.return_, 1) := by decide +kernel
theorem dX1_condition_0 : decode cX1_condition 0 = .ok (.aload_n 0, 1) := by decide +kernel
theorem dX1_condition_1 : decode cX1_condition 1 = .ok (.getfield 52, 3) := by decide +kernel
theorem dX1_condition_4 : decode cX1_condition 4 = .ok (.ifCond .eq 5, 3) := by decide +kernel
theorem dX1_condition_7 : decode cX1_condition 7 = .ok (.iconst 3, 1) := by decide +kernel
theorem dX1_condition_8 : decode cX1_condition 8 = .ok (.ireturn, 1) := by decide +kernel
theorem dX1_condition_9 : decode cX1_condition 9 = .ok (.aload_n 0, 1) := by decide +kernel
theorem dX1_condition_10 : decode cX1_condition 10 = .ok (.getfield 56, 3) := by decide +kernel
theorem dX1_condition_13 : decode cX1_condition 13 = .ok (.ifCond .eq 5, 3) := by decide +kernel
theorem dX1_condition_16 : decode cX1_condition 16 = .ok (.iconst 2, 1) := by decide +kernel
theorem dX1_condition_17 : decode cX1_condition 17 = .ok (.ireturn, 1) := by decide +kernel
theorem dX1_condition_18 : decode cX1_condition 18 = .ok (.aload_n 0, 1) := by decide +kernel
theorem dX1_condition_19 : decode cX1_condition 19 = .ok (.getfield 59, 3) := by decide +kernel
theorem dX1_condition_22 : decode cX1_condition 22 = .ok (.ifCond .eq 7, 3) := by decide +kernel
theorem dX1_condition_25 : decode cX1_condition 25 = .ok (.iconst 1, 1) := by decide +kernel
theorem dX1_condition_26 : decode cX1_condition 26 = .ok (.goto 4, 3) := by decide +kernel
theorem dX1_condition_29 : decode cX1_condition 29 = .ok (.iconst 0, 1) := by decide +kernel
theorem dX1_condition_30 : decode cX1_condition 30 = .ok (.ireturn, 1) := by decide +kernel
theorem dX1_isMemberOf_0 : decode cX1_isMemberOf 0 = .ok (.aload_n 0, 1) := by decide +kernel
theorem dX1_isMemberOf_1 : decode cX1_isMemberOf 1 = .ok (.getfield 33, 3) := by decide +kernel
theorem dX1_isMemberOf_4 : decode cX1_isMemberOf 4 = .ok (.iload_n 1, 1) := by decide +kernel
theorem dX1_isMemberOf_5 : decode cX1_isMemberOf 5 = .ok (.if_icmp .ne 14, 3) := by decide +kernel
theorem dX1_isMemberOf_8 : decode cX1_isMemberOf 8 = .ok (.aload_n 0, 1) := by decide +kernel
theorem dX1_isMemberOf_9 : decode cX1_isMemberOf 9 = .ok (.getfield 52, 3) := by decide +kernel
theorem dX1_isMemberOf_12 : decode cX1_isMemberOf 12 = .ok (.ifCond .ne 7, 3) := by decide +kernel
theorem dX1_isMemberOf_15 : decode cX1_isMemberOf 15 = .ok (.iconst 1, 1) := by decide +kernel
theorem dX1_isMemberOf_16 : decode cX1_isMemberOf 16 = .ok (.goto 4, 3) := by decide +kernel
theorem dX1_isMemberOf_19 : decode cX1_isMemberOf 19 = .ok (.iconst 0, 1) := by decide +kernel
theorem dX1_isMemberOf_20 : decode cX1_isMemberOf 20 = .ok (.ireturn, 1) := by decide +kernel
theorem dX1_leadsSession_0 : decode cX1_leadsSession 0 = .ok (.aload_n 0, 1) := by decide +kernel
theorem dX1_leadsSession_1 : decode cX1_leadsSession 1 = .ok (.getfield 30, 3) := by decide +kernel
theorem dX1_leadsSession_4 : decode cX1_leadsSession 4 = .ok (.aload_n 0, 1) := by decide +kernel
theorem dX1_leadsSession_5 : decode cX1_leadsSession 5 = .ok (.getfield 36, 3) := by decide +kernel
theorem dX1_leadsSession_8 : decode cX1_leadsSession 8 = .ok (.if_icmp .ne 7, 3) := by decide +kernel
theorem dX1_leadsSession_11 : decode cX1_leadsSession 11 = .ok (.iconst 1, 1) := by decide +kernel
theorem dX1_leadsSession_12 : decode cX1_leadsSession 12 = .ok (.goto 4, 3) := by decide +kernel
theorem dX1_leadsSession_15 : decode cX1_leadsSession 15 = .ok (.iconst 0, 1) := by decide +kernel
theorem dX1_leadsSession_16 : decode cX1_leadsSession 16 = .ok (.ireturn, 1) := by decide +kernel
theorem dX1_attachesItsGroup_0 : decode cX1_attachesItsGroup 0 = .ok (.aload_n 0, 1) := by decide +kernel
theorem dX1_attachesItsGroup_1 : decode cX1_attachesItsGroup 1 = .ok (.getfield 52, 3) := by decide +kernel
theorem dX1_attachesItsGroup_4 : decode cX1_attachesItsGroup 4 = .ok (.ifCond .ne 52, 3) := by decide +kernel
theorem dX1_attachesItsGroup_7 : decode cX1_attachesItsGroup 7 = .ok (.aload_n 0, 1) := by decide +kernel
theorem dX1_attachesItsGroup_8 : decode cX1_attachesItsGroup 8 = .ok (.getfield 39, 3) := by decide +kernel
theorem dX1_attachesItsGroup_11 : decode cX1_attachesItsGroup 11 = .ok (.ifnull 45, 3) := by decide +kernel
theorem dX1_attachesItsGroup_14 : decode cX1_attachesItsGroup 14 = .ok (.aload_n 0, 1) := by decide +kernel
theorem dX1_attachesItsGroup_15 : decode cX1_attachesItsGroup 15 = .ok (.getfield 39, 3) := by decide +kernel
theorem dX1_attachesItsGroup_18 : decode cX1_attachesItsGroup 18 = .ok (.getfield 52, 3) := by decide +kernel
theorem dX1_attachesItsGroup_21 : decode cX1_attachesItsGroup 21 = .ok (.ifCond .ne 35, 3) := by decide +kernel
theorem dX1_attachesItsGroup_24 : decode cX1_attachesItsGroup 24 = .ok (.aload_n 0, 1) := by decide +kernel
theorem dX1_attachesItsGroup_25 : decode cX1_attachesItsGroup 25 = .ok (.getfield 39, 3) := by decide +kernel
theorem dX1_attachesItsGroup_28 : decode cX1_attachesItsGroup 28 = .ok (.getfield 36, 3) := by decide +kernel
theorem dX1_attachesItsGroup_31 : decode cX1_attachesItsGroup 31 = .ok (.aload_n 0, 1) := by decide +kernel
theorem dX1_attachesItsGroup_32 : decode cX1_attachesItsGroup 32 = .ok (.getfield 36, 3) := by decide +kernel
theorem dX1_attachesItsGroup_35 : decode cX1_attachesItsGroup 35 = .ok (.if_icmp .ne 21, 3) := by decide +kernel
theorem dX1_attachesItsGroup_38 : decode cX1_attachesItsGroup 38 = .ok (.aload_n 0, 1) := by decide +kernel
theorem dX1_attachesItsGroup_39 : decode cX1_attachesItsGroup 39 = .ok (.getfield 39, 3) := by decide +kernel
theorem dX1_attachesItsGroup_42 : decode cX1_attachesItsGroup 42 = .ok (.getfield 33, 3) := by decide +kernel
theorem dX1_attachesItsGroup_45 : decode cX1_attachesItsGroup 45 = .ok (.aload_n 0, 1) := by decide +kernel
theorem dX1_attachesItsGroup_46 : decode cX1_attachesItsGroup 46 = .ok (.getfield 33, 3) := by decide +kernel
theorem dX1_attachesItsGroup_49 : decode cX1_attachesItsGroup 49 = .ok (.if_icmp .eq 7, 3) := by decide +kernel
theorem dX1_attachesItsGroup_52 : decode cX1_attachesItsGroup 52 = .ok (.iconst 1, 1) := by decide +kernel
theorem dX1_attachesItsGroup_53 : decode cX1_attachesItsGroup 53 = .ok (.goto 4, 3) := by decide +kernel
theorem dX1_attachesItsGroup_56 : decode cX1_attachesItsGroup 56 = .ok (.iconst 0, 1) := by decide +kernel
theorem dX1_attachesItsGroup_57 : decode cX1_attachesItsGroup 57 = .ok (.ireturn, 1) := by decide +kernel
theorem dX1_actionFor_0 : decode cX1_actionFor 0 = .ok (.aload_n 0, 1) := by decide +kernel
theorem dX1_actionFor_1 : decode cX1_actionFor 1 = .ok (.getfield 46, 3) := by decide +kernel
theorem dX1_actionFor_4 : decode cX1_actionFor 4 = .ok (.iload_n 1, 1) := by decide +kernel
theorem dX1_actionFor_5 : decode cX1_actionFor 5 = .ok (.ishr, 1) := by decide +kernel
theorem dX1_actionFor_6 : decode cX1_actionFor 6 = .ok (.iconst 1, 1) := by decide +kernel
theorem dX1_actionFor_7 : decode cX1_actionFor 7 = .ok (.iand, 1) := by decide +kernel
theorem dX1_actionFor_8 : decode cX1_actionFor 8 = .ok (.iconst 1, 1) := by decide +kernel
theorem dX1_actionFor_9 : decode cX1_actionFor 9 = .ok (.if_icmp .ne 5, 3) := by decide +kernel
theorem dX1_actionFor_12 : decode cX1_actionFor 12 = .ok (.iconst 2, 1) := by decide +kernel
theorem dX1_actionFor_13 : decode cX1_actionFor 13 = .ok (.ireturn, 1) := by decide +kernel
theorem dX1_actionFor_14 : decode cX1_actionFor 14 = .ok (.aload_n 0, 1) := by decide +kernel
theorem dX1_actionFor_15 : decode cX1_actionFor 15 = .ok (.getfield 43, 3) := by decide +kernel
theorem dX1_actionFor_18 : decode cX1_actionFor 18 = .ok (.iload_n 1, 1) := by decide +kernel
theorem dX1_actionFor_19 : decode cX1_actionFor 19 = .ok (.ishr, 1) := by decide +kernel
theorem dX1_actionFor_20 : decode cX1_actionFor 20 = .ok (.iconst 1, 1) := by decide +kernel
theorem dX1_actionFor_21 : decode cX1_actionFor 21 = .ok (.iand, 1) := by decide +kernel
theorem dX1_actionFor_22 : decode cX1_actionFor 22 = .ok (.iconst 1, 1) := by decide +kernel
theorem dX1_actionFor_23 : decode cX1_actionFor 23 = .ok (.if_icmp .ne 7, 3) := by decide +kernel
theorem dX1_actionFor_26 : decode cX1_actionFor 26 = .ok (.iconst 1, 1) := by decide +kernel
theorem dX1_actionFor_27 : decode cX1_actionFor 27 = .ok (.goto 4, 3) := by decide +kernel
theorem dX1_actionFor_30 : decode cX1_actionFor 30 = .ok (.iconst 0, 1) := by decide +kernel
theorem dX1_actionFor_31 : decode cX1_actionFor 31 = .ok (.ireturn, 1) := by decide +kernel
set_option maxRecDepth 20000 in
theorem ggX1_changeAction_X1_heeds : GoodIn wsX1_changeAction wsX1_heeds := goodIn_r _ [7, 8, 9, 10, 6, 11, 2, 1, 17, 18, 19, 20, 21, 22, 23, 24, 25, 26, 27, 28, 29, 30, 31, 32, 33, 34, 35, 36] (by decide +kernel) (by decide +kernel)
set_option maxRecDepth 20000 in
theorem gX1_changeAction_X1_heeds : GoodIn wsX1_changeAction (wsV RX1 62 RX1 yX1_heeds wsX1_heeds) := goodIn_app (goodIn_of _ (by decide +kernel)) ggX1_changeAction_X1_heeds
set_option maxRecDepth 20000 in
theorem ggX1_changeAction_X1_forget : GoodIn wsX1_changeAction wsX1_forget := goodIn_r _ [15, 16, 17, 18, 19, 20, 21, 22, 23, 24, 25, 26, 27, 28, 29, 30, 31, 32, 33, 34, 35, 36] (by decide +kernel) (by decide +kernel)
set_option maxRecDepth 20000 in
theorem gX1_changeAction_X1_forget : GoodIn wsX1_changeAction (wsV RX1 66 RX1 yX1_forget wsX1_forget) := goodIn_app (goodIn_of _ (by decide +kernel)) ggX1_changeAction_X1_forget
theorem dX1_changeAction_0 : decode cX1_changeAction 0 = .ok (.iconst 1, 1) := by decide +kernel
theorem dX1_changeAction_1 : decode cX1_changeAction 1 = .ok (.iload_n 1, 1) := by decide +kernel
theorem dX1_changeAction_2 : decode cX1_changeAction 2 = .ok (.ishl, 1) := by decide +kernel
theorem dX1_changeAction_3 : decode cX1_changeAction 3 = .ok (.istore_n 3, 1) := by decide +kernel
theorem dX1_changeAction_4 : decode cX1_changeAction 4 = .ok (.aload_n 0, 1) := by decide +kernel
theorem dX1_changeAction_5 : decode cX1_changeAction 5 = .ok (.iload_n 2, 1) := by decide +kernel
theorem dX1_changeAction_6 : decode cX1_changeAction 6 = .ok (.iconst 1, 1) := by decide +kernel
theorem dX1_changeAction_7 : decode cX1_changeAction 7 = .ok (.if_icmp .ne 12, 3) := by decide +kernel
theorem dX1_changeAction_10 : decode cX1_changeAction 10 = .ok (.aload_n 0, 1) := by decide +kernel
theorem dX1_changeAction_11 : decode cX1_changeAction 11 = .ok (.getfield 43, 3) := by decide +kernel
theorem dX1_changeAction_14 : decode cX1_changeAction 14 = .ok (.iload_n 3, 1) := by decide +kernel
theorem dX1_changeAction_15 : decode cX1_changeAction 15 = .ok (.ior, 1) := by decide +kernel
theorem dX1_changeAction_16 : decode cX1_changeAction 16 = .ok (.goto 11, 3) := by decide +kernel
theorem dX1_changeAction_19 : decode cX1_changeAction 19 = .ok (.aload_n 0, 1) := by decide +kernel
theorem dX1_changeAction_20 : decode cX1_changeAction 20 = .ok (.getfield 43, 3) := by decide +kernel
theorem dX1_changeAction_23 : decode cX1_changeAction 23 = .ok (.iload_n 3, 1) := by decide +kernel
theorem dX1_changeAction_24 : decode cX1_changeAction 24 = .ok (.iconst (-1), 1) := by decide +kernel
theorem dX1_changeAction_25 : decode cX1_changeAction 25 = .ok (.ixor, 1) := by decide +kernel
theorem dX1_changeAction_26 : decode cX1_changeAction 26 = .ok (.iand, 1) := by decide +kernel
theorem dX1_changeAction_27 : decode cX1_changeAction 27 = .ok (.putfield 43, 3) := by decide +kernel
theorem dX1_changeAction_30 : decode cX1_changeAction 30 = .ok (.aload_n 0, 1) := by decide +kernel
theorem dX1_changeAction_31 : decode cX1_changeAction 31 = .ok (.iload_n 2, 1) := by decide +kernel
theorem dX1_changeAction_32 : decode cX1_changeAction 32 = .ok (.iconst 2, 1) := by decide +kernel
theorem dX1_changeAction_33 : decode cX1_changeAction 33 = .ok (.if_icmp .ne 12, 3) := by decide +kernel
theorem dX1_changeAction_36 : decode cX1_changeAction 36 = .ok (.aload_n 0, 1) := by decide +kernel
theorem dX1_changeAction_37 : decode cX1_changeAction 37 = .ok (.getfield 46, 3) := by decide +kernel
theorem dX1_changeAction_40 : decode cX1_changeAction 40 = .ok (.iload_n 3, 1) := by decide +kernel
theorem dX1_changeAction_41 : decode cX1_changeAction 41 = .ok (.ior, 1) := by decide +kernel
theorem dX1_changeAction_42 : decode cX1_changeAction 42 = .ok (.goto 11, 3) := by decide +kernel
theorem dX1_changeAction_45 : decode cX1_changeAction 45 = .ok (.aload_n 0, 1) := by decide +kernel
theorem dX1_changeAction_46 : decode cX1_changeAction 46 = .ok (.getfield 46, 3) := by decide +kernel
theorem dX1_changeAction_49 : decode cX1_changeAction 49 = .ok (.iload_n 3, 1) := by decide +kernel
theorem dX1_changeAction_50 : decode cX1_changeAction 50 = .ok (.iconst (-1), 1) := by decide +kernel
theorem dX1_changeAction_51 : decode cX1_changeAction 51 = .ok (.ixor, 1) := by decide +kernel
theorem dX1_changeAction_52 : decode cX1_changeAction 52 = .ok (.iand, 1) := by decide +kernel
theorem dX1_changeAction_53 : decode cX1_changeAction 53 = .ok (.putfield 46, 3) := by decide +kernel
theorem dX1_changeAction_56 : decode cX1_changeAction 56 = .ok (.aload_n 0, 1) := by decide +kernel
theorem dX1_changeAction_57 : decode cX1_changeAction 57 = .ok (.iload_n 1, 1) := by decide +kernel
theorem dX1_changeAction_58 : decode cX1_changeAction 58 = .ok (.invokevirtual 62, 3) := by decide +kernel
theorem dX1_changeAction_61 : decode cX1_changeAction 61 = .ok (.ifCond .ne 8, 3) := by decide +kernel
theorem dX1_changeAction_64 : decode cX1_changeAction 64 = .ok (.aload_n 0, 1) := by decide +kernel
theorem dX1_changeAction_65 : decode cX1_changeAction 65 = .ok (.iload_n 1, 1) := by decide +kernel
theorem dX1_changeAction_66 : decode cX1_changeAction 66 = .ok (.invokevirtual 66, 3) := by decide +kernel
theorem dX1_changeAction_69 : decode cX1_changeAction 69 = .ok (.return_, 1) := by decide +kernel
set_option maxRecDepth 20000 in
theorem ggX1_dropCatches_J6_bitCount_0f7a4 : GoodIn wsX1_dropCatches wsJ6_bitCount_0f7a4 := goodIn_r _ [6, 7, 8, 9] (by decide +kernel) (by decide +kernel)
set_option maxRecDepth 20000 in
theorem gX1_dropCatches_J6_bitCount_0f7a4 : GoodIn wsX1_dropCatches (va_wsS RX1 73 yJ6_bitCount_0f7a4 wsJ6_bitCount_0f7a4) := goodIn_app (goodIn_of _ (by decide +kernel)) ggX1_dropCatches_J6_bitCount_0f7a4
theorem dX1_dropCatches_0 : decode cX1_dropCatches 0 = .ok (.aload_n 0, 1) := by decide +kernel
theorem dX1_dropCatches_1 : decode cX1_dropCatches 1 = .ok (.getfield 46, 3) := by decide +kernel
theorem dX1_dropCatches_4 : decode cX1_dropCatches 4 = .ok (.istore_n 1, 1) := by decide +kernel
theorem dX1_dropCatches_5 : decode cX1_dropCatches 5 = .ok (.aload_n 0, 1) := by decide +kernel
theorem dX1_dropCatches_6 : decode cX1_dropCatches 6 = .ok (.iconst 0, 1) := by decide +kernel
theorem dX1_dropCatches_7 : decode cX1_dropCatches 7 = .ok (.putfield 46, 3) := by decide +kernel
theorem dX1_dropCatches_10 : decode cX1_dropCatches 10 = .ok (.aload_n 0, 1) := by decide +kernel
theorem dX1_dropCatches_11 : decode cX1_dropCatches 11 = .ok (.dup, 1) := by decide +kernel
theorem dX1_dropCatches_12 : decode cX1_dropCatches 12 = .ok (.getfield 70, 3) := by decide +kernel
theorem dX1_dropCatches_15 : decode cX1_dropCatches 15 = .ok (.iload_n 1, 1) := by decide +kernel
theorem dX1_dropCatches_16 : decode cX1_dropCatches 16 = .ok (.sipush 144, 3) := by decide +kernel
theorem dX1_dropCatches_19 : decode cX1_dropCatches 19 = .ok (.iand, 1) := by decide +kernel
theorem dX1_dropCatches_20 : decode cX1_dropCatches 20 = .ok (.iconst (-1), 1) := by decide +kernel
theorem dX1_dropCatches_21 : decode cX1_dropCatches 21 = .ok (.ixor, 1) := by decide +kernel
theorem dX1_dropCatches_22 : decode cX1_dropCatches 22 = .ok (.iand, 1) := by decide +kernel
theorem dX1_dropCatches_23 : decode cX1_dropCatches 23 = .ok (.putfield 70, 3) := by decide +kernel
theorem dX1_dropCatches_26 : decode cX1_dropCatches 26 = .ok (.iload_n 1, 1) := by decide +kernel
theorem dX1_dropCatches_27 : decode cX1_dropCatches 27 = .ok (.invokestatic 73, 3) := by decide +kernel
theorem dX1_dropCatches_30 : decode cX1_dropCatches 30 = .ok (.ireturn, 1) := by decide +kernel
set_option maxRecDepth 20000 in
theorem ggX1_heeds_X1_actionFor : GoodIn wsX1_heeds wsX1_actionFor := goodIn_r _ [5, 6, 7, 8, 9, 10, 11, 12, 13, 14, 15, 16, 17, 18, 19, 20, 21, 22, 23, 24, 25, 26, 27] (by decide +kernel) (by decide +kernel)
set_option maxRecDepth 20000 in
theorem gX1_heeds_X1_actionFor : GoodIn wsX1_heeds (wsV RX1 79 RX1 yX1_actionFor wsX1_actionFor) := goodIn_app (goodIn_of _ (by decide +kernel)) ggX1_heeds_X1_actionFor
theorem dX1_heeds_0 : decode cX1_heeds 0 = .ok (.aload_n 0, 1) := by decide +kernel
theorem dX1_heeds_1 : decode cX1_heeds 1 = .ok (.iload_n 1, 1) := by decide +kernel
theorem dX1_heeds_2 : decode cX1_heeds 2 = .ok (.invokevirtual 79, 3) := by decide +kernel
theorem dX1_heeds_5 : decode cX1_heeds 5 = .ok (.istore_n 2, 1) := by decide +kernel
theorem dX1_heeds_6 : decode cX1_heeds 6 = .ok (.iload_n 2, 1) := by decide +kernel
theorem dX1_heeds_7 : decode cX1_heeds 7 = .ok (.iconst 2, 1) := by decide +kernel
theorem dX1_heeds_8 : decode cX1_heeds 8 = .ok (.if_icmp .eq 18, 3) := by decide +kernel
theorem dX1_heeds_11 : decode cX1_heeds 11 = .ok (.iload_n 2, 1) := by decide +kernel
theorem dX1_heeds_12 : decode cX1_heeds 12 = .ok (.ifCond .ne 18, 3) := by decide +kernel
theorem dX1_heeds_15 : decode cX1_heeds 15 = .ok (.iload_n 1, 1) := by decide +kernel
theorem dX1_heeds_16 : decode cX1_heeds 16 = .ok (.iconst 4, 1) := by decide +kernel
theorem dX1_heeds_17 : decode cX1_heeds 17 = .ok (.if_icmp .eq 13, 3) := by decide +kernel
theorem dX1_heeds_20 : decode cX1_heeds 20 = .ok (.iload_n 1, 1) := by decide +kernel
theorem dX1_heeds_21 : decode cX1_heeds 21 = .ok (.bipush 7, 2) := by decide +kernel
theorem dX1_heeds_23 : decode cX1_heeds 23 = .ok (.if_icmp .eq 7, 3) := by decide +kernel
theorem dX1_heeds_26 : decode cX1_heeds 26 = .ok (.iconst 1, 1) := by decide +kernel
theorem dX1_heeds_27 : decode cX1_heeds 27 = .ok (.goto 4, 3) := by decide +kernel
theorem dX1_heeds_30 : decode cX1_heeds 30 = .ok (.iconst 0, 1) := by decide +kernel
theorem dX1_heeds_31 : decode cX1_heeds 31 = .ok (.ireturn, 1) := by decide +kernel
theorem dX1_forget_0 : decode cX1_forget 0 = .ok (.aload_n 0, 1) := by decide +kernel
theorem dX1_forget_1 : decode cX1_forget 1 = .ok (.dup, 1) := by decide +kernel
theorem dX1_forget_2 : decode cX1_forget 2 = .ok (.getfield 70, 3) := by decide +kernel
theorem dX1_forget_5 : decode cX1_forget 5 = .ok (.iconst 1, 1) := by decide +kernel
theorem dX1_forget_6 : decode cX1_forget 6 = .ok (.iload_n 1, 1) := by decide +kernel
theorem dX1_forget_7 : decode cX1_forget 7 = .ok (.ishl, 1) := by decide +kernel
theorem dX1_forget_8 : decode cX1_forget 8 = .ok (.iconst (-1), 1) := by decide +kernel
theorem dX1_forget_9 : decode cX1_forget 9 = .ok (.ixor, 1) := by decide +kernel
theorem dX1_forget_10 : decode cX1_forget 10 = .ok (.iand, 1) := by decide +kernel
theorem dX1_forget_11 : decode cX1_forget 11 = .ok (.putfield 70, 3) := by decide +kernel
theorem dX1_forget_14 : decode cX1_forget 14 = .ok (.return_, 1) := by decide +kernel
set_option maxRecDepth 20000 in
theorem ggX1_catchSignal_X1_endWait : GoodIn wsX1_catchSignal wsX1_endWait := goodIn_r _ [7, 2, 8, 9, 10, 11, 12, 13, 14, 15, 16, 17, 18, 19, 20, 21, 22, 23, 24, 25, 26, 27, 28, 29, 30] (by decide +kernel) (by decide +kernel)
set_option maxRecDepth 20000 in
theorem gX1_catchSignal_X1_endWait : GoodIn wsX1_catchSignal (wsV RX1 85 RX1 yX1_endWait wsX1_endWait) := goodIn_app (goodIn_of _ (by decide +kernel)) ggX1_catchSignal_X1_endWait
theorem dX1_catchSignal_0 : decode cX1_catchSignal 0 = .ok (.aload_n 0, 1) := by decide +kernel
theorem dX1_catchSignal_1 : decode cX1_catchSignal 1 = .ok (.dup, 1) := by decide +kernel
theorem dX1_catchSignal_2 : decode cX1_catchSignal 2 = .ok (.getfield 82, 3) := by decide +kernel
theorem dX1_catchSignal_5 : decode cX1_catchSignal 5 = .ok (.iconst 1, 1) := by decide +kernel
theorem dX1_catchSignal_6 : decode cX1_catchSignal 6 = .ok (.iadd, 1) := by decide +kernel
theorem dX1_catchSignal_7 : decode cX1_catchSignal 7 = .ok (.putfield 82, 3) := by decide +kernel
theorem dX1_catchSignal_10 : decode cX1_catchSignal 10 = .ok (.aload_n 0, 1) := by decide +kernel
theorem dX1_catchSignal_11 : decode cX1_catchSignal 11 = .ok (.getfield 59, 3) := by decide +kernel
theorem dX1_catchSignal_14 : decode cX1_catchSignal 14 = .ok (.ifCond .eq 10, 3) := by decide +kernel
theorem dX1_catchSignal_17 : decode cX1_catchSignal 17 = .ok (.aload_n 0, 1) := by decide +kernel
theorem dX1_catchSignal_18 : decode cX1_catchSignal 18 = .ok (.iconst 3, 1) := by decide +kernel
theorem dX1_catchSignal_19 : decode cX1_catchSignal 19 = .ok (.iconst (-1), 1) := by decide +kernel
theorem dX1_catchSignal_20 : decode cX1_catchSignal 20 = .ok (.iconst (-1), 1) := by decide +kernel
theorem dX1_catchSignal_21 : decode cX1_catchSignal 21 = .ok (.invokevirtual 85, 3) := by decide +kernel
theorem dX1_catchSignal_24 : decode cX1_catchSignal 24 = .ok (.return_, 1) := by decide +kernel
theorem dX1_resume_0 : decode cX1_resume 0 = .ok (.aload_n 0, 1) := by decide +kernel
theorem dX1_resume_1 : decode cX1_resume 1 = .ok (.getfield 56, 3) := by decide +kernel
theorem dX1_resume_4 : decode cX1_resume 4 = .ok (.ifCond .eq 13, 3) := by decide +kernel
theorem dX1_resume_7 : decode cX1_resume 7 = .ok (.aload_n 0, 1) := by decide +kernel
theorem dX1_resume_8 : decode cX1_resume 8 = .ok (.iconst 0, 1) := by decide +kernel
theorem dX1_resume_9 : decode cX1_resume 9 = .ok (.putfield 56, 3) := by decide +kernel
theorem dX1_resume_12 : decode cX1_resume 12 = .ok (.aload_n 0, 1) := by decide +kernel
theorem dX1_resume_13 : decode cX1_resume 13 = .ok (.iconst (-1), 1) := by decide +kernel
theorem dX1_resume_14 : decode cX1_resume 14 = .ok (.putfield 15, 3) := by decide +kernel
theorem dX1_resume_17 : decode cX1_resume 17 = .ok (.return_, 1) := by decide +kernel
theorem dX1_becomeZombie_0 : decode cX1_becomeZombie 0 = .ok (.aload_n 0, 1) := by decide +kernel
theorem dX1_becomeZombie_1 : decode cX1_becomeZombie 1 = .ok (.iconst 1, 1) := by decide +kernel
theorem dX1_becomeZombie_2 : decode cX1_becomeZombie 2 = .ok (.putfield 52, 3) := by decide +kernel
theorem dX1_becomeZombie_5 : decode cX1_becomeZombie 5 = .ok (.aload_n 0, 1) := by decide +kernel
theorem dX1_becomeZombie_6 : decode cX1_becomeZombie 6 = .ok (.iconst 0, 1) := by decide +kernel
theorem dX1_becomeZombie_7 : decode cX1_becomeZombie 7 = .ok (.putfield 56, 3) := by decide +kernel
theorem dX1_becomeZombie_10 : decode cX1_becomeZombie 10 = .ok (.aload_n 0, 1) := by decide +kernel
theorem dX1_becomeZombie_11 : decode cX1_becomeZombie 11 = .ok (.iconst 0, 1) := by decide +kernel
theorem dX1_becomeZombie_12 : decode cX1_becomeZombie 12 = .ok (.putfield 59, 3) := by decide +kernel
theorem dX1_becomeZombie_15 : decode cX1_becomeZombie 15 = .ok (.aload_n 0, 1) := by decide +kernel
theorem dX1_becomeZombie_16 : decode cX1_becomeZombie 16 = .ok (.iconst 0, 1) := by decide +kernel
theorem dX1_becomeZombie_17 : decode cX1_becomeZombie 17 = .ok (.putfield 70, 3) := by decide +kernel
theorem dX1_becomeZombie_20 : decode cX1_becomeZombie 20 = .ok (.aload_n 0, 1) := by decide +kernel
theorem dX1_becomeZombie_21 : decode cX1_becomeZombie 21 = .ok (.iload_n 1, 1) := by decide +kernel
theorem dX1_becomeZombie_22 : decode cX1_becomeZombie 22 = .ok (.putfield 15, 3) := by decide +kernel
theorem dX1_becomeZombie_25 : decode cX1_becomeZombie 25 = .ok (.aload_n 0, 1) := by decide +kernel
theorem dX1_becomeZombie_26 : decode cX1_becomeZombie 26 = .ok (.iload_n 2, 1) := by decide +kernel
theorem dX1_becomeZombie_27 : decode cX1_becomeZombie 27 = .ok (.putfield 18, 3) := by decide +kernel
theorem dX1_becomeZombie_30 : decode cX1_becomeZombie 30 = .ok (.return_, 1) := by decide +kernel
theorem dX1_awaits_0 : decode cX1_awaits 0 = .ok (.aload_n 1, 1) := by decide +kernel
theorem dX1_awaits_1 : decode cX1_awaits 1 = .ok (.getfield 39, 3) := by decide +kernel
theorem dX1_awaits_4 : decode cX1_awaits 4 = .ok (.aload_n 0, 1) := by decide +kernel
theorem dX1_awaits_5 : decode cX1_awaits 5 = .ok (.if_acmp .ne 26, 3) := by decide +kernel
theorem dX1_awaits_8 : decode cX1_awaits 8 = .ok (.aload_n 0, 1) := by decide +kernel
theorem dX1_awaits_9 : decode cX1_awaits 9 = .ok (.getfield 9, 3) := by decide +kernel
theorem dX1_awaits_12 : decode cX1_awaits 12 = .ok (.iconst (-1), 1) := by decide +kernel
theorem dX1_awaits_13 : decode cX1_awaits 13 = .ok (.if_icmp .eq 14, 3) := by decide +kernel
theorem dX1_awaits_16 : decode cX1_awaits 16 = .ok (.aload_n 0, 1) := by decide +kernel
theorem dX1_awaits_17 : decode cX1_awaits 17 = .ok (.getfield 9, 3) := by decide +kernel
theorem dX1_awaits_20 : decode cX1_awaits 20 = .ok (.aload_n 1, 1) := by decide +kernel
theorem dX1_awaits_21 : decode cX1_awaits 21 = .ok (.getfield 30, 3) := by decide +kernel
theorem dX1_awaits_24 : decode cX1_awaits 24 = .ok (.if_icmp .ne 7, 3) := by decide +kernel
theorem dX1_awaits_27 : decode cX1_awaits 27 = .ok (.iconst 1, 1) := by decide +kernel
theorem dX1_awaits_28 : decode cX1_awaits 28 = .ok (.goto 4, 3) := by decide +kernel
theorem dX1_awaits_31 : decode cX1_awaits 31 = .ok (.iconst 0, 1) := by decide +kernel
theorem dX1_awaits_32 : decode cX1_awaits 32 = .ok (.ireturn, 1) := by decide +kernel
theorem dX1_canReport_0 : decode cX1_canReport 0 = .ok (.aload_n 1, 1) := by decide +kernel
theorem dX1_canReport_1 : decode cX1_canReport 1 = .ok (.getfield 15, 3) := by decide +kernel
theorem dX1_canReport_4 : decode cX1_canReport 4 = .ok (.iconst (-1), 1) := by decide +kernel
theorem dX1_canReport_5 : decode cX1_canReport 5 = .ok (.if_icmp .eq 22, 3) := by decide +kernel
theorem dX1_canReport_8 : decode cX1_canReport 8 = .ok (.aload_n 1, 1) := by decide +kernel
theorem dX1_canReport_9 : decode cX1_canReport 9 = .ok (.getfield 15, 3) := by decide +kernel
theorem dX1_canReport_12 : decode cX1_canReport 12 = .ok (.iconst 2, 1) := by decide +kernel
theorem dX1_canReport_13 : decode cX1_canReport 13 = .ok (.if_icmp .ne 10, 3) := by decide +kernel
theorem dX1_canReport_16 : decode cX1_canReport 16 = .ok (.aload_n 0, 1) := by decide +kernel
theorem dX1_canReport_17 : decode cX1_canReport 17 = .ok (.getfield 89, 3) := by decide +kernel
theorem dX1_canReport_20 : decode cX1_canReport 20 = .ok (.ifCond .eq 7, 3) := by decide +kernel
theorem dX1_canReport_23 : decode cX1_canReport 23 = .ok (.iconst 1, 1) := by decide +kernel
theorem dX1_canReport_24 : decode cX1_canReport 24 = .ok (.goto 4, 3) := by decide +kernel
theorem dX1_canReport_27 : decode cX1_canReport 27 = .ok (.iconst 0, 1) := by decide +kernel
theorem dX1_canReport_28 : decode cX1_canReport 28 = .ok (.ireturn, 1) := by decide +kernel
theorem dX1_endWait_0 : decode cX1_endWait 0 = .ok (.aload_n 0, 1) := by decide +kernel
theorem dX1_endWait_1 : decode cX1_endWait 1 = .ok (.iconst 0, 1) := by decide +kernel
theorem dX1_endWait_2 : decode cX1_endWait 2 = .ok (.putfield 59, 3) := by decide +kernel
theorem dX1_endWait_5 : decode cX1_endWait 5 = .ok (.aload_n 0, 1) := by decide +kernel
theorem dX1_endWait_6 : decode cX1_endWait 6 = .ok (.iload_n 1, 1) := by decide +kernel
theorem dX1_endWait_7 : decode cX1_endWait 7 = .ok (.putfield 21, 3) := by decide +kernel
theorem dX1_endWait_10 : decode cX1_endWait 10 = .ok (.aload_n 0, 1) := by decide +kernel
theorem dX1_endWait_11 : decode cX1_endWait 11 = .ok (.iload_n 2, 1) := by decide +kernel
theorem dX1_endWait_12 : decode cX1_endWait 12 = .ok (.putfield 24, 3) := by decide +kernel
theorem dX1_endWait_15 : decode cX1_endWait 15 = .ok (.aload_n 0, 1) := by decide +kernel
theorem dX1_endWait_16 : decode cX1_endWait 16 = .ok (.iload_n 3, 1) := by decide +kernel
theorem dX1_endWait_17 : decode cX1_endWait 17 = .ok (.putfield 27, 3) := by decide +kernel
theorem dX1_endWait_20 : decode cX1_endWait 20 = .ok (.return_, 1) := by decide +kernel
set_option maxRecDepth 20000 in
theorem ggX2_init_X0_init : GoodIn wsX2_init wsX0_init := goodIn_r _ [15, 16, 2, 3, 17, 18, 19, 37, 38, 39, 40, 41, 42] (by decide +kernel) (by decide +kernel)
set_option maxRecDepth 20000 in
theorem gX2_init_X0_init_n17 : GoodIn wsX2_init (wsX0_init) := ggX2_init_X0_init
set_option maxRecDepth 20000 in
theorem ggX2_init_X1_init : GoodIn wsX2_init wsX1_init := goodIn_r _ [22, 23, 2, 3, 24, 25, 26, 27, 28, 29, 30, 31, 32, 43, 44, 45, 46, 47, 48, 49, 50, 51, 52, 53, 54, 55, 56, 57, 58, 59, 60, 61, 62] (by decide +kernel) (by decide +kernel)
set_option maxRecDepth 20000 in
theorem gX2_init_X1_init : GoodIn wsX2_init (wsX1_init) := ggX2_init_X1_init
theorem dX2_init_0 : decode cX2_init 0 = .ok (.aload_n 0, 1) := by decide +kernel
theorem dX2_init_1 : decode cX2_init 1 = .ok (.invokespecial 3, 3) := by decide +kernel
theorem dX2_init_4 : decode cX2_init 4 = .ok (.aload_n 0, 1) := by decide +kernel
theorem dX2_init_5 : decode cX2_init 5 = .ok (.bipush 41, 2) := by decide +kernel
theorem dX2_init_7 : decode cX2_init 7 = .ok (.anewarray 9, 3) := by decide +kernel
theorem dX2_init_10 : decode cX2_init 10 = .ok (.putfield 11, 3) := by decide +kernel
theorem dX2_init_13 : decode cX2_init 13 = .ok (.aload_n 0, 1) := by decide +kernel
theorem dX2_init_14 : decode cX2_init 14 = .ok (.new 15, 3) := by decide +kernel
theorem dX2_init_17 : decode cX2_init 17 = .ok (.dup, 1) := by decide +kernel
theorem dX2_init_18 : decode cX2_init 18 = .ok (.invokespecial 17, 3) := by decide +kernel
theorem dX2_init_21 : decode cX2_init 21 = .ok (.putfield 18, 3) := by decide +kernel
theorem dX2_init_24 : decode cX2_init 24 = .ok (.aload_n 0, 1) := by decide +kernel
theorem dX2_init_25 : decode cX2_init 25 = .ok (.iconst (-1), 1) := by decide +kernel
theorem dX2_init_26 : decode cX2_init 26 = .ok (.putfield 22, 3) := by decide +kernel
theorem dX2_init_29 : decode cX2_init 29 = .ok (.aload_n 0, 1) := by decide +kernel
theorem dX2_init_30 : decode cX2_init 30 = .ok (.iconst (-1), 1) := by decide +kernel
theorem dX2_init_31 : decode cX2_init 31 = .ok (.putfield 26, 3) := by decide +kernel
theorem dX2_init_34 : decode cX2_init 34 = .ok (.aload_n 0, 1) := by decide +kernel
theorem dX2_init_35 : decode cX2_init 35 = .ok (.getfield 11, 3) := by decide +kernel
theorem dX2_init_38 : decode cX2_init 38 = .ok (.iconst 1, 1) := by decide +kernel
theorem dX2_init_39 : decode cX2_init 39 = .ok (.new 9, 3) := by decide +kernel
theorem dX2_init_42 : decode cX2_init 42 = .ok (.dup, 1) := by decide +kernel
theorem dX2_init_43 : decode cX2_init 43 = .ok (.iconst 1, 1) := by decide +kernel
theorem dX2_init_44 : decode cX2_init 44 = .ok (.invokespecial 29, 3) := by decide +kernel
theorem dX2_init_47 : decode cX2_init 47 = .ok (.aastore, 1) := by decide +kernel
theorem dX2_init_48 : decode cX2_init 48 = .ok (.return_, 1) := by decide +kernel
set_option maxRecDepth 20000 in
theorem ggX2_fork_X2_find : GoodIn wsX2_fork wsX2_find := goodIn_ca (goodIn_r _ [11, 12, 13, 14, 15, 16, 10, 17, 6, 78, 79, 80, 81] (by decide +kernel) (by decide +kernel)) (goodIn_sub (fun _ h => List.mem_cons_of_mem _ (List.mem_append_right _ h)) (by decide +kernel))
set_option maxRecDepth 20000 in
theorem gX2_fork_X2_find : GoodIn wsX2_fork (wsV RX2 32 RX2 yX2_find wsX2_find) := goodIn_app (goodIn_of _ (by decide +kernel)) ggX2_fork_X2_find
set_option maxRecDepth 20000 in
theorem ggX2_fork_X2_lowestFreePid : GoodIn wsX2_fork wsX2_lowestFreePid := goodIn_r _ [21, 6, 22, 23, 24, 25, 26, 10, 27, 78, 79, 80, 81, 58, 59, 60, 61, 62, 63, 64, 65, 66, 67, 68, 69, 70, 71, 72, 73, 74, 75, 76, 77] (by decide +kernel) (by decide +kernel)
set_option maxRecDepth 20000 in
theorem gX2_fork_X2_lowestFreePid : GoodIn wsX2_fork (wsV RX2 36 RX2 yX2_lowestFreePid wsX2_lowestFreePid) := goodIn_app (goodIn_of _ (by decide +kernel)) ggX2_fork_X2_lowestFreePid
set_option maxRecDepth 20000 in
theorem ggX2_fork_X1_condition : GoodIn wsX2_fork wsX1_condition := goodIn_r _ [31, 32, 33, 34, 58, 59, 60, 61, 62, 63, 64, 65, 66, 67, 68, 69, 70, 71, 72, 73, 74, 75, 76, 77] (by decide +kernel) (by decide +kernel)
set_option maxRecDepth 20000 in
theorem gX2_fork_X1_condition : GoodIn wsX2_fork (wsV RX2 40 RX1 yX1_condition wsX1_condition) := goodIn_app (goodIn_of _ (by decide +kernel)) ggX2_fork_X1_condition
set_option maxRecDepth 20000 in
theorem ggX2_fork_X1_init : GoodIn wsX2_fork wsX1_init := goodIn_r _ [37, 38, 39, 40, 41, 42, 43, 44, 45, 46, 47, 48, 49, 58, 59, 60, 61, 62, 63, 64, 65, 66, 67, 68, 69, 70, 71, 72, 73, 74, 75, 76, 77] (by decide +kernel) (by decide +kernel)
set_option maxRecDepth 20000 in
theorem gX2_fork_X1_init : GoodIn wsX2_fork (wsX1_init) := ggX2_fork_X1_init
set_option maxRecDepth 20000 in
theorem ggX2_fork_X1_inherit : GoodIn wsX2_fork wsX1_inherit := goodIn_r _ [53, 54, 48, 49, 55, 56, 57, 58, 59, 60, 61, 62, 63, 64, 65, 66, 67, 68, 69, 70, 71, 72, 73, 74, 75, 76, 77] (by decide +kernel) (by decide +kernel)
set_option maxRecDepth 20000 in
theorem gX2_fork_X1_inherit : GoodIn wsX2_fork (wsV RX2 50 RX1 yX1_inherit wsX1_inherit) := goodIn_app (goodIn_of _ (by decide +kernel)) ggX2_fork_X1_inherit
theorem dX2_fork_0 : decode cX2_fork 0 = .ok (.aload_n 0, 1) := by decide +kernel
theorem dX2_fork_1 : decode cX2_fork 1 = .ok (.iload_n 1, 1) := by decide +kernel
theorem dX2_fork_2 : decode cX2_fork 2 = .ok (.invokevirtual 32, 3) := by decide +kernel
theorem dX2_fork_5 : decode cX2_fork 5 = .ok (.astore_n 2, 1) := by decide +kernel
theorem dX2_fork_6 : decode cX2_fork 6 = .ok (.aload_n 0, 1) := by decide +kernel
theorem dX2_fork_7 : decode cX2_fork 7 = .ok (.invokevirtual 36, 3) := by decide +kernel
theorem dX2_fork_10 : decode cX2_fork 10 = .ok (.istore_n 3, 1) := by decide +kernel
theorem dX2_fork_11 : decode cX2_fork 11 = .ok (.aload_n 2, 1) := by decide +kernel
theorem dX2_fork_12 : decode cX2_fork 12 = .ok (.invokevirtual 40, 3) := by decide +kernel
theorem dX2_fork_15 : decode cX2_fork 15 = .ok (.ifCond .ne 8, 3) := by decide +kernel
theorem dX2_fork_18 : decode cX2_fork 18 = .ok (.iload_n 3, 1) := by decide +kernel
theorem dX2_fork_19 : decode cX2_fork 19 = .ok (.iconst (-1), 1) := by decide +kernel
theorem dX2_fork_20 : decode cX2_fork 20 = .ok (.if_icmp .ne 13, 3) := by decide +kernel
theorem dX2_fork_23 : decode cX2_fork 23 = .ok (.new 43, 3) := by decide +kernel
theorem dX2_fork_26 : decode cX2_fork 26 = .ok (.dup, 1) := by decide +kernel
theorem dX2_fork_27 : decode cX2_fork 27 = .ok (.ldc 45, 2) := by decide +kernel
theorem dX2_fork_29 : decode cX2_fork 29 = .ok (.invokespecial 47, 3) := by decide +kernel
theorem dX2_fork_32 : decode cX2_fork 32 = .ok (.athrow, 1) := by decide +kernel
theorem dX2_fork_33 : decode cX2_fork 33 = .ok (.new 9, 3) := by decide +kernel
theorem dX2_fork_36 : decode cX2_fork 36 = .ok (.dup, 1) := by decide +kernel
theorem dX2_fork_37 : decode cX2_fork 37 = .ok (.iload_n 3, 1) := by decide +kernel
theorem dX2_fork_38 : decode cX2_fork 38 = .ok (.invokespecial 29, 3) := by decide +kernel
theorem dX2_fork_41 : decode cX2_fork 41 = .ok (.astore 4, 2) := by decide +kernel
theorem dX2_fork_43 : decode cX2_fork 43 = .ok (.aload 4, 2) := by decide +kernel
theorem dX2_fork_45 : decode cX2_fork 45 = .ok (.aload_n 2, 1) := by decide +kernel
theorem dX2_fork_46 : decode cX2_fork 46 = .ok (.invokevirtual 50, 3) := by decide +kernel
theorem dX2_fork_49 : decode cX2_fork 49 = .ok (.aload_n 0, 1) := by decide +kernel
theorem dX2_fork_50 : decode cX2_fork 50 = .ok (.getfield 11, 3) := by decide +kernel
theorem dX2_fork_53 : decode cX2_fork 53 = .ok (.iload_n 3, 1) := by decide +kernel
theorem dX2_fork_54 : decode cX2_fork 54 = .ok (.aload 4, 2) := by decide +kernel
theorem dX2_fork_56 : decode cX2_fork 56 = .ok (.aastore, 1) := by decide +kernel
theorem dX2_fork_57 : decode cX2_fork 57 = .ok (.iload_n 3, 1) := by decide +kernel
theorem dX2_fork_58 : decode cX2_fork 58 = .ok (.ireturn, 1) := by decide +kernel
set_option maxRecDepth 20000 in
theorem ggX2_exec_X2_find : GoodIn wsX2_exec wsX2_find := goodIn_ca (goodIn_r _ [5, 6, 7, 8, 9, 10, 4, 11, 12, 40, 41, 42, 43] (by decide +kernel) (by decide +kernel)) (goodIn_sub (fun _ h => List.mem_cons_of_mem _ (List.mem_append_left _ (List.mem_append_right _ h))) (by decide +kernel))
set_option maxRecDepth 20000 in
theorem gX2_exec_X2_find : GoodIn wsX2_exec (wsV RX2 32 RX2 yX2_find wsX2_find) := goodIn_app (goodIn_of _ (by decide +kernel)) ggX2_exec_X2_find
set_option maxRecDepth 20000 in
theorem ggX2_exec_X2_requireCaller : GoodIn wsX2_exec wsX2_requireCaller := goodIn_ca (goodIn_r _ [15, 16, 17, 18, 19, 20, 21, 22, 23, 24, 25, 26, 44, 45, 46, 47, 48, 49, 50, 51, 52, 53, 54, 55, 56, 57, 58, 59, 60, 61, 62, 63] (by decide +kernel) (by decide +kernel)) (goodIn_sub (fun _ h => List.mem_cons_of_mem _ (List.mem_append_right _ h)) (by decide +kernel))
set_option maxRecDepth 20000 in
theorem gX2_exec_X2_requireCaller : GoodIn wsX2_exec (va_wsS RX2 54 yX2_requireCaller wsX2_requireCaller) := goodIn_app (goodIn_of _ (by decide +kernel)) ggX2_exec_X2_requireCaller
set_option maxRecDepth 20000 in
theorem ggX2_exec_X1_dropCatches : GoodIn wsX2_exec wsX1_dropCatches := goodIn_r _ [30, 31, 32, 33, 34, 35, 36, 37, 38, 39, 44, 45, 46, 47, 48, 49, 50, 51, 52, 53, 54, 55, 56, 57, 58, 59, 60, 61, 62, 63] (by decide +kernel) (by decide +kernel)
set_option maxRecDepth 20000 in
theorem gX2_exec_X1_dropCatches : GoodIn wsX2_exec (wsV RX2 57 RX1 yX1_dropCatches wsX1_dropCatches) := goodIn_app (goodIn_of _ (by decide +kernel)) ggX2_exec_X1_dropCatches
theorem dX2_exec_0 : decode cX2_exec 0 = .ok (.aload_n 0, 1) := by decide +kernel
theorem dX2_exec_1 : decode cX2_exec 1 = .ok (.iload_n 1, 1) := by decide +kernel
theorem dX2_exec_2 : decode cX2_exec 2 = .ok (.invokevirtual 32, 3) := by decide +kernel
theorem dX2_exec_5 : decode cX2_exec 5 = .ok (.astore_n 2, 1) := by decide +kernel
theorem dX2_exec_6 : decode cX2_exec 6 = .ok (.aload_n 2, 1) := by decide +kernel
theorem dX2_exec_7 : decode cX2_exec 7 = .ok (.invokestatic 54, 3) := by decide +kernel
theorem dX2_exec_10 : decode cX2_exec 10 = .ok (.aload_n 2, 1) := by decide +kernel
theorem dX2_exec_11 : decode cX2_exec 11 = .ok (.invokevirtual 57, 3) := by decide +kernel
theorem dX2_exec_14 : decode cX2_exec 14 = .ok (.ireturn, 1) := by decide +kernel
set_option maxRecDepth 20000 in
theorem ggX2_exit_X2_find : GoodIn wsX2_exit wsX2_find := goodIn_ca (goodIn_r _ [5, 6, 7, 8, 9, 10, 4, 11, 12, 224, 225, 226, 227] (by decide +kernel) (by decide +kernel)) (goodIn_sub (fun _ h => List.mem_cons_of_mem _ (List.mem_append_left _ (List.mem_append_left _ (List.mem_append_right _ h)))) (by decide +kernel))
set_option maxRecDepth 20000 in
theorem gX2_exit_X2_find : GoodIn wsX2_exit (wsV RX2 32 RX2 yX2_find wsX2_find) := goodIn_app (goodIn_of _ (by decide +kernel)) ggX2_exit_X2_find
set_option maxRecDepth 20000 in
theorem ggX2_exit_X2_requireRange : GoodIn wsX2_exit wsX2_requireRange := goodIn_ca (goodIn_r _ [15, 16, 17] (by decide +kernel) (by decide +kernel)) (goodIn_sub (fun _ h => List.mem_cons_of_mem _ (List.mem_append_left _ (List.mem_append_right _ h))) (by decide +kernel))
set_option maxRecDepth 20000 in
theorem gX2_exit_X2_requireRange : GoodIn wsX2_exit (va_wsS RX2 60 yX2_requireRange wsX2_requireRange) := goodIn_app (goodIn_of _ (by decide +kernel)) ggX2_exit_X2_requireRange
set_option maxRecDepth 20000 in
theorem ggX2_exit_X2_requireCaller : GoodIn wsX2_exit wsX2_requireCaller := goodIn_ca (goodIn_r _ [20, 21, 22, 23, 24, 25, 26, 27, 28, 29, 30, 31, 228, 229, 230, 231, 232, 233, 234, 235, 236, 237, 238, 239, 240, 241, 242, 243, 244, 245, 246, 247] (by decide +kernel) (by decide +kernel)) (goodIn_sub (fun _ h => List.mem_cons_of_mem _ (List.mem_append_right _ h)) (by decide +kernel))
set_option maxRecDepth 20000 in
theorem gX2_exit_X2_requireCaller : GoodIn wsX2_exit (va_wsS RX2 54 yX2_requireCaller wsX2_requireCaller) := goodIn_app (goodIn_of _ (by decide +kernel)) ggX2_exit_X2_requireCaller
set_option maxRecDepth 20000 in
theorem ggX2_exit_X2_terminate : GoodIn wsX2_exit wsX2_terminate := goodIn_r _ [35, 36, 37, 38, 39, 40, 23, 41, 42, 43, 4, 44, 12, 45, 46, 47, 48, 27, 49, 29, 50, 51, 52, 53, 54, 55, 56, 30, 31, 57, 58, 59, 60, 61, 62, 63, 64, 65, 66, 67, 68, 69, 70, 8, 9, 10, 11, 71, 72, 73, 74, 75, 76, 77, 78, 79, 80, 81, 82, 83, 84, 85, 86, 87, 88, 89, 90, 91, 92, 93, 94, 95, 96, 97, 98, 99, 100, 101, 102, 103, 104, 105, 106, 107, 108, 109, 110, 111, 112, 113, 114, 115, 116, 117, 118, 119, 120, 121, 122, 123, 228, 229, 230, 231, 232, 233, 234, 235, 236, 237, 238, 239, 240, 241, 242, 243, 244, 245, 246, 247, 224, 225, 226, 227, 248, 249, 250, 251, 252, 253] (by decide +kernel) (by decide +kernel)
set_option maxRecDepth 20000 in
theorem gX2_exit_X2_terminate : GoodIn wsX2_exit (wsV RX2 64 RX2 yX2_terminate wsX2_terminate) := goodIn_app (goodIn_of _ (by decide +kernel)) ggX2_exit_X2_terminate
set_option maxRecDepth 20000 in
theorem ggX2_exit_X2_processEvents : GoodIn wsX2_exit wsX2_processEvents := goodIn_r _ [127, 128, 40, 129, 130, 23, 65, 131, 132, 133, 91, 134, 135, 93, 94, 96, 136, 137, 8, 9, 10, 4, 11, 12, 138, 139, 140, 141, 64, 142, 143, 144, 27, 145, 146, 147, 148, 149, 150, 151, 152, 153, 154, 155, 156, 157, 158, 159, 24, 25, 26, 28, 29, 30, 31, 160, 161, 162, 163, 50, 164, 75, 165, 166, 167, 168, 58, 169, 170, 171, 172, 173, 174, 175, 176, 177, 178, 179, 180, 181, 182, 88, 89, 90, 92, 95, 97, 98, 99, 100, 101, 102, 103, 104, 105, 106, 107, 108, 109, 110, 111, 112, 113, 114, 115, 183, 184, 185, 186, 123, 187, 188, 189, 190, 191, 192, 193, 194, 195, 57, 196, 197, 198, 199, 32, 33, 34, 35, 36, 37, 38, 39, 41, 42, 43, 44, 45, 46, 47, 48, 49, 51, 52, 53, 54, 55, 56, 59, 60, 61, 62, 63, 66, 67, 68, 69, 70, 71, 72, 73, 74, 76, 77, 78, 79, 80, 81, 82, 83, 84, 85, 86, 87, 116, 117, 118, 119, 120, 121, 122, 200, 201, 202, 203, 204, 205, 206, 207, 208, 209, 210, 211, 212, 213, 214, 215, 216, 217, 218, 219, 220, 221, 222, 223, 224, 225, 226, 227, 248, 249, 250, 251, 252, 253, 228, 229, 230, 231, 232, 233, 234, 235, 236, 237, 238, 239, 240, 241, 242, 243, 244, 245, 246, 247] (by decide +kernel) (by decide +kernel)
set_option maxRecDepth 20000 in
theorem gX2_exit_X2_processEvents : GoodIn wsX2_exit (wsV RX2 68 RX2 yX2_processEvents wsX2_processEvents) := goodIn_app (goodIn_of _ (by decide +kernel)) ggX2_exit_X2_processEvents
theorem dX2_exit_0 : decode cX2_exit 0 = .ok (.aload_n 0, 1) := by decide +kernel
theorem dX2_exit_1 : decode cX2_exit 1 = .ok (.iload_n 1, 1) := by decide +kernel
theorem dX2_exit_2 : decode cX2_exit 2 = .ok (.invokevirtual 32, 3) := by decide +kernel
theorem dX2_exit_5 : decode cX2_exit 5 = .ok (.astore_n 3, 1) := by decide +kernel
theorem dX2_exit_6 : decode cX2_exit 6 = .ok (.iload_n 2, 1) := by decide +kernel
theorem dX2_exit_7 : decode cX2_exit 7 = .ok (.iconst 0, 1) := by decide +kernel
theorem dX2_exit_8 : decode cX2_exit 8 = .ok (.sipush 255, 3) := by decide +kernel
theorem dX2_exit_11 : decode cX2_exit 11 = .ok (.invokestatic 60, 3) := by decide +kernel
theorem dX2_exit_14 : decode cX2_exit 14 = .ok (.aload_n 3, 1) := by decide +kernel
theorem dX2_exit_15 : decode cX2_exit 15 = .ok (.invokestatic 54, 3) := by decide +kernel
theorem dX2_exit_18 : decode cX2_exit 18 = .ok (.aload_n 0, 1) := by decide +kernel
theorem dX2_exit_19 : decode cX2_exit 19 = .ok (.aload_n 3, 1) := by decide +kernel
theorem dX2_exit_20 : decode cX2_exit 20 = .ok (.iconst 0, 1) := by decide +kernel
theorem dX2_exit_21 : decode cX2_exit 21 = .ok (.iload_n 2, 1) := by decide +kernel
theorem dX2_exit_22 : decode cX2_exit 22 = .ok (.invokevirtual 64, 3) := by decide +kernel
theorem dX2_exit_25 : decode cX2_exit 25 = .ok (.aload_n 0, 1) := by decide +kernel
theorem dX2_exit_26 : decode cX2_exit 26 = .ok (.invokevirtual 68, 3) := by decide +kernel
theorem dX2_exit_29 : decode cX2_exit 29 = .ok (.return_, 1) := by decide +kernel
set_option maxRecDepth 20000 in
theorem ggX2_waitAny_X2_find : GoodIn wsX2_waitAny wsX2_find := goodIn_ca (goodIn_r _ [5, 6, 7, 8, 9, 10, 4, 11, 12, 69, 70, 71, 72] (by decide +kernel) (by decide +kernel)) (goodIn_sub (fun _ h => List.mem_cons_of_mem _ (List.mem_append_left _ (List.mem_append_right _ h))) (by decide +kernel))
set_option maxRecDepth 20000 in
theorem gX2_waitAny_X2_find : GoodIn wsX2_waitAny (wsV RX2 32 RX2 yX2_find wsX2_find) := goodIn_app (goodIn_of _ (by decide +kernel)) ggX2_waitAny_X2_find
set_option maxRecDepth 20000 in
theorem ggX2_waitAny_X2_requireCaller : GoodIn wsX2_waitAny wsX2_requireCaller := goodIn_ca (goodIn_r _ [15, 16, 17, 18, 19, 20, 21, 22, 23, 24, 25, 26, 73, 74, 75, 76, 77, 78, 79, 80, 81, 82, 83, 84, 85, 86, 87, 88, 89, 90, 91, 92] (by decide +kernel) (by decide +kernel)) (goodIn_sub (fun _ h => List.mem_cons_of_mem _ (List.mem_append_right _ h)) (by decide +kernel))
set_option maxRecDepth 20000 in
theorem gX2_waitAny_X2_requireCaller : GoodIn wsX2_waitAny (va_wsS RX2 54 yX2_requireCaller wsX2_requireCaller) := goodIn_app (goodIn_of _ (by decide +kernel)) ggX2_waitAny_X2_requireCaller
set_option maxRecDepth 20000 in
theorem ggX2_waitAny_X2_beginWait : GoodIn wsX2_waitAny wsX2_beginWait := goodIn_r _ [30, 31, 32, 33, 34, 35, 36, 4, 37, 12, 19, 20, 21, 22, 23, 24, 25, 26, 38, 39, 40, 41, 42, 43, 44, 45, 46, 47, 48, 49, 50, 51, 52, 53, 54, 55, 18, 56, 57, 58, 59, 60, 61, 62, 63, 64, 65, 66, 67, 68, 73, 74, 75, 76, 77, 78, 79, 80, 81, 82, 83, 84, 85, 86, 87, 88, 89, 90, 91, 92, 69, 70, 71, 72] (by decide +kernel) (by decide +kernel)
set_option maxRecDepth 20000 in
theorem gX2_waitAny_X2_beginWait : GoodIn wsX2_waitAny (wsV RX2 71 RX2 yX2_beginWait wsX2_beginWait) := goodIn_app (goodIn_of _ (by decide +kernel)) ggX2_waitAny_X2_beginWait
theorem dX2_waitAny_0 : decode cX2_waitAny 0 = .ok (.aload_n 0, 1) := by decide +kernel
theorem dX2_waitAny_1 : decode cX2_waitAny 1 = .ok (.iload_n 1, 1) := by decide +kernel
theorem dX2_waitAny_2 : decode cX2_waitAny 2 = .ok (.invokevirtual 32, 3) := by decide +kernel
theorem dX2_waitAny_5 : decode cX2_waitAny 5 = .ok (.astore_n 3, 1) := by decide +kernel
theorem dX2_waitAny_6 : decode cX2_waitAny 6 = .ok (.aload_n 3, 1) := by decide +kernel
theorem dX2_waitAny_7 : decode cX2_waitAny 7 = .ok (.invokestatic 54, 3) := by decide +kernel
theorem dX2_waitAny_10 : decode cX2_waitAny 10 = .ok (.aload_n 0, 1) := by decide +kernel
theorem dX2_waitAny_11 : decode cX2_waitAny 11 = .ok (.aload_n 3, 1) := by decide +kernel
theorem dX2_waitAny_12 : decode cX2_waitAny 12 = .ok (.iconst (-1), 1) := by decide +kernel
theorem dX2_waitAny_13 : decode cX2_waitAny 13 = .ok (.iload_n 2, 1) := by decide +kernel
theorem dX2_waitAny_14 : decode cX2_waitAny 14 = .ok (.invokevirtual 71, 3) := by decide +kernel
theorem dX2_waitAny_17 : decode cX2_waitAny 17 = .ok (.ireturn, 1) := by decide +kernel
set_option maxRecDepth 20000 in
theorem ggX2_waitFor_X2_find : GoodIn wsX2_waitFor wsX2_find := goodIn_ca (goodIn_r _ [5, 6, 7, 8, 9, 10, 4, 11, 12, 77, 78, 79, 80] (by decide +kernel) (by decide +kernel)) (goodIn_sub (fun _ h => List.mem_cons_of_mem _ (List.mem_append_left _ (List.mem_append_left _ (List.mem_append_right _ h)))) (by decide +kernel))
set_option maxRecDepth 20000 in
theorem gX2_waitFor_X2_find : GoodIn wsX2_waitFor (wsV RX2 32 RX2 yX2_find wsX2_find) := goodIn_app (goodIn_of _ (by decide +kernel)) ggX2_waitFor_X2_find
set_option maxRecDepth 20000 in
theorem ggX2_waitFor_X2_requireNumber : GoodIn wsX2_waitFor wsX2_requireNumber := goodIn_ca (goodIn_r _ [15, 16, 17, 4, 18, 19, 20] (by decide +kernel) (by decide +kernel)) (goodIn_sub (fun _ h => List.mem_cons_of_mem _ (List.mem_append_left _ (List.mem_append_right _ h))) (by decide +kernel))
set_option maxRecDepth 20000 in
theorem gX2_waitFor_X2_requireNumber : GoodIn wsX2_waitFor (va_wsS RX2 75 yX2_requireNumber wsX2_requireNumber) := goodIn_app (goodIn_of _ (by decide +kernel)) ggX2_waitFor_X2_requireNumber
set_option maxRecDepth 20000 in
theorem ggX2_waitFor_X2_requireCaller : GoodIn wsX2_waitFor wsX2_requireCaller := goodIn_ca (goodIn_r _ [23, 24, 25, 26, 27, 28, 29, 30, 31, 32, 33, 34, 81, 82, 83, 84, 85, 86, 87, 88, 89, 90, 91, 92, 93, 94, 95, 96, 97, 98, 99, 100] (by decide +kernel) (by decide +kernel)) (goodIn_sub (fun _ h => List.mem_cons_of_mem _ (List.mem_append_right _ h)) (by decide +kernel))
set_option maxRecDepth 20000 in
theorem gX2_waitFor_X2_requireCaller : GoodIn wsX2_waitFor (va_wsS RX2 54 yX2_requireCaller wsX2_requireCaller) := goodIn_app (goodIn_of _ (by decide +kernel)) ggX2_waitFor_X2_requireCaller
set_option maxRecDepth 20000 in
theorem ggX2_waitFor_X2_beginWait : GoodIn wsX2_waitFor wsX2_beginWait := goodIn_r _ [38, 39, 40, 41, 42, 43, 44, 4, 45, 12, 27, 28, 29, 30, 31, 32, 33, 34, 46, 47, 48, 49, 50, 51, 52, 53, 54, 55, 56, 57, 58, 59, 60, 61, 62, 63, 26, 64, 65, 66, 67, 68, 69, 70, 71, 72, 73, 74, 75, 76, 81, 82, 83, 84, 85, 86, 87, 88, 89, 90, 91, 92, 93, 94, 95, 96, 97, 98, 99, 100, 77, 78, 79, 80] (by decide +kernel) (by decide +kernel)
set_option maxRecDepth 20000 in
theorem gX2_waitFor_X2_beginWait : GoodIn wsX2_waitFor (wsV RX2 71 RX2 yX2_beginWait wsX2_beginWait) := goodIn_app (goodIn_of _ (by decide +kernel)) ggX2_waitFor_X2_beginWait
theorem dX2_waitFor_0 : decode cX2_waitFor 0 = .ok (.aload_n 0, 1) := by decide +kernel
theorem dX2_waitFor_1 : decode cX2_waitFor 1 = .ok (.iload_n 1, 1) := by decide +kernel
theorem dX2_waitFor_2 : decode cX2_waitFor 2 = .ok (.invokevirtual 32, 3) := by decide +kernel
theorem dX2_waitFor_5 : decode cX2_waitFor 5 = .ok (.astore 4, 2) := by decide +kernel
theorem dX2_waitFor_7 : decode cX2_waitFor 7 = .ok (.iload_n 2, 1) := by decide +kernel
theorem dX2_waitFor_8 : decode cX2_waitFor 8 = .ok (.invokestatic 75, 3) := by decide +kernel
theorem dX2_waitFor_11 : decode cX2_waitFor 11 = .ok (.aload 4, 2) := by decide +kernel
theorem dX2_waitFor_13 : decode cX2_waitFor 13 = .ok (.invokestatic 54, 3) := by decide +kernel
theorem dX2_waitFor_16 : decode cX2_waitFor 16 = .ok (.aload_n 0, 1) := by decide +kernel
theorem dX2_waitFor_17 : decode cX2_waitFor 17 = .ok (.aload 4, 2) := by decide +kernel
theorem dX2_waitFor_19 : decode cX2_waitFor 19 = .ok (.iload_n 2, 1) := by decide +kernel
theorem dX2_waitFor_20 : decode cX2_waitFor 20 = .ok (.iload_n 3, 1) := by decide +kernel
theorem dX2_waitFor_21 : decode cX2_waitFor 21 = .ok (.invokevirtual 71, 3) := by decide +kernel
theorem dX2_waitFor_24 : decode cX2_waitFor 24 = .ok (.ireturn, 1) := by decide +kernel
set_option maxRecDepth 20000 in
theorem ggX2_setAction_X2_find : GoodIn wsX2_setAction wsX2_find := goodIn_ca (goodIn_r _ [7, 8, 9, 10, 11, 12, 6, 13, 14, 52, 53, 54, 55] (by decide +kernel) (by decide +kernel)) (goodIn_sub (fun _ h => List.mem_cons_of_mem _ (List.mem_append_left _ (List.mem_append_right _ h))) (by decide +kernel))
set_option maxRecDepth 20000 in
theorem gX2_setAction_X2_find : GoodIn wsX2_setAction (wsV RX2 32 RX2 yX2_find wsX2_find) := goodIn_app (goodIn_of _ (by decide +kernel)) ggX2_setAction_X2_find
set_option maxRecDepth 20000 in
theorem ggX2_setAction_X2_requireRange : GoodIn wsX2_setAction wsX2_requireRange := goodIn_ca (goodIn_r _ [17, 1, 2] (by decide +kernel) (by decide +kernel)) (goodIn_sub (fun _ h => List.mem_cons_of_mem _ (List.mem_append_left _ (List.mem_append_left _ (List.mem_append_right _ h)))) (by decide +kernel))
set_option maxRecDepth 20000 in
theorem gX2_setAction_X2_requireRange : GoodIn wsX2_setAction (va_wsS RX2 60 yX2_requireRange wsX2_requireRange) := goodIn_app (goodIn_of _ (by decide +kernel)) ggX2_setAction_X2_requireRange
set_option maxRecDepth 20000 in
theorem ggX2_setAction_X2_requireCaller : GoodIn wsX2_setAction wsX2_requireCaller := goodIn_ca (goodIn_r _ [20, 21, 22, 23, 24, 25, 26, 27, 28, 29, 30, 31, 56, 57, 58, 59, 60, 61, 62, 63, 64, 65, 66, 67, 68, 69, 70, 71, 72, 73, 74, 75] (by decide +kernel) (by decide +kernel)) (goodIn_sub (fun _ h => List.mem_cons_of_mem _ (List.mem_append_right _ h)) (by decide +kernel))
set_option maxRecDepth 20000 in
theorem gX2_setAction_X2_requireCaller : GoodIn wsX2_setAction (va_wsS RX2 54 yX2_requireCaller wsX2_requireCaller) := goodIn_app (goodIn_of _ (by decide +kernel)) ggX2_setAction_X2_requireCaller
set_option maxRecDepth 20000 in
theorem ggX2_setAction_X1_actionFor : GoodIn wsX2_setAction wsX1_actionFor := goodIn_r _ [35, 36, 37, 56, 57, 58, 59, 60, 61, 62, 63, 64, 65, 66, 67, 68, 69, 70, 71, 72, 73, 74, 75] (by decide +kernel) (by decide +kernel)
set_option maxRecDepth 20000 in
theorem gX2_setAction_X1_actionFor : GoodIn wsX2_setAction (wsV RX2 83 RX1 yX1_actionFor wsX1_actionFor) := goodIn_app (goodIn_of _ (by decide +kernel)) ggX2_setAction_X1_actionFor
set_option maxRecDepth 20000 in
theorem ggX2_setAction_X1_changeAction : GoodIn wsX2_setAction wsX1_changeAction := goodIn_r _ [41, 37, 36, 42, 43, 44, 27, 45, 46, 33, 34, 35, 47, 48, 49, 50, 51, 56, 57, 58, 59, 60, 61, 62, 63, 64, 65, 66, 67, 68, 69, 70, 71, 72, 73, 74, 75] (by decide +kernel) (by decide +kernel)
set_option maxRecDepth 20000 in
theorem gX2_setAction_X1_changeAction : GoodIn wsX2_setAction (wsV RX2 87 RX1 yX1_changeAction wsX1_changeAction) := goodIn_app (goodIn_of _ (by decide +kernel)) ggX2_setAction_X1_changeAction
theorem dX2_setAction_0 : decode cX2_setAction 0 = .ok (.aload_n 0, 1) := by decide +kernel
theorem dX2_setAction_1 : decode cX2_setAction 1 = .ok (.iload_n 1, 1) := by decide +kernel
theorem dX2_setAction_2 : decode cX2_setAction 2 = .ok (.invokevirtual 32, 3) := by decide +kernel
theorem dX2_setAction_5 : decode cX2_setAction 5 = .ok (.astore 4, 2) := by decide +kernel
theorem dX2_setAction_7 : decode cX2_setAction 7 = .ok (.iload_n 2, 1) := by decide +kernel
theorem dX2_setAction_8 : decode cX2_setAction 8 = .ok (.iconst 0, 1) := by decide +kernel
theorem dX2_setAction_9 : decode cX2_setAction 9 = .ok (.bipush 8, 2) := by decide +kernel
theorem dX2_setAction_11 : decode cX2_setAction 11 = .ok (.invokestatic 60, 3) := by decide +kernel
theorem dX2_setAction_14 : decode cX2_setAction 14 = .ok (.iload_n 3, 1) := by decide +kernel
theorem dX2_setAction_15 : decode cX2_setAction 15 = .ok (.iconst 0, 1) := by decide +kernel
theorem dX2_setAction_16 : decode cX2_setAction 16 = .ok (.iconst 2, 1) := by decide +kernel
theorem dX2_setAction_17 : decode cX2_setAction 17 = .ok (.invokestatic 60, 3) := by decide +kernel
theorem dX2_setAction_20 : decode cX2_setAction 20 = .ok (.iload_n 2, 1) := by decide +kernel
theorem dX2_setAction_21 : decode cX2_setAction 21 = .ok (.iconst 2, 1) := by decide +kernel
theorem dX2_setAction_22 : decode cX2_setAction 22 = .ok (.if_icmp .eq 8, 3) := by decide +kernel
theorem dX2_setAction_25 : decode cX2_setAction 25 = .ok (.iload_n 2, 1) := by decide +kernel
theorem dX2_setAction_26 : decode cX2_setAction 26 = .ok (.iconst 5, 1) := by decide +kernel
theorem dX2_setAction_27 : decode cX2_setAction 27 = .ok (.if_icmp .ne 13, 3) := by decide +kernel
theorem dX2_setAction_30 : decode cX2_setAction 30 = .ok (.new 78, 3) := by decide +kernel
theorem dX2_setAction_33 : decode cX2_setAction 33 = .ok (.dup, 1) := by decide +kernel
theorem dX2_setAction_34 : decode cX2_setAction 34 = .ok (.ldc 80, 2) := by decide +kernel
theorem dX2_setAction_36 : decode cX2_setAction 36 = .ok (.invokespecial 82, 3) := by decide +kernel
theorem dX2_setAction_39 : decode cX2_setAction 39 = .ok (.athrow, 1) := by decide +kernel
theorem dX2_setAction_40 : decode cX2_setAction 40 = .ok (.aload 4, 2) := by decide +kernel
theorem dX2_setAction_42 : decode cX2_setAction 42 = .ok (.invokestatic 54, 3) := by decide +kernel
theorem dX2_setAction_45 : decode cX2_setAction 45 = .ok (.aload 4, 2) := by decide +kernel
theorem dX2_setAction_47 : decode cX2_setAction 47 = .ok (.iload_n 2, 1) := by decide +kernel
theorem dX2_setAction_48 : decode cX2_setAction 48 = .ok (.invokevirtual 83, 3) := by decide +kernel
theorem dX2_setAction_51 : decode cX2_setAction 51 = .ok (.istore 5, 2) := by decide +kernel
theorem dX2_setAction_53 : decode cX2_setAction 53 = .ok (.aload 4, 2) := by decide +kernel
theorem dX2_setAction_55 : decode cX2_setAction 55 = .ok (.iload_n 2, 1) := by decide +kernel
theorem dX2_setAction_56 : decode cX2_setAction 56 = .ok (.iload_n 3, 1) := by decide +kernel
theorem dX2_setAction_57 : decode cX2_setAction 57 = .ok (.invokevirtual 87, 3) := by decide +kernel
theorem dX2_setAction_60 : decode cX2_setAction 60 = .ok (.iload 5, 2) := by decide +kernel
theorem dX2_setAction_62 : decode cX2_setAction 62 = .ok (.ireturn, 1) := by decide +kernel
set_option maxRecDepth 20000 in
theorem ggX2_setMask_X2_find : GoodIn wsX2_setMask wsX2_find := goodIn_ca (goodIn_r _ [6, 7, 8, 9, 10, 11, 5, 12, 13, 244, 245, 246, 247] (by decide +kernel) (by decide +kernel)) (goodIn_sub (fun _ h => List.mem_cons_of_mem _ (List.mem_append_left _ (List.mem_append_left _ (List.mem_append_right _ h)))) (by decide +kernel))
set_option maxRecDepth 20000 in
theorem gX2_setMask_X2_find : GoodIn wsX2_setMask (wsV RX2 32 RX2 yX2_find wsX2_find) := goodIn_app (goodIn_of _ (by decide +kernel)) ggX2_setMask_X2_find
set_option maxRecDepth 20000 in
theorem ggX2_setMask_X2_requireRange : GoodIn wsX2_setMask wsX2_requireRange := goodIn_ca (goodIn_r _ [16, 17, 18] (by decide +kernel) (by decide +kernel)) (goodIn_sub (fun _ h => List.mem_cons_of_mem _ (List.mem_append_left _ (List.mem_append_right _ h))) (by decide +kernel))
set_option maxRecDepth 20000 in
theorem gX2_setMask_X2_requireRange : GoodIn wsX2_setMask (va_wsS RX2 60 yX2_requireRange wsX2_requireRange) := goodIn_app (goodIn_of _ (by decide +kernel)) ggX2_setMask_X2_requireRange
set_option maxRecDepth 20000 in
theorem ggX2_setMask_X2_requireCaller : GoodIn wsX2_setMask wsX2_requireCaller := goodIn_ca (goodIn_r _ [21, 22, 23, 24, 25, 26, 27, 28, 29, 30, 31, 32, 224, 225, 226, 227, 228, 229, 230, 231, 232, 233, 234, 235, 236, 237, 238, 239, 240, 241, 242, 243] (by decide +kernel) (by decide +kernel)) (goodIn_sub (fun _ h => List.mem_cons_of_mem _ (List.mem_append_right _ h)) (by decide +kernel))
set_option maxRecDepth 20000 in
theorem gX2_setMask_X2_requireCaller : GoodIn wsX2_setMask (va_wsS RX2 54 yX2_requireCaller wsX2_requireCaller) := goodIn_app (goodIn_of _ (by decide +kernel)) ggX2_setMask_X2_requireCaller
set_option maxRecDepth 20000 in
theorem ggX2_setMask_X2_deliver : GoodIn wsX2_setMask wsX2_deliver := goodIn_r _ [36, 37, 38, 39, 1, 40, 41, 42, 43, 28, 44, 45, 46, 47, 48, 49, 50, 51, 52, 53, 54, 55, 56, 32, 57, 58, 59, 60, 61, 62, 63, 64, 65, 66, 5, 67, 68, 69, 70, 71, 72, 24, 73, 74, 75, 76, 13, 77, 78, 79, 80, 30, 81, 82, 83, 84, 85, 86, 87, 31, 88, 89, 90, 91, 92, 93, 94, 95, 96, 97, 98, 99, 9, 10, 11, 12, 100, 101, 102, 103, 104, 105, 106, 107, 108, 109, 110, 111, 112, 113, 114, 115, 116, 117, 118, 119, 120, 121, 122, 123, 124, 125, 126, 127, 128, 129, 130, 131, 132, 133, 134, 135, 136, 137, 138, 139, 140, 141, 142, 143, 144, 145, 146, 147, 148, 149, 150, 151, 152, 153, 154, 155, 156, 157, 158, 159, 160, 161, 25, 26, 27, 29, 162, 163, 164, 165, 166, 167, 168, 169, 170, 171, 172, 173, 174, 175, 176, 177, 178, 179, 180, 224, 225, 226, 227, 228, 229, 230, 231, 232, 233, 234, 235, 236, 237, 238, 239, 240, 241, 242, 243, 244, 245, 246, 247, 248, 249, 250, 251, 252, 253] (by decide +kernel) (by decide +kernel)
set_option maxRecDepth 20000 in
theorem gX2_setMask_X2_deliver : GoodIn wsX2_setMask (wsV RX2 94 RX2 yX2_deliver wsX2_deliver) := goodIn_app (goodIn_of _ (by decide +kernel)) ggX2_setMask_X2_deliver
set_option maxRecDepth 20000 in
theorem ggX2_setMask_X2_processEvents : GoodIn wsX2_setMask wsX2_processEvents := goodIn_r _ [184, 185, 72, 186, 187, 24, 37, 188, 189, 190, 120, 191, 192, 122, 123, 125, 193, 194, 9, 10, 11, 5, 12, 13, 195, 196, 197, 198, 94, 46, 47, 48, 28, 49, 50, 51, 177, 178, 179, 180, 199, 200, 201, 202, 158, 159, 160, 161, 25, 26, 27, 29, 30, 31, 32, 162, 163, 164, 165, 81, 166, 104, 167, 168, 169, 170, 88, 171, 172, 173, 174, 175, 156, 157, 176, 58, 59, 60, 61, 62, 63, 117, 118, 119, 121, 124, 126, 127, 128, 129, 130, 131, 132, 133, 134, 135, 136, 137, 138, 139, 140, 141, 142, 143, 144, 203, 204, 205, 206, 38, 207, 208, 209, 210, 39, 41, 42, 43, 44, 45, 211, 212, 213, 214, 64, 65, 66, 67, 68, 69, 70, 71, 73, 74, 75, 76, 40, 77, 78, 79, 80, 82, 83, 84, 85, 86, 87, 89, 90, 91, 92, 93, 95, 96, 97, 98, 99, 100, 101, 102, 103, 105, 106, 107, 108, 109, 110, 111, 112, 113, 114, 115, 116, 145, 146, 147, 148, 149, 150, 151, 152, 153, 154, 155, 215, 216, 217, 218, 219, 33, 34, 35, 36, 1, 52, 53, 54, 55, 56, 57, 220, 221, 222, 223, 244, 245, 246, 247, 248, 249, 250, 251, 252, 253, 224, 225, 226, 227, 228, 229, 230, 231, 232, 233, 234, 235, 236, 237, 238, 239, 240, 241, 242, 243] (by decide +kernel) (by decide +kernel)
set_option maxRecDepth 20000 in
theorem gX2_setMask_X2_processEvents : GoodIn wsX2_setMask (wsV RX2 68 RX2 yX2_processEvents wsX2_processEvents) := goodIn_app (goodIn_of _ (by decide +kernel)) ggX2_setMask_X2_processEvents
theorem dX2_setMask_0 : decode cX2_setMask 0 = .ok (.aload_n 0, 1) := by decide +kernel
theorem dX2_setMask_1 : decode cX2_setMask 1 = .ok (.iload_n 1, 1) := by decide +kernel
theorem dX2_setMask_2 : decode cX2_setMask 2 = .ok (.invokevirtual 32, 3) := by decide +kernel
theorem dX2_setMask_5 : decode cX2_setMask 5 = .ok (.astore_n 3, 1) := by decide +kernel
theorem dX2_setMask_6 : decode cX2_setMask 6 = .ok (.iload_n 2, 1) := by decide +kernel
theorem dX2_setMask_7 : decode cX2_setMask 7 = .ok (.iconst 0, 1) := by decide +kernel
theorem dX2_setMask_8 : decode cX2_setMask 8 = .ok (.sipush 511, 3) := by decide +kernel
theorem dX2_setMask_11 : decode cX2_setMask 11 = .ok (.invokestatic 60, 3) := by decide +kernel
theorem dX2_setMask_14 : decode cX2_setMask 14 = .ok (.aload_n 3, 1) := by decide +kernel
theorem dX2_setMask_15 : decode cX2_setMask 15 = .ok (.invokestatic 54, 3) := by decide +kernel
theorem dX2_setMask_18 : decode cX2_setMask 18 = .ok (.aload_n 3, 1) := by decide +kernel
theorem dX2_setMask_19 : decode cX2_setMask 19 = .ok (.getfield 91, 3) := by decide +kernel
theorem dX2_setMask_22 : decode cX2_setMask 22 = .ok (.istore 4, 2) := by decide +kernel
theorem dX2_setMask_24 : decode cX2_setMask 24 = .ok (.aload_n 3, 1) := by decide +kernel
theorem dX2_setMask_25 : decode cX2_setMask 25 = .ok (.iload_n 2, 1) := by decide +kernel
theorem dX2_setMask_26 : decode cX2_setMask 26 = .ok (.bipush (-37), 2) := by decide +kernel
theorem dX2_setMask_28 : decode cX2_setMask 28 = .ok (.iand, 1) := by decide +kernel
theorem dX2_setMask_29 : decode cX2_setMask 29 = .ok (.putfield 91, 3) := by decide +kernel
theorem dX2_setMask_32 : decode cX2_setMask 32 = .ok (.aload_n 0, 1) := by decide +kernel
theorem dX2_setMask_33 : decode cX2_setMask 33 = .ok (.aload_n 3, 1) := by decide +kernel
theorem dX2_setMask_34 : decode cX2_setMask 34 = .ok (.invokevirtual 94, 3) := by decide +kernel
theorem dX2_setMask_37 : decode cX2_setMask 37 = .ok (.aload_n 0, 1) := by decide +kernel
theorem dX2_setMask_38 : decode cX2_setMask 38 = .ok (.invokevirtual 68, 3) := by decide +kernel
theorem dX2_setMask_41 : decode cX2_setMask 41 = .ok (.iload 4, 2) := by decide +kernel
theorem dX2_setMask_43 : decode cX2_setMask 43 = .ok (.ireturn, 1) := by decide +kernel
set_option maxRecDepth 20000 in
theorem ggX2_beginSession_X2_find : GoodIn wsX2_beginSession wsX2_find := goodIn_ca (goodIn_r _ [9, 10, 11, 12, 13, 14, 8, 15, 16, 53, 54, 55, 56] (by decide +kernel) (by decide +kernel)) (goodIn_sub (fun _ h => List.mem_cons_of_mem _ (List.mem_append_right _ h)) (by decide +kernel))
set_option maxRecDepth 20000 in
theorem gX2_beginSession_X2_find : GoodIn wsX2_beginSession (wsV RX2 32 RX2 yX2_find wsX2_find) := goodIn_app (goodIn_of _ (by decide +kernel)) ggX2_beginSession_X2_find
set_option maxRecDepth 20000 in
theorem ggX2_beginSession_X2_requireCaller : GoodIn wsX2_beginSession wsX2_requireCaller := goodIn_ca (goodIn_r _ [19, 1, 2, 20, 21, 22, 23, 24, 25, 26, 27, 28, 33, 34, 35, 36, 37, 38, 39, 40, 41, 42, 43, 44, 45, 46, 47, 48, 49, 50, 51, 52] (by decide +kernel) (by decide +kernel)) (goodIn_sub (fun _ h => List.mem_cons_of_mem _ (List.mem_append_left _ (List.mem_append_right _ h))) (by decide +kernel))
set_option maxRecDepth 20000 in
theorem gX2_beginSession_X2_requireCaller : GoodIn wsX2_beginSession (va_wsS RX2 54 yX2_requireCaller wsX2_requireCaller) := goodIn_app (goodIn_of _ (by decide +kernel)) ggX2_beginSession_X2_requireCaller
set_option maxRecDepth 20000 in
theorem ggX2_beginSession_X2_isGroupOfAny : GoodIn wsX2_beginSession wsX2_isGroupOfAny := goodIn_r _ [32, 16, 3, 53, 54, 55, 56, 33, 34, 35, 36, 37, 38, 39, 40, 41, 42, 43, 44, 45, 46, 47, 48, 49, 50, 51, 52] (by decide +kernel) (by decide +kernel)
set_option maxRecDepth 20000 in
theorem gX2_beginSession_X2_isGroupOfAny : GoodIn wsX2_beginSession (wsV RX2 97 RX2 yX2_isGroupOfAny wsX2_isGroupOfAny) := goodIn_app (goodIn_of _ (by decide +kernel)) ggX2_beginSession_X2_isGroupOfAny
theorem dX2_beginSession_0 : decode cX2_beginSession 0 = .ok (.aload_n 0, 1) := by decide +kernel
theorem dX2_beginSession_1 : decode cX2_beginSession 1 = .ok (.iload_n 1, 1) := by decide +kernel
theorem dX2_beginSession_2 : decode cX2_beginSession 2 = .ok (.invokevirtual 32, 3) := by decide +kernel
theorem dX2_beginSession_5 : decode cX2_beginSession 5 = .ok (.astore_n 2, 1) := by decide +kernel
theorem dX2_beginSession_6 : decode cX2_beginSession 6 = .ok (.aload_n 2, 1) := by decide +kernel
theorem dX2_beginSession_7 : decode cX2_beginSession 7 = .ok (.invokestatic 54, 3) := by decide +kernel
theorem dX2_beginSession_10 : decode cX2_beginSession 10 = .ok (.aload_n 0, 1) := by decide +kernel
theorem dX2_beginSession_11 : decode cX2_beginSession 11 = .ok (.iload_n 1, 1) := by decide +kernel
theorem dX2_beginSession_12 : decode cX2_beginSession 12 = .ok (.invokevirtual 97, 3) := by decide +kernel
theorem dX2_beginSession_15 : decode cX2_beginSession 15 = .ok (.ifCond .eq 13, 3) := by decide +kernel
theorem dX2_beginSession_18 : decode cX2_beginSession 18 = .ok (.new 43, 3) := by decide +kernel
theorem dX2_beginSession_21 : decode cX2_beginSession 21 = .ok (.dup, 1) := by decide +kernel
theorem dX2_beginSession_22 : decode cX2_beginSession 22 = .ok (.ldc 101, 2) := by decide +kernel
theorem dX2_beginSession_24 : decode cX2_beginSession 24 = .ok (.invokespecial 47, 3) := by decide +kernel
theorem dX2_beginSession_27 : decode cX2_beginSession 27 = .ok (.athrow, 1) := by decide +kernel
theorem dX2_beginSession_28 : decode cX2_beginSession 28 = .ok (.aload_n 2, 1) := by decide +kernel
theorem dX2_beginSession_29 : decode cX2_beginSession 29 = .ok (.iload_n 1, 1) := by decide +kernel
theorem dX2_beginSession_30 : decode cX2_beginSession 30 = .ok (.putfield 103, 3) := by decide +kernel
theorem dX2_beginSession_33 : decode cX2_beginSession 33 = .ok (.aload_n 2, 1) := by decide +kernel
theorem dX2_beginSession_34 : decode cX2_beginSession 34 = .ok (.iload_n 1, 1) := by decide +kernel
theorem dX2_beginSession_35 : decode cX2_beginSession 35 = .ok (.putfield 106, 3) := by decide +kernel
theorem dX2_beginSession_38 : decode cX2_beginSession 38 = .ok (.return_, 1) := by decide +kernel
set_option maxRecDepth 20000 in
theorem ggX2_setGroup_X2_find : GoodIn wsX2_setGroup wsX2_find := goodIn_ca (goodIn_r _ [9, 10, 11, 12, 13, 14, 8, 15, 16, 77, 78, 79, 80] (by decide +kernel) (by decide +kernel)) (goodIn_sub (fun _ h => List.mem_cons_of_mem _ (List.mem_append_left _ (List.mem_append_right _ h))) (by decide +kernel))
set_option maxRecDepth 20000 in
theorem gX2_setGroup_X2_find : GoodIn wsX2_setGroup (wsV RX2 32 RX2 yX2_find wsX2_find) := goodIn_app (goodIn_of _ (by decide +kernel)) ggX2_setGroup_X2_find
set_option maxRecDepth 20000 in
theorem ggX2_setGroup_X2_requireNumber : GoodIn wsX2_setGroup wsX2_requireNumber := goodIn_ca (goodIn_r _ [19, 20, 21, 8, 22, 23, 24] (by decide +kernel) (by decide +kernel)) (goodIn_sub (fun _ h => List.mem_cons_of_mem _ (List.mem_append_right _ h)) (by decide +kernel))
set_option maxRecDepth 20000 in
theorem gX2_setGroup_X2_requireNumber : GoodIn wsX2_setGroup (va_wsS RX2 75 yX2_requireNumber wsX2_requireNumber) := goodIn_app (goodIn_of _ (by decide +kernel)) ggX2_setGroup_X2_requireNumber
set_option maxRecDepth 20000 in
theorem ggX2_setGroup_X2_requireCaller : GoodIn wsX2_setGroup wsX2_requireCaller := goodIn_ca (goodIn_r _ [27, 1, 2, 28, 29, 30, 31, 32, 33, 34, 35, 36, 57, 58, 59, 60, 61, 62, 63, 64, 65, 66, 67, 68, 69, 70, 71, 72, 73, 74, 75, 76] (by decide +kernel) (by decide +kernel)) (goodIn_sub (fun _ h => List.mem_cons_of_mem _ (List.mem_append_left _ (List.mem_append_left _ (List.mem_append_right _ h)))) (by decide +kernel))
set_option maxRecDepth 20000 in
theorem gX2_setGroup_X2_requireCaller : GoodIn wsX2_setGroup (va_wsS RX2 54 yX2_requireCaller wsX2_requireCaller) := goodIn_app (goodIn_of _ (by decide +kernel)) ggX2_setGroup_X2_requireCaller
set_option maxRecDepth 20000 in
theorem ggX2_setGroup_X2_mayMove : GoodIn wsX2_setGroup wsX2_mayMove := goodIn_r _ [39, 40, 41, 3, 42, 43, 44, 32, 45, 46, 47, 57, 58, 59, 60, 61, 62, 63, 64, 65, 66, 67, 68, 69, 70, 71, 72, 73, 74, 75, 76] (by decide +kernel) (by decide +kernel)
set_option maxRecDepth 20000 in
theorem gX2_setGroup_X2_mayMove : GoodIn wsX2_setGroup (va_wsS RX2 109 yX2_mayMove wsX2_mayMove) := goodIn_app (goodIn_of _ (by decide +kernel)) ggX2_setGroup_X2_mayMove
set_option maxRecDepth 20000 in
theorem ggX2_setGroup_X2_hasMemberIn : GoodIn wsX2_setGroup wsX2_hasMemberIn := goodIn_r _ [51, 16, 3, 52, 53, 54, 32, 55, 56, 34, 77, 78, 79, 80, 57, 58, 59, 60, 61, 62, 63, 64, 65, 66, 67, 68, 69, 70, 71, 72, 73, 74, 75, 76] (by decide +kernel) (by decide +kernel)
set_option maxRecDepth 20000 in
theorem gX2_setGroup_X2_hasMemberIn : GoodIn wsX2_setGroup (wsV RX2 113 RX2 yX2_hasMemberIn wsX2_hasMemberIn) := goodIn_app (goodIn_of _ (by decide +kernel)) ggX2_setGroup_X2_hasMemberIn
theorem dX2_setGroup_0 : decode cX2_setGroup 0 = .ok (.aload_n 0, 1) := by decide +kernel
theorem dX2_setGroup_1 : decode cX2_setGroup 1 = .ok (.iload_n 1, 1) := by decide +kernel
theorem dX2_setGroup_2 : decode cX2_setGroup 2 = .ok (.invokevirtual 32, 3) := by decide +kernel
theorem dX2_setGroup_5 : decode cX2_setGroup 5 = .ok (.astore 4, 2) := by decide +kernel
theorem dX2_setGroup_7 : decode cX2_setGroup 7 = .ok (.aload_n 0, 1) := by decide +kernel
theorem dX2_setGroup_8 : decode cX2_setGroup 8 = .ok (.iload_n 2, 1) := by decide +kernel
theorem dX2_setGroup_9 : decode cX2_setGroup 9 = .ok (.invokevirtual 32, 3) := by decide +kernel
theorem dX2_setGroup_12 : decode cX2_setGroup 12 = .ok (.astore 5, 2) := by decide +kernel
theorem dX2_setGroup_14 : decode cX2_setGroup 14 = .ok (.iload_n 3, 1) := by decide +kernel
theorem dX2_setGroup_15 : decode cX2_setGroup 15 = .ok (.invokestatic 75, 3) := by decide +kernel
theorem dX2_setGroup_18 : decode cX2_setGroup 18 = .ok (.aload 4, 2) := by decide +kernel
theorem dX2_setGroup_20 : decode cX2_setGroup 20 = .ok (.invokestatic 54, 3) := by decide +kernel
theorem dX2_setGroup_23 : decode cX2_setGroup 23 = .ok (.aload 4, 2) := by decide +kernel
theorem dX2_setGroup_25 : decode cX2_setGroup 25 = .ok (.aload 5, 2) := by decide +kernel
theorem dX2_setGroup_27 : decode cX2_setGroup 27 = .ok (.invokestatic 109, 3) := by decide +kernel
theorem dX2_setGroup_30 : decode cX2_setGroup 30 = .ok (.ifCond .eq 21, 3) := by decide +kernel
theorem dX2_setGroup_33 : decode cX2_setGroup 33 = .ok (.iload_n 3, 1) := by decide +kernel
theorem dX2_setGroup_34 : decode cX2_setGroup 34 = .ok (.iload_n 2, 1) := by decide +kernel
theorem dX2_setGroup_35 : decode cX2_setGroup 35 = .ok (.if_icmp .eq 26, 3) := by decide +kernel
theorem dX2_setGroup_38 : decode cX2_setGroup 38 = .ok (.aload_n 0, 1) := by decide +kernel
theorem dX2_setGroup_39 : decode cX2_setGroup 39 = .ok (.iload_n 3, 1) := by decide +kernel
theorem dX2_setGroup_40 : decode cX2_setGroup 40 = .ok (.aload 4, 2) := by decide +kernel
theorem dX2_setGroup_42 : decode cX2_setGroup 42 = .ok (.getfield 106, 3) := by decide +kernel
theorem dX2_setGroup_45 : decode cX2_setGroup 45 = .ok (.invokevirtual 113, 3) := by decide +kernel
theorem dX2_setGroup_48 : decode cX2_setGroup 48 = .ok (.ifCond .ne 13, 3) := by decide +kernel
theorem dX2_setGroup_51 : decode cX2_setGroup 51 = .ok (.new 43, 3) := by decide +kernel
theorem dX2_setGroup_54 : decode cX2_setGroup 54 = .ok (.dup, 1) := by decide +kernel
theorem dX2_setGroup_55 : decode cX2_setGroup 55 = .ok (.ldc 117, 2) := by decide +kernel
theorem dX2_setGroup_57 : decode cX2_setGroup 57 = .ok (.invokespecial 47, 3) := by decide +kernel
theorem dX2_setGroup_60 : decode cX2_setGroup 60 = .ok (.athrow, 1) := by decide +kernel
theorem dX2_setGroup_61 : decode cX2_setGroup 61 = .ok (.aload 5, 2) := by decide +kernel
theorem dX2_setGroup_63 : decode cX2_setGroup 63 = .ok (.getfield 103, 3) := by decide +kernel
theorem dX2_setGroup_66 : decode cX2_setGroup 66 = .ok (.istore 6, 2) := by decide +kernel
theorem dX2_setGroup_68 : decode cX2_setGroup 68 = .ok (.aload 5, 2) := by decide +kernel
theorem dX2_setGroup_70 : decode cX2_setGroup 70 = .ok (.iload_n 3, 1) := by decide +kernel
theorem dX2_setGroup_71 : decode cX2_setGroup 71 = .ok (.putfield 103, 3) := by decide +kernel
theorem dX2_setGroup_74 : decode cX2_setGroup 74 = .ok (.iload 6, 2) := by decide +kernel
theorem dX2_setGroup_76 : decode cX2_setGroup 76 = .ok (.ireturn, 1) := by decide +kernel
set_option maxRecDepth 20000 in
theorem ggX2_setReaper_X2_find : GoodIn wsX2_setReaper wsX2_find := goodIn_ca (goodIn_r _ [6, 7, 8, 9, 10, 11, 5, 12, 13, 48, 49, 50, 51] (by decide +kernel) (by decide +kernel)) (goodIn_sub (fun _ h => List.mem_cons_of_mem _ (List.mem_append_left _ (List.mem_append_right _ h))) (by decide +kernel))
set_option maxRecDepth 20000 in
theorem gX2_setReaper_X2_find : GoodIn wsX2_setReaper (wsV RX2 32 RX2 yX2_find wsX2_find) := goodIn_app (goodIn_of _ (by decide +kernel)) ggX2_setReaper_X2_find
set_option maxRecDepth 20000 in
theorem ggX2_setReaper_X2_requireCaller : GoodIn wsX2_setReaper wsX2_requireCaller := goodIn_ca (goodIn_r _ [16, 17, 18, 19, 20, 21, 22, 23, 24, 25, 26, 27, 28, 29, 30, 31, 32, 33, 34, 35, 36, 37, 38, 39, 40, 41, 42, 43, 44, 45, 46, 47] (by decide +kernel) (by decide +kernel)) (goodIn_sub (fun _ h => List.mem_cons_of_mem _ (List.mem_append_right _ h)) (by decide +kernel))
set_option maxRecDepth 20000 in
theorem gX2_setReaper_X2_requireCaller : GoodIn wsX2_setReaper (va_wsS RX2 54 yX2_requireCaller wsX2_requireCaller) := goodIn_app (goodIn_of _ (by decide +kernel)) ggX2_setReaper_X2_requireCaller
theorem dX2_setReaper_0 : decode cX2_setReaper 0 = .ok (.aload_n 0, 1) := by decide +kernel
theorem dX2_setReaper_1 : decode cX2_setReaper 1 = .ok (.iload_n 1, 1) := by decide +kernel
theorem dX2_setReaper_2 : decode cX2_setReaper 2 = .ok (.invokevirtual 32, 3) := by decide +kernel
theorem dX2_setReaper_5 : decode cX2_setReaper 5 = .ok (.astore_n 3, 1) := by decide +kernel
theorem dX2_setReaper_6 : decode cX2_setReaper 6 = .ok (.aload_n 3, 1) := by decide +kernel
theorem dX2_setReaper_7 : decode cX2_setReaper 7 = .ok (.invokestatic 54, 3) := by decide +kernel
theorem dX2_setReaper_10 : decode cX2_setReaper 10 = .ok (.aload_n 3, 1) := by decide +kernel
theorem dX2_setReaper_11 : decode cX2_setReaper 11 = .ok (.getfield 119, 3) := by decide +kernel
theorem dX2_setReaper_14 : decode cX2_setReaper 14 = .ok (.istore 4, 2) := by decide +kernel
theorem dX2_setReaper_16 : decode cX2_setReaper 16 = .ok (.aload_n 3, 1) := by decide +kernel
theorem dX2_setReaper_17 : decode cX2_setReaper 17 = .ok (.iload_n 2, 1) := by decide +kernel
theorem dX2_setReaper_18 : decode cX2_setReaper 18 = .ok (.putfield 119, 3) := by decide +kernel
theorem dX2_setReaper_21 : decode cX2_setReaper 21 = .ok (.iload 4, 2) := by decide +kernel
theorem dX2_setReaper_23 : decode cX2_setReaper 23 = .ok (.ireturn, 1) := by decide +kernel
set_option maxRecDepth 20000 in
theorem ggX2_openTerminal_X2_find : GoodIn wsX2_openTerminal wsX2_find := goodIn_ca (goodIn_r _ [11, 12, 13, 14, 15, 16, 10, 17, 18, 37, 38, 39, 40] (by decide +kernel) (by decide +kernel)) (goodIn_sub (fun _ h => List.mem_cons_of_mem _ (List.mem_append_right _ h)) (by decide +kernel))
set_option maxRecDepth 20000 in
theorem gX2_openTerminal_X2_find : GoodIn wsX2_openTerminal (wsV RX2 32 RX2 yX2_find wsX2_find) := goodIn_app (goodIn_of _ (by decide +kernel)) ggX2_openTerminal_X2_find
set_option maxRecDepth 20000 in
theorem ggX2_openTerminal_X2_requireCaller : GoodIn wsX2_openTerminal wsX2_requireCaller := goodIn_ca (goodIn_r _ [21, 1, 2, 22, 23, 24, 25, 26, 27, 28, 29, 30, 41, 42, 43, 44, 45, 46, 47, 48, 49, 50, 51, 52, 53, 54, 55, 56, 57, 58, 59, 60] (by decide +kernel) (by decide +kernel)) (goodIn_sub (fun _ h => List.mem_cons_of_mem _ (List.mem_append_left _ (List.mem_append_right _ h))) (by decide +kernel))
set_option maxRecDepth 20000 in
theorem gX2_openTerminal_X2_requireCaller : GoodIn wsX2_openTerminal (va_wsS RX2 54 yX2_requireCaller wsX2_requireCaller) := goodIn_app (goodIn_of _ (by decide +kernel)) ggX2_openTerminal_X2_requireCaller
set_option maxRecDepth 20000 in
theorem ggX2_openTerminal_X1_leadsSession : GoodIn wsX2_openTerminal wsX1_leadsSession := goodIn_r _ [34, 35, 36, 41, 42, 43, 44, 45, 46, 47, 48, 49, 50, 51, 52, 53, 54, 55, 56, 57, 58, 59, 60] (by decide +kernel) (by decide +kernel)
set_option maxRecDepth 20000 in
theorem gX2_openTerminal_X1_leadsSession : GoodIn wsX2_openTerminal (wsV RX2 123 RX1 yX1_leadsSession wsX1_leadsSession) := goodIn_app (goodIn_of _ (by decide +kernel)) ggX2_openTerminal_X1_leadsSession
theorem dX2_openTerminal_0 : decode cX2_openTerminal 0 = .ok (.aload_n 0, 1) := by decide +kernel
theorem dX2_openTerminal_1 : decode cX2_openTerminal 1 = .ok (.iload_n 1, 1) := by decide +kernel
theorem dX2_openTerminal_2 : decode cX2_openTerminal 2 = .ok (.invokevirtual 32, 3) := by decide +kernel
theorem dX2_openTerminal_5 : decode cX2_openTerminal 5 = .ok (.astore_n 2, 1) := by decide +kernel
theorem dX2_openTerminal_6 : decode cX2_openTerminal 6 = .ok (.aload_n 2, 1) := by decide +kernel
theorem dX2_openTerminal_7 : decode cX2_openTerminal 7 = .ok (.invokestatic 54, 3) := by decide +kernel
theorem dX2_openTerminal_10 : decode cX2_openTerminal 10 = .ok (.aload_n 2, 1) := by decide +kernel
theorem dX2_openTerminal_11 : decode cX2_openTerminal 11 = .ok (.invokevirtual 123, 3) := by decide +kernel
theorem dX2_openTerminal_14 : decode cX2_openTerminal 14 = .ok (.ifCond .eq 11, 3) := by decide +kernel
theorem dX2_openTerminal_17 : decode cX2_openTerminal 17 = .ok (.aload_n 0, 1) := by decide +kernel
theorem dX2_openTerminal_18 : decode cX2_openTerminal 18 = .ok (.getfield 22, 3) := by decide +kernel
theorem dX2_openTerminal_21 : decode cX2_openTerminal 21 = .ok (.iconst (-1), 1) := by decide +kernel
theorem dX2_openTerminal_22 : decode cX2_openTerminal 22 = .ok (.if_icmp .eq 13, 3) := by decide +kernel
theorem dX2_openTerminal_25 : decode cX2_openTerminal 25 = .ok (.new 43, 3) := by decide +kernel
theorem dX2_openTerminal_28 : decode cX2_openTerminal 28 = .ok (.dup, 1) := by decide +kernel
theorem dX2_openTerminal_29 : decode cX2_openTerminal 29 = .ok (.ldc 127, 2) := by decide +kernel
theorem dX2_openTerminal_31 : decode cX2_openTerminal 31 = .ok (.invokespecial 47, 3) := by decide +kernel
theorem dX2_openTerminal_34 : decode cX2_openTerminal 34 = .ok (.athrow, 1) := by decide +kernel
theorem dX2_openTerminal_35 : decode cX2_openTerminal 35 = .ok (.aload_n 0, 1) := by decide +kernel
theorem dX2_openTerminal_36 : decode cX2_openTerminal 36 = .ok (.aload_n 2, 1) := by decide +kernel
theorem dX2_openTerminal_37 : decode cX2_openTerminal 37 = .ok (.getfield 106, 3) := by decide +kernel
theorem dX2_openTerminal_40 : decode cX2_openTerminal 40 = .ok (.putfield 22, 3) := by decide +kernel
theorem dX2_openTerminal_43 : decode cX2_openTerminal 43 = .ok (.aload_n 0, 1) := by decide +kernel
theorem dX2_openTerminal_44 : decode cX2_openTerminal 44 = .ok (.aload_n 2, 1) := by decide +kernel
theorem dX2_openTerminal_45 : decode cX2_openTerminal 45 = .ok (.getfield 103, 3) := by decide +kernel
theorem dX2_openTerminal_48 : decode cX2_openTerminal 48 = .ok (.putfield 26, 3) := by decide +kernel
theorem dX2_openTerminal_51 : decode cX2_openTerminal 51 = .ok (.return_, 1) := by decide +kernel
set_option maxRecDepth 20000 in
theorem ggX2_setForeground_X2_find : GoodIn wsX2_setForeground wsX2_find := goodIn_ca (goodIn_r _ [10, 11, 12, 13, 14, 15, 9, 16, 17, 67, 68, 69, 70] (by decide +kernel) (by decide +kernel)) (goodIn_sub (fun _ h => List.mem_cons_of_mem _ (List.mem_append_left _ (List.mem_append_right _ h))) (by decide +kernel))
set_option maxRecDepth 20000 in
theorem gX2_setForeground_X2_find : GoodIn wsX2_setForeground (wsV RX2 32 RX2 yX2_find wsX2_find) := goodIn_app (goodIn_of _ (by decide +kernel)) ggX2_setForeground_X2_find
set_option maxRecDepth 20000 in
theorem ggX2_setForeground_X2_requireNumber : GoodIn wsX2_setForeground wsX2_requireNumber := goodIn_ca (goodIn_r _ [20, 21, 22, 9, 23, 24, 25] (by decide +kernel) (by decide +kernel)) (goodIn_sub (fun _ h => List.mem_cons_of_mem _ (List.mem_append_right _ h)) (by decide +kernel))
set_option maxRecDepth 20000 in
theorem gX2_setForeground_X2_requireNumber : GoodIn wsX2_setForeground (va_wsS RX2 75 yX2_requireNumber wsX2_requireNumber) := goodIn_app (goodIn_of _ (by decide +kernel)) ggX2_setForeground_X2_requireNumber
set_option maxRecDepth 20000 in
theorem ggX2_setForeground_X2_requireCaller : GoodIn wsX2_setForeground wsX2_requireCaller := goodIn_ca (goodIn_r _ [28, 1, 2, 29, 30, 31, 32, 33, 34, 35, 36, 37, 47, 48, 49, 50, 51, 52, 53, 54, 55, 56, 57, 58, 59, 60, 61, 62, 63, 64, 65, 66] (by decide +kernel) (by decide +kernel)) (goodIn_sub (fun _ h => List.mem_cons_of_mem _ (List.mem_append_left _ (List.mem_append_left _ (List.mem_append_right _ h)))) (by decide +kernel))
set_option maxRecDepth 20000 in
theorem gX2_setForeground_X2_requireCaller : GoodIn wsX2_setForeground (va_wsS RX2 54 yX2_requireCaller wsX2_requireCaller) := goodIn_app (goodIn_of _ (by decide +kernel)) ggX2_setForeground_X2_requireCaller
set_option maxRecDepth 20000 in
theorem ggX2_setForeground_X2_hasMemberIn : GoodIn wsX2_setForeground wsX2_hasMemberIn := goodIn_r _ [41, 17, 3, 42, 43, 44, 33, 45, 46, 35, 67, 68, 69, 70, 47, 48, 49, 50, 51, 52, 53, 54, 55, 56, 57, 58, 59, 60, 61, 62, 63, 64, 65, 66] (by decide +kernel) (by decide +kernel)
set_option maxRecDepth 20000 in
theorem gX2_setForeground_X2_hasMemberIn : GoodIn wsX2_setForeground (wsV RX2 113 RX2 yX2_hasMemberIn wsX2_hasMemberIn) := goodIn_app (goodIn_of _ (by decide +kernel)) ggX2_setForeground_X2_hasMemberIn
theorem dX2_setForeground_0 : decode cX2_setForeground 0 = .ok (.aload_n 0, 1) := by decide +kernel
theorem dX2_setForeground_1 : decode cX2_setForeground 1 = .ok (.iload_n 1, 1) := by decide +kernel
theorem dX2_setForeground_2 : decode cX2_setForeground 2 = .ok (.invokevirtual 32, 3) := by decide +kernel
theorem dX2_setForeground_5 : decode cX2_setForeground 5 = .ok (.astore_n 3, 1) := by decide +kernel
theorem dX2_setForeground_6 : decode cX2_setForeground 6 = .ok (.iload_n 2, 1) := by decide +kernel
theorem dX2_setForeground_7 : decode cX2_setForeground 7 = .ok (.invokestatic 75, 3) := by decide +kernel
theorem dX2_setForeground_10 : decode cX2_setForeground 10 = .ok (.aload_n 3, 1) := by decide +kernel
theorem dX2_setForeground_11 : decode cX2_setForeground 11 = .ok (.invokestatic 54, 3) := by decide +kernel
theorem dX2_setForeground_14 : decode cX2_setForeground 14 = .ok (.aload_n 3, 1) := by decide +kernel
theorem dX2_setForeground_15 : decode cX2_setForeground 15 = .ok (.getfield 106, 3) := by decide +kernel
theorem dX2_setForeground_18 : decode cX2_setForeground 18 = .ok (.aload_n 0, 1) := by decide +kernel
theorem dX2_setForeground_19 : decode cX2_setForeground 19 = .ok (.getfield 22, 3) := by decide +kernel
theorem dX2_setForeground_22 : decode cX2_setForeground 22 = .ok (.if_icmp .ne 15, 3) := by decide +kernel
theorem dX2_setForeground_25 : decode cX2_setForeground 25 = .ok (.aload_n 0, 1) := by decide +kernel
theorem dX2_setForeground_26 : decode cX2_setForeground 26 = .ok (.iload_n 2, 1) := by decide +kernel
theorem dX2_setForeground_27 : decode cX2_setForeground 27 = .ok (.aload_n 3, 1) := by decide +kernel
theorem dX2_setForeground_28 : decode cX2_setForeground 28 = .ok (.getfield 106, 3) := by decide +kernel
theorem dX2_setForeground_31 : decode cX2_setForeground 31 = .ok (.invokevirtual 113, 3) := by decide +kernel
theorem dX2_setForeground_34 : decode cX2_setForeground 34 = .ok (.ifCond .ne 13, 3) := by decide +kernel
theorem dX2_setForeground_37 : decode cX2_setForeground 37 = .ok (.new 43, 3) := by decide +kernel
theorem dX2_setForeground_40 : decode cX2_setForeground 40 = .ok (.dup, 1) := by decide +kernel
theorem dX2_setForeground_41 : decode cX2_setForeground 41 = .ok (.ldc 129, 2) := by decide +kernel
theorem dX2_setForeground_43 : decode cX2_setForeground 43 = .ok (.invokespecial 47, 3) := by decide +kernel
theorem dX2_setForeground_46 : decode cX2_setForeground 46 = .ok (.athrow, 1) := by decide +kernel
theorem dX2_setForeground_47 : decode cX2_setForeground 47 = .ok (.aload_n 0, 1) := by decide +kernel
theorem dX2_setForeground_48 : decode cX2_setForeground 48 = .ok (.getfield 26, 3) := by decide +kernel
theorem dX2_setForeground_51 : decode cX2_setForeground 51 = .ok (.istore 4, 2) := by decide +kernel
theorem dX2_setForeground_53 : decode cX2_setForeground 53 = .ok (.aload_n 0, 1) := by decide +kernel
theorem dX2_setForeground_54 : decode cX2_setForeground 54 = .ok (.iload_n 2, 1) := by decide +kernel
theorem dX2_setForeground_55 : decode cX2_setForeground 55 = .ok (.putfield 26, 3) := by decide +kernel
theorem dX2_setForeground_58 : decode cX2_setForeground 58 = .ok (.iload 4, 2) := by decide +kernel
theorem dX2_setForeground_60 : decode cX2_setForeground 60 = .ok (.ireturn, 1) := by decide +kernel
set_option maxRecDepth 20000 in
theorem ggX2_send_X2_find : GoodIn wsX2_send wsX2_find := goodIn_ca (goodIn_r _ [6, 7, 8, 9, 10, 11, 5, 12, 13, 219, 220, 221, 222] (by decide +kernel) (by decide +kernel)) (goodIn_sub (fun _ h => List.mem_cons_of_mem _ (List.mem_append_left _ (List.mem_append_right _ h))) (by decide +kernel))
set_option maxRecDepth 20000 in
theorem gX2_send_X2_find : GoodIn wsX2_send (wsV RX2 32 RX2 yX2_find wsX2_find) := goodIn_app (goodIn_of _ (by decide +kernel)) ggX2_send_X2_find
set_option maxRecDepth 20000 in
theorem ggX2_send_X2_requireRange : GoodIn wsX2_send wsX2_requireRange := goodIn_ca (goodIn_r _ [16, 17, 18] (by decide +kernel) (by decide +kernel)) (goodIn_sub (fun _ h => List.mem_cons_of_mem _ (List.mem_append_right _ h)) (by decide +kernel))
set_option maxRecDepth 20000 in
theorem gX2_send_X2_requireRange : GoodIn wsX2_send (va_wsS RX2 60 yX2_requireRange wsX2_requireRange) := goodIn_app (goodIn_of _ (by decide +kernel)) ggX2_send_X2_requireRange
set_option maxRecDepth 20000 in
theorem ggX2_send_X0_append : GoodIn wsX2_send wsX0_append := goodIn_r _ [23, 24, 25, 26, 27, 28, 29, 30, 31, 32, 33, 34, 35, 36, 37, 38, 39, 40, 41, 42, 43, 44, 45, 46, 223, 224, 225, 226, 227, 228] (by decide +kernel) (by decide +kernel)
set_option maxRecDepth 20000 in
theorem gX2_send_X0_append : GoodIn wsX2_send (wsV RX2 131 RX0 yX0_append wsX0_append) := goodIn_app (goodIn_of _ (by decide +kernel)) ggX2_send_X0_append
set_option maxRecDepth 20000 in
theorem ggX2_send_X2_processEvents : GoodIn wsX2_send wsX2_processEvents := goodIn_r _ [50, 51, 1, 52, 53, 54, 55, 56, 57, 58, 22, 59, 60, 24, 25, 27, 61, 62, 9, 10, 11, 5, 12, 13, 63, 64, 65, 66, 67, 68, 69, 70, 71, 72, 73, 74, 75, 76, 77, 78, 79, 80, 81, 82, 83, 84, 85, 86, 87, 88, 89, 90, 91, 92, 93, 94, 95, 96, 97, 98, 99, 100, 101, 102, 103, 104, 105, 106, 107, 108, 109, 110, 111, 112, 113, 114, 115, 116, 117, 118, 119, 19, 20, 21, 23, 26, 28, 29, 30, 31, 32, 33, 34, 35, 36, 37, 38, 39, 40, 41, 42, 43, 44, 45, 46, 120, 121, 122, 123, 124, 125, 126, 127, 128, 129, 130, 131, 132, 133, 134, 135, 136, 137, 138, 139, 140, 141, 142, 143, 144, 145, 146, 147, 148, 149, 150, 151, 152, 153, 154, 155, 156, 157, 158, 159, 160, 161, 162, 163, 164, 165, 166, 167, 168, 169, 170, 171, 172, 173, 174, 175, 176, 177, 178, 179, 180, 181, 182, 183, 184, 185, 186, 187, 188, 189, 190, 191, 192, 193, 194, 195, 196, 197, 198, 199, 200, 201, 202, 203, 204, 205, 206, 207, 208, 209, 210, 211, 212, 213, 214, 215, 216, 217, 218, 219, 220, 221, 222, 223, 224, 225, 226, 227, 228, 229, 230, 231, 232, 233, 234, 235, 236, 237, 238, 239, 240, 241, 242, 243, 244, 245, 246, 247, 248] (by decide +kernel) (by decide +kernel)
set_option maxRecDepth 20000 in
theorem gX2_send_X2_processEvents : GoodIn wsX2_send (wsV RX2 68 RX2 yX2_processEvents wsX2_processEvents) := goodIn_app (goodIn_of _ (by decide +kernel)) ggX2_send_X2_processEvents
theorem dX2_send_0 : decode cX2_send 0 = .ok (.aload_n 0, 1) := by decide +kernel
theorem dX2_send_1 : decode cX2_send 1 = .ok (.iload_n 1, 1) := by decide +kernel
theorem dX2_send_2 : decode cX2_send 2 = .ok (.invokevirtual 32, 3) := by decide +kernel
theorem dX2_send_5 : decode cX2_send 5 = .ok (.pop, 1) := by decide +kernel
theorem dX2_send_6 : decode cX2_send 6 = .ok (.iload_n 2, 1) := by decide +kernel
theorem dX2_send_7 : decode cX2_send 7 = .ok (.iconst 0, 1) := by decide +kernel
theorem dX2_send_8 : decode cX2_send 8 = .ok (.bipush 8, 2) := by decide +kernel
theorem dX2_send_10 : decode cX2_send 10 = .ok (.invokestatic 60, 3) := by decide +kernel
theorem dX2_send_13 : decode cX2_send 13 = .ok (.aload_n 0, 1) := by decide +kernel
theorem dX2_send_14 : decode cX2_send 14 = .ok (.getfield 18, 3) := by decide +kernel
theorem dX2_send_17 : decode cX2_send 17 = .ok (.iload_n 2, 1) := by decide +kernel
theorem dX2_send_18 : decode cX2_send 18 = .ok (.iload_n 1, 1) := by decide +kernel
theorem dX2_send_19 : decode cX2_send 19 = .ok (.invokevirtual 131, 3) := by decide +kernel
theorem dX2_send_22 : decode cX2_send 22 = .ok (.aload_n 0, 1) := by decide +kernel
theorem dX2_send_23 : decode cX2_send 23 = .ok (.invokevirtual 68, 3) := by decide +kernel
theorem dX2_send_26 : decode cX2_send 26 = .ok (.return_, 1) := by decide +kernel
set_option maxRecDepth 20000 in
theorem ggX2_sendToGroup_X2_requireNumber : GoodIn wsX2_sendToGroup wsX2_requireNumber := goodIn_ca (goodIn_r _ [4, 5, 6, 3, 7, 8, 9] (by decide +kernel) (by decide +kernel)) (goodIn_sub (fun _ h => List.mem_cons_of_mem _ (List.mem_append_right _ h)) (by decide +kernel))
set_option maxRecDepth 20000 in
theorem gX2_sendToGroup_X2_requireNumber : GoodIn wsX2_sendToGroup (va_wsS RX2 75 yX2_requireNumber wsX2_requireNumber) := goodIn_app (goodIn_of _ (by decide +kernel)) ggX2_sendToGroup_X2_requireNumber
set_option maxRecDepth 20000 in
theorem ggX2_sendToGroup_X2_requireRange : GoodIn wsX2_sendToGroup wsX2_requireRange := goodIn_ca (goodIn_r _ [7, 8, 9] (by decide +kernel) (by decide +kernel)) (goodIn_sub (fun _ h => List.mem_cons_of_mem _ (List.mem_append_right _ h)) (by decide +kernel))
set_option maxRecDepth 20000 in
theorem gX2_sendToGroup_X2_requireRange : GoodIn wsX2_sendToGroup (va_wsS RX2 60 yX2_requireRange wsX2_requireRange) := goodIn_app (goodIn_of _ (by decide +kernel)) ggX2_sendToGroup_X2_requireRange
set_option maxRecDepth 20000 in
theorem ggX2_sendToGroup_X2_appendForMembers : GoodIn wsX2_sendToGroup wsX2_appendForMembers := goodIn_r _ [13, 14, 15, 16, 17, 18, 19, 20, 21, 22, 23, 24, 25, 26, 27, 28, 29, 30, 31, 32, 33, 34, 35, 36, 37, 38, 39, 40, 41, 42, 43, 44, 45, 46, 47, 48, 49, 50, 51, 216, 217, 218, 219, 220, 221, 222, 223, 224, 225, 226, 227, 228, 229, 230, 231, 232, 233, 234, 235, 236, 237, 238, 239, 240, 241, 242, 243, 244, 245] (by decide +kernel) (by decide +kernel)
set_option maxRecDepth 20000 in
theorem gX2_sendToGroup_X2_appendForMembers : GoodIn wsX2_sendToGroup (wsV RX2 134 RX2 yX2_appendForMembers wsX2_appendForMembers) := goodIn_app (goodIn_of _ (by decide +kernel)) ggX2_sendToGroup_X2_appendForMembers
set_option maxRecDepth 20000 in
theorem ggX2_sendToGroup_X2_processEvents : GoodIn wsX2_sendToGroup wsX2_processEvents := goodIn_r _ [55, 56, 15, 57, 58, 16, 59, 60, 61, 62, 27, 63, 64, 29, 30, 32, 65, 66, 67, 68, 69, 3, 70, 14, 71, 72, 73, 74, 75, 76, 77, 78, 20, 79, 80, 81, 82, 83, 84, 85, 86, 87, 88, 89, 90, 91, 92, 93, 94, 95, 96, 97, 23, 98, 99, 100, 101, 102, 103, 104, 105, 106, 107, 108, 109, 110, 111, 112, 113, 114, 115, 116, 117, 118, 119, 120, 121, 122, 123, 124, 125, 24, 25, 26, 28, 31, 33, 34, 35, 36, 37, 38, 39, 40, 41, 42, 43, 44, 45, 46, 47, 48, 49, 50, 51, 126, 127, 128, 129, 130, 131, 132, 133, 134, 135, 136, 137, 138, 139, 140, 141, 142, 143, 144, 145, 146, 147, 148, 149, 150, 151, 152, 153, 154, 155, 156, 157, 158, 159, 160, 161, 162, 22, 163, 164, 165, 166, 167, 168, 169, 170, 171, 172, 173, 174, 175, 176, 177, 178, 179, 180, 181, 182, 183, 184, 10, 11, 12, 13, 17, 18, 19, 21, 185, 186, 187, 188, 189, 190, 191, 192, 193, 194, 195, 196, 197, 198, 199, 200, 201, 202, 203, 204, 205, 206, 207, 208, 209, 210, 211, 212, 213, 214, 215, 216, 217, 218, 219, 240, 241, 242, 243, 244, 245, 220, 221, 222, 223, 224, 225, 226, 227, 228, 229, 230, 231, 232, 233, 234, 235, 236, 237, 238, 239] (by decide +kernel) (by decide +kernel)
set_option maxRecDepth 20000 in
theorem gX2_sendToGroup_X2_processEvents : GoodIn wsX2_sendToGroup (wsV RX2 68 RX2 yX2_processEvents wsX2_processEvents) := goodIn_app (goodIn_of _ (by decide +kernel)) ggX2_sendToGroup_X2_processEvents
theorem dX2_sendToGroup_0 : decode cX2_sendToGroup 0 = .ok (.iload_n 1, 1) := by decide +kernel
theorem dX2_sendToGroup_1 : decode cX2_sendToGroup 1 = .ok (.invokestatic 75, 3) := by decide +kernel
theorem dX2_sendToGroup_4 : decode cX2_sendToGroup 4 = .ok (.iload_n 2, 1) := by decide +kernel
theorem dX2_sendToGroup_5 : decode cX2_sendToGroup 5 = .ok (.iconst 0, 1) := by decide +kernel
theorem dX2_sendToGroup_6 : decode cX2_sendToGroup 6 = .ok (.bipush 8, 2) := by decide +kernel
theorem dX2_sendToGroup_8 : decode cX2_sendToGroup 8 = .ok (.invokestatic 60, 3) := by decide +kernel
theorem dX2_sendToGroup_11 : decode cX2_sendToGroup 11 = .ok (.aload_n 0, 1) := by decide +kernel
theorem dX2_sendToGroup_12 : decode cX2_sendToGroup 12 = .ok (.iload_n 1, 1) := by decide +kernel
theorem dX2_sendToGroup_13 : decode cX2_sendToGroup 13 = .ok (.iload_n 2, 1) := by decide +kernel
theorem dX2_sendToGroup_14 : decode cX2_sendToGroup 14 = .ok (.invokevirtual 134, 3) := by decide +kernel
theorem dX2_sendToGroup_17 : decode cX2_sendToGroup 17 = .ok (.istore_n 3, 1) := by decide +kernel
theorem dX2_sendToGroup_18 : decode cX2_sendToGroup 18 = .ok (.aload_n 0, 1) := by decide +kernel
theorem dX2_sendToGroup_19 : decode cX2_sendToGroup 19 = .ok (.invokevirtual 68, 3) := by decide +kernel
theorem dX2_sendToGroup_22 : decode cX2_sendToGroup 22 = .ok (.iload_n 3, 1) := by decide +kernel
