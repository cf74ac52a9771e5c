theorem dL_part_0 : decode cL_part 0 = .ok (.iload_n 1, 1) := by decide +kernel
theorem dL_part_1 : decode cL_part 1 = .ok (.aload_n 0, 1) := by decide +kernel
theorem dL_part_2 : decode cL_part 2 = .ok (.arraylength, 1) := by decide +kernel
theorem dL_part_3 : decode cL_part 3 = .ok (.if_icmp .ge 9, 3) := by decide +kernel
theorem dL_part_6 : decode cL_part 6 = .ok (.aload_n 0, 1) := by decide +kernel
theorem dL_part_7 : decode cL_part 7 = .ok (.iload_n 1, 1) := by decide +kernel
theorem dL_part_8 : decode cL_part 8 = .ok (.iaload, 1) := by decide +kernel
theorem dL_part_9 : decode cL_part 9 = .ok (.goto 15, 3) := by decide +kernel
theorem dL_part_12 : decode cL_part 12 = .ok (.sipush 163, 3) := by decide +kernel
theorem dL_part_15 : decode cL_part 15 = .ok (.iload_n 1, 1) := by decide +kernel
theorem dL_part_16 : decode cL_part 16 = .ok (.imul, 1) := by decide +kernel
theorem dL_part_17 : decode cL_part 17 = .ok (.bipush 53, 2) := by decide +kernel
theorem dL_part_19 : decode cL_part 19 = .ok (.iload_n 1, 1) := by decide +kernel
theorem dL_part_20 : decode cL_part 20 = .ok (.imul, 1) := by decide +kernel
theorem dL_part_21 : decode cL_part 21 = .ok (.iload_n 1, 1) := by decide +kernel
theorem dL_part_22 : decode cL_part 22 = .ok (.imul, 1) := by decide +kernel
theorem dL_part_23 : decode cL_part 23 = .ok (.iadd, 1) := by decide +kernel
theorem dL_part_24 : decode cL_part 24 = .ok (.istore_n 3, 1) := by decide +kernel
theorem dL_part_25 : decode cL_part 25 = .ok (.iload_n 3, 1) := by decide +kernel
theorem dL_part_26 : decode cL_part 26 = .ok (.ldc 7, 2) := by decide +kernel
theorem dL_part_28 : decode cL_part 28 = .ok (.iand, 1) := by decide +kernel
theorem dL_part_29 : decode cL_part 29 = .ok (.iload_n 2, 1) := by decide +kernel
theorem dL_part_30 : decode cL_part 30 = .ok (.irem, 1) := by decide +kernel
theorem dL_part_31 : decode cL_part 31 = .ok (.ireturn, 1) := by decide +kernel
theorem dL_forks_0 : decode cL_forks 0 = .ok (.aload_n 0, 1) := by decide +kernel
theorem dL_forks_1 : decode cL_forks 1 = .ok (.iload_n 1, 1) := by decide +kernel
theorem dL_forks_2 : decode cL_forks 2 = .ok (.invokevirtual 8, 3) := by decide +kernel
theorem dL_forks_5 : decode cL_forks 5 = .ok (.ireturn, 1) := by decide +kernel
theorem dL_forks_6 : decode cL_forks 6 = .ok (.astore_n 2, 1) := by decide +kernel
theorem dL_forks_7 : decode cL_forks 7 = .ok (.bipush (-30), 2) := by decide +kernel
theorem dL_forks_9 : decode cL_forks 9 = .ok (.ireturn, 1) := by decide +kernel
theorem dL_forks_10 : decode cL_forks 10 = .ok (.astore_n 2, 1) := by decide +kernel
theorem dL_forks_11 : decode cL_forks 11 = .ok (.bipush (-10), 2) := by decide +kernel
theorem dL_forks_13 : decode cL_forks 13 = .ok (.ireturn, 1) := by decide +kernel
theorem dL_execs_0 : decode cL_execs 0 = .ok (.aload_n 0, 1) := by decide +kernel
theorem dL_execs_1 : decode cL_execs 1 = .ok (.iload_n 1, 1) := by decide +kernel
theorem dL_execs_2 : decode cL_execs 2 = .ok (.invokevirtual 18, 3) := by decide +kernel
theorem dL_execs_5 : decode cL_execs 5 = .ok (.ireturn, 1) := by decide +kernel
theorem dL_execs_6 : decode cL_execs 6 = .ok (.astore_n 2, 1) := by decide +kernel
theorem dL_execs_7 : decode cL_execs 7 = .ok (.bipush (-30), 2) := by decide +kernel
theorem dL_execs_9 : decode cL_execs 9 = .ok (.ireturn, 1) := by decide +kernel
theorem dL_execs_10 : decode cL_execs 10 = .ok (.astore_n 2, 1) := by decide +kernel
theorem dL_execs_11 : decode cL_execs 11 = .ok (.bipush (-10), 2) := by decide +kernel
theorem dL_execs_13 : decode cL_execs 13 = .ok (.ireturn, 1) := by decide +kernel
theorem dL_left_0 : decode cL_left 0 = .ok (.aload_n 0, 1) := by decide +kernel
theorem dL_left_1 : decode cL_left 1 = .ok (.iload_n 1, 1) := by decide +kernel
theorem dL_left_2 : decode cL_left 2 = .ok (.iload_n 2, 1) := by decide +kernel
theorem dL_left_3 : decode cL_left 3 = .ok (.invokevirtual 21, 3) := by decide +kernel
theorem dL_left_6 : decode cL_left 6 = .ok (.iconst 0, 1) := by decide +kernel
theorem dL_left_7 : decode cL_left 7 = .ok (.ireturn, 1) := by decide +kernel
theorem dL_exits_0 : decode cL_exits 0 = .ok (.aload_n 0, 1) := by decide +kernel
theorem dL_exits_1 : decode cL_exits 1 = .ok (.iload_n 1, 1) := by decide +kernel
theorem dL_exits_2 : decode cL_exits 2 = .ok (.iload_n 2, 1) := by decide +kernel
theorem dL_exits_3 : decode cL_exits 3 = .ok (.invokestatic 25, 3) := by decide +kernel
theorem dL_exits_6 : decode cL_exits 6 = .ok (.ireturn, 1) := by decide +kernel
theorem dL_exits_7 : decode cL_exits 7 = .ok (.astore_n 3, 1) := by decide +kernel
theorem dL_exits_8 : decode cL_exits 8 = .ok (.bipush (-30), 2) := by decide +kernel
theorem dL_exits_10 : decode cL_exits 10 = .ok (.ireturn, 1) := by decide +kernel
theorem dL_exits_11 : decode cL_exits 11 = .ok (.astore_n 3, 1) := by decide +kernel
theorem dL_exits_12 : decode cL_exits 12 = .ok (.bipush (-20), 2) := by decide +kernel
theorem dL_exits_14 : decode cL_exits 14 = .ok (.ireturn, 1) := by decide +kernel
theorem dL_exits_15 : decode cL_exits 15 = .ok (.astore_n 3, 1) := by decide +kernel
theorem dL_exits_16 : decode cL_exits 16 = .ok (.bipush (-10), 2) := by decide +kernel
theorem dL_exits_18 : decode cL_exits 18 = .ok (.ireturn, 1) := by decide +kernel
theorem dL_waitsAny_0 : decode cL_waitsAny 0 = .ok (.aload_n 0, 1) := by decide +kernel
theorem dL_waitsAny_1 : decode cL_waitsAny 1 = .ok (.iload_n 1, 1) := by decide +kernel
theorem dL_waitsAny_2 : decode cL_waitsAny 2 = .ok (.iload_n 2, 1) := by decide +kernel
theorem dL_waitsAny_3 : decode cL_waitsAny 3 = .ok (.invokevirtual 33, 3) := by decide +kernel
theorem dL_waitsAny_6 : decode cL_waitsAny 6 = .ok (.ifCond .eq 7, 3) := by decide +kernel
theorem dL_waitsAny_9 : decode cL_waitsAny 9 = .ok (.iconst 1, 1) := by decide +kernel
theorem dL_waitsAny_10 : decode cL_waitsAny 10 = .ok (.goto 4, 3) := by decide +kernel
theorem dL_waitsAny_13 : decode cL_waitsAny 13 = .ok (.iconst 0, 1) := by decide +kernel
theorem dL_waitsAny_14 : decode cL_waitsAny 14 = .ok (.ireturn, 1) := by decide +kernel
theorem dL_waitsAny_15 : decode cL_waitsAny 15 = .ok (.astore_n 3, 1) := by decide +kernel
theorem dL_waitsAny_16 : decode cL_waitsAny 16 = .ok (.bipush (-30), 2) := by decide +kernel
theorem dL_waitsAny_18 : decode cL_waitsAny 18 = .ok (.ireturn, 1) := by decide +kernel
theorem dL_waitsAny_19 : decode cL_waitsAny 19 = .ok (.astore_n 3, 1) := by decide +kernel
theorem dL_waitsAny_20 : decode cL_waitsAny 20 = .ok (.bipush (-10), 2) := by decide +kernel
theorem dL_waitsAny_22 : decode cL_waitsAny 22 = .ok (.ireturn, 1) := by decide +kernel
theorem dL_waitsFor_0 : decode cL_waitsFor 0 = .ok (.aload_n 0, 1) := by decide +kernel
theorem dL_waitsFor_1 : decode cL_waitsFor 1 = .ok (.iload_n 1, 1) := by decide +kernel
theorem dL_waitsFor_2 : decode cL_waitsFor 2 = .ok (.iload_n 2, 1) := by decide +kernel
theorem dL_waitsFor_3 : decode cL_waitsFor 3 = .ok (.iload_n 3, 1) := by decide +kernel
theorem dL_waitsFor_4 : decode cL_waitsFor 4 = .ok (.invokevirtual 37, 3) := by decide +kernel
theorem dL_waitsFor_7 : decode cL_waitsFor 7 = .ok (.ifCond .eq 7, 3) := by decide +kernel
theorem dL_waitsFor_10 : decode cL_waitsFor 10 = .ok (.iconst 1, 1) := by decide +kernel
theorem dL_waitsFor_11 : decode cL_waitsFor 11 = .ok (.goto 4, 3) := by decide +kernel
theorem dL_waitsFor_14 : decode cL_waitsFor 14 = .ok (.iconst 0, 1) := by decide +kernel
theorem dL_waitsFor_15 : decode cL_waitsFor 15 = .ok (.ireturn, 1) := by decide +kernel
theorem dL_waitsFor_16 : decode cL_waitsFor 16 = .ok (.astore 4, 2) := by decide +kernel
theorem dL_waitsFor_18 : decode cL_waitsFor 18 = .ok (.bipush (-30), 2) := by decide +kernel
theorem dL_waitsFor_20 : decode cL_waitsFor 20 = .ok (.ireturn, 1) := by decide +kernel
theorem dL_waitsFor_21 : decode cL_waitsFor 21 = .ok (.astore 4, 2) := by decide +kernel
theorem dL_waitsFor_23 : decode cL_waitsFor 23 = .ok (.bipush (-20), 2) := by decide +kernel
theorem dL_waitsFor_25 : decode cL_waitsFor 25 = .ok (.ireturn, 1) := by decide +kernel
theorem dL_waitsFor_26 : decode cL_waitsFor 26 = .ok (.astore 4, 2) := by decide +kernel
theorem dL_waitsFor_28 : decode cL_waitsFor 28 = .ok (.bipush (-10), 2) := by decide +kernel
theorem dL_waitsFor_30 : decode cL_waitsFor 30 = .ok (.ireturn, 1) := by decide +kernel
theorem dL_setsAction_0 : decode cL_setsAction 0 = .ok (.aload_n 0, 1) := by decide +kernel
theorem dL_setsAction_1 : decode cL_setsAction 1 = .ok (.iload_n 1, 1) := by decide +kernel
theorem dL_setsAction_2 : decode cL_setsAction 2 = .ok (.iload_n 2, 1) := by decide +kernel
theorem dL_setsAction_3 : decode cL_setsAction 3 = .ok (.iload_n 3, 1) := by decide +kernel
theorem dL_setsAction_4 : decode cL_setsAction 4 = .ok (.invokevirtual 41, 3) := by decide +kernel
theorem dL_setsAction_7 : decode cL_setsAction 7 = .ok (.ireturn, 1) := by decide +kernel
theorem dL_setsAction_8 : decode cL_setsAction 8 = .ok (.astore 4, 2) := by decide +kernel
theorem dL_setsAction_10 : decode cL_setsAction 10 = .ok (.bipush (-30), 2) := by decide +kernel
theorem dL_setsAction_12 : decode cL_setsAction 12 = .ok (.ireturn, 1) := by decide +kernel
theorem dL_setsAction_13 : decode cL_setsAction 13 = .ok (.astore 4, 2) := by decide +kernel
theorem dL_setsAction_15 : decode cL_setsAction 15 = .ok (.bipush (-20), 2) := by decide +kernel
theorem dL_setsAction_17 : decode cL_setsAction 17 = .ok (.ireturn, 1) := by decide +kernel
theorem dL_setsAction_18 : decode cL_setsAction 18 = .ok (.astore 4, 2) := by decide +kernel
theorem dL_setsAction_20 : decode cL_setsAction 20 = .ok (.bipush (-10), 2) := by decide +kernel
theorem dL_setsAction_22 : decode cL_setsAction 22 = .ok (.ireturn, 1) := by decide +kernel
theorem dL_setsMask_0 : decode cL_setsMask 0 = .ok (.aload_n 0, 1) := by decide +kernel
theorem dL_setsMask_1 : decode cL_setsMask 1 = .ok (.iload_n 1, 1) := by decide +kernel
theorem dL_setsMask_2 : decode cL_setsMask 2 = .ok (.iload_n 2, 1) := by decide +kernel
theorem dL_setsMask_3 : decode cL_setsMask 3 = .ok (.invokevirtual 45, 3) := by decide +kernel
theorem dL_setsMask_6 : decode cL_setsMask 6 = .ok (.ireturn, 1) := by decide +kernel
theorem dL_setsMask_7 : decode cL_setsMask 7 = .ok (.astore_n 3, 1) := by decide +kernel
theorem dL_setsMask_8 : decode cL_setsMask 8 = .ok (.bipush (-30), 2) := by decide +kernel
theorem dL_setsMask_10 : decode cL_setsMask 10 = .ok (.ireturn, 1) := by decide +kernel
theorem dL_setsMask_11 : decode cL_setsMask 11 = .ok (.astore_n 3, 1) := by decide +kernel
theorem dL_setsMask_12 : decode cL_setsMask 12 = .ok (.bipush (-20), 2) := by decide +kernel
theorem dL_setsMask_14 : decode cL_setsMask 14 = .ok (.ireturn, 1) := by decide +kernel
theorem dL_setsMask_15 : decode cL_setsMask 15 = .ok (.astore_n 3, 1) := by decide +kernel
theorem dL_setsMask_16 : decode cL_setsMask 16 = .ok (.bipush (-10), 2) := by decide +kernel
theorem dL_setsMask_18 : decode cL_setsMask 18 = .ok (.ireturn, 1) := by decide +kernel
theorem dL_begun_0 : decode cL_begun 0 = .ok (.aload_n 0, 1) := by decide +kernel
theorem dL_begun_1 : decode cL_begun 1 = .ok (.iload_n 1, 1) := by decide +kernel
theorem dL_begun_2 : decode cL_begun 2 = .ok (.invokevirtual 49, 3) := by decide +kernel
theorem dL_begun_5 : decode cL_begun 5 = .ok (.iconst 0, 1) := by decide +kernel
theorem dL_begun_6 : decode cL_begun 6 = .ok (.ireturn, 1) := by decide +kernel
theorem dL_begins_0 : decode cL_begins 0 = .ok (.aload_n 0, 1) := by decide +kernel
theorem dL_begins_1 : decode cL_begins 1 = .ok (.iload_n 1, 1) := by decide +kernel
theorem dL_begins_2 : decode cL_begins 2 = .ok (.invokestatic 53, 3) := by decide +kernel
theorem dL_begins_5 : decode cL_begins 5 = .ok (.ireturn, 1) := by decide +kernel
theorem dL_begins_6 : decode cL_begins 6 = .ok (.astore_n 2, 1) := by decide +kernel
theorem dL_begins_7 : decode cL_begins 7 = .ok (.bipush (-30), 2) := by decide +kernel
theorem dL_begins_9 : decode cL_begins 9 = .ok (.ireturn, 1) := by decide +kernel
theorem dL_begins_10 : decode cL_begins 10 = .ok (.astore_n 2, 1) := by decide +kernel
theorem dL_begins_11 : decode cL_begins 11 = .ok (.bipush (-10), 2) := by decide +kernel
theorem dL_begins_13 : decode cL_begins 13 = .ok (.ireturn, 1) := by decide +kernel
theorem dL_setsGroup_0 : decode cL_setsGroup 0 = .ok (.aload_n 0, 1) := by decide +kernel
theorem dL_setsGroup_1 : decode cL_setsGroup 1 = .ok (.iload_n 1, 1) := by decide +kernel
theorem dL_setsGroup_2 : decode cL_setsGroup 2 = .ok (.iload_n 2, 1) := by decide +kernel
theorem dL_setsGroup_3 : decode cL_setsGroup 3 = .ok (.iload_n 3, 1) := by decide +kernel
theorem dL_setsGroup_4 : decode cL_setsGroup 4 = .ok (.invokevirtual 57, 3) := by decide +kernel
theorem dL_setsGroup_7 : decode cL_setsGroup 7 = .ok (.ireturn, 1) := by decide +kernel
theorem dL_setsGroup_8 : decode cL_setsGroup 8 = .ok (.astore 4, 2) := by decide +kernel
theorem dL_setsGroup_10 : decode cL_setsGroup 10 = .ok (.bipush (-30), 2) := by decide +kernel
theorem dL_setsGroup_12 : decode cL_setsGroup 12 = .ok (.ireturn, 1) := by decide +kernel
theorem dL_setsGroup_13 : decode cL_setsGroup 13 = .ok (.astore 4, 2) := by decide +kernel
theorem dL_setsGroup_15 : decode cL_setsGroup 15 = .ok (.bipush (-20), 2) := by decide +kernel
theorem dL_setsGroup_17 : decode cL_setsGroup 17 = .ok (.ireturn, 1) := by decide +kernel
theorem dL_setsGroup_18 : decode cL_setsGroup 18 = .ok (.astore 4, 2) := by decide +kernel
theorem dL_setsGroup_20 : decode cL_setsGroup 20 = .ok (.bipush (-10), 2) := by decide +kernel
theorem dL_setsGroup_22 : decode cL_setsGroup 22 = .ok (.ireturn, 1) := by decide +kernel
theorem dL_setsReaper_0 : decode cL_setsReaper 0 = .ok (.aload_n 0, 1) := by decide +kernel
theorem dL_setsReaper_1 : decode cL_setsReaper 1 = .ok (.iload_n 1, 1) := by decide +kernel
theorem dL_setsReaper_2 : decode cL_setsReaper 2 = .ok (.iload_n 2, 1) := by decide +kernel
theorem dL_setsReaper_3 : decode cL_setsReaper 3 = .ok (.invokevirtual 60, 3) := by decide +kernel
theorem dL_setsReaper_6 : decode cL_setsReaper 6 = .ok (.ifCond .eq 7, 3) := by decide +kernel
theorem dL_setsReaper_9 : decode cL_setsReaper 9 = .ok (.iconst 1, 1) := by decide +kernel
theorem dL_setsReaper_10 : decode cL_setsReaper 10 = .ok (.goto 4, 3) := by decide +kernel
theorem dL_setsReaper_13 : decode cL_setsReaper 13 = .ok (.iconst 0, 1) := by decide +kernel
theorem dL_setsReaper_14 : decode cL_setsReaper 14 = .ok (.ireturn, 1) := by decide +kernel
theorem dL_setsReaper_15 : decode cL_setsReaper 15 = .ok (.astore_n 3, 1) := by decide +kernel
theorem dL_setsReaper_16 : decode cL_setsReaper 16 = .ok (.bipush (-30), 2) := by decide +kernel
theorem dL_setsReaper_18 : decode cL_setsReaper 18 = .ok (.ireturn, 1) := by decide +kernel
theorem dL_setsReaper_19 : decode cL_setsReaper 19 = .ok (.astore_n 3, 1) := by decide +kernel
theorem dL_setsReaper_20 : decode cL_setsReaper 20 = .ok (.bipush (-10), 2) := by decide +kernel
theorem dL_setsReaper_22 : decode cL_setsReaper 22 = .ok (.ireturn, 1) := by decide +kernel
theorem dL_opened_0 : decode cL_opened 0 = .ok (.aload_n 0, 1) := by decide +kernel
theorem dL_opened_1 : decode cL_opened 1 = .ok (.iload_n 1, 1) := by decide +kernel
theorem dL_opened_2 : decode cL_opened 2 = .ok (.invokevirtual 63, 3) := by decide +kernel
theorem dL_opened_5 : decode cL_opened 5 = .ok (.iconst 0, 1) := by decide +kernel
theorem dL_opened_6 : decode cL_opened 6 = .ok (.ireturn, 1) := by decide +kernel
theorem dL_opens_0 : decode cL_opens 0 = .ok (.aload_n 0, 1) := by decide +kernel
theorem dL_opens_1 : decode cL_opens 1 = .ok (.iload_n 1, 1) := by decide +kernel
theorem dL_opens_2 : decode cL_opens 2 = .ok (.invokestatic 66, 3) := by decide +kernel
theorem dL_opens_5 : decode cL_opens 5 = .ok (.ireturn, 1) := by decide +kernel
theorem dL_opens_6 : decode cL_opens 6 = .ok (.astore_n 2, 1) := by decide +kernel
theorem dL_opens_7 : decode cL_opens 7 = .ok (.bipush (-30), 2) := by decide +kernel
theorem dL_opens_9 : decode cL_opens 9 = .ok (.ireturn, 1) := by decide +kernel
theorem dL_opens_10 : decode cL_opens 10 = .ok (.astore_n 2, 1) := by decide +kernel
theorem dL_opens_11 : decode cL_opens 11 = .ok (.bipush (-10), 2) := by decide +kernel
theorem dL_opens_13 : decode cL_opens 13 = .ok (.ireturn, 1) := by decide +kernel
theorem dL_setsForeground_0 : decode cL_setsForeground 0 = .ok (.aload_n 0, 1) := by decide +kernel
theorem dL_setsForeground_1 : decode cL_setsForeground 1 = .ok (.iload_n 1, 1) := by decide +kernel
theorem dL_setsForeground_2 : decode cL_setsForeground 2 = .ok (.iload_n 2, 1) := by decide +kernel
theorem dL_setsForeground_3 : decode cL_setsForeground 3 = .ok (.invokevirtual 69, 3) := by decide +kernel
theorem dL_setsForeground_6 : decode cL_setsForeground 6 = .ok (.ireturn, 1) := by decide +kernel
theorem dL_setsForeground_7 : decode cL_setsForeground 7 = .ok (.astore_n 3, 1) := by decide +kernel
theorem dL_setsForeground_8 : decode cL_setsForeground 8 = .ok (.bipush (-30), 2) := by decide +kernel
theorem dL_setsForeground_10 : decode cL_setsForeground 10 = .ok (.ireturn, 1) := by decide +kernel
theorem dL_setsForeground_11 : decode cL_setsForeground 11 = .ok (.astore_n 3, 1) := by decide +kernel
theorem dL_setsForeground_12 : decode cL_setsForeground 12 = .ok (.bipush (-20), 2) := by decide +kernel
theorem dL_setsForeground_14 : decode cL_setsForeground 14 = .ok (.ireturn, 1) := by decide +kernel
theorem dL_setsForeground_15 : decode cL_setsForeground 15 = .ok (.astore_n 3, 1) := by decide +kernel
theorem dL_setsForeground_16 : decode cL_setsForeground 16 = .ok (.bipush (-10), 2) := by decide +kernel
theorem dL_setsForeground_18 : decode cL_setsForeground 18 = .ok (.ireturn, 1) := by decide +kernel
theorem dL_sent_0 : decode cL_sent 0 = .ok (.aload_n 0, 1) := by decide +kernel
theorem dL_sent_1 : decode cL_sent 1 = .ok (.iload_n 1, 1) := by decide +kernel
theorem dL_sent_2 : decode cL_sent 2 = .ok (.iload_n 2, 1) := by decide +kernel
theorem dL_sent_3 : decode cL_sent 3 = .ok (.invokevirtual 72, 3) := by decide +kernel
theorem dL_sent_6 : decode cL_sent 6 = .ok (.iconst 0, 1) := by decide +kernel
theorem dL_sent_7 : decode cL_sent 7 = .ok (.ireturn, 1) := by decide +kernel
theorem dL_sends_0 : decode cL_sends 0 = .ok (.aload_n 0, 1) := by decide +kernel
theorem dL_sends_1 : decode cL_sends 1 = .ok (.iload_n 1, 1) := by decide +kernel
theorem dL_sends_2 : decode cL_sends 2 = .ok (.iload_n 2, 1) := by decide +kernel
theorem dL_sends_3 : decode cL_sends 3 = .ok (.invokestatic 75, 3) := by decide +kernel
theorem dL_sends_6 : decode cL_sends 6 = .ok (.ireturn, 1) := by decide +kernel
theorem dL_sends_7 : decode cL_sends 7 = .ok (.astore_n 3, 1) := by decide +kernel
theorem dL_sends_8 : decode cL_sends 8 = .ok (.bipush (-30), 2) := by decide +kernel
theorem dL_sends_10 : decode cL_sends 10 = .ok (.ireturn, 1) := by decide +kernel
theorem dL_sends_11 : decode cL_sends 11 = .ok (.astore_n 3, 1) := by decide +kernel
theorem dL_sends_12 : decode cL_sends 12 = .ok (.bipush (-20), 2) := by decide +kernel
theorem dL_sends_14 : decode cL_sends 14 = .ok (.ireturn, 1) := by decide +kernel
theorem dL_types_0 : decode cL_types 0 = .ok (.aload_n 0, 1) := by decide +kernel
theorem dL_types_1 : decode cL_types 1 = .ok (.iload_n 1, 1) := by decide +kernel
theorem dL_types_2 : decode cL_types 2 = .ok (.invokevirtual 78, 3) := by decide +kernel
theorem dL_types_5 : decode cL_types 5 = .ok (.ireturn, 1) := by decide +kernel
theorem dL_types_6 : decode cL_types 6 = .ok (.astore_n 2, 1) := by decide +kernel
theorem dL_types_7 : decode cL_types 7 = .ok (.bipush (-10), 2) := by decide +kernel
theorem dL_types_9 : decode cL_types 9 = .ok (.ireturn, 1) := by decide +kernel
theorem dL_hangs_0 : decode cL_hangs 0 = .ok (.aload_n 0, 1) := by decide +kernel
theorem dL_hangs_1 : decode cL_hangs 1 = .ok (.invokevirtual 82, 3) := by decide +kernel
theorem dL_hangs_4 : decode cL_hangs 4 = .ok (.ireturn, 1) := by decide +kernel
theorem dL_hangs_5 : decode cL_hangs 5 = .ok (.astore_n 1, 1) := by decide +kernel
theorem dL_hangs_6 : decode cL_hangs 6 = .ok (.bipush (-10), 2) := by decide +kernel
theorem dL_hangs_8 : decode cL_hangs 8 = .ok (.ireturn, 1) := by decide +kernel
theorem dL_isMember_0 : decode cL_isMember 0 = .ok (.aload_n 0, 1) := by decide +kernel
theorem dL_isMember_1 : decode cL_isMember 1 = .ok (.iload_n 1, 1) := by decide +kernel
theorem dL_isMember_2 : decode cL_isMember 2 = .ok (.invokevirtual 86, 3) := by decide +kernel
theorem dL_isMember_5 : decode cL_isMember 5 = .ok (.ifCond .eq 25, 3) := by decide +kernel
theorem dL_isMember_8 : decode cL_isMember 8 = .ok (.aload_n 0, 1) := by decide +kernel
theorem dL_isMember_9 : decode cL_isMember 9 = .ok (.iload_n 1, 1) := by decide +kernel
theorem dL_isMember_10 : decode cL_isMember 10 = .ok (.invokevirtual 90, 3) := by decide +kernel
theorem dL_isMember_13 : decode cL_isMember 13 = .ok (.iconst 3, 1) := by decide +kernel
theorem dL_isMember_14 : decode cL_isMember 14 = .ok (.if_icmp .eq 16, 3) := by decide +kernel
theorem dL_isMember_17 : decode cL_isMember 17 = .ok (.aload_n 0, 1) := by decide +kernel
theorem dL_isMember_18 : decode cL_isMember 18 = .ok (.iload_n 1, 1) := by decide +kernel
theorem dL_isMember_19 : decode cL_isMember 19 = .ok (.invokevirtual 93, 3) := by decide +kernel
theorem dL_isMember_22 : decode cL_isMember 22 = .ok (.iload_n 2, 1) := by decide +kernel
theorem dL_isMember_23 : decode cL_isMember 23 = .ok (.if_icmp .ne 7, 3) := by decide +kernel
theorem dL_isMember_26 : decode cL_isMember 26 = .ok (.iconst 1, 1) := by decide +kernel
theorem dL_isMember_27 : decode cL_isMember 27 = .ok (.goto 4, 3) := by decide +kernel
theorem dL_isMember_30 : decode cL_isMember 30 = .ok (.iconst 0, 1) := by decide +kernel
theorem dL_isMember_31 : decode cL_isMember 31 = .ok (.ireturn, 1) := by decide +kernel
theorem dL_members_0 : decode cL_members 0 = .ok (.iconst 0, 1) := by decide +kernel
theorem dL_members_1 : decode cL_members 1 = .ok (.istore_n 2, 1) := by decide +kernel
theorem dL_members_2 : decode cL_members 2 = .ok (.iconst 1, 1) := by decide +kernel
theorem dL_members_3 : decode cL_members 3 = .ok (.istore_n 3, 1) := by decide +kernel
theorem dL_members_4 : decode cL_members 4 = .ok (.iload_n 3, 1) := by decide +kernel
theorem dL_members_5 : decode cL_members 5 = .ok (.bipush 41, 2) := by decide +kernel
theorem dL_members_7 : decode cL_members 7 = .ok (.if_icmp .ge 26, 3) := by decide +kernel
theorem dL_members_10 : decode cL_members 10 = .ok (.iload_n 2, 1) := by decide +kernel
theorem dL_members_11 : decode cL_members 11 = .ok (.aload_n 0, 1) := by decide +kernel
theorem dL_members_12 : decode cL_members 12 = .ok (.iload_n 3, 1) := by decide +kernel
theorem dL_members_13 : decode cL_members 13 = .ok (.iload_n 1, 1) := by decide +kernel
theorem dL_members_14 : decode cL_members 14 = .ok (.invokestatic 96, 3) := by decide +kernel
theorem dL_members_17 : decode cL_members 17 = .ok (.ifCond .eq 7, 3) := by decide +kernel
theorem dL_members_20 : decode cL_members 20 = .ok (.iconst 1, 1) := by decide +kernel
theorem dL_members_21 : decode cL_members 21 = .ok (.goto 4, 3) := by decide +kernel
theorem dL_members_24 : decode cL_members 24 = .ok (.iconst 0, 1) := by decide +kernel
theorem dL_members_25 : decode cL_members 25 = .ok (.iadd, 1) := by decide +kernel
theorem dL_members_26 : decode cL_members 26 = .ok (.istore_n 2, 1) := by decide +kernel
theorem dL_members_27 : decode cL_members 27 = .ok (.iinc 3 1, 3) := by decide +kernel
theorem dL_members_30 : decode cL_members 30 = .ok (.goto (-26), 3) := by decide +kernel
theorem dL_members_33 : decode cL_members 33 = .ok (.iload_n 2, 1) := by decide +kernel
theorem dL_members_34 : decode cL_members 34 = .ok (.ireturn, 1) := by decide +kernel
theorem dL_isSound_0 : decode cL_isSound 0 = .ok (.aload_n 0, 1) := by decide +kernel
theorem dL_isSound_1 : decode cL_isSound 1 = .ok (.iload_n 1, 1) := by decide +kernel
theorem dL_isSound_2 : decode cL_isSound 2 = .ok (.invokevirtual 90, 3) := by decide +kernel
theorem dL_isSound_5 : decode cL_isSound 5 = .ok (.istore_n 2, 1) := by decide +kernel
theorem dL_isSound_6 : decode cL_isSound 6 = .ok (.aload_n 0, 1) := by decide +kernel
theorem dL_isSound_7 : decode cL_isSound 7 = .ok (.iload_n 1, 1) := by decide +kernel
theorem dL_isSound_8 : decode cL_isSound 8 = .ok (.invokevirtual 100, 3) := by decide +kernel
theorem dL_isSound_11 : decode cL_isSound 11 = .ok (.istore_n 3, 1) := by decide +kernel
theorem dL_isSound_12 : decode cL_isSound 12 = .ok (.aload_n 0, 1) := by decide +kernel
theorem dL_isSound_13 : decode cL_isSound 13 = .ok (.iload_n 3, 1) := by decide +kernel
theorem dL_isSound_14 : decode cL_isSound 14 = .ok (.invokevirtual 86, 3) := by decide +kernel
theorem dL_isSound_17 : decode cL_isSound 17 = .ok (.ifCond .eq 30, 3) := by decide +kernel
theorem dL_isSound_20 : decode cL_isSound 20 = .ok (.iload_n 3, 1) := by decide +kernel
theorem dL_isSound_21 : decode cL_isSound 21 = .ok (.iload_n 1, 1) := by decide +kernel
theorem dL_isSound_22 : decode cL_isSound 22 = .ok (.if_icmp .eq 25, 3) := by decide +kernel
theorem dL_isSound_25 : decode cL_isSound 25 = .ok (.aload_n 0, 1) := by decide +kernel
theorem dL_isSound_26 : decode cL_isSound 26 = .ok (.iload_n 3, 1) := by decide +kernel
theorem dL_isSound_27 : decode cL_isSound 27 = .ok (.invokevirtual 90, 3) := by decide +kernel
theorem dL_isSound_30 : decode cL_isSound 30 = .ok (.iconst 3, 1) := by decide +kernel
theorem dL_isSound_31 : decode cL_isSound 31 = .ok (.if_icmp .eq 16, 3) := by decide +kernel
theorem dL_isSound_34 : decode cL_isSound 34 = .ok (.iload_n 2, 1) := by decide +kernel
theorem dL_isSound_35 : decode cL_isSound 35 = .ok (.ifCond .lt 12, 3) := by decide +kernel
theorem dL_isSound_38 : decode cL_isSound 38 = .ok (.iload_n 2, 1) := by decide +kernel
theorem dL_isSound_39 : decode cL_isSound 39 = .ok (.iconst 4, 1) := by decide +kernel
theorem dL_isSound_40 : decode cL_isSound 40 = .ok (.if_icmp .ge 7, 3) := by decide +kernel
theorem dL_isSound_43 : decode cL_isSound 43 = .ok (.iconst 1, 1) := by decide +kernel
theorem dL_isSound_44 : decode cL_isSound 44 = .ok (.goto 4, 3) := by decide +kernel
theorem dL_isSound_47 : decode cL_isSound 47 = .ok (.iconst 0, 1) := by decide +kernel
theorem dL_isSound_48 : decode cL_isSound 48 = .ok (.istore 4, 2) := by decide +kernel
theorem dL_isSound_50 : decode cL_isSound 50 = .ok (.aload_n 0, 1) := by decide +kernel
theorem dL_isSound_51 : decode cL_isSound 51 = .ok (.iload_n 1, 1) := by decide +kernel
theorem dL_isSound_52 : decode cL_isSound 52 = .ok (.invokevirtual 103, 3) := by decide +kernel
theorem dL_isSound_55 : decode cL_isSound 55 = .ok (.istore 5, 2) := by decide +kernel
theorem dL_isSound_57 : decode cL_isSound 57 = .ok (.iload 4, 2) := by decide +kernel
theorem dL_isSound_59 : decode cL_isSound 59 = .ok (.ifCond .eq 50, 3) := by decide +kernel
theorem dL_isSound_62 : decode cL_isSound 62 = .ok (.iload 5, 2) := by decide +kernel
theorem dL_isSound_64 : decode cL_isSound 64 = .ok (.bipush 36, 2) := by decide +kernel
theorem dL_isSound_66 : decode cL_isSound 66 = .ok (.iand, 1) := by decide +kernel
theorem dL_isSound_67 : decode cL_isSound 67 = .ok (.ifCond .ne 42, 3) := by decide +kernel
theorem dL_isSound_70 : decode cL_isSound 70 = .ok (.iload 5, 2) := by decide +kernel
theorem dL_isSound_72 : decode cL_isSound 72 = .ok (.sipush 512, 3) := by decide +kernel
theorem dL_isSound_75 : decode cL_isSound 75 = .ok (.if_icmp .ge 34, 3) := by decide +kernel
theorem dL_isSound_78 : decode cL_isSound 78 = .ok (.iload 5, 2) := by decide +kernel
theorem dL_isSound_80 : decode cL_isSound 80 = .ok (.ifCond .lt 29, 3) := by decide +kernel
theorem dL_isSound_83 : decode cL_isSound 83 = .ok (.iload_n 2, 1) := by decide +kernel
theorem dL_isSound_84 : decode cL_isSound 84 = .ok (.iconst 3, 1) := by decide +kernel
theorem dL_isSound_85 : decode cL_isSound 85 = .ok (.if_icmp .ne 8, 3) := by decide +kernel
theorem dL_isSound_88 : decode cL_isSound 88 = .ok (.iload 5, 2) := by decide +kernel
theorem dL_isSound_90 : decode cL_isSound 90 = .ok (.ifCond .ne 19, 3) := by decide +kernel
theorem dL_isSound_93 : decode cL_isSound 93 = .ok (.iload 5, 2) := by decide +kernel
theorem dL_isSound_95 : decode cL_isSound 95 = .ok (.sipush 192, 3) := by decide +kernel
theorem dL_isSound_98 : decode cL_isSound 98 = .ok (.iand, 1) := by decide +kernel
theorem dL_isSound_99 : decode cL_isSound 99 = .ok (.sipush 192, 3) := by decide +kernel
theorem dL_isSound_102 : decode cL_isSound 102 = .ok (.if_icmp .eq 7, 3) := by decide +kernel
theorem dL_isSound_105 : decode cL_isSound 105 = .ok (.iconst 1, 1) := by decide +kernel
theorem dL_isSound_106 : decode cL_isSound 106 = .ok (.goto 4, 3) := by decide +kernel
theorem dL_isSound_109 : decode cL_isSound 109 = .ok (.iconst 0, 1) := by decide +kernel
theorem dL_isSound_110 : decode cL_isSound 110 = .ok (.istore 4, 2) := by decide +kernel
theorem dL_isSound_112 : decode cL_isSound 112 = .ok (.iload 4, 2) := by decide +kernel
theorem dL_isSound_114 : decode cL_isSound 114 = .ok (.ifCond .eq 32, 3) := by decide +kernel
theorem dL_isSound_117 : decode cL_isSound 117 = .ok (.iload_n 2, 1) := by decide +kernel
theorem dL_isSound_118 : decode cL_isSound 118 = .ok (.iconst 3, 1) := by decide +kernel
theorem dL_isSound_119 : decode cL_isSound 119 = .ok (.if_icmp .ne 8, 3) := by decide +kernel
theorem dL_isSound_122 : decode cL_isSound 122 = .ok (.iload_n 3, 1) := by decide +kernel
theorem dL_isSound_123 : decode cL_isSound 123 = .ok (.iconst 1, 1) := by decide +kernel
theorem dL_isSound_124 : decode cL_isSound 124 = .ok (.if_icmp .eq 22, 3) := by decide +kernel
theorem dL_isSound_127 : decode cL_isSound 127 = .ok (.iload_n 2, 1) := by decide +kernel
theorem dL_isSound_128 : decode cL_isSound 128 = .ok (.iconst 2, 1) := by decide +kernel
theorem dL_isSound_129 : decode cL_isSound 129 = .ok (.if_icmp .ne 13, 3) := by decide +kernel
theorem dL_isSound_132 : decode cL_isSound 132 = .ok (.iload 5, 2) := by decide +kernel
theorem dL_isSound_134 : decode cL_isSound 134 = .ok (.bipush 7, 2) := by decide +kernel
theorem dL_isSound_136 : decode cL_isSound 136 = .ok (.ishr, 1) := by decide +kernel
theorem dL_isSound_137 : decode cL_isSound 137 = .ok (.iconst 1, 1) := by decide +kernel
theorem dL_isSound_138 : decode cL_isSound 138 = .ok (.iand, 1) := by decide +kernel
theorem dL_isSound_139 : decode cL_isSound 139 = .ok (.ifCond .ne 7, 3) := by decide +kernel
theorem dL_isSound_142 : decode cL_isSound 142 = .ok (.iconst 1, 1) := by decide +kernel
theorem dL_isSound_143 : decode cL_isSound 143 = .ok (.goto 4, 3) := by decide +kernel
theorem dL_isSound_146 : decode cL_isSound 146 = .ok (.iconst 0, 1) := by decide +kernel
theorem dL_isSound_147 : decode cL_isSound 147 = .ok (.istore 4, 2) := by decide +kernel
theorem dL_isSound_149 : decode cL_isSound 149 = .ok (.iconst 0, 1) := by decide +kernel
theorem dL_isSound_150 : decode cL_isSound 150 = .ok (.istore 6, 2) := by decide +kernel
theorem dL_isSound_152 : decode cL_isSound 152 = .ok (.iconst 2, 1) := by decide +kernel
theorem dL_isSound_153 : decode cL_isSound 153 = .ok (.istore 7, 2) := by decide +kernel
theorem dL_isSound_155 : decode cL_isSound 155 = .ok (.iload 7, 2) := by decide +kernel
theorem dL_isSound_157 : decode cL_isSound 157 = .ok (.bipush 41, 2) := by decide +kernel
theorem dL_isSound_159 : decode cL_isSound 159 = .ok (.if_icmp .ge 80, 3) := by decide +kernel
theorem dL_isSound_162 : decode cL_isSound 162 = .ok (.iload 6, 2) := by decide +kernel
theorem dL_isSound_164 : decode cL_isSound 164 = .ok (.ifCond .ne 22, 3) := by decide +kernel
theorem dL_isSound_167 : decode cL_isSound 167 = .ok (.aload_n 0, 1) := by decide +kernel
theorem dL_isSound_168 : decode cL_isSound 168 = .ok (.iload 7, 2) := by decide +kernel
theorem dL_isSound_170 : decode cL_isSound 170 = .ok (.invokevirtual 86, 3) := by decide +kernel
theorem dL_isSound_173 : decode cL_isSound 173 = .ok (.ifCond .eq 17, 3) := by decide +kernel
theorem dL_isSound_176 : decode cL_isSound 176 = .ok (.aload_n 0, 1) := by decide +kernel
theorem dL_isSound_177 : decode cL_isSound 177 = .ok (.iload 7, 2) := by decide +kernel
theorem dL_isSound_179 : decode cL_isSound 179 = .ok (.invokevirtual 100, 3) := by decide +kernel
theorem dL_isSound_182 : decode cL_isSound 182 = .ok (.iload_n 1, 1) := by decide +kernel
theorem dL_isSound_183 : decode cL_isSound 183 = .ok (.if_icmp .ne 7, 3) := by decide +kernel
theorem dL_isSound_186 : decode cL_isSound 186 = .ok (.iconst 1, 1) := by decide +kernel
theorem dL_isSound_187 : decode cL_isSound 187 = .ok (.goto 4, 3) := by decide +kernel
theorem dL_isSound_190 : decode cL_isSound 190 = .ok (.iconst 0, 1) := by decide +kernel
theorem dL_isSound_191 : decode cL_isSound 191 = .ok (.istore 6, 2) := by decide +kernel
theorem dL_isSound_193 : decode cL_isSound 193 = .ok (.iload 4, 2) := by decide +kernel
theorem dL_isSound_195 : decode cL_isSound 195 = .ok (.ifCond .eq 35, 3) := by decide +kernel
theorem dL_isSound_198 : decode cL_isSound 198 = .ok (.aload_n 0, 1) := by decide +kernel
theorem dL_isSound_199 : decode cL_isSound 199 = .ok (.iload 7, 2) := by decide +kernel
theorem dL_isSound_201 : decode cL_isSound 201 = .ok (.aload_n 0, 1) := by decide +kernel
theorem dL_isSound_202 : decode cL_isSound 202 = .ok (.iload_n 1, 1) := by decide +kernel
theorem dL_isSound_203 : decode cL_isSound 203 = .ok (.invokevirtual 93, 3) := by decide +kernel
theorem dL_isSound_206 : decode cL_isSound 206 = .ok (.invokestatic 96, 3) := by decide +kernel
theorem dL_isSound_209 : decode cL_isSound 209 = .ok (.ifCond .eq 17, 3) := by decide +kernel
theorem dL_isSound_212 : decode cL_isSound 212 = .ok (.aload_n 0, 1) := by decide +kernel
theorem dL_isSound_213 : decode cL_isSound 213 = .ok (.iload 7, 2) := by decide +kernel
theorem dL_isSound_215 : decode cL_isSound 215 = .ok (.invokevirtual 106, 3) := by decide +kernel
theorem dL_isSound_218 : decode cL_isSound 218 = .ok (.aload_n 0, 1) := by decide +kernel
theorem dL_isSound_219 : decode cL_isSound 219 = .ok (.iload_n 1, 1) := by decide +kernel
theorem dL_isSound_220 : decode cL_isSound 220 = .ok (.invokevirtual 106, 3) := by decide +kernel
theorem dL_isSound_223 : decode cL_isSound 223 = .ok (.if_icmp .ne 7, 3) := by decide +kernel
theorem dL_isSound_226 : decode cL_isSound 226 = .ok (.iconst 1, 1) := by decide +kernel
theorem dL_isSound_227 : decode cL_isSound 227 = .ok (.goto 4, 3) := by decide +kernel
theorem dL_isSound_230 : decode cL_isSound 230 = .ok (.iconst 0, 1) := by decide +kernel
theorem dL_isSound_231 : decode cL_isSound 231 = .ok (.istore 4, 2) := by decide +kernel
theorem dL_isSound_233 : decode cL_isSound 233 = .ok (.iinc 7 1, 3) := by decide +kernel
theorem dL_isSound_236 : decode cL_isSound 236 = .ok (.goto (-81), 3) := by decide +kernel
theorem dL_isSound_239 : decode cL_isSound 239 = .ok (.iload 4, 2) := by decide +kernel
theorem dL_isSound_241 : decode cL_isSound 241 = .ok (.ifCond .eq 27, 3) := by decide +kernel
theorem dL_isSound_244 : decode cL_isSound 244 = .ok (.iload_n 2, 1) := by decide +kernel
theorem dL_isSound_245 : decode cL_isSound 245 = .ok (.iconst 1, 1) := by decide +kernel
theorem dL_isSound_246 : decode cL_isSound 246 = .ok (.if_icmp .ne 8, 3) := by decide +kernel
theorem dL_isSound_249 : decode cL_isSound 249 = .ok (.iload 6, 2) := by decide +kernel
theorem dL_isSound_251 : decode cL_isSound 251 = .ok (.ifCond .eq 17, 3) := by decide +kernel
theorem dL_isSound_254 : decode cL_isSound 254 = .ok (.iload_n 2, 1) := by decide +kernel
theorem dL_isSound_255 : decode cL_isSound 255 = .ok (.iconst 3, 1) := by decide +kernel
theorem dL_isSound_256 : decode cL_isSound 256 = .ok (.if_icmp .ne 8, 3) := by decide +kernel
theorem dL_isSound_259 : decode cL_isSound 259 = .ok (.iload 6, 2) := by decide +kernel
theorem dL_isSound_261 : decode cL_isSound 261 = .ok (.ifCond .ne 7, 3) := by decide +kernel
theorem dL_isSound_264 : decode cL_isSound 264 = .ok (.iconst 1, 1) := by decide +kernel
theorem dL_isSound_265 : decode cL_isSound 265 = .ok (.goto 4, 3) := by decide +kernel
theorem dL_isSound_268 : decode cL_isSound 268 = .ok (.iconst 0, 1) := by decide +kernel
theorem dL_isSound_269 : decode cL_isSound 269 = .ok (.istore 4, 2) := by decide +kernel
theorem dL_isSound_271 : decode cL_isSound 271 = .ok (.aload_n 0, 1) := by decide +kernel
theorem dL_isSound_272 : decode cL_isSound 272 = .ok (.iload_n 1, 1) := by decide +kernel
theorem dL_isSound_273 : decode cL_isSound 273 = .ok (.invokevirtual 109, 3) := by decide +kernel
theorem dL_isSound_276 : decode cL_isSound 276 = .ok (.istore 7, 2) := by decide +kernel
theorem dL_isSound_278 : decode cL_isSound 278 = .ok (.iload 7, 2) := by decide +kernel
theorem dL_isSound_280 : decode cL_isSound 280 = .ok (.ifCond .lt 13, 3) := by decide +kernel
theorem dL_isSound_283 : decode cL_isSound 283 = .ok (.iload 7, 2) := by decide +kernel
theorem dL_isSound_285 : decode cL_isSound 285 = .ok (.iconst 2, 1) := by decide +kernel
theorem dL_isSound_286 : decode cL_isSound 286 = .ok (.if_icmp .gt 7, 3) := by decide +kernel
theorem dL_isSound_289 : decode cL_isSound 289 = .ok (.iconst 1, 1) := by decide +kernel
