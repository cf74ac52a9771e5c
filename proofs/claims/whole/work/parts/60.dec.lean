theorem dL_fork_0 : decode cL_fork 0 = .ok (.aload_n 2, 1) := by decide +kernel
theorem dL_fork_1 : decode cL_fork 1 = .ok (.iconst 0, 1) := by decide +kernel
theorem dL_fork_2 : decode cL_fork 2 = .ok (.aload_n 0, 1) := by decide +kernel
theorem dL_fork_3 : decode cL_fork 3 = .ok (.iload_n 1, 1) := by decide +kernel
theorem dL_fork_4 : decode cL_fork 4 = .ok (.invokevirtual 7, 3) := by decide +kernel
theorem dL_fork_7 : decode cL_fork 7 = .ok (.i2l, 1) := by decide +kernel
theorem dL_fork_8 : decode cL_fork 8 = .ok (.lastore, 1) := by decide +kernel
theorem dL_fork_9 : decode cL_fork 9 = .ok (.goto 9, 3) := by decide +kernel
theorem dL_fork_12 : decode cL_fork 12 = .ok (.astore_n 3, 1) := by decide +kernel
theorem dL_fork_13 : decode cL_fork 13 = .ok (.iconst 1, 1) := by decide +kernel
theorem dL_fork_14 : decode cL_fork 14 = .ok (.ireturn, 1) := by decide +kernel
theorem dL_fork_15 : decode cL_fork 15 = .ok (.astore_n 3, 1) := by decide +kernel
theorem dL_fork_16 : decode cL_fork 16 = .ok (.iconst 2, 1) := by decide +kernel
theorem dL_fork_17 : decode cL_fork 17 = .ok (.ireturn, 1) := by decide +kernel
theorem dL_fork_18 : decode cL_fork 18 = .ok (.iconst 0, 1) := by decide +kernel
theorem dL_fork_19 : decode cL_fork 19 = .ok (.ireturn, 1) := by decide +kernel
theorem dL_exec_0 : decode cL_exec 0 = .ok (.aload_n 2, 1) := by decide +kernel
theorem dL_exec_1 : decode cL_exec 1 = .ok (.iconst 0, 1) := by decide +kernel
theorem dL_exec_2 : decode cL_exec 2 = .ok (.aload_n 0, 1) := by decide +kernel
theorem dL_exec_3 : decode cL_exec 3 = .ok (.iload_n 1, 1) := by decide +kernel
theorem dL_exec_4 : decode cL_exec 4 = .ok (.invokevirtual 17, 3) := by decide +kernel
theorem dL_exec_7 : decode cL_exec 7 = .ok (.i2l, 1) := by decide +kernel
theorem dL_exec_8 : decode cL_exec 8 = .ok (.lastore, 1) := by decide +kernel
theorem dL_exec_9 : decode cL_exec 9 = .ok (.goto 9, 3) := by decide +kernel
theorem dL_exec_12 : decode cL_exec 12 = .ok (.astore_n 3, 1) := by decide +kernel
theorem dL_exec_13 : decode cL_exec 13 = .ok (.iconst 1, 1) := by decide +kernel
theorem dL_exec_14 : decode cL_exec 14 = .ok (.ireturn, 1) := by decide +kernel
theorem dL_exec_15 : decode cL_exec 15 = .ok (.astore_n 3, 1) := by decide +kernel
theorem dL_exec_16 : decode cL_exec 16 = .ok (.iconst 2, 1) := by decide +kernel
theorem dL_exec_17 : decode cL_exec 17 = .ok (.ireturn, 1) := by decide +kernel
theorem dL_exec_18 : decode cL_exec 18 = .ok (.iconst 0, 1) := by decide +kernel
theorem dL_exec_19 : decode cL_exec 19 = .ok (.ireturn, 1) := by decide +kernel
theorem dL_exit_0 : decode cL_exit 0 = .ok (.aload_n 0, 1) := by decide +kernel
theorem dL_exit_1 : decode cL_exit 1 = .ok (.iload_n 1, 1) := by decide +kernel
theorem dL_exit_2 : decode cL_exit 2 = .ok (.iload_n 2, 1) := by decide +kernel
theorem dL_exit_3 : decode cL_exit 3 = .ok (.invokevirtual 20, 3) := by decide +kernel
theorem dL_exit_6 : decode cL_exit 6 = .ok (.goto 12, 3) := by decide +kernel
theorem dL_exit_9 : decode cL_exit 9 = .ok (.astore_n 3, 1) := by decide +kernel
theorem dL_exit_10 : decode cL_exit 10 = .ok (.iconst 1, 1) := by decide +kernel
theorem dL_exit_11 : decode cL_exit 11 = .ok (.ireturn, 1) := by decide +kernel
theorem dL_exit_12 : decode cL_exit 12 = .ok (.astore_n 3, 1) := by decide +kernel
theorem dL_exit_13 : decode cL_exit 13 = .ok (.iconst 2, 1) := by decide +kernel
theorem dL_exit_14 : decode cL_exit 14 = .ok (.ireturn, 1) := by decide +kernel
theorem dL_exit_15 : decode cL_exit 15 = .ok (.astore_n 3, 1) := by decide +kernel
theorem dL_exit_16 : decode cL_exit 16 = .ok (.iconst 3, 1) := by decide +kernel
theorem dL_exit_17 : decode cL_exit 17 = .ok (.ireturn, 1) := by decide +kernel
theorem dL_exit_18 : decode cL_exit 18 = .ok (.iconst 0, 1) := by decide +kernel
theorem dL_exit_19 : decode cL_exit 19 = .ok (.ireturn, 1) := by decide +kernel
theorem dL_waitAny_0 : decode cL_waitAny 0 = .ok (.aload_n 3, 1) := by decide +kernel
theorem dL_waitAny_1 : decode cL_waitAny 1 = .ok (.iconst 0, 1) := by decide +kernel
theorem dL_waitAny_2 : decode cL_waitAny 2 = .ok (.aload_n 0, 1) := by decide +kernel
theorem dL_waitAny_3 : decode cL_waitAny 3 = .ok (.iload_n 1, 1) := by decide +kernel
theorem dL_waitAny_4 : decode cL_waitAny 4 = .ok (.iload_n 2, 1) := by decide +kernel
theorem dL_waitAny_5 : decode cL_waitAny 5 = .ok (.invokevirtual 26, 3) := by decide +kernel
theorem dL_waitAny_8 : decode cL_waitAny 8 = .ok (.ifCond .eq 7, 3) := by decide +kernel
theorem dL_waitAny_11 : decode cL_waitAny 11 = .ok (.lconst 1, 1) := by decide +kernel
theorem dL_waitAny_12 : decode cL_waitAny 12 = .ok (.goto 4, 3) := by decide +kernel
theorem dL_waitAny_15 : decode cL_waitAny 15 = .ok (.lconst 0, 1) := by decide +kernel
theorem dL_waitAny_16 : decode cL_waitAny 16 = .ok (.lastore, 1) := by decide +kernel
theorem dL_waitAny_17 : decode cL_waitAny 17 = .ok (.goto 11, 3) := by decide +kernel
theorem dL_waitAny_20 : decode cL_waitAny 20 = .ok (.astore 4, 2) := by decide +kernel
theorem dL_waitAny_22 : decode cL_waitAny 22 = .ok (.iconst 1, 1) := by decide +kernel
theorem dL_waitAny_23 : decode cL_waitAny 23 = .ok (.ireturn, 1) := by decide +kernel
theorem dL_waitAny_24 : decode cL_waitAny 24 = .ok (.astore 4, 2) := by decide +kernel
theorem dL_waitAny_26 : decode cL_waitAny 26 = .ok (.iconst 2, 1) := by decide +kernel
theorem dL_waitAny_27 : decode cL_waitAny 27 = .ok (.ireturn, 1) := by decide +kernel
theorem dL_waitAny_28 : decode cL_waitAny 28 = .ok (.iconst 0, 1) := by decide +kernel
theorem dL_waitAny_29 : decode cL_waitAny 29 = .ok (.ireturn, 1) := by decide +kernel
theorem dL_waitFor_0 : decode cL_waitFor 0 = .ok (.aload 4, 2) := by decide +kernel
theorem dL_waitFor_2 : decode cL_waitFor 2 = .ok (.iconst 0, 1) := by decide +kernel
theorem dL_waitFor_3 : decode cL_waitFor 3 = .ok (.aload_n 0, 1) := by decide +kernel
theorem dL_waitFor_4 : decode cL_waitFor 4 = .ok (.iload_n 1, 1) := by decide +kernel
theorem dL_waitFor_5 : decode cL_waitFor 5 = .ok (.iload_n 2, 1) := by decide +kernel
theorem dL_waitFor_6 : decode cL_waitFor 6 = .ok (.iload_n 3, 1) := by decide +kernel
theorem dL_waitFor_7 : decode cL_waitFor 7 = .ok (.invokevirtual 30, 3) := by decide +kernel
theorem dL_waitFor_10 : decode cL_waitFor 10 = .ok (.ifCond .eq 7, 3) := by decide +kernel
theorem dL_waitFor_13 : decode cL_waitFor 13 = .ok (.lconst 1, 1) := by decide +kernel
theorem dL_waitFor_14 : decode cL_waitFor 14 = .ok (.goto 4, 3) := by decide +kernel
theorem dL_waitFor_17 : decode cL_waitFor 17 = .ok (.lconst 0, 1) := by decide +kernel
theorem dL_waitFor_18 : decode cL_waitFor 18 = .ok (.lastore, 1) := by decide +kernel
theorem dL_waitFor_19 : decode cL_waitFor 19 = .ok (.goto 15, 3) := by decide +kernel
theorem dL_waitFor_22 : decode cL_waitFor 22 = .ok (.astore 5, 2) := by decide +kernel
theorem dL_waitFor_24 : decode cL_waitFor 24 = .ok (.iconst 1, 1) := by decide +kernel
theorem dL_waitFor_25 : decode cL_waitFor 25 = .ok (.ireturn, 1) := by decide +kernel
theorem dL_waitFor_26 : decode cL_waitFor 26 = .ok (.astore 5, 2) := by decide +kernel
theorem dL_waitFor_28 : decode cL_waitFor 28 = .ok (.iconst 2, 1) := by decide +kernel
theorem dL_waitFor_29 : decode cL_waitFor 29 = .ok (.ireturn, 1) := by decide +kernel
theorem dL_waitFor_30 : decode cL_waitFor 30 = .ok (.astore 5, 2) := by decide +kernel
theorem dL_waitFor_32 : decode cL_waitFor 32 = .ok (.iconst 3, 1) := by decide +kernel
theorem dL_waitFor_33 : decode cL_waitFor 33 = .ok (.ireturn, 1) := by decide +kernel
theorem dL_waitFor_34 : decode cL_waitFor 34 = .ok (.iconst 0, 1) := by decide +kernel
theorem dL_waitFor_35 : decode cL_waitFor 35 = .ok (.ireturn, 1) := by decide +kernel
theorem dL_setAction_0 : decode cL_setAction 0 = .ok (.aload 4, 2) := by decide +kernel
theorem dL_setAction_2 : decode cL_setAction 2 = .ok (.iconst 0, 1) := by decide +kernel
theorem dL_setAction_3 : decode cL_setAction 3 = .ok (.aload_n 0, 1) := by decide +kernel
theorem dL_setAction_4 : decode cL_setAction 4 = .ok (.iload_n 1, 1) := by decide +kernel
theorem dL_setAction_5 : decode cL_setAction 5 = .ok (.iload_n 2, 1) := by decide +kernel
theorem dL_setAction_6 : decode cL_setAction 6 = .ok (.iload_n 3, 1) := by decide +kernel
theorem dL_setAction_7 : decode cL_setAction 7 = .ok (.invokevirtual 34, 3) := by decide +kernel
theorem dL_setAction_10 : decode cL_setAction 10 = .ok (.i2l, 1) := by decide +kernel
theorem dL_setAction_11 : decode cL_setAction 11 = .ok (.lastore, 1) := by decide +kernel
theorem dL_setAction_12 : decode cL_setAction 12 = .ok (.goto 15, 3) := by decide +kernel
theorem dL_setAction_15 : decode cL_setAction 15 = .ok (.astore 5, 2) := by decide +kernel
theorem dL_setAction_17 : decode cL_setAction 17 = .ok (.iconst 1, 1) := by decide +kernel
theorem dL_setAction_18 : decode cL_setAction 18 = .ok (.ireturn, 1) := by decide +kernel
theorem dL_setAction_19 : decode cL_setAction 19 = .ok (.astore 5, 2) := by decide +kernel
theorem dL_setAction_21 : decode cL_setAction 21 = .ok (.iconst 2, 1) := by decide +kernel
theorem dL_setAction_22 : decode cL_setAction 22 = .ok (.ireturn, 1) := by decide +kernel
theorem dL_setAction_23 : decode cL_setAction 23 = .ok (.astore 5, 2) := by decide +kernel
theorem dL_setAction_25 : decode cL_setAction 25 = .ok (.iconst 3, 1) := by decide +kernel
theorem dL_setAction_26 : decode cL_setAction 26 = .ok (.ireturn, 1) := by decide +kernel
theorem dL_setAction_27 : decode cL_setAction 27 = .ok (.iconst 0, 1) := by decide +kernel
theorem dL_setAction_28 : decode cL_setAction 28 = .ok (.ireturn, 1) := by decide +kernel
theorem dL_setMask_0 : decode cL_setMask 0 = .ok (.aload_n 3, 1) := by decide +kernel
theorem dL_setMask_1 : decode cL_setMask 1 = .ok (.iconst 0, 1) := by decide +kernel
theorem dL_setMask_2 : decode cL_setMask 2 = .ok (.aload_n 0, 1) := by decide +kernel
theorem dL_setMask_3 : decode cL_setMask 3 = .ok (.iload_n 1, 1) := by decide +kernel
theorem dL_setMask_4 : decode cL_setMask 4 = .ok (.iload_n 2, 1) := by decide +kernel
theorem dL_setMask_5 : decode cL_setMask 5 = .ok (.invokevirtual 38, 3) := by decide +kernel
theorem dL_setMask_8 : decode cL_setMask 8 = .ok (.i2l, 1) := by decide +kernel
theorem dL_setMask_9 : decode cL_setMask 9 = .ok (.lastore, 1) := by decide +kernel
theorem dL_setMask_10 : decode cL_setMask 10 = .ok (.goto 15, 3) := by decide +kernel
theorem dL_setMask_13 : decode cL_setMask 13 = .ok (.astore 4, 2) := by decide +kernel
theorem dL_setMask_15 : decode cL_setMask 15 = .ok (.iconst 1, 1) := by decide +kernel
theorem dL_setMask_16 : decode cL_setMask 16 = .ok (.ireturn, 1) := by decide +kernel
theorem dL_setMask_17 : decode cL_setMask 17 = .ok (.astore 4, 2) := by decide +kernel
theorem dL_setMask_19 : decode cL_setMask 19 = .ok (.iconst 2, 1) := by decide +kernel
theorem dL_setMask_20 : decode cL_setMask 20 = .ok (.ireturn, 1) := by decide +kernel
theorem dL_setMask_21 : decode cL_setMask 21 = .ok (.astore 4, 2) := by decide +kernel
theorem dL_setMask_23 : decode cL_setMask 23 = .ok (.iconst 3, 1) := by decide +kernel
theorem dL_setMask_24 : decode cL_setMask 24 = .ok (.ireturn, 1) := by decide +kernel
theorem dL_setMask_25 : decode cL_setMask 25 = .ok (.iconst 0, 1) := by decide +kernel
theorem dL_setMask_26 : decode cL_setMask 26 = .ok (.ireturn, 1) := by decide +kernel
theorem dL_beginSession_0 : decode cL_beginSession 0 = .ok (.aload_n 0, 1) := by decide +kernel
theorem dL_beginSession_1 : decode cL_beginSession 1 = .ok (.iload_n 1, 1) := by decide +kernel
theorem dL_beginSession_2 : decode cL_beginSession 2 = .ok (.invokevirtual 42, 3) := by decide +kernel
theorem dL_beginSession_5 : decode cL_beginSession 5 = .ok (.goto 9, 3) := by decide +kernel
theorem dL_beginSession_8 : decode cL_beginSession 8 = .ok (.astore_n 2, 1) := by decide +kernel
theorem dL_beginSession_9 : decode cL_beginSession 9 = .ok (.iconst 1, 1) := by decide +kernel
theorem dL_beginSession_10 : decode cL_beginSession 10 = .ok (.ireturn, 1) := by decide +kernel
theorem dL_beginSession_11 : decode cL_beginSession 11 = .ok (.astore_n 2, 1) := by decide +kernel
theorem dL_beginSession_12 : decode cL_beginSession 12 = .ok (.iconst 2, 1) := by decide +kernel
theorem dL_beginSession_13 : decode cL_beginSession 13 = .ok (.ireturn, 1) := by decide +kernel
theorem dL_beginSession_14 : decode cL_beginSession 14 = .ok (.iconst 0, 1) := by decide +kernel
theorem dL_beginSession_15 : decode cL_beginSession 15 = .ok (.ireturn, 1) := by decide +kernel
theorem dL_setGroup_0 : decode cL_setGroup 0 = .ok (.aload 4, 2) := by decide +kernel
theorem dL_setGroup_2 : decode cL_setGroup 2 = .ok (.iconst 0, 1) := by decide +kernel
theorem dL_setGroup_3 : decode cL_setGroup 3 = .ok (.aload_n 0, 1) := by decide +kernel
theorem dL_setGroup_4 : decode cL_setGroup 4 = .ok (.iload_n 1, 1) := by decide +kernel
theorem dL_setGroup_5 : decode cL_setGroup 5 = .ok (.iload_n 2, 1) := by decide +kernel
theorem dL_setGroup_6 : decode cL_setGroup 6 = .ok (.iload_n 3, 1) := by decide +kernel
theorem dL_setGroup_7 : decode cL_setGroup 7 = .ok (.invokevirtual 46, 3) := by decide +kernel
theorem dL_setGroup_10 : decode cL_setGroup 10 = .ok (.i2l, 1) := by decide +kernel
theorem dL_setGroup_11 : decode cL_setGroup 11 = .ok (.lastore, 1) := by decide +kernel
theorem dL_setGroup_12 : decode cL_setGroup 12 = .ok (.goto 15, 3) := by decide +kernel
theorem dL_setGroup_15 : decode cL_setGroup 15 = .ok (.astore 5, 2) := by decide +kernel
theorem dL_setGroup_17 : decode cL_setGroup 17 = .ok (.iconst 1, 1) := by decide +kernel
theorem dL_setGroup_18 : decode cL_setGroup 18 = .ok (.ireturn, 1) := by decide +kernel
theorem dL_setGroup_19 : decode cL_setGroup 19 = .ok (.astore 5, 2) := by decide +kernel
theorem dL_setGroup_21 : decode cL_setGroup 21 = .ok (.iconst 2, 1) := by decide +kernel
theorem dL_setGroup_22 : decode cL_setGroup 22 = .ok (.ireturn, 1) := by decide +kernel
theorem dL_setGroup_23 : decode cL_setGroup 23 = .ok (.astore 5, 2) := by decide +kernel
theorem dL_setGroup_25 : decode cL_setGroup 25 = .ok (.iconst 3, 1) := by decide +kernel
theorem dL_setGroup_26 : decode cL_setGroup 26 = .ok (.ireturn, 1) := by decide +kernel
theorem dL_setGroup_27 : decode cL_setGroup 27 = .ok (.iconst 0, 1) := by decide +kernel
theorem dL_setGroup_28 : decode cL_setGroup 28 = .ok (.ireturn, 1) := by decide +kernel
theorem dL_setReaper_0 : decode cL_setReaper 0 = .ok (.aload_n 3, 1) := by decide +kernel
theorem dL_setReaper_1 : decode cL_setReaper 1 = .ok (.iconst 0, 1) := by decide +kernel
theorem dL_setReaper_2 : decode cL_setReaper 2 = .ok (.aload_n 0, 1) := by decide +kernel
theorem dL_setReaper_3 : decode cL_setReaper 3 = .ok (.iload_n 1, 1) := by decide +kernel
theorem dL_setReaper_4 : decode cL_setReaper 4 = .ok (.iload_n 2, 1) := by decide +kernel
theorem dL_setReaper_5 : decode cL_setReaper 5 = .ok (.invokevirtual 49, 3) := by decide +kernel
theorem dL_setReaper_8 : decode cL_setReaper 8 = .ok (.ifCond .eq 7, 3) := by decide +kernel
theorem dL_setReaper_11 : decode cL_setReaper 11 = .ok (.lconst 1, 1) := by decide +kernel
theorem dL_setReaper_12 : decode cL_setReaper 12 = .ok (.goto 4, 3) := by decide +kernel
theorem dL_setReaper_15 : decode cL_setReaper 15 = .ok (.lconst 0, 1) := by decide +kernel
theorem dL_setReaper_16 : decode cL_setReaper 16 = .ok (.lastore, 1) := by decide +kernel
theorem dL_setReaper_17 : decode cL_setReaper 17 = .ok (.goto 11, 3) := by decide +kernel
theorem dL_setReaper_20 : decode cL_setReaper 20 = .ok (.astore 4, 2) := by decide +kernel
theorem dL_setReaper_22 : decode cL_setReaper 22 = .ok (.iconst 1, 1) := by decide +kernel
theorem dL_setReaper_23 : decode cL_setReaper 23 = .ok (.ireturn, 1) := by decide +kernel
theorem dL_setReaper_24 : decode cL_setReaper 24 = .ok (.astore 4, 2) := by decide +kernel
theorem dL_setReaper_26 : decode cL_setReaper 26 = .ok (.iconst 2, 1) := by decide +kernel
theorem dL_setReaper_27 : decode cL_setReaper 27 = .ok (.ireturn, 1) := by decide +kernel
theorem dL_setReaper_28 : decode cL_setReaper 28 = .ok (.iconst 0, 1) := by decide +kernel
theorem dL_setReaper_29 : decode cL_setReaper 29 = .ok (.ireturn, 1) := by decide +kernel
theorem dL_openTerminal_0 : decode cL_openTerminal 0 = .ok (.aload_n 0, 1) := by decide +kernel
theorem dL_openTerminal_1 : decode cL_openTerminal 1 = .ok (.iload_n 1, 1) := by decide +kernel
theorem dL_openTerminal_2 : decode cL_openTerminal 2 = .ok (.invokevirtual 52, 3) := by decide +kernel
theorem dL_openTerminal_5 : decode cL_openTerminal 5 = .ok (.goto 9, 3) := by decide +kernel
theorem dL_openTerminal_8 : decode cL_openTerminal 8 = .ok (.astore_n 2, 1) := by decide +kernel
theorem dL_openTerminal_9 : decode cL_openTerminal 9 = .ok (.iconst 1, 1) := by decide +kernel
theorem dL_openTerminal_10 : decode cL_openTerminal 10 = .ok (.ireturn, 1) := by decide +kernel
theorem dL_openTerminal_11 : decode cL_openTerminal 11 = .ok (.astore_n 2, 1) := by decide +kernel
theorem dL_openTerminal_12 : decode cL_openTerminal 12 = .ok (.iconst 2, 1) := by decide +kernel
theorem dL_openTerminal_13 : decode cL_openTerminal 13 = .ok (.ireturn, 1) := by decide +kernel
theorem dL_openTerminal_14 : decode cL_openTerminal 14 = .ok (.iconst 0, 1) := by decide +kernel
theorem dL_openTerminal_15 : decode cL_openTerminal 15 = .ok (.ireturn, 1) := by decide +kernel
theorem dL_setForeground_0 : decode cL_setForeground 0 = .ok (.aload_n 3, 1) := by decide +kernel
theorem dL_setForeground_1 : decode cL_setForeground 1 = .ok (.iconst 0, 1) := by decide +kernel
theorem dL_setForeground_2 : decode cL_setForeground 2 = .ok (.aload_n 0, 1) := by decide +kernel
theorem dL_setForeground_3 : decode cL_setForeground 3 = .ok (.iload_n 1, 1) := by decide +kernel
theorem dL_setForeground_4 : decode cL_setForeground 4 = .ok (.iload_n 2, 1) := by decide +kernel
theorem dL_setForeground_5 : decode cL_setForeground 5 = .ok (.invokevirtual 55, 3) := by decide +kernel
theorem dL_setForeground_8 : decode cL_setForeground 8 = .ok (.i2l, 1) := by decide +kernel
theorem dL_setForeground_9 : decode cL_setForeground 9 = .ok (.lastore, 1) := by decide +kernel
theorem dL_setForeground_10 : decode cL_setForeground 10 = .ok (.goto 15, 3) := by decide +kernel
theorem dL_setForeground_13 : decode cL_setForeground 13 = .ok (.astore 4, 2) := by decide +kernel
theorem dL_setForeground_15 : decode cL_setForeground 15 = .ok (.iconst 1, 1) := by decide +kernel
theorem dL_setForeground_16 : decode cL_setForeground 16 = .ok (.ireturn, 1) := by decide +kernel
theorem dL_setForeground_17 : decode cL_setForeground 17 = .ok (.astore 4, 2) := by decide +kernel
theorem dL_setForeground_19 : decode cL_setForeground 19 = .ok (.iconst 2, 1) := by decide +kernel
theorem dL_setForeground_20 : decode cL_setForeground 20 = .ok (.ireturn, 1) := by decide +kernel
theorem dL_setForeground_21 : decode cL_setForeground 21 = .ok (.astore 4, 2) := by decide +kernel
theorem dL_setForeground_23 : decode cL_setForeground 23 = .ok (.iconst 3, 1) := by decide +kernel
theorem dL_setForeground_24 : decode cL_setForeground 24 = .ok (.ireturn, 1) := by decide +kernel
theorem dL_setForeground_25 : decode cL_setForeground 25 = .ok (.iconst 0, 1) := by decide +kernel
theorem dL_setForeground_26 : decode cL_setForeground 26 = .ok (.ireturn, 1) := by decide +kernel
theorem dL_send_0 : decode cL_send 0 = .ok (.aload_n 0, 1) := by decide +kernel
theorem dL_send_1 : decode cL_send 1 = .ok (.iload_n 1, 1) := by decide +kernel
theorem dL_send_2 : decode cL_send 2 = .ok (.iload_n 2, 1) := by decide +kernel
theorem dL_send_3 : decode cL_send 3 = .ok (.invokevirtual 58, 3) := by decide +kernel
theorem dL_send_6 : decode cL_send 6 = .ok (.goto 9, 3) := by decide +kernel
theorem dL_send_9 : decode cL_send 9 = .ok (.astore_n 3, 1) := by decide +kernel
theorem dL_send_10 : decode cL_send 10 = .ok (.iconst 1, 1) := by decide +kernel
theorem dL_send_11 : decode cL_send 11 = .ok (.ireturn, 1) := by decide +kernel
theorem dL_send_12 : decode cL_send 12 = .ok (.astore_n 3, 1) := by decide +kernel
theorem dL_send_13 : decode cL_send 13 = .ok (.iconst 2, 1) := by decide +kernel
theorem dL_send_14 : decode cL_send 14 = .ok (.ireturn, 1) := by decide +kernel
theorem dL_send_15 : decode cL_send 15 = .ok (.iconst 0, 1) := by decide +kernel
theorem dL_send_16 : decode cL_send 16 = .ok (.ireturn, 1) := by decide +kernel
theorem dL_sendToGroup_0 : decode cL_sendToGroup 0 = .ok (.aload_n 3, 1) := by decide +kernel
theorem dL_sendToGroup_1 : decode cL_sendToGroup 1 = .ok (.iconst 0, 1) := by decide +kernel
theorem dL_sendToGroup_2 : decode cL_sendToGroup 2 = .ok (.aload_n 0, 1) := by decide +kernel
theorem dL_sendToGroup_3 : decode cL_sendToGroup 3 = .ok (.iload_n 1, 1) := by decide +kernel
theorem dL_sendToGroup_4 : decode cL_sendToGroup 4 = .ok (.iload_n 2, 1) := by decide +kernel
theorem dL_sendToGroup_5 : decode cL_sendToGroup 5 = .ok (.invokevirtual 61, 3) := by decide +kernel
theorem dL_sendToGroup_8 : decode cL_sendToGroup 8 = .ok (.i2l, 1) := by decide +kernel
theorem dL_sendToGroup_9 : decode cL_sendToGroup 9 = .ok (.lastore, 1) := by decide +kernel
theorem dL_sendToGroup_10 : decode cL_sendToGroup 10 = .ok (.goto 7, 3) := by decide +kernel
theorem dL_sendToGroup_13 : decode cL_sendToGroup 13 = .ok (.astore 4, 2) := by decide +kernel
theorem dL_sendToGroup_15 : decode cL_sendToGroup 15 = .ok (.iconst 1, 1) := by decide +kernel
theorem dL_sendToGroup_16 : decode cL_sendToGroup 16 = .ok (.ireturn, 1) := by decide +kernel
theorem dL_sendToGroup_17 : decode cL_sendToGroup 17 = .ok (.iconst 0, 1) := by decide +kernel
theorem dL_sendToGroup_18 : decode cL_sendToGroup 18 = .ok (.ireturn, 1) := by decide +kernel
theorem dL_type_0 : decode cL_type 0 = .ok (.aload_n 2, 1) := by decide +kernel
theorem dL_type_1 : decode cL_type 1 = .ok (.iconst 0, 1) := by decide +kernel
theorem dL_type_2 : decode cL_type 2 = .ok (.aload_n 0, 1) := by decide +kernel
theorem dL_type_3 : decode cL_type 3 = .ok (.iload_n 1, 1) := by decide +kernel
theorem dL_type_4 : decode cL_type 4 = .ok (.invokevirtual 64, 3) := by decide +kernel
theorem dL_type_7 : decode cL_type 7 = .ok (.i2l, 1) := by decide +kernel
theorem dL_type_8 : decode cL_type 8 = .ok (.lastore, 1) := by decide +kernel
theorem dL_type_9 : decode cL_type 9 = .ok (.goto 6, 3) := by decide +kernel
theorem dL_type_12 : decode cL_type 12 = .ok (.astore_n 3, 1) := by decide +kernel
theorem dL_type_13 : decode cL_type 13 = .ok (.iconst 1, 1) := by decide +kernel
theorem dL_type_14 : decode cL_type 14 = .ok (.ireturn, 1) := by decide +kernel
theorem dL_type_15 : decode cL_type 15 = .ok (.iconst 0, 1) := by decide +kernel
theorem dL_type_16 : decode cL_type 16 = .ok (.ireturn, 1) := by decide +kernel
theorem dL_hangUp_0 : decode cL_hangUp 0 = .ok (.aload_n 1, 1) := by decide +kernel
theorem dL_hangUp_1 : decode cL_hangUp 1 = .ok (.iconst 0, 1) := by decide +kernel
theorem dL_hangUp_2 : decode cL_hangUp 2 = .ok (.aload_n 0, 1) := by decide +kernel
theorem dL_hangUp_3 : decode cL_hangUp 3 = .ok (.invokevirtual 68, 3) := by decide +kernel
theorem dL_hangUp_6 : decode cL_hangUp 6 = .ok (.i2l, 1) := by decide +kernel
theorem dL_hangUp_7 : decode cL_hangUp 7 = .ok (.lastore, 1) := by decide +kernel
theorem dL_hangUp_8 : decode cL_hangUp 8 = .ok (.goto 6, 3) := by decide +kernel
theorem dL_hangUp_11 : decode cL_hangUp 11 = .ok (.astore_n 2, 1) := by decide +kernel
theorem dL_hangUp_12 : decode cL_hangUp 12 = .ok (.iconst 1, 1) := by decide +kernel
theorem dL_hangUp_13 : decode cL_hangUp 13 = .ok (.ireturn, 1) := by decide +kernel
theorem dL_hangUp_14 : decode cL_hangUp 14 = .ok (.iconst 0, 1) := by decide +kernel
theorem dL_hangUp_15 : decode cL_hangUp 15 = .ok (.ireturn, 1) := by decide +kernel
theorem dL_exists_0 : decode cL_exists 0 = .ok (.aload_n 2, 1) := by decide +kernel
theorem dL_exists_1 : decode cL_exists 1 = .ok (.iconst 0, 1) := by decide +kernel
theorem dL_exists_2 : decode cL_exists 2 = .ok (.aload_n 0, 1) := by decide +kernel
theorem dL_exists_3 : decode cL_exists 3 = .ok (.iload_n 1, 1) := by decide +kernel
theorem dL_exists_4 : decode cL_exists 4 = .ok (.invokevirtual 72, 3) := by decide +kernel
theorem dL_exists_7 : decode cL_exists 7 = .ok (.ifCond .eq 7, 3) := by decide +kernel
theorem dL_exists_10 : decode cL_exists 10 = .ok (.lconst 1, 1) := by decide +kernel
theorem dL_exists_11 : decode cL_exists 11 = .ok (.goto 4, 3) := by decide +kernel
theorem dL_exists_14 : decode cL_exists 14 = .ok (.lconst 0, 1) := by decide +kernel
theorem dL_exists_15 : decode cL_exists 15 = .ok (.lastore, 1) := by decide +kernel
theorem dL_exists_16 : decode cL_exists 16 = .ok (.goto 6, 3) := by decide +kernel
theorem dL_exists_19 : decode cL_exists 19 = .ok (.astore_n 3, 1) := by decide +kernel
theorem dL_exists_20 : decode cL_exists 20 = .ok (.iconst 1, 1) := by decide +kernel
theorem dL_exists_21 : decode cL_exists 21 = .ok (.ireturn, 1) := by decide +kernel
theorem dL_exists_22 : decode cL_exists 22 = .ok (.iconst 0, 1) := by decide +kernel
theorem dL_exists_23 : decode cL_exists 23 = .ok (.ireturn, 1) := by decide +kernel
theorem dL_state_0 : decode cL_state 0 = .ok (.aload_n 2, 1) := by decide +kernel
theorem dL_state_1 : decode cL_state 1 = .ok (.iconst 0, 1) := by decide +kernel
theorem dL_state_2 : decode cL_state 2 = .ok (.aload_n 0, 1) := by decide +kernel
theorem dL_state_3 : decode cL_state 3 = .ok (.iload_n 1, 1) := by decide +kernel
theorem dL_state_4 : decode cL_state 4 = .ok (.invokevirtual 76, 3) := by decide +kernel
theorem dL_state_7 : decode cL_state 7 = .ok (.i2l, 1) := by decide +kernel
theorem dL_state_8 : decode cL_state 8 = .ok (.lastore, 1) := by decide +kernel
theorem dL_state_9 : decode cL_state 9 = .ok (.goto 6, 3) := by decide +kernel
theorem dL_state_12 : decode cL_state 12 = .ok (.astore_n 3, 1) := by decide +kernel
theorem dL_state_13 : decode cL_state 13 = .ok (.iconst 1, 1) := by decide +kernel
theorem dL_state_14 : decode cL_state 14 = .ok (.ireturn, 1) := by decide +kernel
theorem dL_state_15 : decode cL_state 15 = .ok (.iconst 0, 1) := by decide +kernel
theorem dL_state_16 : decode cL_state 16 = .ok (.ireturn, 1) := by decide +kernel
theorem dL_parent_0 : decode cL_parent 0 = .ok (.aload_n 2, 1) := by decide +kernel
theorem dL_parent_1 : decode cL_parent 1 = .ok (.iconst 0, 1) := by decide +kernel
theorem dL_parent_2 : decode cL_parent 2 = .ok (.aload_n 0, 1) := by decide +kernel
theorem dL_parent_3 : decode cL_parent 3 = .ok (.iload_n 1, 1) := by decide +kernel
theorem dL_parent_4 : decode cL_parent 4 = .ok (.invokevirtual 79, 3) := by decide +kernel
theorem dL_parent_7 : decode cL_parent 7 = .ok (.i2l, 1) := by decide +kernel
theorem dL_parent_8 : decode cL_parent 8 = .ok (.lastore, 1) := by decide +kernel
theorem dL_parent_9 : decode cL_parent 9 = .ok (.goto 6, 3) := by decide +kernel
theorem dL_parent_12 : decode cL_parent 12 = .ok (.astore_n 3, 1) := by decide +kernel
theorem dL_parent_13 : decode cL_parent 13 = .ok (.iconst 1, 1) := by decide +kernel
theorem dL_parent_14 : decode cL_parent 14 = .ok (.ireturn, 1) := by decide +kernel
theorem dL_parent_15 : decode cL_parent 15 = .ok (.iconst 0, 1) := by decide +kernel
theorem dL_parent_16 : decode cL_parent 16 = .ok (.ireturn, 1) := by decide +kernel
theorem dL_group_0 : decode cL_group 0 = .ok (.aload_n 2, 1) := by decide +kernel
theorem dL_group_1 : decode cL_group 1 = .ok (.iconst 0, 1) := by decide +kernel
theorem dL_group_2 : decode cL_group 2 = .ok (.aload_n 0, 1) := by decide +kernel
theorem dL_group_3 : decode cL_group 3 = .ok (.iload_n 1, 1) := by decide +kernel
theorem dL_group_4 : decode cL_group 4 = .ok (.invokevirtual 82, 3) := by decide +kernel
theorem dL_group_7 : decode cL_group 7 = .ok (.i2l, 1) := by decide +kernel
theorem dL_group_8 : decode cL_group 8 = .ok (.lastore, 1) := by decide +kernel
theorem dL_group_9 : decode cL_group 9 = .ok (.goto 6, 3) := by decide +kernel
theorem dL_group_12 : decode cL_group 12 = .ok (.astore_n 3, 1) := by decide +kernel
theorem dL_group_13 : decode cL_group 13 = .ok (.iconst 1, 1) := by decide +kernel
theorem dL_group_14 : decode cL_group 14 = .ok (.ireturn, 1) := by decide +kernel
theorem dL_group_15 : decode cL_group 15 = .ok (.iconst 0, 1) := by decide +kernel
theorem dL_group_16 : decode cL_group 16 = .ok (.ireturn, 1) := by decide +kernel
theorem dL_session_0 : decode cL_session 0 = .ok (.aload_n 2, 1) := by decide +kernel
theorem dL_session_1 : decode cL_session 1 = .ok (.iconst 0, 1) := by decide +kernel
theorem dL_session_2 : decode cL_session 2 = .ok (.aload_n 0, 1) := by decide +kernel
theorem dL_session_3 : decode cL_session 3 = .ok (.iload_n 1, 1) := by decide +kernel
theorem dL_session_4 : decode cL_session 4 = .ok (.invokevirtual 85, 3) := by decide +kernel
theorem dL_session_7 : decode cL_session 7 = .ok (.i2l, 1) := by decide +kernel
theorem dL_session_8 : decode cL_session 8 = .ok (.lastore, 1) := by decide +kernel
theorem dL_session_9 : decode cL_session 9 = .ok (.goto 6, 3) := by decide +kernel
theorem dL_session_12 : decode cL_session 12 = .ok (.astore_n 3, 1) := by decide +kernel
theorem dL_session_13 : decode cL_session 13 = .ok (.iconst 1, 1) := by decide +kernel
theorem dL_session_14 : decode cL_session 14 = .ok (.ireturn, 1) := by decide +kernel
theorem dL_session_15 : decode cL_session 15 = .ok (.iconst 0, 1) := by decide +kernel
theorem dL_session_16 : decode cL_session 16 = .ok (.ireturn, 1) := by decide +kernel
theorem dL_pending_0 : decode cL_pending 0 = .ok (.aload_n 2, 1) := by decide +kernel
theorem dL_pending_1 : decode cL_pending 1 = .ok (.iconst 0, 1) := by decide +kernel
theorem dL_pending_2 : decode cL_pending 2 = .ok (.aload_n 0, 1) := by decide +kernel
theorem dL_pending_3 : decode cL_pending 3 = .ok (.iload_n 1, 1) := by decide +kernel
theorem dL_pending_4 : decode cL_pending 4 = .ok (.invokevirtual 88, 3) := by decide +kernel
theorem dL_pending_7 : decode cL_pending 7 = .ok (.i2l, 1) := by decide +kernel
theorem dL_pending_8 : decode cL_pending 8 = .ok (.lastore, 1) := by decide +kernel
theorem dL_pending_9 : decode cL_pending 9 = .ok (.goto 6, 3) := by decide +kernel
theorem dL_pending_12 : decode cL_pending 12 = .ok (.astore_n 3, 1) := by decide +kernel
theorem dL_pending_13 : decode cL_pending 13 = .ok (.iconst 1, 1) := by decide +kernel
theorem dL_pending_14 : decode cL_pending 14 = .ok (.ireturn, 1) := by decide +kernel
theorem dL_pending_15 : decode cL_pending 15 = .ok (.iconst 0, 1) := by decide +kernel
theorem dL_pending_16 : decode cL_pending 16 = .ok (.ireturn, 1) := by decide +kernel
theorem dL_caught_0 : decode cL_caught 0 = .ok (.aload_n 2, 1) := by decide +kernel
theorem dL_caught_1 : decode cL_caught 1 = .ok (.iconst 0, 1) := by decide +kernel
theorem dL_caught_2 : decode cL_caught 2 = .ok (.aload_n 0, 1) := by decide +kernel
theorem dL_caught_3 : decode cL_caught 3 = .ok (.iload_n 1, 1) := by decide +kernel
theorem dL_caught_4 : decode cL_caught 4 = .ok (.invokevirtual 91, 3) := by decide +kernel
theorem dL_caught_7 : decode cL_caught 7 = .ok (.i2l, 1) := by decide +kernel
theorem dL_caught_8 : decode cL_caught 8 = .ok (.lastore, 1) := by decide +kernel
theorem dL_caught_9 : decode cL_caught 9 = .ok (.goto 6, 3) := by decide +kernel
theorem dL_caught_12 : decode cL_caught 12 = .ok (.astore_n 3, 1) := by decide +kernel
theorem dL_caught_13 : decode cL_caught 13 = .ok (.iconst 1, 1) := by decide +kernel
theorem dL_caught_14 : decode cL_caught 14 = .ok (.ireturn, 1) := by decide +kernel
theorem dL_caught_15 : decode cL_caught 15 = .ok (.iconst 0, 1) := by decide +kernel
theorem dL_caught_16 : decode cL_caught 16 = .ok (.ireturn, 1) := by decide +kernel
theorem dL_isOrphaned_0 : decode cL_isOrphaned 0 = .ok (.aload_n 2, 1) := by decide +kernel
theorem dL_isOrphaned_1 : decode cL_isOrphaned 1 = .ok (.iconst 0, 1) := by decide +kernel
theorem dL_isOrphaned_2 : decode cL_isOrphaned 2 = .ok (.aload_n 0, 1) := by decide +kernel
theorem dL_isOrphaned_3 : decode cL_isOrphaned 3 = .ok (.iload_n 1, 1) := by decide +kernel
theorem dL_isOrphaned_4 : decode cL_isOrphaned 4 = .ok (.invokevirtual 94, 3) := by decide +kernel
theorem dL_isOrphaned_7 : decode cL_isOrphaned 7 = .ok (.ifCond .eq 7, 3) := by decide +kernel
theorem dL_isOrphaned_10 : decode cL_isOrphaned 10 = .ok (.lconst 1, 1) := by decide +kernel
theorem dL_isOrphaned_11 : decode cL_isOrphaned 11 = .ok (.goto 4, 3) := by decide +kernel
theorem dL_isOrphaned_14 : decode cL_isOrphaned 14 = .ok (.lconst 0, 1) := by decide +kernel
theorem dL_isOrphaned_15 : decode cL_isOrphaned 15 = .ok (.lastore, 1) := by decide +kernel
theorem dL_isOrphaned_16 : decode cL_isOrphaned 16 = .ok (.goto 6, 3) := by decide +kernel
theorem dL_isOrphaned_19 : decode cL_isOrphaned 19 = .ok (.astore_n 3, 1) := by decide +kernel
theorem dL_isOrphaned_20 : decode cL_isOrphaned 20 = .ok (.iconst 1, 1) := by decide +kernel
theorem dL_isOrphaned_21 : decode cL_isOrphaned 21 = .ok (.ireturn, 1) := by decide +kernel
theorem dL_isOrphaned_22 : decode cL_isOrphaned 22 = .ok (.iconst 0, 1) := by decide +kernel
theorem dL_isOrphaned_23 : decode cL_isOrphaned 23 = .ok (.ireturn, 1) := by decide +kernel
theorem dL_waitResult_0 : decode cL_waitResult 0 = .ok (.aload_n 2, 1) := by decide +kernel
theorem dL_waitResult_1 : decode cL_waitResult 1 = .ok (.iconst 0, 1) := by decide +kernel
theorem dL_waitResult_2 : decode cL_waitResult 2 = .ok (.aload_n 0, 1) := by decide +kernel
theorem dL_waitResult_3 : decode cL_waitResult 3 = .ok (.iload_n 1, 1) := by decide +kernel
theorem dL_waitResult_4 : decode cL_waitResult 4 = .ok (.invokevirtual 97, 3) := by decide +kernel
theorem dL_waitResult_7 : decode cL_waitResult 7 = .ok (.i2l, 1) := by decide +kernel
theorem dL_waitResult_8 : decode cL_waitResult 8 = .ok (.lastore, 1) := by decide +kernel
theorem dL_waitResult_9 : decode cL_waitResult 9 = .ok (.goto 6, 3) := by decide +kernel
theorem dL_waitResult_12 : decode cL_waitResult 12 = .ok (.astore_n 3, 1) := by decide +kernel
theorem dL_waitResult_13 : decode cL_waitResult 13 = .ok (.iconst 1, 1) := by decide +kernel
theorem dL_waitResult_14 : decode cL_waitResult 14 = .ok (.ireturn, 1) := by decide +kernel
theorem dL_waitResult_15 : decode cL_waitResult 15 = .ok (.iconst 0, 1) := by decide +kernel
theorem dL_waitResult_16 : decode cL_waitResult 16 = .ok (.ireturn, 1) := by decide +kernel
theorem dL_reportedChild_0 : decode cL_reportedChild 0 = .ok (.aload_n 2, 1) := by decide +kernel
theorem dL_reportedChild_1 : decode cL_reportedChild 1 = .ok (.iconst 0, 1) := by decide +kernel
theorem dL_reportedChild_2 : decode cL_reportedChild 2 = .ok (.aload_n 0, 1) := by decide +kernel
theorem dL_reportedChild_3 : decode cL_reportedChild 3 = .ok (.iload_n 1, 1) := by decide +kernel
theorem dL_reportedChild_4 : decode cL_reportedChild 4 = .ok (.invokevirtual 100, 3) := by decide +kernel
theorem dL_reportedChild_7 : decode cL_reportedChild 7 = .ok (.i2l, 1) := by decide +kernel
theorem dL_reportedChild_8 : decode cL_reportedChild 8 = .ok (.lastore, 1) := by decide +kernel
theorem dL_reportedChild_9 : decode cL_reportedChild 9 = .ok (.goto 6, 3) := by decide +kernel
theorem dL_reportedChild_12 : decode cL_reportedChild 12 = .ok (.astore_n 3, 1) := by decide +kernel
theorem dL_reportedChild_13 : decode cL_reportedChild 13 = .ok (.iconst 1, 1) := by decide +kernel
theorem dL_reportedChild_14 : decode cL_reportedChild 14 = .ok (.ireturn, 1) := by decide +kernel
theorem dL_reportedChild_15 : decode cL_reportedChild 15 = .ok (.iconst 0, 1) := by decide +kernel
theorem dL_reportedChild_16 : decode cL_reportedChild 16 = .ok (.ireturn, 1) := by decide +kernel
theorem dL_reportedValue_0 : decode cL_reportedValue 0 = .ok (.aload_n 2, 1) := by decide +kernel
theorem dL_reportedValue_1 : decode cL_reportedValue 1 = .ok (.iconst 0, 1) := by decide +kernel
theorem dL_reportedValue_2 : decode cL_reportedValue 2 = .ok (.aload_n 0, 1) := by decide +kernel
theorem dL_reportedValue_3 : decode cL_reportedValue 3 = .ok (.iload_n 1, 1) := by decide +kernel
theorem dL_reportedValue_4 : decode cL_reportedValue 4 = .ok (.invokevirtual 103, 3) := by decide +kernel
theorem dL_reportedValue_7 : decode cL_reportedValue 7 = .ok (.i2l, 1) := by decide +kernel
theorem dL_reportedValue_8 : decode cL_reportedValue 8 = .ok (.lastore, 1) := by decide +kernel
theorem dL_reportedValue_9 : decode cL_reportedValue 9 = .ok (.goto 6, 3) := by decide +kernel
theorem dL_reportedValue_12 : decode cL_reportedValue 12 = .ok (.astore_n 3, 1) := by decide +kernel
theorem dL_reportedValue_13 : decode cL_reportedValue 13 = .ok (.iconst 1, 1) := by decide +kernel
theorem dL_reportedValue_14 : decode cL_reportedValue 14 = .ok (.ireturn, 1) := by decide +kernel
theorem dL_reportedValue_15 : decode cL_reportedValue 15 = .ok (.iconst 0, 1) := by decide +kernel
theorem dL_reportedValue_16 : decode cL_reportedValue 16 = .ok (.ireturn, 1) := by decide +kernel
