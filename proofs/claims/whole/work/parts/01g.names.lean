theorem dX3_fork_82 : decode cX3_fork 82 = .ok (.aload_n 0, 1) := by decide +kernel
theorem dX3_fork_83 : decode cX3_fork 83 = .ok (.getfield 23, 3) := by decide +kernel
theorem dX3_fork_86 : decode cX3_fork 86 = .ok (.iload_n 2, 1) := by decide +kernel
theorem dX3_fork_87 : decode cX3_fork 87 = .ok (.iconst 0, 1) := by decide +kernel
theorem dX3_fork_88 : decode cX3_fork 88 = .ok (.bastore, 1) := by decide +kernel
theorem dX3_fork_89 : decode cX3_fork 89 = .ok (.aload_n 0, 1) := by decide +kernel
theorem dX3_fork_90 : decode cX3_fork 90 = .ok (.getfield 26, 3) := by decide +kernel
theorem dX3_fork_93 : decode cX3_fork 93 = .ok (.iload_n 2, 1) := by decide +kernel
theorem dX3_fork_94 : decode cX3_fork 94 = .ok (.iconst 0, 1) := by decide +kernel
theorem dX3_fork_95 : decode cX3_fork 95 = .ok (.bastore, 1) := by decide +kernel
theorem dX3_fork_96 : decode cX3_fork 96 = .ok (.aload_n 0, 1) := by decide +kernel
theorem dX3_fork_97 : decode cX3_fork 97 = .ok (.getfield 29, 3) := by decide +kernel
theorem dX3_fork_100 : decode cX3_fork 100 = .ok (.iload_n 2, 1) := by decide +kernel
theorem dX3_fork_101 : decode cX3_fork 101 = .ok (.iconst 0, 1) := by decide +kernel
theorem dX3_fork_102 : decode cX3_fork 102 = .ok (.bastore, 1) := by decide +kernel
theorem dX3_fork_103 : decode cX3_fork 103 = .ok (.iconst 0, 1) := by decide +kernel
theorem dX3_fork_104 : decode cX3_fork 104 = .ok (.istore_n 3, 1) := by decide +kernel
theorem dX3_fork_105 : decode cX3_fork 105 = .ok (.iload_n 3, 1) := by decide +kernel
theorem dX3_fork_106 : decode cX3_fork 106 = .ok (.bipush 9, 2) := by decide +kernel
theorem dX3_fork_108 : decode cX3_fork 108 = .ok (.if_icmp .ge 31, 3) := by decide +kernel
theorem dX3_fork_111 : decode cX3_fork 111 = .ok (.aload_n 0, 1) := by decide +kernel
theorem dX3_fork_112 : decode cX3_fork 112 = .ok (.getfield 38, 3) := by decide +kernel
theorem dX3_fork_115 : decode cX3_fork 115 = .ok (.bipush 9, 2) := by decide +kernel
theorem dX3_fork_117 : decode cX3_fork 117 = .ok (.iload_n 2, 1) := by decide +kernel
theorem dX3_fork_118 : decode cX3_fork 118 = .ok (.imul, 1) := by decide +kernel
theorem dX3_fork_119 : decode cX3_fork 119 = .ok (.iload_n 3, 1) := by decide +kernel
theorem dX3_fork_120 : decode cX3_fork 120 = .ok (.iadd, 1) := by decide +kernel
theorem dX3_fork_121 : decode cX3_fork 121 = .ok (.aload_n 0, 1) := by decide +kernel
theorem dX3_fork_122 : decode cX3_fork 122 = .ok (.getfield 38, 3) := by decide +kernel
theorem dX3_fork_125 : decode cX3_fork 125 = .ok (.bipush 9, 2) := by decide +kernel
theorem dX3_fork_127 : decode cX3_fork 127 = .ok (.iload_n 1, 1) := by decide +kernel
theorem dX3_fork_128 : decode cX3_fork 128 = .ok (.imul, 1) := by decide +kernel
theorem dX3_fork_129 : decode cX3_fork 129 = .ok (.iload_n 3, 1) := by decide +kernel
theorem dX3_fork_130 : decode cX3_fork 130 = .ok (.iadd, 1) := by decide +kernel
theorem dX3_fork_131 : decode cX3_fork 131 = .ok (.iaload, 1) := by decide +kernel
theorem dX3_fork_132 : decode cX3_fork 132 = .ok (.iastore, 1) := by decide +kernel
theorem dX3_fork_133 : decode cX3_fork 133 = .ok (.iinc 3 1, 3) := by decide +kernel
theorem dX3_fork_136 : decode cX3_fork 136 = .ok (.goto (-31), 3) := by decide +kernel
theorem dX3_fork_139 : decode cX3_fork 139 = .ok (.aload_n 0, 1) := by decide +kernel
theorem dX3_fork_140 : decode cX3_fork 140 = .ok (.getfield 41, 3) := by decide +kernel
theorem dX3_fork_143 : decode cX3_fork 143 = .ok (.iload_n 2, 1) := by decide +kernel
theorem dX3_fork_144 : decode cX3_fork 144 = .ok (.aload_n 0, 1) := by decide +kernel
theorem dX3_fork_145 : decode cX3_fork 145 = .ok (.getfield 41, 3) := by decide +kernel
theorem dX3_fork_148 : decode cX3_fork 148 = .ok (.iload_n 1, 1) := by decide +kernel
theorem dX3_fork_149 : decode cX3_fork 149 = .ok (.iaload, 1) := by decide +kernel
theorem dX3_fork_150 : decode cX3_fork 150 = .ok (.iastore, 1) := by decide +kernel
theorem dX3_fork_151 : decode cX3_fork 151 = .ok (.aload_n 0, 1) := by decide +kernel
theorem dX3_fork_152 : decode cX3_fork 152 = .ok (.getfield 44, 3) := by decide +kernel
theorem dX3_fork_155 : decode cX3_fork 155 = .ok (.iload_n 2, 1) := by decide +kernel
theorem dX3_fork_156 : decode cX3_fork 156 = .ok (.iconst 0, 1) := by decide +kernel
theorem dX3_fork_157 : decode cX3_fork 157 = .ok (.iastore, 1) := by decide +kernel
theorem dX3_fork_158 : decode cX3_fork 158 = .ok (.aload_n 0, 1) := by decide +kernel
theorem dX3_fork_159 : decode cX3_fork 159 = .ok (.getfield 47, 3) := by decide +kernel
theorem dX3_fork_162 : decode cX3_fork 162 = .ok (.iload_n 2, 1) := by decide +kernel
theorem dX3_fork_163 : decode cX3_fork 163 = .ok (.iconst 0, 1) := by decide +kernel
theorem dX3_fork_164 : decode cX3_fork 164 = .ok (.iastore, 1) := by decide +kernel
theorem dX3_fork_165 : decode cX3_fork 165 = .ok (.aload_n 0, 1) := by decide +kernel
theorem dX3_fork_166 : decode cX3_fork 166 = .ok (.getfield 50, 3) := by decide +kernel
theorem dX3_fork_169 : decode cX3_fork 169 = .ok (.iload_n 2, 1) := by decide +kernel
theorem dX3_fork_170 : decode cX3_fork 170 = .ok (.iconst 0, 1) := by decide +kernel
theorem dX3_fork_171 : decode cX3_fork 171 = .ok (.bastore, 1) := by decide +kernel
theorem dX3_fork_172 : decode cX3_fork 172 = .ok (.aload_n 0, 1) := by decide +kernel
theorem dX3_fork_173 : decode cX3_fork 173 = .ok (.getfield 62, 3) := by decide +kernel
theorem dX3_fork_176 : decode cX3_fork 176 = .ok (.iload_n 2, 1) := by decide +kernel
theorem dX3_fork_177 : decode cX3_fork 177 = .ok (.iconst 0, 1) := by decide +kernel
theorem dX3_fork_178 : decode cX3_fork 178 = .ok (.bastore, 1) := by decide +kernel
theorem dX3_fork_179 : decode cX3_fork 179 = .ok (.aload_n 0, 1) := by decide +kernel
theorem dX3_fork_180 : decode cX3_fork 180 = .ok (.getfield 65, 3) := by decide +kernel
theorem dX3_fork_183 : decode cX3_fork 183 = .ok (.iload_n 2, 1) := by decide +kernel
theorem dX3_fork_184 : decode cX3_fork 184 = .ok (.iconst (-1), 1) := by decide +kernel
theorem dX3_fork_185 : decode cX3_fork 185 = .ok (.iastore, 1) := by decide +kernel
theorem dX3_fork_186 : decode cX3_fork 186 = .ok (.aload_n 0, 1) := by decide +kernel
theorem dX3_fork_187 : decode cX3_fork 187 = .ok (.getfield 68, 3) := by decide +kernel
theorem dX3_fork_190 : decode cX3_fork 190 = .ok (.iload_n 2, 1) := by decide +kernel
theorem dX3_fork_191 : decode cX3_fork 191 = .ok (.iconst (-1), 1) := by decide +kernel
theorem dX3_fork_192 : decode cX3_fork 192 = .ok (.iastore, 1) := by decide +kernel
theorem dX3_fork_193 : decode cX3_fork 193 = .ok (.aload_n 0, 1) := by decide +kernel
theorem dX3_fork_194 : decode cX3_fork 194 = .ok (.getfield 71, 3) := by decide +kernel
theorem dX3_fork_197 : decode cX3_fork 197 = .ok (.iload_n 2, 1) := by decide +kernel
theorem dX3_fork_198 : decode cX3_fork 198 = .ok (.iconst (-1), 1) := by decide +kernel
theorem dX3_fork_199 : decode cX3_fork 199 = .ok (.iastore, 1) := by decide +kernel
theorem dX3_fork_200 : decode cX3_fork 200 = .ok (.iload_n 2, 1) := by decide +kernel
theorem dX3_fork_201 : decode cX3_fork 201 = .ok (.ireturn, 1) := by decide +kernel
set_option maxRecDepth 20000 in
theorem ggX3_exec_X3_is : GoodIn wsX3_exec wsX3_is := goodIn_r _ [7, 8, 25, 26, 27, 28, 29, 30, 31, 32, 33, 34, 35, 36, 37, 38, 39, 40, 41, 42, 43, 44, 45, 46, 47, 48, 49, 50, 51, 52, 53] (by decide +kernel) (by decide +kernel)
set_option maxRecDepth 20000 in
theorem gX3_exec_X3_is : GoodIn wsX3_exec (wsV RX3 159 RX3 yX3_is wsX3_is) := goodIn_app (goodIn_of _ (by decide +kernel)) ggX3_exec_X3_is
set_option maxRecDepth 20000 in
theorem ggX3_exec_X3_cannot : GoodIn wsX3_exec wsX3_cannot := goodIn_r _ [12, 13, 14, 15, 6, 16, 17, 18, 19, 25, 26, 27, 28, 29, 30, 31, 32, 33, 34, 35, 36, 37, 38, 39, 40, 41, 42, 43, 44, 45, 46, 47, 48, 49, 50, 51, 52, 53] (by decide +kernel) (by decide +kernel)
set_option maxRecDepth 20000 in
theorem gX3_exec_X3_cannot : GoodIn wsX3_exec (wsV RX3 165 RX3 yX3_cannot wsX3_cannot) := goodIn_app (goodIn_of _ (by decide +kernel)) ggX3_exec_X3_cannot
set_option maxRecDepth 20000 in
theorem ggX3_exec_X3_fails : GoodIn wsX3_exec wsX3_fails := goodIn_r _ [23, 24, 25, 26, 27, 28, 29, 30, 31, 32, 33, 34, 35, 36, 37, 38, 39, 40, 41, 42, 43, 44, 45, 46, 47, 48, 49, 50, 51, 52, 53] (by decide +kernel) (by decide +kernel)
set_option maxRecDepth 20000 in
theorem gX3_exec_X3_fails : GoodIn wsX3_exec (wsV RX3 162 RX3 yX3_fails wsX3_fails) := goodIn_app (goodIn_of _ (by decide +kernel)) ggX3_exec_X3_fails
theorem dX3_exec_0 : decode cX3_exec 0 = .ok (.aload_n 0, 1) := by decide +kernel
theorem dX3_exec_1 : decode cX3_exec 1 = .ok (.aload_n 0, 1) := by decide +kernel
theorem dX3_exec_2 : decode cX3_exec 2 = .ok (.iload_n 1, 1) := by decide +kernel
theorem dX3_exec_3 : decode cX3_exec 3 = .ok (.invokevirtual 159, 3) := by decide +kernel
theorem dX3_exec_6 : decode cX3_exec 6 = .ok (.ifCond .ne 7, 3) := by decide +kernel
theorem dX3_exec_9 : decode cX3_exec 9 = .ok (.iconst 1, 1) := by decide +kernel
theorem dX3_exec_10 : decode cX3_exec 10 = .ok (.goto 16, 3) := by decide +kernel
theorem dX3_exec_13 : decode cX3_exec 13 = .ok (.aload_n 0, 1) := by decide +kernel
theorem dX3_exec_14 : decode cX3_exec 14 = .ok (.iload_n 1, 1) := by decide +kernel
theorem dX3_exec_15 : decode cX3_exec 15 = .ok (.invokevirtual 165, 3) := by decide +kernel
theorem dX3_exec_18 : decode cX3_exec 18 = .ok (.ifCond .eq 7, 3) := by decide +kernel
theorem dX3_exec_21 : decode cX3_exec 21 = .ok (.iconst 2, 1) := by decide +kernel
theorem dX3_exec_22 : decode cX3_exec 22 = .ok (.goto 4, 3) := by decide +kernel
theorem dX3_exec_25 : decode cX3_exec 25 = .ok (.iconst 0, 1) := by decide +kernel
theorem dX3_exec_26 : decode cX3_exec 26 = .ok (.invokevirtual 162, 3) := by decide +kernel
theorem dX3_exec_29 : decode cX3_exec 29 = .ok (.ifCond .eq 5, 3) := by decide +kernel
theorem dX3_exec_32 : decode cX3_exec 32 = .ok (.iconst 0, 1) := by decide +kernel
theorem dX3_exec_33 : decode cX3_exec 33 = .ok (.ireturn, 1) := by decide +kernel
theorem dX3_exec_34 : decode cX3_exec 34 = .ok (.iconst 0, 1) := by decide +kernel
theorem dX3_exec_35 : decode cX3_exec 35 = .ok (.istore_n 2, 1) := by decide +kernel
theorem dX3_exec_36 : decode cX3_exec 36 = .ok (.iconst 0, 1) := by decide +kernel
theorem dX3_exec_37 : decode cX3_exec 37 = .ok (.istore_n 3, 1) := by decide +kernel
theorem dX3_exec_38 : decode cX3_exec 38 = .ok (.iload_n 3, 1) := by decide +kernel
theorem dX3_exec_39 : decode cX3_exec 39 = .ok (.bipush 9, 2) := by decide +kernel
theorem dX3_exec_41 : decode cX3_exec 41 = .ok (.if_icmp .ge 68, 3) := by decide +kernel
theorem dX3_exec_44 : decode cX3_exec 44 = .ok (.aload_n 0, 1) := by decide +kernel
theorem dX3_exec_45 : decode cX3_exec 45 = .ok (.getfield 38, 3) := by decide +kernel
theorem dX3_exec_48 : decode cX3_exec 48 = .ok (.bipush 9, 2) := by decide +kernel
theorem dX3_exec_50 : decode cX3_exec 50 = .ok (.iload_n 1, 1) := by decide +kernel
theorem dX3_exec_51 : decode cX3_exec 51 = .ok (.imul, 1) := by decide +kernel
theorem dX3_exec_52 : decode cX3_exec 52 = .ok (.iload_n 3, 1) := by decide +kernel
theorem dX3_exec_53 : decode cX3_exec 53 = .ok (.iadd, 1) := by decide +kernel
theorem dX3_exec_54 : decode cX3_exec 54 = .ok (.iaload, 1) := by decide +kernel
theorem dX3_exec_55 : decode cX3_exec 55 = .ok (.iconst 2, 1) := by decide +kernel
theorem dX3_exec_56 : decode cX3_exec 56 = .ok (.if_icmp .ne 47, 3) := by decide +kernel
theorem dX3_exec_59 : decode cX3_exec 59 = .ok (.aload_n 0, 1) := by decide +kernel
theorem dX3_exec_60 : decode cX3_exec 60 = .ok (.getfield 38, 3) := by decide +kernel
theorem dX3_exec_63 : decode cX3_exec 63 = .ok (.bipush 9, 2) := by decide +kernel
theorem dX3_exec_65 : decode cX3_exec 65 = .ok (.iload_n 1, 1) := by decide +kernel
theorem dX3_exec_66 : decode cX3_exec 66 = .ok (.imul, 1) := by decide +kernel
theorem dX3_exec_67 : decode cX3_exec 67 = .ok (.iload_n 3, 1) := by decide +kernel
theorem dX3_exec_68 : decode cX3_exec 68 = .ok (.iadd, 1) := by decide +kernel
theorem dX3_exec_69 : decode cX3_exec 69 = .ok (.iconst 0, 1) := by decide +kernel
theorem dX3_exec_70 : decode cX3_exec 70 = .ok (.iastore, 1) := by decide +kernel
theorem dX3_exec_71 : decode cX3_exec 71 = .ok (.aload_n 0, 1) := by decide +kernel
theorem dX3_exec_72 : decode cX3_exec 72 = .ok (.getfield 44, 3) := by decide +kernel
theorem dX3_exec_75 : decode cX3_exec 75 = .ok (.iload_n 1, 1) := by decide +kernel
theorem dX3_exec_76 : decode cX3_exec 76 = .ok (.dup2, 1) := by decide +kernel
theorem dX3_exec_77 : decode cX3_exec 77 = .ok (.iaload, 1) := by decide +kernel
theorem dX3_exec_78 : decode cX3_exec 78 = .ok (.iload_n 3, 1) := by decide +kernel
theorem dX3_exec_79 : decode cX3_exec 79 = .ok (.iconst 4, 1) := by decide +kernel
theorem dX3_exec_80 : decode cX3_exec 80 = .ok (.if_icmp .eq 9, 3) := by decide +kernel
theorem dX3_exec_83 : decode cX3_exec 83 = .ok (.iload_n 3, 1) := by decide +kernel
theorem dX3_exec_84 : decode cX3_exec 84 = .ok (.bipush 7, 2) := by decide +kernel
theorem dX3_exec_86 : decode cX3_exec 86 = .ok (.if_icmp .ne 11, 3) := by decide +kernel
theorem dX3_exec_89 : decode cX3_exec 89 = .ok (.iconst 1, 1) := by decide +kernel
theorem dX3_exec_90 : decode cX3_exec 90 = .ok (.iload_n 3, 1) := by decide +kernel
theorem dX3_exec_91 : decode cX3_exec 91 = .ok (.ishl, 1) := by decide +kernel
theorem dX3_exec_92 : decode cX3_exec 92 = .ok (.iconst (-1), 1) := by decide +kernel
theorem dX3_exec_93 : decode cX3_exec 93 = .ok (.ixor, 1) := by decide +kernel
theorem dX3_exec_94 : decode cX3_exec 94 = .ok (.goto 4, 3) := by decide +kernel
theorem dX3_exec_97 : decode cX3_exec 97 = .ok (.iconst (-1), 1) := by decide +kernel
theorem dX3_exec_98 : decode cX3_exec 98 = .ok (.iand, 1) := by decide +kernel
theorem dX3_exec_99 : decode cX3_exec 99 = .ok (.iastore, 1) := by decide +kernel
theorem dX3_exec_100 : decode cX3_exec 100 = .ok (.iinc 2 1, 3) := by decide +kernel
theorem dX3_exec_103 : decode cX3_exec 103 = .ok (.iinc 3 1, 3) := by decide +kernel
theorem dX3_exec_106 : decode cX3_exec 106 = .ok (.goto (-68), 3) := by decide +kernel
theorem dX3_exec_109 : decode cX3_exec 109 = .ok (.iload_n 2, 1) := by decide +kernel
theorem dX3_exec_110 : decode cX3_exec 110 = .ok (.ireturn, 1) := by decide +kernel
set_option maxRecDepth 20000 in
theorem ggX3_exit_X3_is : GoodIn wsX3_exit wsX3_is := goodIn_r _ [5, 6, 111, 112, 113, 114, 115, 116, 117, 118, 119, 120, 121, 122, 123, 124, 125, 126, 127, 128, 129, 130, 131, 132, 133, 134, 135, 136, 137, 138, 139] (by decide +kernel) (by decide +kernel)
set_option maxRecDepth 20000 in
theorem gX3_exit_X3_is : GoodIn wsX3_exit (wsV RX3 159 RX3 yX3_is wsX3_is) := goodIn_app (goodIn_of _ (by decide +kernel)) ggX3_exit_X3_is
set_option maxRecDepth 20000 in
theorem ggX3_exit_X3_cannot : GoodIn wsX3_exit wsX3_cannot := goodIn_r _ [10, 11, 12, 13, 4, 14, 15, 16, 17, 111, 112, 113, 114, 115, 116, 117, 118, 119, 120, 121, 122, 123, 124, 125, 126, 127, 128, 129, 130, 131, 132, 133, 134, 135, 136, 137, 138, 139] (by decide +kernel) (by decide +kernel)
set_option maxRecDepth 20000 in
theorem gX3_exit_X3_cannot : GoodIn wsX3_exit (wsV RX3 165 RX3 yX3_cannot wsX3_cannot) := goodIn_app (goodIn_of _ (by decide +kernel)) ggX3_exit_X3_cannot
set_option maxRecDepth 20000 in
theorem ggX3_exit_X3_fails : GoodIn wsX3_exit wsX3_fails := goodIn_r _ [21, 22, 111, 112, 113, 114, 115, 116, 117, 118, 119, 120, 121, 122, 123, 124, 125, 126, 127, 128, 129, 130, 131, 132, 133, 134, 135, 136, 137, 138, 139] (by decide +kernel) (by decide +kernel)
set_option maxRecDepth 20000 in
theorem gX3_exit_X3_fails : GoodIn wsX3_exit (wsV RX3 162 RX3 yX3_fails wsX3_fails) := goodIn_app (goodIn_of _ (by decide +kernel)) ggX3_exit_X3_fails
set_option maxRecDepth 20000 in
theorem ggX3_exit_X3_terminates : GoodIn wsX3_exit wsX3_terminates := goodIn_r _ [26, 27, 15, 28, 29, 30, 17, 16, 31, 6, 32, 33, 34, 35, 36, 37, 38, 4, 39, 40, 41, 42, 43, 44, 45, 46, 47, 48, 49, 50, 51, 52, 53, 54, 55, 56, 57, 58, 59, 60, 61, 62, 63, 111, 112, 113, 114, 115, 116, 117, 118, 119, 120, 121, 122, 123, 124, 125, 126, 127, 128, 129, 130, 131, 132, 133, 134, 135, 136, 137, 138, 139] (by decide +kernel) (by decide +kernel)
set_option maxRecDepth 20000 in
theorem gX3_exit_X3_terminates : GoodIn wsX3_exit (wsV RX3 130 RX3 yX3_terminates wsX3_terminates) := goodIn_app (goodIn_of _ (by decide +kernel)) ggX3_exit_X3_terminates
set_option maxRecDepth 20000 in
theorem ggX3_exit_X3_goes : GoodIn wsX3_exit wsX3_goes := goodIn_r _ [67, 68, 59, 58, 69, 70, 71, 4, 72, 6, 15, 30, 73, 16, 74, 23, 24, 25, 26, 27, 28, 29, 17, 31, 32, 33, 34, 35, 36, 37, 38, 39, 40, 41, 42, 43, 44, 45, 46, 47, 48, 49, 50, 51, 52, 53, 54, 55, 56, 57, 60, 61, 62, 63, 75, 76, 77, 78, 79, 80, 81, 82, 83, 84, 85, 86, 87, 88, 89, 90, 91, 92, 93, 94, 95, 96, 97, 98, 99, 100, 101, 102, 103, 104, 105, 106, 107, 108, 109, 110, 111, 112, 113, 114, 115, 116, 117, 118, 119, 120, 121, 122, 123, 124, 125, 126, 127, 128, 129, 130, 131, 132, 133, 134, 135, 136, 137, 138, 139] (by decide +kernel) (by decide +kernel)
set_option maxRecDepth 20000 in
theorem gX3_exit_X3_goes : GoodIn wsX3_exit (wsV RX3 168 RX3 yX3_goes wsX3_goes) := goodIn_app (goodIn_of _ (by decide +kernel)) ggX3_exit_X3_goes
theorem dX3_exit_0 : decode cX3_exit 0 = .ok (.aload_n 0, 1) := by decide +kernel
theorem dX3_exit_1 : decode cX3_exit 1 = .ok (.aload_n 0, 1) := by decide +kernel
theorem dX3_exit_2 : decode cX3_exit 2 = .ok (.iload_n 1, 1) := by decide +kernel
theorem dX3_exit_3 : decode cX3_exit 3 = .ok (.invokevirtual 159, 3) := by decide +kernel
theorem dX3_exit_6 : decode cX3_exit 6 = .ok (.ifCond .ne 7, 3) := by decide +kernel
theorem dX3_exit_9 : decode cX3_exit 9 = .ok (.iconst 1, 1) := by decide +kernel
theorem dX3_exit_10 : decode cX3_exit 10 = .ok (.goto 31, 3) := by decide +kernel
theorem dX3_exit_13 : decode cX3_exit 13 = .ok (.iload_n 2, 1) := by decide +kernel
theorem dX3_exit_14 : decode cX3_exit 14 = .ok (.ifCond .lt 10, 3) := by decide +kernel
theorem dX3_exit_17 : decode cX3_exit 17 = .ok (.iload_n 2, 1) := by decide +kernel
theorem dX3_exit_18 : decode cX3_exit 18 = .ok (.sipush 255, 3) := by decide +kernel
theorem dX3_exit_21 : decode cX3_exit 21 = .ok (.if_icmp .le 7, 3) := by decide +kernel
theorem dX3_exit_24 : decode cX3_exit 24 = .ok (.iconst 2, 1) := by decide +kernel
theorem dX3_exit_25 : decode cX3_exit 25 = .ok (.goto 16, 3) := by decide +kernel
theorem dX3_exit_28 : decode cX3_exit 28 = .ok (.aload_n 0, 1) := by decide +kernel
theorem dX3_exit_29 : decode cX3_exit 29 = .ok (.iload_n 1, 1) := by decide +kernel
theorem dX3_exit_30 : decode cX3_exit 30 = .ok (.invokevirtual 165, 3) := by decide +kernel
theorem dX3_exit_33 : decode cX3_exit 33 = .ok (.ifCond .eq 7, 3) := by decide +kernel
theorem dX3_exit_36 : decode cX3_exit 36 = .ok (.iconst 3, 1) := by decide +kernel
theorem dX3_exit_37 : decode cX3_exit 37 = .ok (.goto 4, 3) := by decide +kernel
theorem dX3_exit_40 : decode cX3_exit 40 = .ok (.iconst 0, 1) := by decide +kernel
theorem dX3_exit_41 : decode cX3_exit 41 = .ok (.invokevirtual 162, 3) := by decide +kernel
theorem dX3_exit_44 : decode cX3_exit 44 = .ok (.ifCond .eq 4, 3) := by decide +kernel
theorem dX3_exit_47 : decode cX3_exit 47 = .ok (.return_, 1) := by decide +kernel
theorem dX3_exit_48 : decode cX3_exit 48 = .ok (.aload_n 0, 1) := by decide +kernel
theorem dX3_exit_49 : decode cX3_exit 49 = .ok (.iload_n 1, 1) := by decide +kernel
theorem dX3_exit_50 : decode cX3_exit 50 = .ok (.iconst 0, 1) := by decide +kernel
theorem dX3_exit_51 : decode cX3_exit 51 = .ok (.iload_n 2, 1) := by decide +kernel
theorem dX3_exit_52 : decode cX3_exit 52 = .ok (.invokevirtual 130, 3) := by decide +kernel
theorem dX3_exit_55 : decode cX3_exit 55 = .ok (.aload_n 0, 1) := by decide +kernel
theorem dX3_exit_56 : decode cX3_exit 56 = .ok (.invokevirtual 168, 3) := by decide +kernel
theorem dX3_exit_59 : decode cX3_exit 59 = .ok (.return_, 1) := by decide +kernel
set_option maxRecDepth 20000 in
theorem ggX3_waits_X3_checks : GoodIn wsX3_waits wsX3_checks := goodIn_r _ [8, 1, 9, 10, 11, 2, 12, 3, 13, 14, 15, 16, 17, 18, 19, 7, 20, 21, 22, 23, 24, 25, 26, 27, 28, 29, 30, 31, 32, 33, 34, 35, 36, 37, 38, 39, 40, 41, 42, 43, 44, 45, 46, 47, 48, 49, 50, 51, 52] (by decide +kernel) (by decide +kernel)
set_option maxRecDepth 20000 in
theorem gX3_waits_X3_checks : GoodIn wsX3_waits (wsV RX3 136 RX3 yX3_checks wsX3_checks) := goodIn_app (goodIn_of _ (by decide +kernel)) ggX3_waits_X3_checks
theorem dX3_waits_0 : decode cX3_waits 0 = .ok (.aload_n 0, 1) := by decide +kernel
theorem dX3_waits_1 : decode cX3_waits 1 = .ok (.getfield 29, 3) := by decide +kernel
theorem dX3_waits_4 : decode cX3_waits 4 = .ok (.iload_n 1, 1) := by decide +kernel
theorem dX3_waits_5 : decode cX3_waits 5 = .ok (.iconst 1, 1) := by decide +kernel
theorem dX3_waits_6 : decode cX3_waits 6 = .ok (.bastore, 1) := by decide +kernel
theorem dX3_waits_7 : decode cX3_waits 7 = .ok (.aload_n 0, 1) := by decide +kernel
theorem dX3_waits_8 : decode cX3_waits 8 = .ok (.getfield 32, 3) := by decide +kernel
theorem dX3_waits_11 : decode cX3_waits 11 = .ok (.iload_n 1, 1) := by decide +kernel
theorem dX3_waits_12 : decode cX3_waits 12 = .ok (.iload_n 2, 1) := by decide +kernel
theorem dX3_waits_13 : decode cX3_waits 13 = .ok (.iastore, 1) := by decide +kernel
theorem dX3_waits_14 : decode cX3_waits 14 = .ok (.aload_n 0, 1) := by decide +kernel
theorem dX3_waits_15 : decode cX3_waits 15 = .ok (.getfield 35, 3) := by decide +kernel
theorem dX3_waits_18 : decode cX3_waits 18 = .ok (.iload_n 1, 1) := by decide +kernel
theorem dX3_waits_19 : decode cX3_waits 19 = .ok (.iload_n 3, 1) := by decide +kernel
theorem dX3_waits_20 : decode cX3_waits 20 = .ok (.bastore, 1) := by decide +kernel
theorem dX3_waits_21 : decode cX3_waits 21 = .ok (.aload_n 0, 1) := by decide +kernel
theorem dX3_waits_22 : decode cX3_waits 22 = .ok (.iload_n 1, 1) := by decide +kernel
theorem dX3_waits_23 : decode cX3_waits 23 = .ok (.invokevirtual 136, 3) := by decide +kernel
theorem dX3_waits_26 : decode cX3_waits 26 = .ok (.aload_n 0, 1) := by decide +kernel
theorem dX3_waits_27 : decode cX3_waits 27 = .ok (.getfield 29, 3) := by decide +kernel
theorem dX3_waits_30 : decode cX3_waits 30 = .ok (.iload_n 1, 1) := by decide +kernel
theorem dX3_waits_31 : decode cX3_waits 31 = .ok (.baload, 1) := by decide +kernel
theorem dX3_waits_32 : decode cX3_waits 32 = .ok (.ifCond .ne 7, 3) := by decide +kernel
theorem dX3_waits_35 : decode cX3_waits 35 = .ok (.iconst 1, 1) := by decide +kernel
theorem dX3_waits_36 : decode cX3_waits 36 = .ok (.goto 4, 3) := by decide +kernel
theorem dX3_waits_39 : decode cX3_waits 39 = .ok (.iconst 0, 1) := by decide +kernel
theorem dX3_waits_40 : decode cX3_waits 40 = .ok (.ireturn, 1) := by decide +kernel
set_option maxRecDepth 20000 in
theorem ggX3_waitAny_X3_is : GoodIn wsX3_waitAny wsX3_is := goodIn_r _ [5, 6, 45, 46, 47, 48, 49, 50, 51, 52, 53, 54, 55, 56, 57, 58, 59, 60, 61, 62, 63, 64, 65, 66, 67, 68, 69, 70, 71, 72, 73] (by decide +kernel) (by decide +kernel)
set_option maxRecDepth 20000 in
theorem gX3_waitAny_X3_is : GoodIn wsX3_waitAny (wsV RX3 159 RX3 yX3_is wsX3_is) := goodIn_app (goodIn_of _ (by decide +kernel)) ggX3_waitAny_X3_is
set_option maxRecDepth 20000 in
theorem ggX3_waitAny_X3_cannot : GoodIn wsX3_waitAny wsX3_cannot := goodIn_r _ [10, 11, 12, 13, 4, 14, 15, 16, 17, 45, 46, 47, 48, 49, 50, 51, 52, 53, 54, 55, 56, 57, 58, 59, 60, 61, 62, 63, 64, 65, 66, 67, 68, 69, 70, 71, 72, 73] (by decide +kernel) (by decide +kernel)
set_option maxRecDepth 20000 in
theorem gX3_waitAny_X3_cannot : GoodIn wsX3_waitAny (wsV RX3 165 RX3 yX3_cannot wsX3_cannot) := goodIn_app (goodIn_of _ (by decide +kernel)) ggX3_waitAny_X3_cannot
set_option maxRecDepth 20000 in
theorem ggX3_waitAny_X3_fails : GoodIn wsX3_waitAny wsX3_fails := goodIn_r _ [21, 22, 45, 46, 47, 48, 49, 50, 51, 52, 53, 54, 55, 56, 57, 58, 59, 60, 61, 62, 63, 64, 65, 66, 67, 68, 69, 70, 71, 72, 73] (by decide +kernel) (by decide +kernel)
set_option maxRecDepth 20000 in
theorem gX3_waitAny_X3_fails : GoodIn wsX3_waitAny (wsV RX3 162 RX3 yX3_fails wsX3_fails) := goodIn_app (goodIn_of _ (by decide +kernel)) ggX3_waitAny_X3_fails
set_option maxRecDepth 20000 in
theorem ggX3_waitAny_X3_waits : GoodIn wsX3_waitAny wsX3_waits := goodIn_r _ [26, 17, 27, 28, 29, 30, 31, 4, 32, 16, 6, 33, 15, 34, 35, 36, 37, 38, 39, 40, 41, 42, 43, 44, 45, 46, 47, 48, 49, 50, 51, 52, 53, 54, 55, 56, 57, 58, 59, 60, 61, 62, 63, 64, 65, 66, 67, 68, 69, 70, 71, 72, 73] (by decide +kernel) (by decide +kernel)
set_option maxRecDepth 20000 in
theorem gX3_waitAny_X3_waits : GoodIn wsX3_waitAny (wsV RX3 171 RX3 yX3_waits wsX3_waits) := goodIn_app (goodIn_of _ (by decide +kernel)) ggX3_waitAny_X3_waits
theorem dX3_waitAny_0 : decode cX3_waitAny 0 = .ok (.aload_n 0, 1) := by decide +kernel
theorem dX3_waitAny_1 : decode cX3_waitAny 1 = .ok (.aload_n 0, 1) := by decide +kernel
theorem dX3_waitAny_2 : decode cX3_waitAny 2 = .ok (.iload_n 1, 1) := by decide +kernel
theorem dX3_waitAny_3 : decode cX3_waitAny 3 = .ok (.invokevirtual 159, 3) := by decide +kernel
theorem dX3_waitAny_6 : decode cX3_waitAny 6 = .ok (.ifCond .ne 7, 3) := by decide +kernel
theorem dX3_waitAny_9 : decode cX3_waitAny 9 = .ok (.iconst 1, 1) := by decide +kernel
theorem dX3_waitAny_10 : decode cX3_waitAny 10 = .ok (.goto 16, 3) := by decide +kernel
theorem dX3_waitAny_13 : decode cX3_waitAny 13 = .ok (.aload_n 0, 1) := by decide +kernel
theorem dX3_waitAny_14 : decode cX3_waitAny 14 = .ok (.iload_n 1, 1) := by decide +kernel
theorem dX3_waitAny_15 : decode cX3_waitAny 15 = .ok (.invokevirtual 165, 3) := by decide +kernel
theorem dX3_waitAny_18 : decode cX3_waitAny 18 = .ok (.ifCond .eq 7, 3) := by decide +kernel
theorem dX3_waitAny_21 : decode cX3_waitAny 21 = .ok (.iconst 2, 1) := by decide +kernel
theorem dX3_waitAny_22 : decode cX3_waitAny 22 = .ok (.goto 4, 3) := by decide +kernel
theorem dX3_waitAny_25 : decode cX3_waitAny 25 = .ok (.iconst 0, 1) := by decide +kernel
theorem dX3_waitAny_26 : decode cX3_waitAny 26 = .ok (.invokevirtual 162, 3) := by decide +kernel
theorem dX3_waitAny_29 : decode cX3_waitAny 29 = .ok (.ifCond .ne 17, 3) := by decide +kernel
theorem dX3_waitAny_32 : decode cX3_waitAny 32 = .ok (.aload_n 0, 1) := by decide +kernel
theorem dX3_waitAny_33 : decode cX3_waitAny 33 = .ok (.iload_n 1, 1) := by decide +kernel
theorem dX3_waitAny_34 : decode cX3_waitAny 34 = .ok (.iconst (-1), 1) := by decide +kernel
theorem dX3_waitAny_35 : decode cX3_waitAny 35 = .ok (.iload_n 2, 1) := by decide +kernel
theorem dX3_waitAny_36 : decode cX3_waitAny 36 = .ok (.invokevirtual 171, 3) := by decide +kernel
theorem dX3_waitAny_39 : decode cX3_waitAny 39 = .ok (.ifCond .eq 7, 3) := by decide +kernel
theorem dX3_waitAny_42 : decode cX3_waitAny 42 = .ok (.iconst 1, 1) := by decide +kernel
theorem dX3_waitAny_43 : decode cX3_waitAny 43 = .ok (.goto 4, 3) := by decide +kernel
theorem dX3_waitAny_46 : decode cX3_waitAny 46 = .ok (.iconst 0, 1) := by decide +kernel
theorem dX3_waitAny_47 : decode cX3_waitAny 47 = .ok (.ireturn, 1) := by decide +kernel
set_option maxRecDepth 20000 in
theorem ggX3_waitFor_X3_is : GoodIn wsX3_waitFor wsX3_is := goodIn_r _ [5, 6, 45, 46, 47, 48, 49, 50, 51, 52, 53, 54, 55, 56, 57, 58, 59, 60, 61, 62, 63, 64, 65, 66, 67, 68, 69, 70, 71, 72, 73] (by decide +kernel) (by decide +kernel)
set_option maxRecDepth 20000 in
theorem gX3_waitFor_X3_is : GoodIn wsX3_waitFor (wsV RX3 159 RX3 yX3_is wsX3_is) := goodIn_app (goodIn_of _ (by decide +kernel)) ggX3_waitFor_X3_is
set_option maxRecDepth 20000 in
theorem ggX3_waitFor_X3_cannot : GoodIn wsX3_waitFor wsX3_cannot := goodIn_r _ [10, 11, 12, 13, 4, 14, 15, 16, 17, 45, 46, 47, 48, 49, 50, 51, 52, 53, 54, 55, 56, 57, 58, 59, 60, 61, 62, 63, 64, 65, 66, 67, 68, 69, 70, 71, 72, 73] (by decide +kernel) (by decide +kernel)
set_option maxRecDepth 20000 in
theorem gX3_waitFor_X3_cannot : GoodIn wsX3_waitFor (wsV RX3 165 RX3 yX3_cannot wsX3_cannot) := goodIn_app (goodIn_of _ (by decide +kernel)) ggX3_waitFor_X3_cannot
set_option maxRecDepth 20000 in
theorem ggX3_waitFor_X3_fails : GoodIn wsX3_waitFor wsX3_fails := goodIn_r _ [21, 22, 45, 46, 47, 48, 49, 50, 51, 52, 53, 54, 55, 56, 57, 58, 59, 60, 61, 62, 63, 64, 65, 66, 67, 68, 69, 70, 71, 72, 73] (by decide +kernel) (by decide +kernel)
set_option maxRecDepth 20000 in
theorem gX3_waitFor_X3_fails : GoodIn wsX3_waitFor (wsV RX3 162 RX3 yX3_fails wsX3_fails) := goodIn_app (goodIn_of _ (by decide +kernel)) ggX3_waitFor_X3_fails
set_option maxRecDepth 20000 in
theorem ggX3_waitFor_X3_waits : GoodIn wsX3_waitFor wsX3_waits := goodIn_r _ [26, 17, 27, 28, 29, 30, 31, 4, 32, 16, 6, 33, 15, 34, 35, 36, 37, 38, 39, 40, 41, 42, 43, 44, 45, 46, 47, 48, 49, 50, 51, 52, 53, 54, 55, 56, 57, 58, 59, 60, 61, 62, 63, 64, 65, 66, 67, 68, 69, 70, 71, 72, 73] (by decide +kernel) (by decide +kernel)
set_option maxRecDepth 20000 in
theorem gX3_waitFor_X3_waits : GoodIn wsX3_waitFor (wsV RX3 171 RX3 yX3_waits wsX3_waits) := goodIn_app (goodIn_of _ (by decide +kernel)) ggX3_waitFor_X3_waits
theorem dX3_waitFor_0 : decode cX3_waitFor 0 = .ok (.aload_n 0, 1) := by decide +kernel
theorem dX3_waitFor_1 : decode cX3_waitFor 1 = .ok (.aload_n 0, 1) := by decide +kernel
theorem dX3_waitFor_2 : decode cX3_waitFor 2 = .ok (.iload_n 1, 1) := by decide +kernel
theorem dX3_waitFor_3 : decode cX3_waitFor 3 = .ok (.invokevirtual 159, 3) := by decide +kernel
theorem dX3_waitFor_6 : decode cX3_waitFor 6 = .ok (.ifCond .ne 7, 3) := by decide +kernel
theorem dX3_waitFor_9 : decode cX3_waitFor 9 = .ok (.iconst 1, 1) := by decide +kernel
theorem dX3_waitFor_10 : decode cX3_waitFor 10 = .ok (.goto 31, 3) := by decide +kernel
theorem dX3_waitFor_13 : decode cX3_waitFor 13 = .ok (.iload_n 2, 1) := by decide +kernel
theorem dX3_waitFor_14 : decode cX3_waitFor 14 = .ok (.iconst 1, 1) := by decide +kernel
theorem dX3_waitFor_15 : decode cX3_waitFor 15 = .ok (.if_icmp .lt 9, 3) := by decide +kernel
theorem dX3_waitFor_18 : decode cX3_waitFor 18 = .ok (.iload_n 2, 1) := by decide +kernel
theorem dX3_waitFor_19 : decode cX3_waitFor 19 = .ok (.bipush 40, 2) := by decide +kernel
theorem dX3_waitFor_21 : decode cX3_waitFor 21 = .ok (.if_icmp .le 7, 3) := by decide +kernel
theorem dX3_waitFor_24 : decode cX3_waitFor 24 = .ok (.iconst 2, 1) := by decide +kernel
theorem dX3_waitFor_25 : decode cX3_waitFor 25 = .ok (.goto 16, 3) := by decide +kernel
theorem dX3_waitFor_28 : decode cX3_waitFor 28 = .ok (.aload_n 0, 1) := by decide +kernel
theorem dX3_waitFor_29 : decode cX3_waitFor 29 = .ok (.iload_n 1, 1) := by decide +kernel
theorem dX3_waitFor_30 : decode cX3_waitFor 30 = .ok (.invokevirtual 165, 3) := by decide +kernel
theorem dX3_waitFor_33 : decode cX3_waitFor 33 = .ok (.ifCond .eq 7, 3) := by decide +kernel
theorem dX3_waitFor_36 : decode cX3_waitFor 36 = .ok (.iconst 3, 1) := by decide +kernel
theorem dX3_waitFor_37 : decode cX3_waitFor 37 = .ok (.goto 4, 3) := by decide +kernel
theorem dX3_waitFor_40 : decode cX3_waitFor 40 = .ok (.iconst 0, 1) := by decide +kernel
theorem dX3_waitFor_41 : decode cX3_waitFor 41 = .ok (.invokevirtual 162, 3) := by decide +kernel
theorem dX3_waitFor_44 : decode cX3_waitFor 44 = .ok (.ifCond .ne 17, 3) := by decide +kernel
theorem dX3_waitFor_47 : decode cX3_waitFor 47 = .ok (.aload_n 0, 1) := by decide +kernel
theorem dX3_waitFor_48 : decode cX3_waitFor 48 = .ok (.iload_n 1, 1) := by decide +kernel
theorem dX3_waitFor_49 : decode cX3_waitFor 49 = .ok (.iload_n 2, 1) := by decide +kernel
theorem dX3_waitFor_50 : decode cX3_waitFor 50 = .ok (.iload_n 3, 1) := by decide +kernel
theorem dX3_waitFor_51 : decode cX3_waitFor 51 = .ok (.invokevirtual 171, 3) := by decide +kernel
theorem dX3_waitFor_54 : decode cX3_waitFor 54 = .ok (.ifCond .eq 7, 3) := by decide +kernel
theorem dX3_waitFor_57 : decode cX3_waitFor 57 = .ok (.iconst 1, 1) := by decide +kernel
theorem dX3_waitFor_58 : decode cX3_waitFor 58 = .ok (.goto 4, 3) := by decide +kernel
theorem dX3_waitFor_61 : decode cX3_waitFor 61 = .ok (.iconst 0, 1) := by decide +kernel
theorem dX3_waitFor_62 : decode cX3_waitFor 62 = .ok (.ireturn, 1) := by decide +kernel
set_option maxRecDepth 20000 in
theorem ggX3_setAction_X3_is : GoodIn wsX3_setAction wsX3_is := goodIn_r _ [7, 8, 25, 26, 27, 28, 29, 30, 31, 32, 33, 34, 35, 36, 37, 38, 39, 40, 41, 42, 43, 44, 45, 46, 47, 48, 49, 50, 51, 52, 53] (by decide +kernel) (by decide +kernel)
set_option maxRecDepth 20000 in
theorem gX3_setAction_X3_is : GoodIn wsX3_setAction (wsV RX3 159 RX3 yX3_is wsX3_is) := goodIn_app (goodIn_of _ (by decide +kernel)) ggX3_setAction_X3_is
set_option maxRecDepth 20000 in
theorem ggX3_setAction_X3_cannot : GoodIn wsX3_setAction wsX3_cannot := goodIn_r _ [12, 13, 14, 15, 6, 16, 17, 18, 19, 25, 26, 27, 28, 29, 30, 31, 32, 33, 34, 35, 36, 37, 38, 39, 40, 41, 42, 43, 44, 45, 46, 47, 48, 49, 50, 51, 52, 53] (by decide +kernel) (by decide +kernel)
set_option maxRecDepth 20000 in
theorem gX3_setAction_X3_cannot : GoodIn wsX3_setAction (wsV RX3 165 RX3 yX3_cannot wsX3_cannot) := goodIn_app (goodIn_of _ (by decide +kernel)) ggX3_setAction_X3_cannot
set_option maxRecDepth 20000 in
theorem ggX3_setAction_X3_fails : GoodIn wsX3_setAction wsX3_fails := goodIn_r _ [23, 24, 25, 26, 27, 28, 29, 30, 31, 32, 33, 34, 35, 36, 37, 38, 39, 40, 41, 42, 43, 44, 45, 46, 47, 48, 49, 50, 51, 52, 53] (by decide +kernel) (by decide +kernel)
set_option maxRecDepth 20000 in
theorem gX3_setAction_X3_fails : GoodIn wsX3_setAction (wsV RX3 162 RX3 yX3_fails wsX3_fails) := goodIn_app (goodIn_of _ (by decide +kernel)) ggX3_setAction_X3_fails
theorem dX3_setAction_0 : decode cX3_setAction 0 = .ok (.iload_n 2, 1) := by decide +kernel
theorem dX3_setAction_1 : decode cX3_setAction 1 = .ok (.ifCond .lt 32, 3) := by decide +kernel
theorem dX3_setAction_4 : decode cX3_setAction 4 = .ok (.iload_n 2, 1) := by decide +kernel
theorem dX3_setAction_5 : decode cX3_setAction 5 = .ok (.bipush 9, 2) := by decide +kernel
theorem dX3_setAction_7 : decode cX3_setAction 7 = .ok (.if_icmp .ge 26, 3) := by decide +kernel
theorem dX3_setAction_10 : decode cX3_setAction 10 = .ok (.iload_n 2, 1) := by decide +kernel
theorem dX3_setAction_11 : decode cX3_setAction 11 = .ok (.iconst 2, 1) := by decide +kernel
theorem dX3_setAction_12 : decode cX3_setAction 12 = .ok (.if_icmp .eq 21, 3) := by decide +kernel
theorem dX3_setAction_15 : decode cX3_setAction 15 = .ok (.iload_n 2, 1) := by decide +kernel
theorem dX3_setAction_16 : decode cX3_setAction 16 = .ok (.iconst 5, 1) := by decide +kernel
theorem dX3_setAction_17 : decode cX3_setAction 17 = .ok (.if_icmp .eq 16, 3) := by decide +kernel
theorem dX3_setAction_20 : decode cX3_setAction 20 = .ok (.iload_n 3, 1) := by decide +kernel
theorem dX3_setAction_21 : decode cX3_setAction 21 = .ok (.ifCond .lt 12, 3) := by decide +kernel
theorem dX3_setAction_24 : decode cX3_setAction 24 = .ok (.iload_n 3, 1) := by decide +kernel
theorem dX3_setAction_25 : decode cX3_setAction 25 = .ok (.iconst 2, 1) := by decide +kernel
theorem dX3_setAction_26 : decode cX3_setAction 26 = .ok (.if_icmp .gt 7, 3) := by decide +kernel
theorem dX3_setAction_29 : decode cX3_setAction 29 = .ok (.iconst 1, 1) := by decide +kernel
theorem dX3_setAction_30 : decode cX3_setAction 30 = .ok (.goto 4, 3) := by decide +kernel
theorem dX3_setAction_33 : decode cX3_setAction 33 = .ok (.iconst 0, 1) := by decide +kernel
theorem dX3_setAction_34 : decode cX3_setAction 34 = .ok (.istore 4, 2) := by decide +kernel
theorem dX3_setAction_36 : decode cX3_setAction 36 = .ok (.aload_n 0, 1) := by decide +kernel
theorem dX3_setAction_37 : decode cX3_setAction 37 = .ok (.aload_n 0, 1) := by decide +kernel
theorem dX3_setAction_38 : decode cX3_setAction 38 = .ok (.iload_n 1, 1) := by decide +kernel
theorem dX3_setAction_39 : decode cX3_setAction 39 = .ok (.invokevirtual 159, 3) := by decide +kernel
theorem dX3_setAction_42 : decode cX3_setAction 42 = .ok (.ifCond .ne 7, 3) := by decide +kernel
theorem dX3_setAction_45 : decode cX3_setAction 45 = .ok (.iconst 1, 1) := by decide +kernel
theorem dX3_setAction_46 : decode cX3_setAction 46 = .ok (.goto 25, 3) := by decide +kernel
theorem dX3_setAction_49 : decode cX3_setAction 49 = .ok (.iload 4, 2) := by decide +kernel
theorem dX3_setAction_51 : decode cX3_setAction 51 = .ok (.ifCond .ne 7, 3) := by decide +kernel
theorem dX3_setAction_54 : decode cX3_setAction 54 = .ok (.iconst 2, 1) := by decide +kernel
theorem dX3_setAction_55 : decode cX3_setAction 55 = .ok (.goto 16, 3) := by decide +kernel
theorem dX3_setAction_58 : decode cX3_setAction 58 = .ok (.aload_n 0, 1) := by decide +kernel
theorem dX3_setAction_59 : decode cX3_setAction 59 = .ok (.iload_n 1, 1) := by decide +kernel
theorem dX3_setAction_60 : decode cX3_setAction 60 = .ok (.invokevirtual 165, 3) := by decide +kernel
theorem dX3_setAction_63 : decode cX3_setAction 63 = .ok (.ifCond .eq 7, 3) := by decide +kernel
theorem dX3_setAction_66 : decode cX3_setAction 66 = .ok (.iconst 3, 1) := by decide +kernel
theorem dX3_setAction_67 : decode cX3_setAction 67 = .ok (.goto 4, 3) := by decide +kernel
theorem dX3_setAction_70 : decode cX3_setAction 70 = .ok (.iconst 0, 1) := by decide +kernel
theorem dX3_setAction_71 : decode cX3_setAction 71 = .ok (.invokevirtual 162, 3) := by decide +kernel
theorem dX3_setAction_74 : decode cX3_setAction 74 = .ok (.ifCond .eq 5, 3) := by decide +kernel
theorem dX3_setAction_77 : decode cX3_setAction 77 = .ok (.iconst 0, 1) := by decide +kernel
theorem dX3_setAction_78 : decode cX3_setAction 78 = .ok (.ireturn, 1) := by decide +kernel
theorem dX3_setAction_79 : decode cX3_setAction 79 = .ok (.aload_n 0, 1) := by decide +kernel
theorem dX3_setAction_80 : decode cX3_setAction 80 = .ok (.getfield 38, 3) := by decide +kernel
theorem dX3_setAction_83 : decode cX3_setAction 83 = .ok (.bipush 9, 2) := by decide +kernel
theorem dX3_setAction_85 : decode cX3_setAction 85 = .ok (.iload_n 1, 1) := by decide +kernel
theorem dX3_setAction_86 : decode cX3_setAction 86 = .ok (.imul, 1) := by decide +kernel
theorem dX3_setAction_87 : decode cX3_setAction 87 = .ok (.iload_n 2, 1) := by decide +kernel
theorem dX3_setAction_88 : decode cX3_setAction 88 = .ok (.iadd, 1) := by decide +kernel
theorem dX3_setAction_89 : decode cX3_setAction 89 = .ok (.iaload, 1) := by decide +kernel
theorem dX3_setAction_90 : decode cX3_setAction 90 = .ok (.istore 5, 2) := by decide +kernel
theorem dX3_setAction_92 : decode cX3_setAction 92 = .ok (.aload_n 0, 1) := by decide +kernel
theorem dX3_setAction_93 : decode cX3_setAction 93 = .ok (.getfield 38, 3) := by decide +kernel
theorem dX3_setAction_96 : decode cX3_setAction 96 = .ok (.bipush 9, 2) := by decide +kernel
theorem dX3_setAction_98 : decode cX3_setAction 98 = .ok (.iload_n 1, 1) := by decide +kernel
theorem dX3_setAction_99 : decode cX3_setAction 99 = .ok (.imul, 1) := by decide +kernel
theorem dX3_setAction_100 : decode cX3_setAction 100 = .ok (.iload_n 2, 1) := by decide +kernel
theorem dX3_setAction_101 : decode cX3_setAction 101 = .ok (.iadd, 1) := by decide +kernel
theorem dX3_setAction_102 : decode cX3_setAction 102 = .ok (.iload_n 3, 1) := by decide +kernel
theorem dX3_setAction_103 : decode cX3_setAction 103 = .ok (.iastore, 1) := by decide +kernel
theorem dX3_setAction_104 : decode cX3_setAction 104 = .ok (.iload_n 3, 1) := by decide +kernel
theorem dX3_setAction_105 : decode cX3_setAction 105 = .ok (.iconst 1, 1) := by decide +kernel
theorem dX3_setAction_106 : decode cX3_setAction 106 = .ok (.if_icmp .eq 18, 3) := by decide +kernel
theorem dX3_setAction_109 : decode cX3_setAction 109 = .ok (.iload_n 3, 1) := by decide +kernel
theorem dX3_setAction_110 : decode cX3_setAction 110 = .ok (.ifCond .ne 18, 3) := by decide +kernel
theorem dX3_setAction_113 : decode cX3_setAction 113 = .ok (.iload_n 2, 1) := by decide +kernel
theorem dX3_setAction_114 : decode cX3_setAction 114 = .ok (.iconst 4, 1) := by decide +kernel
theorem dX3_setAction_115 : decode cX3_setAction 115 = .ok (.if_icmp .eq 9, 3) := by decide +kernel
theorem dX3_setAction_118 : decode cX3_setAction 118 = .ok (.iload_n 2, 1) := by decide +kernel
theorem dX3_setAction_119 : decode cX3_setAction 119 = .ok (.bipush 7, 2) := by decide +kernel
theorem dX3_setAction_121 : decode cX3_setAction 121 = .ok (.if_icmp .ne 7, 3) := by decide +kernel
theorem dX3_setAction_124 : decode cX3_setAction 124 = .ok (.iconst 1, 1) := by decide +kernel
theorem dX3_setAction_125 : decode cX3_setAction 125 = .ok (.goto 4, 3) := by decide +kernel
theorem dX3_setAction_128 : decode cX3_setAction 128 = .ok (.iconst 0, 1) := by decide +kernel
theorem dX3_setAction_129 : decode cX3_setAction 129 = .ok (.istore 6, 2) := by decide +kernel
theorem dX3_setAction_131 : decode cX3_setAction 131 = .ok (.aload_n 0, 1) := by decide +kernel
theorem dX3_setAction_132 : decode cX3_setAction 132 = .ok (.getfield 44, 3) := by decide +kernel
theorem dX3_setAction_135 : decode cX3_setAction 135 = .ok (.iload_n 1, 1) := by decide +kernel
theorem dX3_setAction_136 : decode cX3_setAction 136 = .ok (.dup2, 1) := by decide +kernel
theorem dX3_setAction_137 : decode cX3_setAction 137 = .ok (.iaload, 1) := by decide +kernel
theorem dX3_setAction_138 : decode cX3_setAction 138 = .ok (.iload 6, 2) := by decide +kernel
theorem dX3_setAction_140 : decode cX3_setAction 140 = .ok (.ifCond .eq 11, 3) := by decide +kernel
theorem dX3_setAction_143 : decode cX3_setAction 143 = .ok (.iconst 1, 1) := by decide +kernel
theorem dX3_setAction_144 : decode cX3_setAction 144 = .ok (.iload_n 2, 1) := by decide +kernel
theorem dX3_setAction_145 : decode cX3_setAction 145 = .ok (.ishl, 1) := by decide +kernel
theorem dX3_setAction_146 : decode cX3_setAction 146 = .ok (.iconst (-1), 1) := by decide +kernel
theorem dX3_setAction_147 : decode cX3_setAction 147 = .ok (.ixor, 1) := by decide +kernel
theorem dX3_setAction_148 : decode cX3_setAction 148 = .ok (.goto 4, 3) := by decide +kernel
theorem dX3_setAction_151 : decode cX3_setAction 151 = .ok (.iconst (-1), 1) := by decide +kernel
theorem dX3_setAction_152 : decode cX3_setAction 152 = .ok (.iand, 1) := by decide +kernel
theorem dX3_setAction_153 : decode cX3_setAction 153 = .ok (.iastore, 1) := by decide +kernel
theorem dX3_setAction_154 : decode cX3_setAction 154 = .ok (.iload 5, 2) := by decide +kernel
theorem dX3_setAction_156 : decode cX3_setAction 156 = .ok (.ireturn, 1) := by decide +kernel
set_option maxRecDepth 20000 in
theorem ggX3_setMask_X3_is : GoodIn wsX3_setMask wsX3_is := goodIn_r _ [6, 7, 111, 112, 113, 114, 115, 116, 117, 118, 119, 120, 121, 122, 123, 124, 125, 126, 127, 128, 129, 130, 131, 132, 133, 134, 135, 136, 137, 138, 139] (by decide +kernel) (by decide +kernel)
set_option maxRecDepth 20000 in
theorem gX3_setMask_X3_is : GoodIn wsX3_setMask (wsV RX3 159 RX3 yX3_is wsX3_is) := goodIn_app (goodIn_of _ (by decide +kernel)) ggX3_setMask_X3_is
set_option maxRecDepth 20000 in
theorem ggX3_setMask_X3_cannot : GoodIn wsX3_setMask wsX3_cannot := goodIn_r _ [11, 12, 13, 14, 5, 15, 16, 17, 18, 111, 112, 113, 114, 115, 116, 117, 118, 119, 120, 121, 122, 123, 124, 125, 126, 127, 128, 129, 130, 131, 132, 133, 134, 135, 136, 137, 138, 139] (by decide +kernel) (by decide +kernel)
set_option maxRecDepth 20000 in
theorem gX3_setMask_X3_cannot : GoodIn wsX3_setMask (wsV RX3 165 RX3 yX3_cannot wsX3_cannot) := goodIn_app (goodIn_of _ (by decide +kernel)) ggX3_setMask_X3_cannot
set_option maxRecDepth 20000 in
theorem ggX3_setMask_X3_fails : GoodIn wsX3_setMask wsX3_fails := goodIn_r _ [22, 23, 111, 112, 113, 114, 115, 116, 117, 118, 119, 120, 121, 122, 123, 124, 125, 126, 127, 128, 129, 130, 131, 132, 133, 134, 135, 136, 137, 138, 139] (by decide +kernel) (by decide +kernel)
set_option maxRecDepth 20000 in
theorem gX3_setMask_X3_fails : GoodIn wsX3_setMask (wsV RX3 162 RX3 yX3_fails wsX3_fails) := goodIn_app (goodIn_of _ (by decide +kernel)) ggX3_setMask_X3_fails
set_option maxRecDepth 20000 in
theorem ggX3_setMask_X3_delivers : GoodIn wsX3_setMask wsX3_delivers := goodIn_r _ [27, 28, 1, 16, 17, 29, 30, 31, 5, 32, 33, 34, 18, 35, 36, 37, 38, 39, 40, 41, 42, 43, 44, 45, 46, 47, 48, 49, 50, 51, 52, 7, 53, 54, 55, 56, 57, 58, 59, 60, 61, 62, 63, 64, 65, 66, 67, 68, 69, 70, 71, 72, 73, 74, 75, 76, 77, 78, 79, 80, 81, 82, 83, 84, 85, 86, 87, 88, 89, 90, 91, 92, 93, 111, 112, 113, 114, 115, 116, 117, 118, 119, 120, 121, 122, 123, 124, 125, 126, 127, 128, 129, 130, 131, 132, 133, 134, 135, 136, 137, 138, 139] (by decide +kernel) (by decide +kernel)
set_option maxRecDepth 20000 in
theorem gX3_setMask_X3_delivers : GoodIn wsX3_setMask (wsV RX3 140 RX3 yX3_delivers wsX3_delivers) := goodIn_app (goodIn_of _ (by decide +kernel)) ggX3_setMask_X3_delivers
set_option maxRecDepth 20000 in
theorem ggX3_setMask_X3_goes : GoodIn wsX3_setMask wsX3_goes := goodIn_r _ [97, 98, 64, 63, 99, 100, 101, 5, 102, 7, 16, 28, 58, 17, 33, 65, 66, 67, 68, 69, 70, 71, 18, 72, 47, 48, 73, 74, 43, 44, 45, 46, 35, 49, 50, 51, 52, 75, 76, 77, 78, 79, 80, 81, 82, 83, 59, 60, 61, 62, 84, 85, 86, 87, 53, 54, 55, 56, 57, 24, 25, 26, 27, 1, 29, 30, 31, 32, 34, 36, 37, 38, 39, 40, 41, 42, 88, 89, 90, 91, 92, 93, 103, 104, 105, 106, 107, 108, 109, 110, 111, 112, 113, 114, 115, 116, 117, 118, 119, 120, 121, 122, 123, 124, 125, 126, 127, 128, 129, 130, 131, 132, 133, 134, 135, 136, 137, 138, 139] (by decide +kernel) (by decide +kernel)
set_option maxRecDepth 20000 in
theorem gX3_setMask_X3_goes : GoodIn wsX3_setMask (wsV RX3 168 RX3 yX3_goes wsX3_goes) := goodIn_app (goodIn_of _ (by decide +kernel)) ggX3_setMask_X3_goes
theorem dX3_setMask_0 : decode cX3_setMask 0 = .ok (.aload_n 0, 1) := by decide +kernel
theorem dX3_setMask_1 : decode cX3_setMask 1 = .ok (.aload_n 0, 1) := by decide +kernel
theorem dX3_setMask_2 : decode cX3_setMask 2 = .ok (.iload_n 1, 1) := by decide +kernel
theorem dX3_setMask_3 : decode cX3_setMask 3 = .ok (.invokevirtual 159, 3) := by decide +kernel
theorem dX3_setMask_6 : decode cX3_setMask 6 = .ok (.ifCond .ne 7, 3) := by decide +kernel
theorem dX3_setMask_9 : decode cX3_setMask 9 = .ok (.iconst 1, 1) := by decide +kernel
theorem dX3_setMask_10 : decode cX3_setMask 10 = .ok (.goto 31, 3) := by decide +kernel
theorem dX3_setMask_13 : decode cX3_setMask 13 = .ok (.iload_n 2, 1) := by decide +kernel
theorem dX3_setMask_14 : decode cX3_setMask 14 = .ok (.ifCond .lt 10, 3) := by decide +kernel
theorem dX3_setMask_17 : decode cX3_setMask 17 = .ok (.iload_n 2, 1) := by decide +kernel
theorem dX3_setMask_18 : decode cX3_setMask 18 = .ok (.sipush 511, 3) := by decide +kernel
theorem dX3_setMask_21 : decode cX3_setMask 21 = .ok (.if_icmp .le 7, 3) := by decide +kernel
theorem dX3_setMask_24 : decode cX3_setMask 24 = .ok (.iconst 2, 1) := by decide +kernel
theorem dX3_setMask_25 : decode cX3_setMask 25 = .ok (.goto 16, 3) := by decide +kernel
theorem dX3_setMask_28 : decode cX3_setMask 28 = .ok (.aload_n 0, 1) := by decide +kernel
theorem dX3_setMask_29 : decode cX3_setMask 29 = .ok (.iload_n 1, 1) := by decide +kernel
theorem dX3_setMask_30 : decode cX3_setMask 30 = .ok (.invokevirtual 165, 3) := by decide +kernel
theorem dX3_setMask_33 : decode cX3_setMask 33 = .ok (.ifCond .eq 7, 3) := by decide +kernel
theorem dX3_setMask_36 : decode cX3_setMask 36 = .ok (.iconst 3, 1) := by decide +kernel
theorem dX3_setMask_37 : decode cX3_setMask 37 = .ok (.goto 4, 3) := by decide +kernel
theorem dX3_setMask_40 : decode cX3_setMask 40 = .ok (.iconst 0, 1) := by decide +kernel
theorem dX3_setMask_41 : decode cX3_setMask 41 = .ok (.invokevirtual 162, 3) := by decide +kernel
theorem dX3_setMask_44 : decode cX3_setMask 44 = .ok (.ifCond .eq 5, 3) := by decide +kernel
theorem dX3_setMask_47 : decode cX3_setMask 47 = .ok (.iconst 0, 1) := by decide +kernel
theorem dX3_setMask_48 : decode cX3_setMask 48 = .ok (.ireturn, 1) := by decide +kernel
theorem dX3_setMask_49 : decode cX3_setMask 49 = .ok (.aload_n 0, 1) := by decide +kernel
theorem dX3_setMask_50 : decode cX3_setMask 50 = .ok (.getfield 41, 3) := by decide +kernel
theorem dX3_setMask_53 : decode cX3_setMask 53 = .ok (.iload_n 1, 1) := by decide +kernel
theorem dX3_setMask_54 : decode cX3_setMask 54 = .ok (.iaload, 1) := by decide +kernel
theorem dX3_setMask_55 : decode cX3_setMask 55 = .ok (.istore_n 3, 1) := by decide +kernel
theorem dX3_setMask_56 : decode cX3_setMask 56 = .ok (.aload_n 0, 1) := by decide +kernel
theorem dX3_setMask_57 : decode cX3_setMask 57 = .ok (.getfield 41, 3) := by decide +kernel
theorem dX3_setMask_60 : decode cX3_setMask 60 = .ok (.iload_n 1, 1) := by decide +kernel
theorem dX3_setMask_61 : decode cX3_setMask 61 = .ok (.iload_n 2, 1) := by decide +kernel
theorem dX3_setMask_62 : decode cX3_setMask 62 = .ok (.bipush (-37), 2) := by decide +kernel
theorem dX3_setMask_64 : decode cX3_setMask 64 = .ok (.iand, 1) := by decide +kernel
theorem dX3_setMask_65 : decode cX3_setMask 65 = .ok (.iastore, 1) := by decide +kernel
theorem dX3_setMask_66 : decode cX3_setMask 66 = .ok (.aload_n 0, 1) := by decide +kernel
theorem dX3_setMask_67 : decode cX3_setMask 67 = .ok (.iload_n 1, 1) := by decide +kernel
theorem dX3_setMask_68 : decode cX3_setMask 68 = .ok (.invokevirtual 140, 3) := by decide +kernel
theorem dX3_setMask_71 : decode cX3_setMask 71 = .ok (.aload_n 0, 1) := by decide +kernel
theorem dX3_setMask_72 : decode cX3_setMask 72 = .ok (.invokevirtual 168, 3) := by decide +kernel
theorem dX3_setMask_75 : decode cX3_setMask 75 = .ok (.iload_n 3, 1) := by decide +kernel
theorem dX3_setMask_76 : decode cX3_setMask 76 = .ok (.ireturn, 1) := by decide +kernel
set_option maxRecDepth 20000 in
theorem ggX3_beginSession_X3_is : GoodIn wsX3_beginSession wsX3_is := goodIn_r _ [8, 1, 25, 26, 27, 28, 29, 30, 31, 32, 33, 34, 35, 36, 37, 38, 39, 40, 41, 42, 43, 44, 45, 46, 47, 48, 49, 50, 51, 52, 53] (by decide +kernel) (by decide +kernel)
set_option maxRecDepth 20000 in
theorem gX3_beginSession_X3_is : GoodIn wsX3_beginSession (wsV RX3 159 RX3 yX3_is wsX3_is) := goodIn_app (goodIn_of _ (by decide +kernel)) ggX3_beginSession_X3_is
set_option maxRecDepth 20000 in
theorem ggX3_beginSession_X3_cannot : GoodIn wsX3_beginSession wsX3_cannot := goodIn_r _ [12, 13, 14, 15, 7, 16, 17, 18, 19, 25, 26, 27, 28, 29, 30, 31, 32, 33, 34, 35, 36, 37, 38, 39, 40, 41, 42, 43, 44, 45, 46, 47, 48, 49, 50, 51, 52, 53] (by decide +kernel) (by decide +kernel)
set_option maxRecDepth 20000 in
theorem gX3_beginSession_X3_cannot : GoodIn wsX3_beginSession (wsV RX3 165 RX3 yX3_cannot wsX3_cannot) := goodIn_app (goodIn_of _ (by decide +kernel)) ggX3_beginSession_X3_cannot
set_option maxRecDepth 20000 in
theorem ggX3_beginSession_X3_fails : GoodIn wsX3_beginSession wsX3_fails := goodIn_r _ [23, 24, 25, 26, 27, 28, 29, 30, 31, 32, 33, 34, 35, 36, 37, 38, 39, 40, 41, 42, 43, 44, 45, 46, 47, 48, 49, 50, 51, 52, 53] (by decide +kernel) (by decide +kernel)
set_option maxRecDepth 20000 in
theorem gX3_beginSession_X3_fails : GoodIn wsX3_beginSession (wsV RX3 162 RX3 yX3_fails wsX3_fails) := goodIn_app (goodIn_of _ (by decide +kernel)) ggX3_beginSession_X3_fails
theorem dX3_beginSession_0 : decode cX3_beginSession 0 = .ok (.iconst 0, 1) := by decide +kernel
theorem dX3_beginSession_1 : decode cX3_beginSession 1 = .ok (.istore_n 2, 1) := by decide +kernel
theorem dX3_beginSession_2 : decode cX3_beginSession 2 = .ok (.iconst 1, 1) := by decide +kernel
theorem dX3_beginSession_3 : decode cX3_beginSession 3 = .ok (.istore_n 3, 1) := by decide +kernel
theorem dX3_beginSession_4 : decode cX3_beginSession 4 = .ok (.iload_n 3, 1) := by decide +kernel
theorem dX3_beginSession_5 : decode cX3_beginSession 5 = .ok (.bipush 40, 2) := by decide +kernel
theorem dX3_beginSession_7 : decode cX3_beginSession 7 = .ok (.if_icmp .gt 38, 3) := by decide +kernel
theorem dX3_beginSession_10 : decode cX3_beginSession 10 = .ok (.iload_n 2, 1) := by decide +kernel
theorem dX3_beginSession_11 : decode cX3_beginSession 11 = .ok (.ifCond .ne 22, 3) := by decide +kernel
theorem dX3_beginSession_14 : decode cX3_beginSession 14 = .ok (.aload_n 0, 1) := by decide +kernel
theorem dX3_beginSession_15 : decode cX3_beginSession 15 = .ok (.getfield 7, 3) := by decide +kernel
theorem dX3_beginSession_18 : decode cX3_beginSession 18 = .ok (.iload_n 3, 1) := by decide +kernel
theorem dX3_beginSession_19 : decode cX3_beginSession 19 = .ok (.baload, 1) := by decide +kernel
theorem dX3_beginSession_20 : decode cX3_beginSession 20 = .ok (.ifCond .eq 17, 3) := by decide +kernel
theorem dX3_beginSession_23 : decode cX3_beginSession 23 = .ok (.aload_n 0, 1) := by decide +kernel
theorem dX3_beginSession_24 : decode cX3_beginSession 24 = .ok (.getfield 17, 3) := by decide +kernel
theorem dX3_beginSession_27 : decode cX3_beginSession 27 = .ok (.iload_n 3, 1) := by decide +kernel
theorem dX3_beginSession_28 : decode cX3_beginSession 28 = .ok (.iaload, 1) := by decide +kernel
theorem dX3_beginSession_29 : decode cX3_beginSession 29 = .ok (.iload_n 1, 1) := by decide +kernel
theorem dX3_beginSession_30 : decode cX3_beginSession 30 = .ok (.if_icmp .ne 7, 3) := by decide +kernel
theorem dX3_beginSession_33 : decode cX3_beginSession 33 = .ok (.iconst 1, 1) := by decide +kernel
theorem dX3_beginSession_34 : decode cX3_beginSession 34 = .ok (.goto 4, 3) := by decide +kernel
theorem dX3_beginSession_37 : decode cX3_beginSession 37 = .ok (.iconst 0, 1) := by decide +kernel
theorem dX3_beginSession_38 : decode cX3_beginSession 38 = .ok (.istore_n 2, 1) := by decide +kernel
theorem dX3_beginSession_39 : decode cX3_beginSession 39 = .ok (.iinc 3 1, 3) := by decide +kernel
theorem dX3_beginSession_42 : decode cX3_beginSession 42 = .ok (.goto (-38), 3) := by decide +kernel
theorem dX3_beginSession_45 : decode cX3_beginSession 45 = .ok (.aload_n 0, 1) := by decide +kernel
theorem dX3_beginSession_46 : decode cX3_beginSession 46 = .ok (.aload_n 0, 1) := by decide +kernel
theorem dX3_beginSession_47 : decode cX3_beginSession 47 = .ok (.iload_n 1, 1) := by decide +kernel
theorem dX3_beginSession_48 : decode cX3_beginSession 48 = .ok (.invokevirtual 159, 3) := by decide +kernel
theorem dX3_beginSession_51 : decode cX3_beginSession 51 = .ok (.ifCond .ne 7, 3) := by decide +kernel
theorem dX3_beginSession_54 : decode cX3_beginSession 54 = .ok (.iconst 1, 1) := by decide +kernel
theorem dX3_beginSession_55 : decode cX3_beginSession 55 = .ok (.goto 20, 3) := by decide +kernel
theorem dX3_beginSession_58 : decode cX3_beginSession 58 = .ok (.aload_n 0, 1) := by decide +kernel
theorem dX3_beginSession_59 : decode cX3_beginSession 59 = .ok (.iload_n 1, 1) := by decide +kernel
theorem dX3_beginSession_60 : decode cX3_beginSession 60 = .ok (.invokevirtual 165, 3) := by decide +kernel
theorem dX3_beginSession_63 : decode cX3_beginSession 63 = .ok (.ifCond .ne 7, 3) := by decide +kernel
theorem dX3_beginSession_66 : decode cX3_beginSession 66 = .ok (.iload_n 2, 1) := by decide +kernel
theorem dX3_beginSession_67 : decode cX3_beginSession 67 = .ok (.ifCond .eq 7, 3) := by decide +kernel
theorem dX3_beginSession_70 : decode cX3_beginSession 70 = .ok (.iconst 2, 1) := by decide +kernel
theorem dX3_beginSession_71 : decode cX3_beginSession 71 = .ok (.goto 4, 3) := by decide +kernel
theorem dX3_beginSession_74 : decode cX3_beginSession 74 = .ok (.iconst 0, 1) := by decide +kernel
theorem dX3_beginSession_75 : decode cX3_beginSession 75 = .ok (.invokevirtual 162, 3) := by decide +kernel
theorem dX3_beginSession_78 : decode cX3_beginSession 78 = .ok (.ifCond .eq 4, 3) := by decide +kernel
theorem dX3_beginSession_81 : decode cX3_beginSession 81 = .ok (.return_, 1) := by decide +kernel
theorem dX3_beginSession_82 : decode cX3_beginSession 82 = .ok (.aload_n 0, 1) := by decide +kernel
theorem dX3_beginSession_83 : decode cX3_beginSession 83 = .ok (.getfield 20, 3) := by decide +kernel
theorem dX3_beginSession_86 : decode cX3_beginSession 86 = .ok (.iload_n 1, 1) := by decide +kernel
theorem dX3_beginSession_87 : decode cX3_beginSession 87 = .ok (.iload_n 1, 1) := by decide +kernel
theorem dX3_beginSession_88 : decode cX3_beginSession 88 = .ok (.iastore, 1) := by decide +kernel
theorem dX3_beginSession_89 : decode cX3_beginSession 89 = .ok (.aload_n 0, 1) := by decide +kernel
theorem dX3_beginSession_90 : decode cX3_beginSession 90 = .ok (.getfield 17, 3) := by decide +kernel
theorem dX3_beginSession_93 : decode cX3_beginSession 93 = .ok (.iload_n 1, 1) := by decide +kernel
theorem dX3_beginSession_94 : decode cX3_beginSession 94 = .ok (.iload_n 1, 1) := by decide +kernel
theorem dX3_beginSession_95 : decode cX3_beginSession 95 = .ok (.iastore, 1) := by decide +kernel
theorem dX3_beginSession_96 : decode cX3_beginSession 96 = .ok (.return_, 1) := by decide +kernel
set_option maxRecDepth 20000 in
theorem ggX3_isIn_X3_isMember : GoodIn wsX3_isIn wsX3_isMember := goodIn_r _ [6, 7, 8, 9, 10, 11, 12, 13, 14, 15, 16, 17, 18, 19, 20, 21, 22, 23, 24, 25, 26, 27, 28, 29, 30, 31, 32, 33, 34, 35, 36, 37, 38] (by decide +kernel) (by decide +kernel)
set_option maxRecDepth 20000 in
theorem gX3_isIn_X3_isMember : GoodIn wsX3_isIn (wsV RX3 97 RX3 yX3_isMember wsX3_isMember) := goodIn_app (goodIn_of _ (by decide +kernel)) ggX3_isIn_X3_isMember
theorem dX3_isIn_0 : decode cX3_isIn 0 = .ok (.iconst 0, 1) := by decide +kernel
theorem dX3_isIn_1 : decode cX3_isIn 1 = .ok (.istore_n 3, 1) := by decide +kernel
theorem dX3_isIn_2 : decode cX3_isIn 2 = .ok (.iconst 1, 1) := by decide +kernel
theorem dX3_isIn_3 : decode cX3_isIn 3 = .ok (.istore 4, 2) := by decide +kernel
theorem dX3_isIn_5 : decode cX3_isIn 5 = .ok (.iload 4, 2) := by decide +kernel
theorem dX3_isIn_7 : decode cX3_isIn 7 = .ok (.bipush 40, 2) := by decide +kernel
theorem dX3_isIn_9 : decode cX3_isIn 9 = .ok (.if_icmp .gt 40, 3) := by decide +kernel
theorem dX3_isIn_12 : decode cX3_isIn 12 = .ok (.iload_n 3, 1) := by decide +kernel
theorem dX3_isIn_13 : decode cX3_isIn 13 = .ok (.ifCond .ne 24, 3) := by decide +kernel
theorem dX3_isIn_16 : decode cX3_isIn 16 = .ok (.aload_n 0, 1) := by decide +kernel
theorem dX3_isIn_17 : decode cX3_isIn 17 = .ok (.iload 4, 2) := by decide +kernel
theorem dX3_isIn_19 : decode cX3_isIn 19 = .ok (.iload_n 1, 1) := by decide +kernel
theorem dX3_isIn_20 : decode cX3_isIn 20 = .ok (.invokevirtual 97, 3) := by decide +kernel
theorem dX3_isIn_23 : decode cX3_isIn 23 = .ok (.ifCond .eq 18, 3) := by decide +kernel
theorem dX3_isIn_26 : decode cX3_isIn 26 = .ok (.aload_n 0, 1) := by decide +kernel
theorem dX3_isIn_27 : decode cX3_isIn 27 = .ok (.getfield 20, 3) := by decide +kernel
theorem dX3_isIn_30 : decode cX3_isIn 30 = .ok (.iload 4, 2) := by decide +kernel
theorem dX3_isIn_32 : decode cX3_isIn 32 = .ok (.iaload, 1) := by decide +kernel
theorem dX3_isIn_33 : decode cX3_isIn 33 = .ok (.iload_n 2, 1) := by decide +kernel
theorem dX3_isIn_34 : decode cX3_isIn 34 = .ok (.if_icmp .ne 7, 3) := by decide +kernel
theorem dX3_isIn_37 : decode cX3_isIn 37 = .ok (.iconst 1, 1) := by decide +kernel
theorem dX3_isIn_38 : decode cX3_isIn 38 = .ok (.goto 4, 3) := by decide +kernel
theorem dX3_isIn_41 : decode cX3_isIn 41 = .ok (.iconst 0, 1) := by decide +kernel
theorem dX3_isIn_42 : decode cX3_isIn 42 = .ok (.istore_n 3, 1) := by decide +kernel
theorem dX3_isIn_43 : decode cX3_isIn 43 = .ok (.iinc 4 1, 3) := by decide +kernel
theorem dX3_isIn_46 : decode cX3_isIn 46 = .ok (.goto (-41), 3) := by decide +kernel
theorem dX3_isIn_49 : decode cX3_isIn 49 = .ok (.iload_n 3, 1) := by decide +kernel
theorem dX3_isIn_50 : decode cX3_isIn 50 = .ok (.ireturn, 1) := by decide +kernel
set_option maxRecDepth 20000 in
theorem ggX3_isPossible_X3_isIn : GoodIn wsX3_isPossible wsX3_isIn := goodIn_r _ [8, 3, 9, 10, 11, 7, 12, 13, 2, 14, 15, 16, 17, 18, 19, 20, 21, 22, 23, 24, 25, 26, 27, 28, 29, 30, 31, 32, 33, 34, 35, 36, 37, 38, 39, 40, 41, 42, 43] (by decide +kernel) (by decide +kernel)
set_option maxRecDepth 20000 in
theorem gX3_isPossible_X3_isIn : GoodIn wsX3_isPossible (wsV RX3 175 RX3 yX3_isIn wsX3_isIn) := goodIn_app (goodIn_of _ (by decide +kernel)) ggX3_isPossible_X3_isIn
theorem dX3_isPossible_0 : decode cX3_isPossible 0 = .ok (.iload_n 2, 1) := by decide +kernel
theorem dX3_isPossible_1 : decode cX3_isPossible 1 = .ok (.iload_n 1, 1) := by decide +kernel
theorem dX3_isPossible_2 : decode cX3_isPossible 2 = .ok (.if_icmp .eq 13, 3) := by decide +kernel
theorem dX3_isPossible_5 : decode cX3_isPossible 5 = .ok (.aload_n 0, 1) := by decide +kernel
theorem dX3_isPossible_6 : decode cX3_isPossible 6 = .ok (.getfield 13, 3) := by decide +kernel
theorem dX3_isPossible_9 : decode cX3_isPossible 9 = .ok (.iload_n 2, 1) := by decide +kernel
theorem dX3_isPossible_10 : decode cX3_isPossible 10 = .ok (.iaload, 1) := by decide +kernel
theorem dX3_isPossible_11 : decode cX3_isPossible 11 = .ok (.iload_n 1, 1) := by decide +kernel
theorem dX3_isPossible_12 : decode cX3_isPossible 12 = .ok (.if_icmp .ne 7, 3) := by decide +kernel
theorem dX3_isPossible_15 : decode cX3_isPossible 15 = .ok (.iconst 1, 1) := by decide +kernel
theorem dX3_isPossible_16 : decode cX3_isPossible 16 = .ok (.goto 4, 3) := by decide +kernel
theorem dX3_isPossible_19 : decode cX3_isPossible 19 = .ok (.iconst 0, 1) := by decide +kernel
theorem dX3_isPossible_20 : decode cX3_isPossible 20 = .ok (.istore 4, 2) := by decide +kernel
theorem dX3_isPossible_22 : decode cX3_isPossible 22 = .ok (.iload 4, 2) := by decide +kernel
theorem dX3_isPossible_24 : decode cX3_isPossible 24 = .ok (.ifCond .eq 41, 3) := by decide +kernel
theorem dX3_isPossible_27 : decode cX3_isPossible 27 = .ok (.aload_n 0, 1) := by decide +kernel
theorem dX3_isPossible_28 : decode cX3_isPossible 28 = .ok (.getfield 23, 3) := by decide +kernel
theorem dX3_isPossible_31 : decode cX3_isPossible 31 = .ok (.iload_n 2, 1) := by decide +kernel
theorem dX3_isPossible_32 : decode cX3_isPossible 32 = .ok (.baload, 1) := by decide +kernel
theorem dX3_isPossible_33 : decode cX3_isPossible 33 = .ok (.ifCond .ne 32, 3) := by decide +kernel
theorem dX3_isPossible_36 : decode cX3_isPossible 36 = .ok (.aload_n 0, 1) := by decide +kernel
theorem dX3_isPossible_37 : decode cX3_isPossible 37 = .ok (.getfield 20, 3) := by decide +kernel
theorem dX3_isPossible_40 : decode cX3_isPossible 40 = .ok (.iload_n 2, 1) := by decide +kernel
theorem dX3_isPossible_41 : decode cX3_isPossible 41 = .ok (.iaload, 1) := by decide +kernel
theorem dX3_isPossible_42 : decode cX3_isPossible 42 = .ok (.iload_n 2, 1) := by decide +kernel
theorem dX3_isPossible_43 : decode cX3_isPossible 43 = .ok (.if_icmp .eq 22, 3) := by decide +kernel
theorem dX3_isPossible_46 : decode cX3_isPossible 46 = .ok (.aload_n 0, 1) := by decide +kernel
theorem dX3_isPossible_47 : decode cX3_isPossible 47 = .ok (.getfield 20, 3) := by decide +kernel
theorem dX3_isPossible_50 : decode cX3_isPossible 50 = .ok (.iload_n 2, 1) := by decide +kernel
theorem dX3_isPossible_51 : decode cX3_isPossible 51 = .ok (.iaload, 1) := by decide +kernel
theorem dX3_isPossible_52 : decode cX3_isPossible 52 = .ok (.aload_n 0, 1) := by decide +kernel
theorem dX3_isPossible_53 : decode cX3_isPossible 53 = .ok (.getfield 20, 3) := by decide +kernel
theorem dX3_isPossible_56 : decode cX3_isPossible 56 = .ok (.iload_n 1, 1) := by decide +kernel
theorem dX3_isPossible_57 : decode cX3_isPossible 57 = .ok (.iaload, 1) := by decide +kernel
theorem dX3_isPossible_58 : decode cX3_isPossible 58 = .ok (.if_icmp .ne 7, 3) := by decide +kernel
theorem dX3_isPossible_61 : decode cX3_isPossible 61 = .ok (.iconst 1, 1) := by decide +kernel
theorem dX3_isPossible_62 : decode cX3_isPossible 62 = .ok (.goto 4, 3) := by decide +kernel
theorem dX3_isPossible_65 : decode cX3_isPossible 65 = .ok (.iconst 0, 1) := by decide +kernel
theorem dX3_isPossible_66 : decode cX3_isPossible 66 = .ok (.istore 5, 2) := by decide +kernel
theorem dX3_isPossible_68 : decode cX3_isPossible 68 = .ok (.iload 5, 2) := by decide +kernel
theorem dX3_isPossible_70 : decode cX3_isPossible 70 = .ok (.ifCond .eq 26, 3) := by decide +kernel
theorem dX3_isPossible_73 : decode cX3_isPossible 73 = .ok (.iload_n 3, 1) := by decide +kernel
theorem dX3_isPossible_74 : decode cX3_isPossible 74 = .ok (.iload_n 2, 1) := by decide +kernel
theorem dX3_isPossible_75 : decode cX3_isPossible 75 = .ok (.if_icmp .eq 17, 3) := by decide +kernel
theorem dX3_isPossible_78 : decode cX3_isPossible 78 = .ok (.aload_n 0, 1) := by decide +kernel
theorem dX3_isPossible_79 : decode cX3_isPossible 79 = .ok (.iload_n 3, 1) := by decide +kernel
theorem dX3_isPossible_80 : decode cX3_isPossible 80 = .ok (.aload_n 0, 1) := by decide +kernel
theorem dX3_isPossible_81 : decode cX3_isPossible 81 = .ok (.getfield 20, 3) := by decide +kernel
theorem dX3_isPossible_84 : decode cX3_isPossible 84 = .ok (.iload_n 1, 1) := by decide +kernel
theorem dX3_isPossible_85 : decode cX3_isPossible 85 = .ok (.iaload, 1) := by decide +kernel
theorem dX3_isPossible_86 : decode cX3_isPossible 86 = .ok (.invokevirtual 175, 3) := by decide +kernel
theorem dX3_isPossible_89 : decode cX3_isPossible 89 = .ok (.ifCond .eq 7, 3) := by decide +kernel
theorem dX3_isPossible_92 : decode cX3_isPossible 92 = .ok (.iconst 1, 1) := by decide +kernel
theorem dX3_isPossible_93 : decode cX3_isPossible 93 = .ok (.goto 4, 3) := by decide +kernel
theorem dX3_isPossible_96 : decode cX3_isPossible 96 = .ok (.iconst 0, 1) := by decide +kernel
theorem dX3_isPossible_97 : decode cX3_isPossible 97 = .ok (.ireturn, 1) := by decide +kernel
set_option maxRecDepth 20000 in
theorem ggX3_setGroup_X3_is : GoodIn wsX3_setGroup wsX3_is := goodIn_r _ [6, 7, 38, 39, 40, 41, 42, 43, 44, 45, 46, 47, 48, 49, 50, 51, 52, 53, 54, 55, 56, 57, 58, 59, 60, 61, 62, 63, 64, 65, 66] (by decide +kernel) (by decide +kernel)
set_option maxRecDepth 20000 in
theorem gX3_setGroup_X3_is : GoodIn wsX3_setGroup (wsV RX3 159 RX3 yX3_is wsX3_is) := goodIn_app (goodIn_of _ (by decide +kernel)) ggX3_setGroup_X3_is
set_option maxRecDepth 20000 in
theorem ggX3_setGroup_X3_cannot : GoodIn wsX3_setGroup wsX3_cannot := goodIn_r _ [11, 12, 13, 14, 5, 15, 16, 17, 18, 38, 39, 40, 41, 42, 43, 44, 45, 46, 47, 48, 49, 50, 51, 52, 53, 54, 55, 56, 57, 58, 59, 60, 61, 62, 63, 64, 65, 66] (by decide +kernel) (by decide +kernel)
set_option maxRecDepth 20000 in
theorem gX3_setGroup_X3_cannot : GoodIn wsX3_setGroup (wsV RX3 165 RX3 yX3_cannot wsX3_cannot) := goodIn_app (goodIn_of _ (by decide +kernel)) ggX3_setGroup_X3_cannot
set_option maxRecDepth 20000 in
theorem ggX3_setGroup_X3_isPossible : GoodIn wsX3_setGroup wsX3_isPossible := goodIn_r _ [22, 23, 16, 24, 25, 26, 27, 5, 28, 29, 30, 31, 32, 7, 1, 38, 39, 40, 41, 42, 43, 44, 45, 46, 47, 48, 49, 50, 51, 52, 53, 54, 55, 56, 57, 58, 59, 60, 61, 62, 63, 64, 65, 66] (by decide +kernel) (by decide +kernel)
set_option maxRecDepth 20000 in
theorem gX3_setGroup_X3_isPossible : GoodIn wsX3_setGroup (wsV RX3 178 RX3 yX3_isPossible wsX3_isPossible) := goodIn_app (goodIn_of _ (by decide +kernel)) ggX3_setGroup_X3_isPossible
set_option maxRecDepth 20000 in
theorem ggX3_setGroup_X3_fails : GoodIn wsX3_setGroup wsX3_fails := goodIn_r _ [36, 37, 38, 39, 40, 41, 42, 43, 44, 45, 46, 47, 48, 49, 50, 51, 52, 53, 54, 55, 56, 57, 58, 59, 60, 61, 62, 63, 64, 65, 66] (by decide +kernel) (by decide +kernel)
set_option maxRecDepth 20000 in
theorem gX3_setGroup_X3_fails : GoodIn wsX3_setGroup (wsV RX3 162 RX3 yX3_fails wsX3_fails) := goodIn_app (goodIn_of _ (by decide +kernel)) ggX3_setGroup_X3_fails
theorem dX3_setGroup_0 : decode cX3_setGroup 0 = .ok (.aload_n 0, 1) := by decide +kernel
theorem dX3_setGroup_1 : decode cX3_setGroup 1 = .ok (.aload_n 0, 1) := by decide +kernel
theorem dX3_setGroup_2 : decode cX3_setGroup 2 = .ok (.iload_n 1, 1) := by decide +kernel
theorem dX3_setGroup_3 : decode cX3_setGroup 3 = .ok (.invokevirtual 159, 3) := by decide +kernel
theorem dX3_setGroup_6 : decode cX3_setGroup 6 = .ok (.ifCond .eq 11, 3) := by decide +kernel
theorem dX3_setGroup_9 : decode cX3_setGroup 9 = .ok (.aload_n 0, 1) := by decide +kernel
theorem dX3_setGroup_10 : decode cX3_setGroup 10 = .ok (.iload_n 2, 1) := by decide +kernel
theorem dX3_setGroup_11 : decode cX3_setGroup 11 = .ok (.invokevirtual 159, 3) := by decide +kernel
theorem dX3_setGroup_14 : decode cX3_setGroup 14 = .ok (.ifCond .ne 7, 3) := by decide +kernel
theorem dX3_setGroup_17 : decode cX3_setGroup 17 = .ok (.iconst 1, 1) := by decide +kernel
theorem dX3_setGroup_18 : decode cX3_setGroup 18 = .ok (.goto 41, 3) := by decide +kernel
theorem dX3_setGroup_21 : decode cX3_setGroup 21 = .ok (.iload_n 3, 1) := by decide +kernel
theorem dX3_setGroup_22 : decode cX3_setGroup 22 = .ok (.iconst 1, 1) := by decide +kernel
theorem dX3_setGroup_23 : decode cX3_setGroup 23 = .ok (.if_icmp .lt 9, 3) := by decide +kernel
theorem dX3_setGroup_26 : decode cX3_setGroup 26 = .ok (.iload_n 3, 1) := by decide +kernel
theorem dX3_setGroup_27 : decode cX3_setGroup 27 = .ok (.bipush 40, 2) := by decide +kernel
theorem dX3_setGroup_29 : decode cX3_setGroup 29 = .ok (.if_icmp .le 7, 3) := by decide +kernel
theorem dX3_setGroup_32 : decode cX3_setGroup 32 = .ok (.iconst 2, 1) := by decide +kernel
theorem dX3_setGroup_33 : decode cX3_setGroup 33 = .ok (.goto 26, 3) := by decide +kernel
theorem dX3_setGroup_36 : decode cX3_setGroup 36 = .ok (.aload_n 0, 1) := by decide +kernel
theorem dX3_setGroup_37 : decode cX3_setGroup 37 = .ok (.iload_n 1, 1) := by decide +kernel
theorem dX3_setGroup_38 : decode cX3_setGroup 38 = .ok (.invokevirtual 165, 3) := by decide +kernel
theorem dX3_setGroup_41 : decode cX3_setGroup 41 = .ok (.ifCond .ne 13, 3) := by decide +kernel
theorem dX3_setGroup_44 : decode cX3_setGroup 44 = .ok (.aload_n 0, 1) := by decide +kernel
theorem dX3_setGroup_45 : decode cX3_setGroup 45 = .ok (.iload_n 1, 1) := by decide +kernel
theorem dX3_setGroup_46 : decode cX3_setGroup 46 = .ok (.iload_n 2, 1) := by decide +kernel
theorem dX3_setGroup_47 : decode cX3_setGroup 47 = .ok (.iload_n 3, 1) := by decide +kernel
theorem dX3_setGroup_48 : decode cX3_setGroup 48 = .ok (.invokevirtual 178, 3) := by decide +kernel
theorem dX3_setGroup_51 : decode cX3_setGroup 51 = .ok (.ifCond .ne 7, 3) := by decide +kernel
theorem dX3_setGroup_54 : decode cX3_setGroup 54 = .ok (.iconst 3, 1) := by decide +kernel
theorem dX3_setGroup_55 : decode cX3_setGroup 55 = .ok (.goto 4, 3) := by decide +kernel
theorem dX3_setGroup_58 : decode cX3_setGroup 58 = .ok (.iconst 0, 1) := by decide +kernel
theorem dX3_setGroup_59 : decode cX3_setGroup 59 = .ok (.invokevirtual 162, 3) := by decide +kernel
theorem dX3_setGroup_62 : decode cX3_setGroup 62 = .ok (.ifCond .eq 5, 3) := by decide +kernel
theorem dX3_setGroup_65 : decode cX3_setGroup 65 = .ok (.iconst 0, 1) := by decide +kernel
theorem dX3_setGroup_66 : decode cX3_setGroup 66 = .ok (.ireturn, 1) := by decide +kernel
theorem dX3_setGroup_67 : decode cX3_setGroup 67 = .ok (.aload_n 0, 1) := by decide +kernel
theorem dX3_setGroup_68 : decode cX3_setGroup 68 = .ok (.getfield 17, 3) := by decide +kernel
theorem dX3_setGroup_71 : decode cX3_setGroup 71 = .ok (.iload_n 2, 1) := by decide +kernel
theorem dX3_setGroup_72 : decode cX3_setGroup 72 = .ok (.iaload, 1) := by decide +kernel
theorem dX3_setGroup_73 : decode cX3_setGroup 73 = .ok (.istore 4, 2) := by decide +kernel
theorem dX3_setGroup_75 : decode cX3_setGroup 75 = .ok (.aload_n 0, 1) := by decide +kernel
theorem dX3_setGroup_76 : decode cX3_setGroup 76 = .ok (.getfield 17, 3) := by decide +kernel
theorem dX3_setGroup_79 : decode cX3_setGroup 79 = .ok (.iload_n 2, 1) := by decide +kernel
theorem dX3_setGroup_80 : decode cX3_setGroup 80 = .ok (.iload_n 3, 1) := by decide +kernel
theorem dX3_setGroup_81 : decode cX3_setGroup 81 = .ok (.iastore, 1) := by decide +kernel
theorem dX3_setGroup_82 : decode cX3_setGroup 82 = .ok (.iload 4, 2) := by decide +kernel
theorem dX3_setGroup_84 : decode cX3_setGroup 84 = .ok (.ireturn, 1) := by decide +kernel
set_option maxRecDepth 20000 in
theorem ggX3_setReaper_X3_is : GoodIn wsX3_setReaper wsX3_is := goodIn_r _ [6, 7, 24, 25, 26, 27, 28, 29, 30, 31, 32, 33, 34, 35, 36, 37, 38, 39, 40, 41, 42, 43, 44, 45, 46, 47, 48, 49, 50, 51, 52] (by decide +kernel) (by decide +kernel)
set_option maxRecDepth 20000 in
theorem gX3_setReaper_X3_is : GoodIn wsX3_setReaper (wsV RX3 159 RX3 yX3_is wsX3_is) := goodIn_app (goodIn_of _ (by decide +kernel)) ggX3_setReaper_X3_is
set_option maxRecDepth 20000 in
theorem ggX3_setReaper_X3_cannot : GoodIn wsX3_setReaper wsX3_cannot := goodIn_r _ [11, 12, 13, 14, 5, 15, 16, 17, 18, 24, 25, 26, 27, 28, 29, 30, 31, 32, 33, 34, 35, 36, 37, 38, 39, 40, 41, 42, 43, 44, 45, 46, 47, 48, 49, 50, 51, 52] (by decide +kernel) (by decide +kernel)
set_option maxRecDepth 20000 in
theorem gX3_setReaper_X3_cannot : GoodIn wsX3_setReaper (wsV RX3 165 RX3 yX3_cannot wsX3_cannot) := goodIn_app (goodIn_of _ (by decide +kernel)) ggX3_setReaper_X3_cannot
set_option maxRecDepth 20000 in
theorem ggX3_setReaper_X3_fails : GoodIn wsX3_setReaper wsX3_fails := goodIn_r _ [22, 23, 24, 25, 26, 27, 28, 29, 30, 31, 32, 33, 34, 35, 36, 37, 38, 39, 40, 41, 42, 43, 44, 45, 46, 47, 48, 49, 50, 51, 52] (by decide +kernel) (by decide +kernel)
set_option maxRecDepth 20000 in
theorem gX3_setReaper_X3_fails : GoodIn wsX3_setReaper (wsV RX3 162 RX3 yX3_fails wsX3_fails) := goodIn_app (goodIn_of _ (by decide +kernel)) ggX3_setReaper_X3_fails
theorem dX3_setReaper_0 : decode cX3_setReaper 0 = .ok (.aload_n 0, 1) := by decide +kernel
theorem dX3_setReaper_1 : decode cX3_setReaper 1 = .ok (.aload_n 0, 1) := by decide +kernel
theorem dX3_setReaper_2 : decode cX3_setReaper 2 = .ok (.iload_n 1, 1) := by decide +kernel
theorem dX3_setReaper_3 : decode cX3_setReaper 3 = .ok (.invokevirtual 159, 3) := by decide +kernel
theorem dX3_setReaper_6 : decode cX3_setReaper 6 = .ok (.ifCond .ne 7, 3) := by decide +kernel
theorem dX3_setReaper_9 : decode cX3_setReaper 9 = .ok (.iconst 1, 1) := by decide +kernel
theorem dX3_setReaper_10 : decode cX3_setReaper 10 = .ok (.goto 16, 3) := by decide +kernel
theorem dX3_setReaper_13 : decode cX3_setReaper 13 = .ok (.aload_n 0, 1) := by decide +kernel
theorem dX3_setReaper_14 : decode cX3_setReaper 14 = .ok (.iload_n 1, 1) := by decide +kernel
theorem dX3_setReaper_15 : decode cX3_setReaper 15 = .ok (.invokevirtual 165, 3) := by decide +kernel
theorem dX3_setReaper_18 : decode cX3_setReaper 18 = .ok (.ifCond .eq 7, 3) := by decide +kernel
theorem dX3_setReaper_21 : decode cX3_setReaper 21 = .ok (.iconst 2, 1) := by decide +kernel
theorem dX3_setReaper_22 : decode cX3_setReaper 22 = .ok (.goto 4, 3) := by decide +kernel
theorem dX3_setReaper_25 : decode cX3_setReaper 25 = .ok (.iconst 0, 1) := by decide +kernel
theorem dX3_setReaper_26 : decode cX3_setReaper 26 = .ok (.invokevirtual 162, 3) := by decide +kernel
theorem dX3_setReaper_29 : decode cX3_setReaper 29 = .ok (.ifCond .eq 5, 3) := by decide +kernel
theorem dX3_setReaper_32 : decode cX3_setReaper 32 = .ok (.iconst 0, 1) := by decide +kernel
theorem dX3_setReaper_33 : decode cX3_setReaper 33 = .ok (.ireturn, 1) := by decide +kernel
theorem dX3_setReaper_34 : decode cX3_setReaper 34 = .ok (.aload_n 0, 1) := by decide +kernel
theorem dX3_setReaper_35 : decode cX3_setReaper 35 = .ok (.getfield 50, 3) := by decide +kernel
theorem dX3_setReaper_38 : decode cX3_setReaper 38 = .ok (.iload_n 1, 1) := by decide +kernel
theorem dX3_setReaper_39 : decode cX3_setReaper 39 = .ok (.baload, 1) := by decide +kernel
theorem dX3_setReaper_40 : decode cX3_setReaper 40 = .ok (.istore_n 3, 1) := by decide +kernel
theorem dX3_setReaper_41 : decode cX3_setReaper 41 = .ok (.aload_n 0, 1) := by decide +kernel
theorem dX3_setReaper_42 : decode cX3_setReaper 42 = .ok (.getfield 50, 3) := by decide +kernel
theorem dX3_setReaper_45 : decode cX3_setReaper 45 = .ok (.iload_n 1, 1) := by decide +kernel
theorem dX3_setReaper_46 : decode cX3_setReaper 46 = .ok (.iload_n 2, 1) := by decide +kernel
theorem dX3_setReaper_47 : decode cX3_setReaper 47 = .ok (.bastore, 1) := by decide +kernel
theorem dX3_setReaper_48 : decode cX3_setReaper 48 = .ok (.iload_n 3, 1) := by decide +kernel
theorem dX3_setReaper_49 : decode cX3_setReaper 49 = .ok (.ireturn, 1) := by decide +kernel
set_option maxRecDepth 20000 in
theorem ggX3_openTerminal_X3_is : GoodIn wsX3_openTerminal wsX3_is := goodIn_r _ [9, 10, 27, 28, 29, 30, 31, 32, 33, 34, 35, 36, 37, 38, 39, 40, 41, 42, 43, 44, 45, 46, 47, 48, 49, 50, 51, 52, 53, 54, 55] (by decide +kernel) (by decide +kernel)
set_option maxRecDepth 20000 in
theorem gX3_openTerminal_X3_is : GoodIn wsX3_openTerminal (wsV RX3 159 RX3 yX3_is wsX3_is) := goodIn_app (goodIn_of _ (by decide +kernel)) ggX3_openTerminal_X3_is
set_option maxRecDepth 20000 in
theorem ggX3_openTerminal_X3_cannot : GoodIn wsX3_openTerminal wsX3_cannot := goodIn_r _ [14, 15, 16, 17, 8, 18, 19, 20, 21, 27, 28, 29, 30, 31, 32, 33, 34, 35, 36, 37, 38, 39, 40, 41, 42, 43, 44, 45, 46, 47, 48, 49, 50, 51, 52, 53, 54, 55] (by decide +kernel) (by decide +kernel)
set_option maxRecDepth 20000 in
theorem gX3_openTerminal_X3_cannot : GoodIn wsX3_openTerminal (wsV RX3 165 RX3 yX3_cannot wsX3_cannot) := goodIn_app (goodIn_of _ (by decide +kernel)) ggX3_openTerminal_X3_cannot
set_option maxRecDepth 20000 in
theorem ggX3_openTerminal_X3_fails : GoodIn wsX3_openTerminal wsX3_fails := goodIn_r _ [25, 26, 27, 28, 29, 30, 31, 32, 33, 34, 35, 36, 37, 38, 39, 40, 41, 42, 43, 44, 45, 46, 47, 48, 49, 50, 51, 52, 53, 54, 55] (by decide +kernel) (by decide +kernel)
set_option maxRecDepth 20000 in
theorem gX3_openTerminal_X3_fails : GoodIn wsX3_openTerminal (wsV RX3 162 RX3 yX3_fails wsX3_fails) := goodIn_app (goodIn_of _ (by decide +kernel)) ggX3_openTerminal_X3_fails
theorem dX3_openTerminal_0 : decode cX3_openTerminal 0 = .ok (.aload_n 0, 1) := by decide +kernel
theorem dX3_openTerminal_1 : decode cX3_openTerminal 1 = .ok (.aload_n 0, 1) := by decide +kernel
theorem dX3_openTerminal_2 : decode cX3_openTerminal 2 = .ok (.iload_n 1, 1) := by decide +kernel
theorem dX3_openTerminal_3 : decode cX3_openTerminal 3 = .ok (.invokevirtual 159, 3) := by decide +kernel
theorem dX3_openTerminal_6 : decode cX3_openTerminal 6 = .ok (.ifCond .ne 7, 3) := by decide +kernel
theorem dX3_openTerminal_9 : decode cX3_openTerminal 9 = .ok (.iconst 1, 1) := by decide +kernel
theorem dX3_openTerminal_10 : decode cX3_openTerminal 10 = .ok (.goto 34, 3) := by decide +kernel
theorem dX3_openTerminal_13 : decode cX3_openTerminal 13 = .ok (.aload_n 0, 1) := by decide +kernel
theorem dX3_openTerminal_14 : decode cX3_openTerminal 14 = .ok (.iload_n 1, 1) := by decide +kernel
theorem dX3_openTerminal_15 : decode cX3_openTerminal 15 = .ok (.invokevirtual 165, 3) := by decide +kernel
theorem dX3_openTerminal_18 : decode cX3_openTerminal 18 = .ok (.ifCond .ne 21, 3) := by decide +kernel
theorem dX3_openTerminal_21 : decode cX3_openTerminal 21 = .ok (.aload_n 0, 1) := by decide +kernel
theorem dX3_openTerminal_22 : decode cX3_openTerminal 22 = .ok (.getfield 20, 3) := by decide +kernel
theorem dX3_openTerminal_25 : decode cX3_openTerminal 25 = .ok (.iload_n 1, 1) := by decide +kernel
theorem dX3_openTerminal_26 : decode cX3_openTerminal 26 = .ok (.iaload, 1) := by decide +kernel
theorem dX3_openTerminal_27 : decode cX3_openTerminal 27 = .ok (.iload_n 1, 1) := by decide +kernel
theorem dX3_openTerminal_28 : decode cX3_openTerminal 28 = .ok (.if_icmp .ne 11, 3) := by decide +kernel
theorem dX3_openTerminal_31 : decode cX3_openTerminal 31 = .ok (.aload_n 0, 1) := by decide +kernel
theorem dX3_openTerminal_32 : decode cX3_openTerminal 32 = .ok (.getfield 74, 3) := by decide +kernel
theorem dX3_openTerminal_35 : decode cX3_openTerminal 35 = .ok (.iconst (-1), 1) := by decide +kernel
theorem dX3_openTerminal_36 : decode cX3_openTerminal 36 = .ok (.if_icmp .eq 7, 3) := by decide +kernel
theorem dX3_openTerminal_39 : decode cX3_openTerminal 39 = .ok (.iconst 2, 1) := by decide +kernel
theorem dX3_openTerminal_40 : decode cX3_openTerminal 40 = .ok (.goto 4, 3) := by decide +kernel
theorem dX3_openTerminal_43 : decode cX3_openTerminal 43 = .ok (.iconst 0, 1) := by decide +kernel
theorem dX3_openTerminal_44 : decode cX3_openTerminal 44 = .ok (.invokevirtual 162, 3) := by decide +kernel
theorem dX3_openTerminal_47 : decode cX3_openTerminal 47 = .ok (.ifCond .eq 4, 3) := by decide +kernel
theorem dX3_openTerminal_50 : decode cX3_openTerminal 50 = .ok (.return_, 1) := by decide +kernel
theorem dX3_openTerminal_51 : decode cX3_openTerminal 51 = .ok (.aload_n 0, 1) := by decide +kernel
theorem dX3_openTerminal_52 : decode cX3_openTerminal 52 = .ok (.iload_n 1, 1) := by decide +kernel
theorem dX3_openTerminal_53 : decode cX3_openTerminal 53 = .ok (.putfield 74, 3) := by decide +kernel
theorem dX3_openTerminal_56 : decode cX3_openTerminal 56 = .ok (.aload_n 0, 1) := by decide +kernel
theorem dX3_openTerminal_57 : decode cX3_openTerminal 57 = .ok (.aload_n 0, 1) := by decide +kernel
theorem dX3_openTerminal_58 : decode cX3_openTerminal 58 = .ok (.getfield 17, 3) := by decide +kernel
theorem dX3_openTerminal_61 : decode cX3_openTerminal 61 = .ok (.iload_n 1, 1) := by decide +kernel
theorem dX3_openTerminal_62 : decode cX3_openTerminal 62 = .ok (.iaload, 1) := by decide +kernel
theorem dX3_openTerminal_63 : decode cX3_openTerminal 63 = .ok (.putfield 78, 3) := by decide +kernel
theorem dX3_openTerminal_66 : decode cX3_openTerminal 66 = .ok (.return_, 1) := by decide +kernel
set_option maxRecDepth 20000 in
theorem ggX3_setForeground_X3_is : GoodIn wsX3_setForeground wsX3_is := goodIn_r _ [8, 9, 35, 36, 37, 38, 39, 40, 41, 42, 43, 44, 45, 46, 47, 48, 49, 50, 51, 52, 53, 54, 55, 56, 57, 58, 59, 60, 61, 62, 63] (by decide +kernel) (by decide +kernel)
set_option maxRecDepth 20000 in
theorem gX3_setForeground_X3_is : GoodIn wsX3_setForeground (wsV RX3 159 RX3 yX3_is wsX3_is) := goodIn_app (goodIn_of _ (by decide +kernel)) ggX3_setForeground_X3_is
set_option maxRecDepth 20000 in
theorem ggX3_setForeground_X3_cannot : GoodIn wsX3_setForeground wsX3_cannot := goodIn_r _ [13, 14, 15, 16, 7, 17, 18, 19, 20, 35, 36, 37, 38, 39, 40, 41, 42, 43, 44, 45, 46, 47, 48, 49, 50, 51, 52, 53, 54, 55, 56, 57, 58, 59, 60, 61, 62, 63] (by decide +kernel) (by decide +kernel)
set_option maxRecDepth 20000 in
theorem gX3_setForeground_X3_cannot : GoodIn wsX3_setForeground (wsV RX3 165 RX3 yX3_cannot wsX3_cannot) := goodIn_app (goodIn_of _ (by decide +kernel)) ggX3_setForeground_X3_cannot
set_option maxRecDepth 20000 in
theorem ggX3_setForeground_X3_isIn : GoodIn wsX3_setForeground wsX3_isIn := goodIn_r _ [24, 1, 25, 26, 27, 7, 28, 9, 18, 29, 35, 36, 37, 38, 39, 40, 41, 42, 43, 44, 45, 46, 47, 48, 49, 50, 51, 52, 53, 54, 55, 56, 57, 58, 59, 60, 61, 62, 63] (by decide +kernel) (by decide +kernel)
set_option maxRecDepth 20000 in
theorem gX3_setForeground_X3_isIn : GoodIn wsX3_setForeground (wsV RX3 175 RX3 yX3_isIn wsX3_isIn) := goodIn_app (goodIn_of _ (by decide +kernel)) ggX3_setForeground_X3_isIn
set_option maxRecDepth 20000 in
theorem ggX3_setForeground_X3_fails : GoodIn wsX3_setForeground wsX3_fails := goodIn_r _ [33, 34, 35, 36, 37, 38, 39, 40, 41, 42, 43, 44, 45, 46, 47, 48, 49, 50, 51, 52, 53, 54, 55, 56, 57, 58, 59, 60, 61, 62, 63] (by decide +kernel) (by decide +kernel)
set_option maxRecDepth 20000 in
theorem gX3_setForeground_X3_fails : GoodIn wsX3_setForeground (wsV RX3 162 RX3 yX3_fails wsX3_fails) := goodIn_app (goodIn_of _ (by decide +kernel)) ggX3_setForeground_X3_fails
theorem dX3_setForeground_0 : decode cX3_setForeground 0 = .ok (.iload_n 2, 1) := by decide +kernel
theorem dX3_setForeground_1 : decode cX3_setForeground 1 = .ok (.ifCond .le 13, 3) := by decide +kernel
theorem dX3_setForeground_4 : decode cX3_setForeground 4 = .ok (.iload_n 2, 1) := by decide +kernel
theorem dX3_setForeground_5 : decode cX3_setForeground 5 = .ok (.bipush 40, 2) := by decide +kernel
theorem dX3_setForeground_7 : decode cX3_setForeground 7 = .ok (.if_icmp .gt 7, 3) := by decide +kernel
theorem dX3_setForeground_10 : decode cX3_setForeground 10 = .ok (.iconst 1, 1) := by decide +kernel
theorem dX3_setForeground_11 : decode cX3_setForeground 11 = .ok (.goto 4, 3) := by decide +kernel
theorem dX3_setForeground_14 : decode cX3_setForeground 14 = .ok (.iconst 0, 1) := by decide +kernel
theorem dX3_setForeground_15 : decode cX3_setForeground 15 = .ok (.istore_n 3, 1) := by decide +kernel
theorem dX3_setForeground_16 : decode cX3_setForeground 16 = .ok (.aload_n 0, 1) := by decide +kernel
theorem dX3_setForeground_17 : decode cX3_setForeground 17 = .ok (.aload_n 0, 1) := by decide +kernel
theorem dX3_setForeground_18 : decode cX3_setForeground 18 = .ok (.iload_n 1, 1) := by decide +kernel
theorem dX3_setForeground_19 : decode cX3_setForeground 19 = .ok (.invokevirtual 159, 3) := by decide +kernel
theorem dX3_setForeground_22 : decode cX3_setForeground 22 = .ok (.ifCond .ne 7, 3) := by decide +kernel
theorem dX3_setForeground_25 : decode cX3_setForeground 25 = .ok (.iconst 1, 1) := by decide +kernel
theorem dX3_setForeground_26 : decode cX3_setForeground 26 = .ok (.goto 51, 3) := by decide +kernel
theorem dX3_setForeground_29 : decode cX3_setForeground 29 = .ok (.iload_n 3, 1) := by decide +kernel
theorem dX3_setForeground_30 : decode cX3_setForeground 30 = .ok (.ifCond .ne 7, 3) := by decide +kernel
theorem dX3_setForeground_33 : decode cX3_setForeground 33 = .ok (.iconst 2, 1) := by decide +kernel
theorem dX3_setForeground_34 : decode cX3_setForeground 34 = .ok (.goto 43, 3) := by decide +kernel
theorem dX3_setForeground_37 : decode cX3_setForeground 37 = .ok (.aload_n 0, 1) := by decide +kernel
theorem dX3_setForeground_38 : decode cX3_setForeground 38 = .ok (.iload_n 1, 1) := by decide +kernel
theorem dX3_setForeground_39 : decode cX3_setForeground 39 = .ok (.invokevirtual 165, 3) := by decide +kernel
theorem dX3_setForeground_42 : decode cX3_setForeground 42 = .ok (.ifCond .ne 30, 3) := by decide +kernel
theorem dX3_setForeground_45 : decode cX3_setForeground 45 = .ok (.aload_n 0, 1) := by decide +kernel
theorem dX3_setForeground_46 : decode cX3_setForeground 46 = .ok (.getfield 20, 3) := by decide +kernel
theorem dX3_setForeground_49 : decode cX3_setForeground 49 = .ok (.iload_n 1, 1) := by decide +kernel
theorem dX3_setForeground_50 : decode cX3_setForeground 50 = .ok (.iaload, 1) := by decide +kernel
theorem dX3_setForeground_51 : decode cX3_setForeground 51 = .ok (.aload_n 0, 1) := by decide +kernel
theorem dX3_setForeground_52 : decode cX3_setForeground 52 = .ok (.getfield 74, 3) := by decide +kernel
theorem dX3_setForeground_55 : decode cX3_setForeground 55 = .ok (.if_icmp .ne 17, 3) := by decide +kernel
theorem dX3_setForeground_58 : decode cX3_setForeground 58 = .ok (.aload_n 0, 1) := by decide +kernel
theorem dX3_setForeground_59 : decode cX3_setForeground 59 = .ok (.iload_n 2, 1) := by decide +kernel
theorem dX3_setForeground_60 : decode cX3_setForeground 60 = .ok (.aload_n 0, 1) := by decide +kernel
theorem dX3_setForeground_61 : decode cX3_setForeground 61 = .ok (.getfield 20, 3) := by decide +kernel
theorem dX3_setForeground_64 : decode cX3_setForeground 64 = .ok (.iload_n 1, 1) := by decide +kernel
theorem dX3_setForeground_65 : decode cX3_setForeground 65 = .ok (.iaload, 1) := by decide +kernel
theorem dX3_setForeground_66 : decode cX3_setForeground 66 = .ok (.invokevirtual 175, 3) := by decide +kernel
theorem dX3_setForeground_69 : decode cX3_setForeground 69 = .ok (.ifCond .ne 7, 3) := by decide +kernel
theorem dX3_setForeground_72 : decode cX3_setForeground 72 = .ok (.iconst 3, 1) := by decide +kernel
theorem dX3_setForeground_73 : decode cX3_setForeground 73 = .ok (.goto 4, 3) := by decide +kernel
theorem dX3_setForeground_76 : decode cX3_setForeground 76 = .ok (.iconst 0, 1) := by decide +kernel
theorem dX3_setForeground_77 : decode cX3_setForeground 77 = .ok (.invokevirtual 162, 3) := by decide +kernel
theorem dX3_setForeground_80 : decode cX3_setForeground 80 = .ok (.ifCond .eq 5, 3) := by decide +kernel
theorem dX3_setForeground_83 : decode cX3_setForeground 83 = .ok (.iconst 0, 1) := by decide +kernel
theorem dX3_setForeground_84 : decode cX3_setForeground 84 = .ok (.ireturn, 1) := by decide +kernel
theorem dX3_setForeground_85 : decode cX3_setForeground 85 = .ok (.aload_n 0, 1) := by decide +kernel
theorem dX3_setForeground_86 : decode cX3_setForeground 86 = .ok (.getfield 78, 3) := by decide +kernel
theorem dX3_setForeground_89 : decode cX3_setForeground 89 = .ok (.istore 4, 2) := by decide +kernel
theorem dX3_setForeground_91 : decode cX3_setForeground 91 = .ok (.aload_n 0, 1) := by decide +kernel
theorem dX3_setForeground_92 : decode cX3_setForeground 92 = .ok (.iload_n 2, 1) := by decide +kernel
theorem dX3_setForeground_93 : decode cX3_setForeground 93 = .ok (.putfield 78, 3) := by decide +kernel
theorem dX3_setForeground_96 : decode cX3_setForeground 96 = .ok (.iload 4, 2) := by decide +kernel
theorem dX3_setForeground_98 : decode cX3_setForeground 98 = .ok (.ireturn, 1) := by decide +kernel
set_option maxRecDepth 20000 in
theorem ggX3_send_X3_is : GoodIn wsX3_send wsX3_is := goodIn_r _ [5, 6, 103, 104, 105, 106, 107, 108, 109, 110, 111, 112, 113, 114, 115, 116, 117, 118, 119, 120, 121, 122, 123, 124, 125, 126, 127, 128, 129, 130, 131] (by decide +kernel) (by decide +kernel)
set_option maxRecDepth 20000 in
theorem gX3_send_X3_is : GoodIn wsX3_send (wsV RX3 159 RX3 yX3_is wsX3_is) := goodIn_app (goodIn_of _ (by decide +kernel)) ggX3_send_X3_is
set_option maxRecDepth 20000 in
theorem ggX3_send_X3_fails : GoodIn wsX3_send wsX3_fails := goodIn_r _ [10, 11, 103, 104, 105, 106, 107, 108, 109, 110, 111, 112, 113, 114, 115, 116, 117, 118, 119, 120, 121, 122, 123, 124, 125, 126, 127, 128, 129, 130, 131] (by decide +kernel) (by decide +kernel)
set_option maxRecDepth 20000 in
theorem gX3_send_X3_fails : GoodIn wsX3_send (wsV RX3 162 RX3 yX3_fails wsX3_fails) := goodIn_app (goodIn_of _ (by decide +kernel)) ggX3_send_X3_fails
