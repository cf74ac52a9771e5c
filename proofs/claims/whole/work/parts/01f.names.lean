theorem dX3_hasStopped_27 : decode cX3_hasStopped 27 = .ok (.iload_n 3, 1) := by decide +kernel
theorem dX3_hasStopped_28 : decode cX3_hasStopped 28 = .ok (.baload, 1) := by decide +kernel
theorem dX3_hasStopped_29 : decode cX3_hasStopped 29 = .ok (.ifCond .eq 7, 3) := by decide +kernel
theorem dX3_hasStopped_32 : decode cX3_hasStopped 32 = .ok (.iconst 1, 1) := by decide +kernel
theorem dX3_hasStopped_33 : decode cX3_hasStopped 33 = .ok (.goto 4, 3) := by decide +kernel
theorem dX3_hasStopped_36 : decode cX3_hasStopped 36 = .ok (.iconst 0, 1) := by decide +kernel
theorem dX3_hasStopped_37 : decode cX3_hasStopped 37 = .ok (.istore_n 2, 1) := by decide +kernel
theorem dX3_hasStopped_38 : decode cX3_hasStopped 38 = .ok (.iinc 3 1, 3) := by decide +kernel
theorem dX3_hasStopped_41 : decode cX3_hasStopped 41 = .ok (.goto (-37), 3) := by decide +kernel
theorem dX3_hasStopped_44 : decode cX3_hasStopped 44 = .ok (.iload_n 2, 1) := by decide +kernel
theorem dX3_hasStopped_45 : decode cX3_hasStopped 45 = .ok (.ireturn, 1) := by decide +kernel
set_option maxRecDepth 20000 in
theorem ggX3_terminates_X3_orphaned : GoodIn wsX3_terminates wsX3_orphaned := goodIn_r _ [18, 10, 2, 11, 19, 20, 21, 22, 17, 23, 9, 43, 44, 45, 46, 47, 48, 49, 50, 51, 52, 53, 54, 55, 56, 57, 58, 59, 60, 61, 62, 63, 64, 65, 66, 67, 68, 69, 70, 71] (by decide +kernel) (by decide +kernel)
set_option maxRecDepth 20000 in
theorem gX3_terminates_X3_orphaned : GoodIn wsX3_terminates (wsV RX3 108 RX3 yX3_orphaned wsX3_orphaned) := goodIn_app (goodIn_of _ (by decide +kernel)) ggX3_terminates_X3_orphaned
set_option maxRecDepth 20000 in
theorem ggX3_terminates_X3_heir : GoodIn wsX3_terminates wsX3_heir := goodIn_r _ [27, 10, 28, 2, 43, 44, 45, 46, 47, 48, 49, 50, 51, 52, 53, 54, 55, 56, 57, 58, 59, 60, 61, 62, 63, 64, 65, 66, 67, 68, 69, 70, 71] (by decide +kernel) (by decide +kernel)
set_option maxRecDepth 20000 in
theorem gX3_terminates_X3_heir : GoodIn wsX3_terminates (wsV RX3 111 RX3 yX3_heir wsX3_heir) := goodIn_app (goodIn_of _ (by decide +kernel)) ggX3_terminates_X3_heir
set_option maxRecDepth 20000 in
theorem ggX3_terminates_X3_sends : GoodIn wsX3_terminates wsX3_sends := goodIn_r _ [32, 20, 21, 22, 17, 23, 9, 2, 19, 33, 34, 35, 36, 37, 38, 43, 44, 45, 46, 47, 48, 49, 50, 51, 52, 53, 54, 55, 56, 57, 58, 59, 60, 61, 62, 63, 64, 65, 66, 67, 68, 69, 70, 71] (by decide +kernel) (by decide +kernel)
set_option maxRecDepth 20000 in
theorem gX3_terminates_X3_sends : GoodIn wsX3_terminates (wsV RX3 115 RX3 yX3_sends wsX3_sends) := goodIn_app (goodIn_of _ (by decide +kernel)) ggX3_terminates_X3_sends
set_option maxRecDepth 20000 in
theorem ggX3_terminates_X3_appends : GoodIn wsX3_terminates wsX3_appends := goodIn_r _ [36, 37, 38, 43, 44, 45, 46, 47, 48, 49, 50, 51, 52, 53, 54, 55, 56, 57, 58, 59, 60, 61, 62, 63, 64, 65, 66, 67, 68, 69, 70, 71] (by decide +kernel) (by decide +kernel)
set_option maxRecDepth 20000 in
theorem gX3_terminates_X3_appends : GoodIn wsX3_terminates (wsV RX3 104 RX3 yX3_appends wsX3_appends) := goodIn_app (goodIn_of _ (by decide +kernel)) ggX3_terminates_X3_appends
set_option maxRecDepth 20000 in
theorem ggX3_terminates_X3_hasStopped : GoodIn wsX3_terminates wsX3_hasStopped := goodIn_r _ [42, 7, 20, 21, 22, 17, 23, 9, 2, 19, 43, 44, 45, 46, 47, 48, 49, 50, 51, 52, 53, 54, 55, 56, 57, 58, 59, 60, 61, 62, 63, 64, 65, 66, 67, 68, 69, 70, 71] (by decide +kernel) (by decide +kernel)
set_option maxRecDepth 20000 in
theorem gX3_terminates_X3_hasStopped : GoodIn wsX3_terminates (wsV RX3 119 RX3 yX3_hasStopped wsX3_hasStopped) := goodIn_app (goodIn_of _ (by decide +kernel)) ggX3_terminates_X3_hasStopped
theorem dX3_terminates_0 : decode cX3_terminates 0 = .ok (.iconst 1, 1) := by decide +kernel
theorem dX3_terminates_1 : decode cX3_terminates 1 = .ok (.istore 4, 2) := by decide +kernel
theorem dX3_terminates_3 : decode cX3_terminates 3 = .ok (.iload 4, 2) := by decide +kernel
theorem dX3_terminates_5 : decode cX3_terminates 5 = .ok (.bipush 40, 2) := by decide +kernel
theorem dX3_terminates_7 : decode cX3_terminates 7 = .ok (.if_icmp .gt 22, 3) := by decide +kernel
theorem dX3_terminates_10 : decode cX3_terminates 10 = .ok (.aload_n 0, 1) := by decide +kernel
theorem dX3_terminates_11 : decode cX3_terminates 11 = .ok (.getfield 84, 3) := by decide +kernel
theorem dX3_terminates_14 : decode cX3_terminates 14 = .ok (.iload 4, 2) := by decide +kernel
theorem dX3_terminates_16 : decode cX3_terminates 16 = .ok (.aload_n 0, 1) := by decide +kernel
theorem dX3_terminates_17 : decode cX3_terminates 17 = .ok (.iload 4, 2) := by decide +kernel
theorem dX3_terminates_19 : decode cX3_terminates 19 = .ok (.invokevirtual 108, 3) := by decide +kernel
theorem dX3_terminates_22 : decode cX3_terminates 22 = .ok (.bastore, 1) := by decide +kernel
theorem dX3_terminates_23 : decode cX3_terminates 23 = .ok (.iinc 4 1, 3) := by decide +kernel
theorem dX3_terminates_26 : decode cX3_terminates 26 = .ok (.goto (-23), 3) := by decide +kernel
theorem dX3_terminates_29 : decode cX3_terminates 29 = .ok (.aload_n 0, 1) := by decide +kernel
theorem dX3_terminates_30 : decode cX3_terminates 30 = .ok (.getfield 23, 3) := by decide +kernel
theorem dX3_terminates_33 : decode cX3_terminates 33 = .ok (.iload_n 1, 1) := by decide +kernel
theorem dX3_terminates_34 : decode cX3_terminates 34 = .ok (.iconst 1, 1) := by decide +kernel
theorem dX3_terminates_35 : decode cX3_terminates 35 = .ok (.bastore, 1) := by decide +kernel
theorem dX3_terminates_36 : decode cX3_terminates 36 = .ok (.aload_n 0, 1) := by decide +kernel
theorem dX3_terminates_37 : decode cX3_terminates 37 = .ok (.getfield 53, 3) := by decide +kernel
theorem dX3_terminates_40 : decode cX3_terminates 40 = .ok (.iload_n 1, 1) := by decide +kernel
theorem dX3_terminates_41 : decode cX3_terminates 41 = .ok (.iload_n 2, 1) := by decide +kernel
theorem dX3_terminates_42 : decode cX3_terminates 42 = .ok (.iastore, 1) := by decide +kernel
theorem dX3_terminates_43 : decode cX3_terminates 43 = .ok (.aload_n 0, 1) := by decide +kernel
theorem dX3_terminates_44 : decode cX3_terminates 44 = .ok (.getfield 56, 3) := by decide +kernel
theorem dX3_terminates_47 : decode cX3_terminates 47 = .ok (.iload_n 1, 1) := by decide +kernel
theorem dX3_terminates_48 : decode cX3_terminates 48 = .ok (.iload_n 3, 1) := by decide +kernel
theorem dX3_terminates_49 : decode cX3_terminates 49 = .ok (.iastore, 1) := by decide +kernel
theorem dX3_terminates_50 : decode cX3_terminates 50 = .ok (.aload_n 0, 1) := by decide +kernel
theorem dX3_terminates_51 : decode cX3_terminates 51 = .ok (.getfield 44, 3) := by decide +kernel
theorem dX3_terminates_54 : decode cX3_terminates 54 = .ok (.iload_n 1, 1) := by decide +kernel
theorem dX3_terminates_55 : decode cX3_terminates 55 = .ok (.iconst 0, 1) := by decide +kernel
theorem dX3_terminates_56 : decode cX3_terminates 56 = .ok (.iastore, 1) := by decide +kernel
theorem dX3_terminates_57 : decode cX3_terminates 57 = .ok (.aload_n 0, 1) := by decide +kernel
theorem dX3_terminates_58 : decode cX3_terminates 58 = .ok (.getfield 29, 3) := by decide +kernel
theorem dX3_terminates_61 : decode cX3_terminates 61 = .ok (.iload_n 1, 1) := by decide +kernel
theorem dX3_terminates_62 : decode cX3_terminates 62 = .ok (.iconst 0, 1) := by decide +kernel
theorem dX3_terminates_63 : decode cX3_terminates 63 = .ok (.bastore, 1) := by decide +kernel
theorem dX3_terminates_64 : decode cX3_terminates 64 = .ok (.aload_n 0, 1) := by decide +kernel
theorem dX3_terminates_65 : decode cX3_terminates 65 = .ok (.getfield 26, 3) := by decide +kernel
theorem dX3_terminates_68 : decode cX3_terminates 68 = .ok (.iload_n 1, 1) := by decide +kernel
theorem dX3_terminates_69 : decode cX3_terminates 69 = .ok (.iconst 0, 1) := by decide +kernel
theorem dX3_terminates_70 : decode cX3_terminates 70 = .ok (.bastore, 1) := by decide +kernel
theorem dX3_terminates_71 : decode cX3_terminates 71 = .ok (.aload_n 0, 1) := by decide +kernel
theorem dX3_terminates_72 : decode cX3_terminates 72 = .ok (.iload_n 1, 1) := by decide +kernel
theorem dX3_terminates_73 : decode cX3_terminates 73 = .ok (.invokevirtual 111, 3) := by decide +kernel
theorem dX3_terminates_76 : decode cX3_terminates 76 = .ok (.istore 4, 2) := by decide +kernel
theorem dX3_terminates_78 : decode cX3_terminates 78 = .ok (.iconst 1, 1) := by decide +kernel
theorem dX3_terminates_79 : decode cX3_terminates 79 = .ok (.istore 5, 2) := by decide +kernel
theorem dX3_terminates_81 : decode cX3_terminates 81 = .ok (.iload 5, 2) := by decide +kernel
theorem dX3_terminates_83 : decode cX3_terminates 83 = .ok (.bipush 40, 2) := by decide +kernel
theorem dX3_terminates_85 : decode cX3_terminates 85 = .ok (.if_icmp .gt 71, 3) := by decide +kernel
theorem dX3_terminates_88 : decode cX3_terminates 88 = .ok (.aload_n 0, 1) := by decide +kernel
theorem dX3_terminates_89 : decode cX3_terminates 89 = .ok (.getfield 87, 3) := by decide +kernel
theorem dX3_terminates_92 : decode cX3_terminates 92 = .ok (.iload 5, 2) := by decide +kernel
theorem dX3_terminates_94 : decode cX3_terminates 94 = .ok (.aload_n 0, 1) := by decide +kernel
theorem dX3_terminates_95 : decode cX3_terminates 95 = .ok (.getfield 7, 3) := by decide +kernel
theorem dX3_terminates_98 : decode cX3_terminates 98 = .ok (.iload 5, 2) := by decide +kernel
theorem dX3_terminates_100 : decode cX3_terminates 100 = .ok (.baload, 1) := by decide +kernel
theorem dX3_terminates_101 : decode cX3_terminates 101 = .ok (.ifCond .eq 18, 3) := by decide +kernel
theorem dX3_terminates_104 : decode cX3_terminates 104 = .ok (.aload_n 0, 1) := by decide +kernel
theorem dX3_terminates_105 : decode cX3_terminates 105 = .ok (.getfield 13, 3) := by decide +kernel
theorem dX3_terminates_108 : decode cX3_terminates 108 = .ok (.iload 5, 2) := by decide +kernel
theorem dX3_terminates_110 : decode cX3_terminates 110 = .ok (.iaload, 1) := by decide +kernel
theorem dX3_terminates_111 : decode cX3_terminates 111 = .ok (.iload_n 1, 1) := by decide +kernel
theorem dX3_terminates_112 : decode cX3_terminates 112 = .ok (.if_icmp .ne 7, 3) := by decide +kernel
theorem dX3_terminates_115 : decode cX3_terminates 115 = .ok (.iconst 1, 1) := by decide +kernel
theorem dX3_terminates_116 : decode cX3_terminates 116 = .ok (.goto 4, 3) := by decide +kernel
theorem dX3_terminates_119 : decode cX3_terminates 119 = .ok (.iconst 0, 1) := by decide +kernel
theorem dX3_terminates_120 : decode cX3_terminates 120 = .ok (.bastore, 1) := by decide +kernel
theorem dX3_terminates_121 : decode cX3_terminates 121 = .ok (.aload_n 0, 1) := by decide +kernel
theorem dX3_terminates_122 : decode cX3_terminates 122 = .ok (.getfield 13, 3) := by decide +kernel
theorem dX3_terminates_125 : decode cX3_terminates 125 = .ok (.iload 5, 2) := by decide +kernel
theorem dX3_terminates_127 : decode cX3_terminates 127 = .ok (.aload_n 0, 1) := by decide +kernel
theorem dX3_terminates_128 : decode cX3_terminates 128 = .ok (.getfield 87, 3) := by decide +kernel
theorem dX3_terminates_131 : decode cX3_terminates 131 = .ok (.iload 5, 2) := by decide +kernel
theorem dX3_terminates_133 : decode cX3_terminates 133 = .ok (.baload, 1) := by decide +kernel
theorem dX3_terminates_134 : decode cX3_terminates 134 = .ok (.ifCond .eq 8, 3) := by decide +kernel
theorem dX3_terminates_137 : decode cX3_terminates 137 = .ok (.iload 4, 2) := by decide +kernel
theorem dX3_terminates_139 : decode cX3_terminates 139 = .ok (.goto 10, 3) := by decide +kernel
theorem dX3_terminates_142 : decode cX3_terminates 142 = .ok (.aload_n 0, 1) := by decide +kernel
theorem dX3_terminates_143 : decode cX3_terminates 143 = .ok (.getfield 13, 3) := by decide +kernel
theorem dX3_terminates_146 : decode cX3_terminates 146 = .ok (.iload 5, 2) := by decide +kernel
theorem dX3_terminates_148 : decode cX3_terminates 148 = .ok (.iaload, 1) := by decide +kernel
theorem dX3_terminates_149 : decode cX3_terminates 149 = .ok (.iastore, 1) := by decide +kernel
theorem dX3_terminates_150 : decode cX3_terminates 150 = .ok (.iinc 5 1, 3) := by decide +kernel
theorem dX3_terminates_153 : decode cX3_terminates 153 = .ok (.goto (-72), 3) := by decide +kernel
theorem dX3_terminates_156 : decode cX3_terminates 156 = .ok (.aload_n 0, 1) := by decide +kernel
theorem dX3_terminates_157 : decode cX3_terminates 157 = .ok (.getfield 20, 3) := by decide +kernel
theorem dX3_terminates_160 : decode cX3_terminates 160 = .ok (.iload_n 1, 1) := by decide +kernel
theorem dX3_terminates_161 : decode cX3_terminates 161 = .ok (.iaload, 1) := by decide +kernel
theorem dX3_terminates_162 : decode cX3_terminates 162 = .ok (.iload_n 1, 1) := by decide +kernel
theorem dX3_terminates_163 : decode cX3_terminates 163 = .ok (.if_icmp .ne 31, 3) := by decide +kernel
theorem dX3_terminates_166 : decode cX3_terminates 166 = .ok (.aload_n 0, 1) := by decide +kernel
theorem dX3_terminates_167 : decode cX3_terminates 167 = .ok (.getfield 74, 3) := by decide +kernel
theorem dX3_terminates_170 : decode cX3_terminates 170 = .ok (.iload_n 1, 1) := by decide +kernel
theorem dX3_terminates_171 : decode cX3_terminates 171 = .ok (.if_icmp .ne 23, 3) := by decide +kernel
theorem dX3_terminates_174 : decode cX3_terminates 174 = .ok (.aload_n 0, 1) := by decide +kernel
theorem dX3_terminates_175 : decode cX3_terminates 175 = .ok (.iconst (-1), 1) := by decide +kernel
theorem dX3_terminates_176 : decode cX3_terminates 176 = .ok (.putfield 74, 3) := by decide +kernel
theorem dX3_terminates_179 : decode cX3_terminates 179 = .ok (.aload_n 0, 1) := by decide +kernel
theorem dX3_terminates_180 : decode cX3_terminates 180 = .ok (.aload_n 0, 1) := by decide +kernel
theorem dX3_terminates_181 : decode cX3_terminates 181 = .ok (.getfield 78, 3) := by decide +kernel
theorem dX3_terminates_184 : decode cX3_terminates 184 = .ok (.iconst 0, 1) := by decide +kernel
theorem dX3_terminates_185 : decode cX3_terminates 185 = .ok (.invokevirtual 115, 3) := by decide +kernel
theorem dX3_terminates_188 : decode cX3_terminates 188 = .ok (.pop, 1) := by decide +kernel
theorem dX3_terminates_189 : decode cX3_terminates 189 = .ok (.aload_n 0, 1) := by decide +kernel
theorem dX3_terminates_190 : decode cX3_terminates 190 = .ok (.iconst (-1), 1) := by decide +kernel
theorem dX3_terminates_191 : decode cX3_terminates 191 = .ok (.putfield 78, 3) := by decide +kernel
theorem dX3_terminates_194 : decode cX3_terminates 194 = .ok (.iconst 1, 1) := by decide +kernel
theorem dX3_terminates_195 : decode cX3_terminates 195 = .ok (.istore 5, 2) := by decide +kernel
theorem dX3_terminates_197 : decode cX3_terminates 197 = .ok (.iload 5, 2) := by decide +kernel
theorem dX3_terminates_199 : decode cX3_terminates 199 = .ok (.bipush 40, 2) := by decide +kernel
theorem dX3_terminates_201 : decode cX3_terminates 201 = .ok (.if_icmp .gt 37, 3) := by decide +kernel
theorem dX3_terminates_204 : decode cX3_terminates 204 = .ok (.aload_n 0, 1) := by decide +kernel
theorem dX3_terminates_205 : decode cX3_terminates 205 = .ok (.getfield 87, 3) := by decide +kernel
theorem dX3_terminates_208 : decode cX3_terminates 208 = .ok (.iload 5, 2) := by decide +kernel
theorem dX3_terminates_210 : decode cX3_terminates 210 = .ok (.baload, 1) := by decide +kernel
theorem dX3_terminates_211 : decode cX3_terminates 211 = .ok (.ifCond .eq 21, 3) := by decide +kernel
theorem dX3_terminates_214 : decode cX3_terminates 214 = .ok (.aload_n 0, 1) := by decide +kernel
theorem dX3_terminates_215 : decode cX3_terminates 215 = .ok (.getfield 23, 3) := by decide +kernel
theorem dX3_terminates_218 : decode cX3_terminates 218 = .ok (.iload 5, 2) := by decide +kernel
theorem dX3_terminates_220 : decode cX3_terminates 220 = .ok (.baload, 1) := by decide +kernel
theorem dX3_terminates_221 : decode cX3_terminates 221 = .ok (.ifCond .eq 11, 3) := by decide +kernel
theorem dX3_terminates_224 : decode cX3_terminates 224 = .ok (.aload_n 0, 1) := by decide +kernel
theorem dX3_terminates_225 : decode cX3_terminates 225 = .ok (.iconst 2, 1) := by decide +kernel
theorem dX3_terminates_226 : decode cX3_terminates 226 = .ok (.iconst 0, 1) := by decide +kernel
theorem dX3_terminates_227 : decode cX3_terminates 227 = .ok (.iload 5, 2) := by decide +kernel
theorem dX3_terminates_229 : decode cX3_terminates 229 = .ok (.invokevirtual 104, 3) := by decide +kernel
theorem dX3_terminates_232 : decode cX3_terminates 232 = .ok (.iinc 5 1, 3) := by decide +kernel
theorem dX3_terminates_235 : decode cX3_terminates 235 = .ok (.goto (-38), 3) := by decide +kernel
theorem dX3_terminates_238 : decode cX3_terminates 238 = .ok (.iconst 1, 1) := by decide +kernel
theorem dX3_terminates_239 : decode cX3_terminates 239 = .ok (.istore 5, 2) := by decide +kernel
theorem dX3_terminates_241 : decode cX3_terminates 241 = .ok (.iload 5, 2) := by decide +kernel
theorem dX3_terminates_243 : decode cX3_terminates 243 = .ok (.bipush 40, 2) := by decide +kernel
theorem dX3_terminates_245 : decode cX3_terminates 245 = .ok (.if_icmp .gt 54, 3) := by decide +kernel
theorem dX3_terminates_248 : decode cX3_terminates 248 = .ok (.aload_n 0, 1) := by decide +kernel
theorem dX3_terminates_249 : decode cX3_terminates 249 = .ok (.getfield 84, 3) := by decide +kernel
theorem dX3_terminates_252 : decode cX3_terminates 252 = .ok (.iload 5, 2) := by decide +kernel
theorem dX3_terminates_254 : decode cX3_terminates 254 = .ok (.baload, 1) := by decide +kernel
theorem dX3_terminates_255 : decode cX3_terminates 255 = .ok (.ifCond .ne 38, 3) := by decide +kernel
theorem dX3_terminates_258 : decode cX3_terminates 258 = .ok (.aload_n 0, 1) := by decide +kernel
theorem dX3_terminates_259 : decode cX3_terminates 259 = .ok (.iload 5, 2) := by decide +kernel
theorem dX3_terminates_261 : decode cX3_terminates 261 = .ok (.invokevirtual 108, 3) := by decide +kernel
theorem dX3_terminates_264 : decode cX3_terminates 264 = .ok (.ifCond .eq 29, 3) := by decide +kernel
theorem dX3_terminates_267 : decode cX3_terminates 267 = .ok (.aload_n 0, 1) := by decide +kernel
theorem dX3_terminates_268 : decode cX3_terminates 268 = .ok (.iload 5, 2) := by decide +kernel
theorem dX3_terminates_270 : decode cX3_terminates 270 = .ok (.invokevirtual 119, 3) := by decide +kernel
theorem dX3_terminates_273 : decode cX3_terminates 273 = .ok (.ifCond .eq 20, 3) := by decide +kernel
theorem dX3_terminates_276 : decode cX3_terminates 276 = .ok (.aload_n 0, 1) := by decide +kernel
theorem dX3_terminates_277 : decode cX3_terminates 277 = .ok (.iload 5, 2) := by decide +kernel
theorem dX3_terminates_279 : decode cX3_terminates 279 = .ok (.iconst 0, 1) := by decide +kernel
theorem dX3_terminates_280 : decode cX3_terminates 280 = .ok (.invokevirtual 115, 3) := by decide +kernel
theorem dX3_terminates_283 : decode cX3_terminates 283 = .ok (.pop, 1) := by decide +kernel
theorem dX3_terminates_284 : decode cX3_terminates 284 = .ok (.aload_n 0, 1) := by decide +kernel
theorem dX3_terminates_285 : decode cX3_terminates 285 = .ok (.iload 5, 2) := by decide +kernel
theorem dX3_terminates_287 : decode cX3_terminates 287 = .ok (.bipush 7, 2) := by decide +kernel
theorem dX3_terminates_289 : decode cX3_terminates 289 = .ok (.invokevirtual 115, 3) := by decide +kernel
theorem dX3_terminates_292 : decode cX3_terminates 292 = .ok (.pop, 1) := by decide +kernel
theorem dX3_terminates_293 : decode cX3_terminates 293 = .ok (.iinc 5 1, 3) := by decide +kernel
theorem dX3_terminates_296 : decode cX3_terminates 296 = .ok (.goto (-55), 3) := by decide +kernel
theorem dX3_terminates_299 : decode cX3_terminates 299 = .ok (.aload_n 0, 1) := by decide +kernel
theorem dX3_terminates_300 : decode cX3_terminates 300 = .ok (.iconst 2, 1) := by decide +kernel
theorem dX3_terminates_301 : decode cX3_terminates 301 = .ok (.iconst 0, 1) := by decide +kernel
theorem dX3_terminates_302 : decode cX3_terminates 302 = .ok (.iload_n 1, 1) := by decide +kernel
theorem dX3_terminates_303 : decode cX3_terminates 303 = .ok (.invokevirtual 104, 3) := by decide +kernel
theorem dX3_terminates_306 : decode cX3_terminates 306 = .ok (.return_, 1) := by decide +kernel
theorem dX3_ends_0 : decode cX3_ends 0 = .ok (.aload_n 0, 1) := by decide +kernel
theorem dX3_ends_1 : decode cX3_ends 1 = .ok (.getfield 29, 3) := by decide +kernel
theorem dX3_ends_4 : decode cX3_ends 4 = .ok (.iload_n 1, 1) := by decide +kernel
theorem dX3_ends_5 : decode cX3_ends 5 = .ok (.iconst 0, 1) := by decide +kernel
theorem dX3_ends_6 : decode cX3_ends 6 = .ok (.bastore, 1) := by decide +kernel
theorem dX3_ends_7 : decode cX3_ends 7 = .ok (.aload_n 0, 1) := by decide +kernel
theorem dX3_ends_8 : decode cX3_ends 8 = .ok (.getfield 65, 3) := by decide +kernel
theorem dX3_ends_11 : decode cX3_ends 11 = .ok (.iload_n 1, 1) := by decide +kernel
theorem dX3_ends_12 : decode cX3_ends 12 = .ok (.iload_n 2, 1) := by decide +kernel
theorem dX3_ends_13 : decode cX3_ends 13 = .ok (.iastore, 1) := by decide +kernel
theorem dX3_ends_14 : decode cX3_ends 14 = .ok (.aload_n 0, 1) := by decide +kernel
theorem dX3_ends_15 : decode cX3_ends 15 = .ok (.getfield 68, 3) := by decide +kernel
theorem dX3_ends_18 : decode cX3_ends 18 = .ok (.iload_n 1, 1) := by decide +kernel
theorem dX3_ends_19 : decode cX3_ends 19 = .ok (.iload_n 3, 1) := by decide +kernel
theorem dX3_ends_20 : decode cX3_ends 20 = .ok (.iastore, 1) := by decide +kernel
theorem dX3_ends_21 : decode cX3_ends 21 = .ok (.aload_n 0, 1) := by decide +kernel
theorem dX3_ends_22 : decode cX3_ends 22 = .ok (.getfield 71, 3) := by decide +kernel
theorem dX3_ends_25 : decode cX3_ends 25 = .ok (.iload_n 1, 1) := by decide +kernel
theorem dX3_ends_26 : decode cX3_ends 26 = .ok (.iload 4, 2) := by decide +kernel
theorem dX3_ends_28 : decode cX3_ends 28 = .ok (.iastore, 1) := by decide +kernel
theorem dX3_ends_29 : decode cX3_ends 29 = .ok (.return_, 1) := by decide +kernel
set_option maxRecDepth 20000 in
theorem ggX3_checks_X3_ends : GoodIn wsX3_checks wsX3_ends := goodIn_r _ [16, 1, 17, 18, 19, 20, 21, 22, 23, 24, 25, 26, 27, 28, 29, 30, 31, 32, 33, 34, 35, 36, 37, 38, 39, 40, 41, 42, 43, 44, 45, 46, 47, 48] (by decide +kernel) (by decide +kernel)
set_option maxRecDepth 20000 in
theorem gX3_checks_X3_ends : GoodIn wsX3_checks (wsV RX3 122 RX3 yX3_ends wsX3_ends) := goodIn_app (goodIn_of _ (by decide +kernel)) ggX3_checks_X3_ends
theorem dX3_checks_0 : decode cX3_checks 0 = .ok (.aload_n 0, 1) := by decide +kernel
theorem dX3_checks_1 : decode cX3_checks 1 = .ok (.getfield 29, 3) := by decide +kernel
theorem dX3_checks_4 : decode cX3_checks 4 = .ok (.iload_n 1, 1) := by decide +kernel
theorem dX3_checks_5 : decode cX3_checks 5 = .ok (.baload, 1) := by decide +kernel
theorem dX3_checks_6 : decode cX3_checks 6 = .ok (.ifCond .eq 12, 3) := by decide +kernel
theorem dX3_checks_9 : decode cX3_checks 9 = .ok (.aload_n 0, 1) := by decide +kernel
theorem dX3_checks_10 : decode cX3_checks 10 = .ok (.getfield 26, 3) := by decide +kernel
theorem dX3_checks_13 : decode cX3_checks 13 = .ok (.iload_n 1, 1) := by decide +kernel
theorem dX3_checks_14 : decode cX3_checks 14 = .ok (.baload, 1) := by decide +kernel
theorem dX3_checks_15 : decode cX3_checks 15 = .ok (.ifCond .eq 4, 3) := by decide +kernel
theorem dX3_checks_18 : decode cX3_checks 18 = .ok (.return_, 1) := by decide +kernel
theorem dX3_checks_19 : decode cX3_checks 19 = .ok (.iconst (-1), 1) := by decide +kernel
theorem dX3_checks_20 : decode cX3_checks 20 = .ok (.istore_n 2, 1) := by decide +kernel
theorem dX3_checks_21 : decode cX3_checks 21 = .ok (.iconst 0, 1) := by decide +kernel
theorem dX3_checks_22 : decode cX3_checks 22 = .ok (.istore_n 3, 1) := by decide +kernel
theorem dX3_checks_23 : decode cX3_checks 23 = .ok (.bipush 40, 2) := by decide +kernel
theorem dX3_checks_25 : decode cX3_checks 25 = .ok (.istore 4, 2) := by decide +kernel
theorem dX3_checks_27 : decode cX3_checks 27 = .ok (.iload 4, 2) := by decide +kernel
theorem dX3_checks_29 : decode cX3_checks 29 = .ok (.ifCond .le 124, 3) := by decide +kernel
theorem dX3_checks_32 : decode cX3_checks 32 = .ok (.aload_n 0, 1) := by decide +kernel
theorem dX3_checks_33 : decode cX3_checks 33 = .ok (.getfield 7, 3) := by decide +kernel
theorem dX3_checks_36 : decode cX3_checks 36 = .ok (.iload 4, 2) := by decide +kernel
theorem dX3_checks_38 : decode cX3_checks 38 = .ok (.baload, 1) := by decide +kernel
theorem dX3_checks_39 : decode cX3_checks 39 = .ok (.ifCond .eq 39, 3) := by decide +kernel
theorem dX3_checks_42 : decode cX3_checks 42 = .ok (.aload_n 0, 1) := by decide +kernel
theorem dX3_checks_43 : decode cX3_checks 43 = .ok (.getfield 13, 3) := by decide +kernel
theorem dX3_checks_46 : decode cX3_checks 46 = .ok (.iload 4, 2) := by decide +kernel
theorem dX3_checks_48 : decode cX3_checks 48 = .ok (.iaload, 1) := by decide +kernel
theorem dX3_checks_49 : decode cX3_checks 49 = .ok (.iload_n 1, 1) := by decide +kernel
theorem dX3_checks_50 : decode cX3_checks 50 = .ok (.if_icmp .ne 28, 3) := by decide +kernel
theorem dX3_checks_53 : decode cX3_checks 53 = .ok (.aload_n 0, 1) := by decide +kernel
theorem dX3_checks_54 : decode cX3_checks 54 = .ok (.getfield 32, 3) := by decide +kernel
theorem dX3_checks_57 : decode cX3_checks 57 = .ok (.iload_n 1, 1) := by decide +kernel
theorem dX3_checks_58 : decode cX3_checks 58 = .ok (.iaload, 1) := by decide +kernel
theorem dX3_checks_59 : decode cX3_checks 59 = .ok (.iconst (-1), 1) := by decide +kernel
theorem dX3_checks_60 : decode cX3_checks 60 = .ok (.if_icmp .eq 14, 3) := by decide +kernel
theorem dX3_checks_63 : decode cX3_checks 63 = .ok (.aload_n 0, 1) := by decide +kernel
theorem dX3_checks_64 : decode cX3_checks 64 = .ok (.getfield 32, 3) := by decide +kernel
theorem dX3_checks_67 : decode cX3_checks 67 = .ok (.iload_n 1, 1) := by decide +kernel
theorem dX3_checks_68 : decode cX3_checks 68 = .ok (.iaload, 1) := by decide +kernel
theorem dX3_checks_69 : decode cX3_checks 69 = .ok (.iload 4, 2) := by decide +kernel
theorem dX3_checks_71 : decode cX3_checks 71 = .ok (.if_icmp .ne 7, 3) := by decide +kernel
theorem dX3_checks_74 : decode cX3_checks 74 = .ok (.iconst 1, 1) := by decide +kernel
theorem dX3_checks_75 : decode cX3_checks 75 = .ok (.goto 4, 3) := by decide +kernel
theorem dX3_checks_78 : decode cX3_checks 78 = .ok (.iconst 0, 1) := by decide +kernel
theorem dX3_checks_79 : decode cX3_checks 79 = .ok (.istore 5, 2) := by decide +kernel
theorem dX3_checks_81 : decode cX3_checks 81 = .ok (.iload_n 3, 1) := by decide +kernel
theorem dX3_checks_82 : decode cX3_checks 82 = .ok (.ifCond .ne 8, 3) := by decide +kernel
theorem dX3_checks_85 : decode cX3_checks 85 = .ok (.iload 5, 2) := by decide +kernel
theorem dX3_checks_87 : decode cX3_checks 87 = .ok (.ifCond .eq 7, 3) := by decide +kernel
theorem dX3_checks_90 : decode cX3_checks 90 = .ok (.iconst 1, 1) := by decide +kernel
theorem dX3_checks_91 : decode cX3_checks 91 = .ok (.goto 4, 3) := by decide +kernel
theorem dX3_checks_94 : decode cX3_checks 94 = .ok (.iconst 0, 1) := by decide +kernel
theorem dX3_checks_95 : decode cX3_checks 95 = .ok (.istore_n 3, 1) := by decide +kernel
theorem dX3_checks_96 : decode cX3_checks 96 = .ok (.iload 5, 2) := by decide +kernel
theorem dX3_checks_98 : decode cX3_checks 98 = .ok (.ifCond .eq 47, 3) := by decide +kernel
theorem dX3_checks_101 : decode cX3_checks 101 = .ok (.aload_n 0, 1) := by decide +kernel
theorem dX3_checks_102 : decode cX3_checks 102 = .ok (.getfield 23, 3) := by decide +kernel
theorem dX3_checks_105 : decode cX3_checks 105 = .ok (.iload 4, 2) := by decide +kernel
theorem dX3_checks_107 : decode cX3_checks 107 = .ok (.baload, 1) := by decide +kernel
theorem dX3_checks_108 : decode cX3_checks 108 = .ok (.ifCond .ne 32, 3) := by decide +kernel
theorem dX3_checks_111 : decode cX3_checks 111 = .ok (.aload_n 0, 1) := by decide +kernel
theorem dX3_checks_112 : decode cX3_checks 112 = .ok (.getfield 35, 3) := by decide +kernel
theorem dX3_checks_115 : decode cX3_checks 115 = .ok (.iload_n 1, 1) := by decide +kernel
theorem dX3_checks_116 : decode cX3_checks 116 = .ok (.baload, 1) := by decide +kernel
theorem dX3_checks_117 : decode cX3_checks 117 = .ok (.ifCond .eq 28, 3) := by decide +kernel
theorem dX3_checks_120 : decode cX3_checks 120 = .ok (.aload_n 0, 1) := by decide +kernel
theorem dX3_checks_121 : decode cX3_checks 121 = .ok (.getfield 26, 3) := by decide +kernel
theorem dX3_checks_124 : decode cX3_checks 124 = .ok (.iload 4, 2) := by decide +kernel
theorem dX3_checks_126 : decode cX3_checks 126 = .ok (.baload, 1) := by decide +kernel
theorem dX3_checks_127 : decode cX3_checks 127 = .ok (.ifCond .eq 18, 3) := by decide +kernel
theorem dX3_checks_130 : decode cX3_checks 130 = .ok (.aload_n 0, 1) := by decide +kernel
theorem dX3_checks_131 : decode cX3_checks 131 = .ok (.getfield 62, 3) := by decide +kernel
theorem dX3_checks_134 : decode cX3_checks 134 = .ok (.iload 4, 2) := by decide +kernel
theorem dX3_checks_136 : decode cX3_checks 136 = .ok (.baload, 1) := by decide +kernel
theorem dX3_checks_137 : decode cX3_checks 137 = .ok (.ifCond .eq 8, 3) := by decide +kernel
theorem dX3_checks_140 : decode cX3_checks 140 = .ok (.iload 4, 2) := by decide +kernel
theorem dX3_checks_142 : decode cX3_checks 142 = .ok (.goto 4, 3) := by decide +kernel
theorem dX3_checks_145 : decode cX3_checks 145 = .ok (.iload_n 2, 1) := by decide +kernel
theorem dX3_checks_146 : decode cX3_checks 146 = .ok (.istore_n 2, 1) := by decide +kernel
theorem dX3_checks_147 : decode cX3_checks 147 = .ok (.iinc 4 (-1), 3) := by decide +kernel
theorem dX3_checks_150 : decode cX3_checks 150 = .ok (.goto (-123), 3) := by decide +kernel
theorem dX3_checks_153 : decode cX3_checks 153 = .ok (.iload_n 3, 1) := by decide +kernel
theorem dX3_checks_154 : decode cX3_checks 154 = .ok (.ifCond .ne 14, 3) := by decide +kernel
theorem dX3_checks_157 : decode cX3_checks 157 = .ok (.aload_n 0, 1) := by decide +kernel
theorem dX3_checks_158 : decode cX3_checks 158 = .ok (.iload_n 1, 1) := by decide +kernel
theorem dX3_checks_159 : decode cX3_checks 159 = .ok (.iconst 4, 1) := by decide +kernel
theorem dX3_checks_160 : decode cX3_checks 160 = .ok (.iconst (-1), 1) := by decide +kernel
theorem dX3_checks_161 : decode cX3_checks 161 = .ok (.iconst (-1), 1) := by decide +kernel
theorem dX3_checks_162 : decode cX3_checks 162 = .ok (.invokevirtual 122, 3) := by decide +kernel
theorem dX3_checks_165 : decode cX3_checks 165 = .ok (.goto 70, 3) := by decide +kernel
theorem dX3_checks_168 : decode cX3_checks 168 = .ok (.iload_n 2, 1) := by decide +kernel
theorem dX3_checks_169 : decode cX3_checks 169 = .ok (.iconst (-1), 1) := by decide +kernel
theorem dX3_checks_170 : decode cX3_checks 170 = .ok (.if_icmp .eq 40, 3) := by decide +kernel
theorem dX3_checks_173 : decode cX3_checks 173 = .ok (.aload_n 0, 1) := by decide +kernel
theorem dX3_checks_174 : decode cX3_checks 174 = .ok (.getfield 23, 3) := by decide +kernel
theorem dX3_checks_177 : decode cX3_checks 177 = .ok (.iload_n 2, 1) := by decide +kernel
theorem dX3_checks_178 : decode cX3_checks 178 = .ok (.baload, 1) := by decide +kernel
theorem dX3_checks_179 : decode cX3_checks 179 = .ok (.ifCond .eq 31, 3) := by decide +kernel
theorem dX3_checks_182 : decode cX3_checks 182 = .ok (.aload_n 0, 1) := by decide +kernel
theorem dX3_checks_183 : decode cX3_checks 183 = .ok (.iload_n 1, 1) := by decide +kernel
theorem dX3_checks_184 : decode cX3_checks 184 = .ok (.aload_n 0, 1) := by decide +kernel
theorem dX3_checks_185 : decode cX3_checks 185 = .ok (.getfield 53, 3) := by decide +kernel
theorem dX3_checks_188 : decode cX3_checks 188 = .ok (.iload_n 2, 1) := by decide +kernel
theorem dX3_checks_189 : decode cX3_checks 189 = .ok (.iaload, 1) := by decide +kernel
theorem dX3_checks_190 : decode cX3_checks 190 = .ok (.iload_n 2, 1) := by decide +kernel
theorem dX3_checks_191 : decode cX3_checks 191 = .ok (.aload_n 0, 1) := by decide +kernel
theorem dX3_checks_192 : decode cX3_checks 192 = .ok (.getfield 56, 3) := by decide +kernel
theorem dX3_checks_195 : decode cX3_checks 195 = .ok (.iload_n 2, 1) := by decide +kernel
theorem dX3_checks_196 : decode cX3_checks 196 = .ok (.iaload, 1) := by decide +kernel
theorem dX3_checks_197 : decode cX3_checks 197 = .ok (.invokevirtual 122, 3) := by decide +kernel
theorem dX3_checks_200 : decode cX3_checks 200 = .ok (.aload_n 0, 1) := by decide +kernel
theorem dX3_checks_201 : decode cX3_checks 201 = .ok (.getfield 7, 3) := by decide +kernel
theorem dX3_checks_204 : decode cX3_checks 204 = .ok (.iload_n 2, 1) := by decide +kernel
theorem dX3_checks_205 : decode cX3_checks 205 = .ok (.iconst 0, 1) := by decide +kernel
theorem dX3_checks_206 : decode cX3_checks 206 = .ok (.bastore, 1) := by decide +kernel
theorem dX3_checks_207 : decode cX3_checks 207 = .ok (.goto 28, 3) := by decide +kernel
theorem dX3_checks_210 : decode cX3_checks 210 = .ok (.iload_n 2, 1) := by decide +kernel
theorem dX3_checks_211 : decode cX3_checks 211 = .ok (.iconst (-1), 1) := by decide +kernel
theorem dX3_checks_212 : decode cX3_checks 212 = .ok (.if_icmp .eq 23, 3) := by decide +kernel
theorem dX3_checks_215 : decode cX3_checks 215 = .ok (.aload_n 0, 1) := by decide +kernel
theorem dX3_checks_216 : decode cX3_checks 216 = .ok (.iload_n 1, 1) := by decide +kernel
theorem dX3_checks_217 : decode cX3_checks 217 = .ok (.iconst 2, 1) := by decide +kernel
theorem dX3_checks_218 : decode cX3_checks 218 = .ok (.iload_n 2, 1) := by decide +kernel
theorem dX3_checks_219 : decode cX3_checks 219 = .ok (.aload_n 0, 1) := by decide +kernel
theorem dX3_checks_220 : decode cX3_checks 220 = .ok (.getfield 59, 3) := by decide +kernel
theorem dX3_checks_223 : decode cX3_checks 223 = .ok (.iload_n 2, 1) := by decide +kernel
theorem dX3_checks_224 : decode cX3_checks 224 = .ok (.iaload, 1) := by decide +kernel
theorem dX3_checks_225 : decode cX3_checks 225 = .ok (.invokevirtual 122, 3) := by decide +kernel
theorem dX3_checks_228 : decode cX3_checks 228 = .ok (.aload_n 0, 1) := by decide +kernel
theorem dX3_checks_229 : decode cX3_checks 229 = .ok (.getfield 62, 3) := by decide +kernel
theorem dX3_checks_232 : decode cX3_checks 232 = .ok (.iload_n 2, 1) := by decide +kernel
theorem dX3_checks_233 : decode cX3_checks 233 = .ok (.iconst 0, 1) := by decide +kernel
theorem dX3_checks_234 : decode cX3_checks 234 = .ok (.bastore, 1) := by decide +kernel
theorem dX3_checks_235 : decode cX3_checks 235 = .ok (.return_, 1) := by decide +kernel
set_option maxRecDepth 20000 in
theorem ggX3_takesEffect_X3_ends : GoodIn wsX3_takesEffect wsX3_ends := goodIn_r _ [9, 3, 10, 11, 12, 62, 63, 64, 65, 66, 67, 68, 69, 70, 71, 72, 73, 74, 75, 76, 77, 78, 79, 80, 81, 82, 83, 84, 85, 86, 87, 88, 89, 90] (by decide +kernel) (by decide +kernel)
set_option maxRecDepth 20000 in
theorem gX3_takesEffect_X3_ends : GoodIn wsX3_takesEffect (wsV RX3 122 RX3 yX3_ends wsX3_ends) := goodIn_app (goodIn_of _ (by decide +kernel)) ggX3_takesEffect_X3_ends
set_option maxRecDepth 20000 in
theorem ggX3_takesEffect_X3_orphaned : GoodIn wsX3_takesEffect wsX3_orphaned := goodIn_r _ [16, 17, 18, 19, 4, 20, 21, 22, 8, 23, 24, 62, 63, 64, 65, 66, 67, 68, 69, 70, 71, 72, 73, 74, 75, 76, 77, 78, 79, 80, 81, 82, 83, 84, 85, 86, 87, 88, 89, 90] (by decide +kernel) (by decide +kernel)
set_option maxRecDepth 20000 in
theorem gX3_takesEffect_X3_orphaned : GoodIn wsX3_takesEffect (wsV RX3 108 RX3 yX3_orphaned wsX3_orphaned) := goodIn_app (goodIn_of _ (by decide +kernel)) ggX3_takesEffect_X3_orphaned
set_option maxRecDepth 20000 in
theorem ggX3_takesEffect_X3_stops : GoodIn wsX3_takesEffect wsX3_stops := goodIn_r _ [28, 29, 30, 31, 32, 33, 34, 8, 35, 36, 37, 62, 63, 64, 65, 66, 67, 68, 69, 70, 71, 72, 73, 74, 75, 76, 77, 78, 79, 80, 81, 82, 83, 84, 85, 86, 87, 88, 89, 90] (by decide +kernel) (by decide +kernel)
set_option maxRecDepth 20000 in
theorem gX3_takesEffect_X3_stops : GoodIn wsX3_takesEffect (wsV RX3 126 RX3 yX3_stops wsX3_stops) := goodIn_app (goodIn_of _ (by decide +kernel)) ggX3_takesEffect_X3_stops
set_option maxRecDepth 20000 in
theorem ggX3_takesEffect_X3_terminates : GoodIn wsX3_takesEffect wsX3_terminates := goodIn_r _ [41, 42, 18, 43, 44, 45, 3, 29, 46, 24, 17, 19, 47, 48, 13, 14, 15, 8, 16, 4, 20, 21, 22, 23, 49, 50, 51, 52, 53, 54, 55, 56, 57, 32, 33, 34, 35, 36, 37, 58, 59, 60, 61, 62, 63, 64, 65, 66, 67, 68, 69, 70, 71, 72, 73, 74, 75, 76, 77, 78, 79, 80, 81, 82, 83, 84, 85, 86, 87, 88, 89, 90] (by decide +kernel) (by decide +kernel)
set_option maxRecDepth 20000 in
theorem gX3_takesEffect_X3_terminates : GoodIn wsX3_takesEffect (wsV RX3 130 RX3 yX3_terminates wsX3_terminates) := goodIn_app (goodIn_of _ (by decide +kernel)) ggX3_takesEffect_X3_terminates
theorem dX3_takesEffect_0 : decode cX3_takesEffect 0 = .ok (.aload_n 0, 1) := by decide +kernel
theorem dX3_takesEffect_1 : decode cX3_takesEffect 1 = .ok (.getfield 38, 3) := by decide +kernel
theorem dX3_takesEffect_4 : decode cX3_takesEffect 4 = .ok (.bipush 9, 2) := by decide +kernel
theorem dX3_takesEffect_6 : decode cX3_takesEffect 6 = .ok (.iload_n 1, 1) := by decide +kernel
theorem dX3_takesEffect_7 : decode cX3_takesEffect 7 = .ok (.imul, 1) := by decide +kernel
theorem dX3_takesEffect_8 : decode cX3_takesEffect 8 = .ok (.iload_n 2, 1) := by decide +kernel
theorem dX3_takesEffect_9 : decode cX3_takesEffect 9 = .ok (.iadd, 1) := by decide +kernel
theorem dX3_takesEffect_10 : decode cX3_takesEffect 10 = .ok (.iaload, 1) := by decide +kernel
theorem dX3_takesEffect_11 : decode cX3_takesEffect 11 = .ok (.istore_n 3, 1) := by decide +kernel
theorem dX3_takesEffect_12 : decode cX3_takesEffect 12 = .ok (.iload_n 3, 1) := by decide +kernel
theorem dX3_takesEffect_13 : decode cX3_takesEffect 13 = .ok (.iconst 2, 1) := by decide +kernel
theorem dX3_takesEffect_14 : decode cX3_takesEffect 14 = .ok (.if_icmp .ne 33, 3) := by decide +kernel
theorem dX3_takesEffect_17 : decode cX3_takesEffect 17 = .ok (.aload_n 0, 1) := by decide +kernel
theorem dX3_takesEffect_18 : decode cX3_takesEffect 18 = .ok (.getfield 47, 3) := by decide +kernel
theorem dX3_takesEffect_21 : decode cX3_takesEffect 21 = .ok (.iload_n 1, 1) := by decide +kernel
theorem dX3_takesEffect_22 : decode cX3_takesEffect 22 = .ok (.dup2, 1) := by decide +kernel
theorem dX3_takesEffect_23 : decode cX3_takesEffect 23 = .ok (.iaload, 1) := by decide +kernel
theorem dX3_takesEffect_24 : decode cX3_takesEffect 24 = .ok (.iconst 1, 1) := by decide +kernel
theorem dX3_takesEffect_25 : decode cX3_takesEffect 25 = .ok (.iadd, 1) := by decide +kernel
theorem dX3_takesEffect_26 : decode cX3_takesEffect 26 = .ok (.iastore, 1) := by decide +kernel
theorem dX3_takesEffect_27 : decode cX3_takesEffect 27 = .ok (.aload_n 0, 1) := by decide +kernel
theorem dX3_takesEffect_28 : decode cX3_takesEffect 28 = .ok (.getfield 29, 3) := by decide +kernel
theorem dX3_takesEffect_31 : decode cX3_takesEffect 31 = .ok (.iload_n 1, 1) := by decide +kernel
theorem dX3_takesEffect_32 : decode cX3_takesEffect 32 = .ok (.baload, 1) := by decide +kernel
theorem dX3_takesEffect_33 : decode cX3_takesEffect 33 = .ok (.ifCond .eq 58, 3) := by decide +kernel
theorem dX3_takesEffect_36 : decode cX3_takesEffect 36 = .ok (.aload_n 0, 1) := by decide +kernel
theorem dX3_takesEffect_37 : decode cX3_takesEffect 37 = .ok (.iload_n 1, 1) := by decide +kernel
theorem dX3_takesEffect_38 : decode cX3_takesEffect 38 = .ok (.iconst 3, 1) := by decide +kernel
theorem dX3_takesEffect_39 : decode cX3_takesEffect 39 = .ok (.iconst (-1), 1) := by decide +kernel
theorem dX3_takesEffect_40 : decode cX3_takesEffect 40 = .ok (.iconst (-1), 1) := by decide +kernel
theorem dX3_takesEffect_41 : decode cX3_takesEffect 41 = .ok (.invokevirtual 122, 3) := by decide +kernel
theorem dX3_takesEffect_44 : decode cX3_takesEffect 44 = .ok (.goto 47, 3) := by decide +kernel
theorem dX3_takesEffect_47 : decode cX3_takesEffect 47 = .ok (.iload_n 3, 1) := by decide +kernel
theorem dX3_takesEffect_48 : decode cX3_takesEffect 48 = .ok (.ifCond .ne 32, 3) := by decide +kernel
theorem dX3_takesEffect_51 : decode cX3_takesEffect 51 = .ok (.iload_n 2, 1) := by decide +kernel
theorem dX3_takesEffect_52 : decode cX3_takesEffect 52 = .ok (.bipush 6, 2) := by decide +kernel
theorem dX3_takesEffect_54 : decode cX3_takesEffect 54 = .ok (.if_icmp .ne 26, 3) := by decide +kernel
theorem dX3_takesEffect_57 : decode cX3_takesEffect 57 = .ok (.aload_n 0, 1) := by decide +kernel
theorem dX3_takesEffect_58 : decode cX3_takesEffect 58 = .ok (.aload_n 0, 1) := by decide +kernel
theorem dX3_takesEffect_59 : decode cX3_takesEffect 59 = .ok (.getfield 17, 3) := by decide +kernel
theorem dX3_takesEffect_62 : decode cX3_takesEffect 62 = .ok (.iload_n 1, 1) := by decide +kernel
theorem dX3_takesEffect_63 : decode cX3_takesEffect 63 = .ok (.iaload, 1) := by decide +kernel
theorem dX3_takesEffect_64 : decode cX3_takesEffect 64 = .ok (.invokevirtual 108, 3) := by decide +kernel
theorem dX3_takesEffect_67 : decode cX3_takesEffect 67 = .ok (.ifCond .ne 24, 3) := by decide +kernel
theorem dX3_takesEffect_70 : decode cX3_takesEffect 70 = .ok (.aload_n 0, 1) := by decide +kernel
theorem dX3_takesEffect_71 : decode cX3_takesEffect 71 = .ok (.iload_n 1, 1) := by decide +kernel
theorem dX3_takesEffect_72 : decode cX3_takesEffect 72 = .ok (.bipush 6, 2) := by decide +kernel
theorem dX3_takesEffect_74 : decode cX3_takesEffect 74 = .ok (.invokevirtual 126, 3) := by decide +kernel
theorem dX3_takesEffect_77 : decode cX3_takesEffect 77 = .ok (.goto 14, 3) := by decide +kernel
theorem dX3_takesEffect_80 : decode cX3_takesEffect 80 = .ok (.iload_n 3, 1) := by decide +kernel
theorem dX3_takesEffect_81 : decode cX3_takesEffect 81 = .ok (.ifCond .ne 10, 3) := by decide +kernel
theorem dX3_takesEffect_84 : decode cX3_takesEffect 84 = .ok (.aload_n 0, 1) := by decide +kernel
theorem dX3_takesEffect_85 : decode cX3_takesEffect 85 = .ok (.iload_n 1, 1) := by decide +kernel
theorem dX3_takesEffect_86 : decode cX3_takesEffect 86 = .ok (.iconst 1, 1) := by decide +kernel
theorem dX3_takesEffect_87 : decode cX3_takesEffect 87 = .ok (.iload_n 2, 1) := by decide +kernel
theorem dX3_takesEffect_88 : decode cX3_takesEffect 88 = .ok (.invokevirtual 130, 3) := by decide +kernel
theorem dX3_takesEffect_91 : decode cX3_takesEffect 91 = .ok (.return_, 1) := by decide +kernel
set_option maxRecDepth 20000 in
theorem ggX3_delivers_X3_takesEffect : GoodIn wsX3_delivers wsX3_takesEffect := goodIn_r _ [9, 10, 11, 12, 13, 14, 15, 16, 8, 17, 18, 19, 20, 21, 22, 23, 24, 25, 3, 26, 27, 28, 29, 30, 31, 32, 33, 34, 35, 4, 36, 37, 38, 39, 40, 41, 42, 43, 44, 45, 46, 47, 48, 49, 50, 1, 51, 52, 53, 54, 55, 56, 57, 58, 59, 60, 61, 62, 63, 64, 65, 66, 73, 74, 75, 76, 77, 78, 79, 80, 81, 82, 83, 84, 85, 86, 87, 88, 89, 90, 91, 92, 93, 94, 95, 96, 97, 98, 99, 100, 101] (by decide +kernel) (by decide +kernel)
set_option maxRecDepth 20000 in
theorem gX3_delivers_X3_takesEffect : GoodIn wsX3_delivers (wsV RX3 133 RX3 yX3_takesEffect wsX3_takesEffect) := goodIn_app (goodIn_of _ (by decide +kernel)) ggX3_delivers_X3_takesEffect
set_option maxRecDepth 20000 in
theorem ggX3_delivers_X3_checks : GoodIn wsX3_delivers wsX3_checks := goodIn_r _ [70, 12, 4, 31, 25, 71, 3, 72, 37, 49, 50, 36, 14, 15, 16, 8, 17, 18, 19, 20, 73, 74, 75, 76, 77, 78, 79, 80, 81, 82, 83, 84, 85, 86, 87, 88, 89, 90, 91, 92, 93, 94, 95, 96, 97, 98, 99, 100, 101] (by decide +kernel) (by decide +kernel)
set_option maxRecDepth 20000 in
theorem gX3_delivers_X3_checks : GoodIn wsX3_delivers (wsV RX3 136 RX3 yX3_checks wsX3_checks) := goodIn_app (goodIn_of _ (by decide +kernel)) ggX3_delivers_X3_checks
theorem dX3_delivers_0 : decode cX3_delivers 0 = .ok (.aload_n 0, 1) := by decide +kernel
theorem dX3_delivers_1 : decode cX3_delivers 1 = .ok (.getfield 44, 3) := by decide +kernel
theorem dX3_delivers_4 : decode cX3_delivers 4 = .ok (.iload_n 1, 1) := by decide +kernel
theorem dX3_delivers_5 : decode cX3_delivers 5 = .ok (.iaload, 1) := by decide +kernel
theorem dX3_delivers_6 : decode cX3_delivers 6 = .ok (.aload_n 0, 1) := by decide +kernel
theorem dX3_delivers_7 : decode cX3_delivers 7 = .ok (.getfield 41, 3) := by decide +kernel
theorem dX3_delivers_10 : decode cX3_delivers 10 = .ok (.iload_n 1, 1) := by decide +kernel
theorem dX3_delivers_11 : decode cX3_delivers 11 = .ok (.iaload, 1) := by decide +kernel
theorem dX3_delivers_12 : decode cX3_delivers 12 = .ok (.iconst (-1), 1) := by decide +kernel
theorem dX3_delivers_13 : decode cX3_delivers 13 = .ok (.ixor, 1) := by decide +kernel
theorem dX3_delivers_14 : decode cX3_delivers 14 = .ok (.iand, 1) := by decide +kernel
theorem dX3_delivers_15 : decode cX3_delivers 15 = .ok (.istore_n 2, 1) := by decide +kernel
theorem dX3_delivers_16 : decode cX3_delivers 16 = .ok (.iload_n 2, 1) := by decide +kernel
theorem dX3_delivers_17 : decode cX3_delivers 17 = .ok (.ifCond .eq 76, 3) := by decide +kernel
theorem dX3_delivers_20 : decode cX3_delivers 20 = .ok (.aload_n 0, 1) := by decide +kernel
theorem dX3_delivers_21 : decode cX3_delivers 21 = .ok (.getfield 23, 3) := by decide +kernel
theorem dX3_delivers_24 : decode cX3_delivers 24 = .ok (.iload_n 1, 1) := by decide +kernel
theorem dX3_delivers_25 : decode cX3_delivers 25 = .ok (.baload, 1) := by decide +kernel
theorem dX3_delivers_26 : decode cX3_delivers 26 = .ok (.ifCond .ne 67, 3) := by decide +kernel
theorem dX3_delivers_29 : decode cX3_delivers 29 = .ok (.aload_n 0, 1) := by decide +kernel
theorem dX3_delivers_30 : decode cX3_delivers 30 = .ok (.getfield 26, 3) := by decide +kernel
theorem dX3_delivers_33 : decode cX3_delivers 33 = .ok (.iload_n 1, 1) := by decide +kernel
theorem dX3_delivers_34 : decode cX3_delivers 34 = .ok (.baload, 1) := by decide +kernel
theorem dX3_delivers_35 : decode cX3_delivers 35 = .ok (.ifCond .ne 58, 3) := by decide +kernel
theorem dX3_delivers_38 : decode cX3_delivers 38 = .ok (.iconst 0, 1) := by decide +kernel
theorem dX3_delivers_39 : decode cX3_delivers 39 = .ok (.istore_n 3, 1) := by decide +kernel
theorem dX3_delivers_40 : decode cX3_delivers 40 = .ok (.iload_n 2, 1) := by decide +kernel
theorem dX3_delivers_41 : decode cX3_delivers 41 = .ok (.iload_n 3, 1) := by decide +kernel
theorem dX3_delivers_42 : decode cX3_delivers 42 = .ok (.ishr, 1) := by decide +kernel
theorem dX3_delivers_43 : decode cX3_delivers 43 = .ok (.iconst 1, 1) := by decide +kernel
theorem dX3_delivers_44 : decode cX3_delivers 44 = .ok (.iand, 1) := by decide +kernel
theorem dX3_delivers_45 : decode cX3_delivers 45 = .ok (.ifCond .ne 9, 3) := by decide +kernel
theorem dX3_delivers_48 : decode cX3_delivers 48 = .ok (.iinc 3 1, 3) := by decide +kernel
theorem dX3_delivers_51 : decode cX3_delivers 51 = .ok (.goto (-11), 3) := by decide +kernel
theorem dX3_delivers_54 : decode cX3_delivers 54 = .ok (.aload_n 0, 1) := by decide +kernel
theorem dX3_delivers_55 : decode cX3_delivers 55 = .ok (.getfield 44, 3) := by decide +kernel
theorem dX3_delivers_58 : decode cX3_delivers 58 = .ok (.iload_n 1, 1) := by decide +kernel
theorem dX3_delivers_59 : decode cX3_delivers 59 = .ok (.dup2, 1) := by decide +kernel
theorem dX3_delivers_60 : decode cX3_delivers 60 = .ok (.iaload, 1) := by decide +kernel
theorem dX3_delivers_61 : decode cX3_delivers 61 = .ok (.iconst 1, 1) := by decide +kernel
theorem dX3_delivers_62 : decode cX3_delivers 62 = .ok (.iload_n 3, 1) := by decide +kernel
theorem dX3_delivers_63 : decode cX3_delivers 63 = .ok (.ishl, 1) := by decide +kernel
theorem dX3_delivers_64 : decode cX3_delivers 64 = .ok (.iconst (-1), 1) := by decide +kernel
theorem dX3_delivers_65 : decode cX3_delivers 65 = .ok (.ixor, 1) := by decide +kernel
theorem dX3_delivers_66 : decode cX3_delivers 66 = .ok (.iand, 1) := by decide +kernel
theorem dX3_delivers_67 : decode cX3_delivers 67 = .ok (.iastore, 1) := by decide +kernel
theorem dX3_delivers_68 : decode cX3_delivers 68 = .ok (.aload_n 0, 1) := by decide +kernel
theorem dX3_delivers_69 : decode cX3_delivers 69 = .ok (.iload_n 1, 1) := by decide +kernel
theorem dX3_delivers_70 : decode cX3_delivers 70 = .ok (.iload_n 3, 1) := by decide +kernel
theorem dX3_delivers_71 : decode cX3_delivers 71 = .ok (.invokevirtual 133, 3) := by decide +kernel
theorem dX3_delivers_74 : decode cX3_delivers 74 = .ok (.aload_n 0, 1) := by decide +kernel
theorem dX3_delivers_75 : decode cX3_delivers 75 = .ok (.getfield 44, 3) := by decide +kernel
theorem dX3_delivers_78 : decode cX3_delivers 78 = .ok (.iload_n 1, 1) := by decide +kernel
theorem dX3_delivers_79 : decode cX3_delivers 79 = .ok (.iaload, 1) := by decide +kernel
theorem dX3_delivers_80 : decode cX3_delivers 80 = .ok (.aload_n 0, 1) := by decide +kernel
theorem dX3_delivers_81 : decode cX3_delivers 81 = .ok (.getfield 41, 3) := by decide +kernel
theorem dX3_delivers_84 : decode cX3_delivers 84 = .ok (.iload_n 1, 1) := by decide +kernel
theorem dX3_delivers_85 : decode cX3_delivers 85 = .ok (.iaload, 1) := by decide +kernel
theorem dX3_delivers_86 : decode cX3_delivers 86 = .ok (.iconst (-1), 1) := by decide +kernel
theorem dX3_delivers_87 : decode cX3_delivers 87 = .ok (.ixor, 1) := by decide +kernel
theorem dX3_delivers_88 : decode cX3_delivers 88 = .ok (.iand, 1) := by decide +kernel
theorem dX3_delivers_89 : decode cX3_delivers 89 = .ok (.istore_n 2, 1) := by decide +kernel
theorem dX3_delivers_90 : decode cX3_delivers 90 = .ok (.goto (-74), 3) := by decide +kernel
theorem dX3_delivers_93 : decode cX3_delivers 93 = .ok (.aload_n 0, 1) := by decide +kernel
theorem dX3_delivers_94 : decode cX3_delivers 94 = .ok (.iload_n 1, 1) := by decide +kernel
theorem dX3_delivers_95 : decode cX3_delivers 95 = .ok (.invokevirtual 136, 3) := by decide +kernel
theorem dX3_delivers_98 : decode cX3_delivers 98 = .ok (.return_, 1) := by decide +kernel
set_option maxRecDepth 20000 in
theorem ggX3_comes_X3_terminates : GoodIn wsX3_comes wsX3_terminates := goodIn_r _ [11, 12, 2, 13, 14, 3, 15, 5, 16, 1, 17, 18, 19, 20, 21, 22, 23, 10, 24, 25, 26, 27, 28, 29, 30, 31, 32, 33, 34, 35, 36, 37, 38, 39, 40, 41, 42, 43, 44, 45, 46, 47, 48, 77, 78, 79, 80, 81, 82, 83, 84, 85, 86, 87, 88, 89, 90, 91, 92, 93, 94, 95, 96, 97, 98, 99, 100, 101, 102, 103, 104, 105] (by decide +kernel) (by decide +kernel)
set_option maxRecDepth 20000 in
theorem gX3_comes_X3_terminates : GoodIn wsX3_comes (wsV RX3 130 RX3 yX3_terminates wsX3_terminates) := goodIn_app (goodIn_of _ (by decide +kernel)) ggX3_comes_X3_terminates
set_option maxRecDepth 20000 in
theorem ggX3_comes_X3_stops : GoodIn wsX3_comes wsX3_stops := goodIn_r _ [52, 5, 53, 4, 39, 40, 41, 10, 42, 43, 44, 77, 78, 79, 80, 81, 82, 83, 84, 85, 86, 87, 88, 89, 90, 91, 92, 93, 94, 95, 96, 97, 98, 99, 100, 101, 102, 103, 104, 105] (by decide +kernel) (by decide +kernel)
set_option maxRecDepth 20000 in
theorem gX3_comes_X3_stops : GoodIn wsX3_comes (wsV RX3 126 RX3 yX3_stops wsX3_stops) := goodIn_app (goodIn_of _ (by decide +kernel)) ggX3_comes_X3_stops
set_option maxRecDepth 20000 in
theorem ggX3_comes_X3_delivers : GoodIn wsX3_comes wsX3_delivers := goodIn_r _ [57, 3, 58, 2, 5, 59, 60, 61, 10, 62, 6, 63, 15, 25, 64, 65, 66, 67, 68, 69, 70, 21, 22, 23, 24, 17, 18, 26, 27, 28, 29, 1, 49, 50, 51, 52, 53, 4, 39, 40, 41, 42, 43, 44, 7, 8, 9, 11, 12, 13, 14, 16, 19, 20, 30, 31, 32, 33, 34, 35, 36, 37, 38, 45, 46, 47, 48, 71, 72, 73, 74, 75, 76, 77, 78, 79, 80, 81, 82, 83, 84, 85, 86, 87, 88, 89, 90, 91, 92, 93, 94, 95, 96, 97, 98, 99, 100, 101, 102, 103, 104, 105] (by decide +kernel) (by decide +kernel)
set_option maxRecDepth 20000 in
theorem gX3_comes_X3_delivers : GoodIn wsX3_comes (wsV RX3 140 RX3 yX3_delivers wsX3_delivers) := goodIn_app (goodIn_of _ (by decide +kernel)) ggX3_comes_X3_delivers
theorem dX3_comes_0 : decode cX3_comes 0 = .ok (.aload_n 0, 1) := by decide +kernel
theorem dX3_comes_1 : decode cX3_comes 1 = .ok (.getfield 7, 3) := by decide +kernel
theorem dX3_comes_4 : decode cX3_comes 4 = .ok (.iload_n 1, 1) := by decide +kernel
theorem dX3_comes_5 : decode cX3_comes 5 = .ok (.baload, 1) := by decide +kernel
theorem dX3_comes_6 : decode cX3_comes 6 = .ok (.ifCond .eq 17, 3) := by decide +kernel
theorem dX3_comes_9 : decode cX3_comes 9 = .ok (.aload_n 0, 1) := by decide +kernel
theorem dX3_comes_10 : decode cX3_comes 10 = .ok (.getfield 23, 3) := by decide +kernel
theorem dX3_comes_13 : decode cX3_comes 13 = .ok (.iload_n 1, 1) := by decide +kernel
theorem dX3_comes_14 : decode cX3_comes 14 = .ok (.baload, 1) := by decide +kernel
theorem dX3_comes_15 : decode cX3_comes 15 = .ok (.ifCond .ne 8, 3) := by decide +kernel
theorem dX3_comes_18 : decode cX3_comes 18 = .ok (.iload_n 1, 1) := by decide +kernel
theorem dX3_comes_19 : decode cX3_comes 19 = .ok (.iconst 1, 1) := by decide +kernel
theorem dX3_comes_20 : decode cX3_comes 20 = .ok (.if_icmp .ne 4, 3) := by decide +kernel
theorem dX3_comes_23 : decode cX3_comes 23 = .ok (.return_, 1) := by decide +kernel
theorem dX3_comes_24 : decode cX3_comes 24 = .ok (.iload_n 2, 1) := by decide +kernel
theorem dX3_comes_25 : decode cX3_comes 25 = .ok (.bipush 7, 2) := by decide +kernel
theorem dX3_comes_27 : decode cX3_comes 27 = .ok (.if_icmp .ne 50, 3) := by decide +kernel
theorem dX3_comes_30 : decode cX3_comes 30 = .ok (.aload_n 0, 1) := by decide +kernel
theorem dX3_comes_31 : decode cX3_comes 31 = .ok (.getfield 44, 3) := by decide +kernel
theorem dX3_comes_34 : decode cX3_comes 34 = .ok (.iload_n 1, 1) := by decide +kernel
theorem dX3_comes_35 : decode cX3_comes 35 = .ok (.dup2, 1) := by decide +kernel
theorem dX3_comes_36 : decode cX3_comes 36 = .ok (.iaload, 1) := by decide +kernel
theorem dX3_comes_37 : decode cX3_comes 37 = .ok (.bipush (-65), 2) := by decide +kernel
theorem dX3_comes_39 : decode cX3_comes 39 = .ok (.iand, 1) := by decide +kernel
theorem dX3_comes_40 : decode cX3_comes 40 = .ok (.iastore, 1) := by decide +kernel
theorem dX3_comes_41 : decode cX3_comes 41 = .ok (.aload_n 0, 1) := by decide +kernel
theorem dX3_comes_42 : decode cX3_comes 42 = .ok (.getfield 62, 3) := by decide +kernel
theorem dX3_comes_45 : decode cX3_comes 45 = .ok (.iload_n 1, 1) := by decide +kernel
theorem dX3_comes_46 : decode cX3_comes 46 = .ok (.aload_n 0, 1) := by decide +kernel
theorem dX3_comes_47 : decode cX3_comes 47 = .ok (.getfield 62, 3) := by decide +kernel
theorem dX3_comes_50 : decode cX3_comes 50 = .ok (.iload_n 1, 1) := by decide +kernel
theorem dX3_comes_51 : decode cX3_comes 51 = .ok (.baload, 1) := by decide +kernel
theorem dX3_comes_52 : decode cX3_comes 52 = .ok (.ifCond .eq 16, 3) := by decide +kernel
theorem dX3_comes_55 : decode cX3_comes 55 = .ok (.aload_n 0, 1) := by decide +kernel
theorem dX3_comes_56 : decode cX3_comes 56 = .ok (.getfield 26, 3) := by decide +kernel
theorem dX3_comes_59 : decode cX3_comes 59 = .ok (.iload_n 1, 1) := by decide +kernel
theorem dX3_comes_60 : decode cX3_comes 60 = .ok (.baload, 1) := by decide +kernel
theorem dX3_comes_61 : decode cX3_comes 61 = .ok (.ifCond .ne 7, 3) := by decide +kernel
theorem dX3_comes_64 : decode cX3_comes 64 = .ok (.iconst 1, 1) := by decide +kernel
theorem dX3_comes_65 : decode cX3_comes 65 = .ok (.goto 4, 3) := by decide +kernel
theorem dX3_comes_68 : decode cX3_comes 68 = .ok (.iconst 0, 1) := by decide +kernel
theorem dX3_comes_69 : decode cX3_comes 69 = .ok (.bastore, 1) := by decide +kernel
theorem dX3_comes_70 : decode cX3_comes 70 = .ok (.aload_n 0, 1) := by decide +kernel
theorem dX3_comes_71 : decode cX3_comes 71 = .ok (.getfield 26, 3) := by decide +kernel
theorem dX3_comes_74 : decode cX3_comes 74 = .ok (.iload_n 1, 1) := by decide +kernel
theorem dX3_comes_75 : decode cX3_comes 75 = .ok (.iconst 0, 1) := by decide +kernel
theorem dX3_comes_76 : decode cX3_comes 76 = .ok (.bastore, 1) := by decide +kernel
theorem dX3_comes_77 : decode cX3_comes 77 = .ok (.aload_n 0, 1) := by decide +kernel
theorem dX3_comes_78 : decode cX3_comes 78 = .ok (.getfield 44, 3) := by decide +kernel
theorem dX3_comes_81 : decode cX3_comes 81 = .ok (.iload_n 1, 1) := by decide +kernel
theorem dX3_comes_82 : decode cX3_comes 82 = .ok (.dup2, 1) := by decide +kernel
theorem dX3_comes_83 : decode cX3_comes 83 = .ok (.iaload, 1) := by decide +kernel
theorem dX3_comes_84 : decode cX3_comes 84 = .ok (.iload_n 2, 1) := by decide +kernel
theorem dX3_comes_85 : decode cX3_comes 85 = .ok (.iconst 5, 1) := by decide +kernel
theorem dX3_comes_86 : decode cX3_comes 86 = .ok (.if_icmp .eq 9, 3) := by decide +kernel
theorem dX3_comes_89 : decode cX3_comes 89 = .ok (.iload_n 2, 1) := by decide +kernel
theorem dX3_comes_90 : decode cX3_comes 90 = .ok (.bipush 6, 2) := by decide +kernel
theorem dX3_comes_92 : decode cX3_comes 92 = .ok (.if_icmp .ne 9, 3) := by decide +kernel
theorem dX3_comes_95 : decode cX3_comes 95 = .ok (.sipush (-129), 3) := by decide +kernel
theorem dX3_comes_98 : decode cX3_comes 98 = .ok (.goto 4, 3) := by decide +kernel
theorem dX3_comes_101 : decode cX3_comes 101 = .ok (.iconst (-1), 1) := by decide +kernel
theorem dX3_comes_102 : decode cX3_comes 102 = .ok (.iand, 1) := by decide +kernel
theorem dX3_comes_103 : decode cX3_comes 103 = .ok (.iastore, 1) := by decide +kernel
theorem dX3_comes_104 : decode cX3_comes 104 = .ok (.aload_n 0, 1) := by decide +kernel
theorem dX3_comes_105 : decode cX3_comes 105 = .ok (.getfield 38, 3) := by decide +kernel
theorem dX3_comes_108 : decode cX3_comes 108 = .ok (.bipush 9, 2) := by decide +kernel
theorem dX3_comes_110 : decode cX3_comes 110 = .ok (.iload_n 1, 1) := by decide +kernel
theorem dX3_comes_111 : decode cX3_comes 111 = .ok (.imul, 1) := by decide +kernel
theorem dX3_comes_112 : decode cX3_comes 112 = .ok (.iload_n 2, 1) := by decide +kernel
theorem dX3_comes_113 : decode cX3_comes 113 = .ok (.iadd, 1) := by decide +kernel
theorem dX3_comes_114 : decode cX3_comes 114 = .ok (.iaload, 1) := by decide +kernel
theorem dX3_comes_115 : decode cX3_comes 115 = .ok (.istore_n 3, 1) := by decide +kernel
theorem dX3_comes_116 : decode cX3_comes 116 = .ok (.iload_n 2, 1) := by decide +kernel
theorem dX3_comes_117 : decode cX3_comes 117 = .ok (.iconst 2, 1) := by decide +kernel
theorem dX3_comes_118 : decode cX3_comes 118 = .ok (.if_icmp .ne 13, 3) := by decide +kernel
theorem dX3_comes_121 : decode cX3_comes 121 = .ok (.aload_n 0, 1) := by decide +kernel
theorem dX3_comes_122 : decode cX3_comes 122 = .ok (.iload_n 1, 1) := by decide +kernel
theorem dX3_comes_123 : decode cX3_comes 123 = .ok (.iconst 1, 1) := by decide +kernel
theorem dX3_comes_124 : decode cX3_comes 124 = .ok (.iconst 2, 1) := by decide +kernel
theorem dX3_comes_125 : decode cX3_comes 125 = .ok (.invokevirtual 130, 3) := by decide +kernel
theorem dX3_comes_128 : decode cX3_comes 128 = .ok (.goto 58, 3) := by decide +kernel
theorem dX3_comes_131 : decode cX3_comes 131 = .ok (.iload_n 2, 1) := by decide +kernel
theorem dX3_comes_132 : decode cX3_comes 132 = .ok (.iconst 5, 1) := by decide +kernel
theorem dX3_comes_133 : decode cX3_comes 133 = .ok (.if_icmp .ne 21, 3) := by decide +kernel
theorem dX3_comes_136 : decode cX3_comes 136 = .ok (.aload_n 0, 1) := by decide +kernel
theorem dX3_comes_137 : decode cX3_comes 137 = .ok (.getfield 26, 3) := by decide +kernel
theorem dX3_comes_140 : decode cX3_comes 140 = .ok (.iload_n 1, 1) := by decide +kernel
theorem dX3_comes_141 : decode cX3_comes 141 = .ok (.baload, 1) := by decide +kernel
theorem dX3_comes_142 : decode cX3_comes 142 = .ok (.ifCond .ne 44, 3) := by decide +kernel
theorem dX3_comes_145 : decode cX3_comes 145 = .ok (.aload_n 0, 1) := by decide +kernel
theorem dX3_comes_146 : decode cX3_comes 146 = .ok (.iload_n 1, 1) := by decide +kernel
theorem dX3_comes_147 : decode cX3_comes 147 = .ok (.iconst 5, 1) := by decide +kernel
theorem dX3_comes_148 : decode cX3_comes 148 = .ok (.invokevirtual 126, 3) := by decide +kernel
theorem dX3_comes_151 : decode cX3_comes 151 = .ok (.goto 35, 3) := by decide +kernel
theorem dX3_comes_154 : decode cX3_comes 154 = .ok (.iload_n 3, 1) := by decide +kernel
theorem dX3_comes_155 : decode cX3_comes 155 = .ok (.iconst 2, 1) := by decide +kernel
theorem dX3_comes_156 : decode cX3_comes 156 = .ok (.if_icmp .eq 18, 3) := by decide +kernel
theorem dX3_comes_159 : decode cX3_comes 159 = .ok (.iload_n 3, 1) := by decide +kernel
theorem dX3_comes_160 : decode cX3_comes 160 = .ok (.ifCond .ne 26, 3) := by decide +kernel
theorem dX3_comes_163 : decode cX3_comes 163 = .ok (.iload_n 2, 1) := by decide +kernel
theorem dX3_comes_164 : decode cX3_comes 164 = .ok (.iconst 4, 1) := by decide +kernel
theorem dX3_comes_165 : decode cX3_comes 165 = .ok (.if_icmp .eq 21, 3) := by decide +kernel
theorem dX3_comes_168 : decode cX3_comes 168 = .ok (.iload_n 2, 1) := by decide +kernel
theorem dX3_comes_169 : decode cX3_comes 169 = .ok (.bipush 7, 2) := by decide +kernel
theorem dX3_comes_171 : decode cX3_comes 171 = .ok (.if_icmp .eq 15, 3) := by decide +kernel
theorem dX3_comes_174 : decode cX3_comes 174 = .ok (.aload_n 0, 1) := by decide +kernel
theorem dX3_comes_175 : decode cX3_comes 175 = .ok (.getfield 44, 3) := by decide +kernel
theorem dX3_comes_178 : decode cX3_comes 178 = .ok (.iload_n 1, 1) := by decide +kernel
theorem dX3_comes_179 : decode cX3_comes 179 = .ok (.dup2, 1) := by decide +kernel
theorem dX3_comes_180 : decode cX3_comes 180 = .ok (.iaload, 1) := by decide +kernel
theorem dX3_comes_181 : decode cX3_comes 181 = .ok (.iconst 1, 1) := by decide +kernel
theorem dX3_comes_182 : decode cX3_comes 182 = .ok (.iload_n 2, 1) := by decide +kernel
theorem dX3_comes_183 : decode cX3_comes 183 = .ok (.ishl, 1) := by decide +kernel
theorem dX3_comes_184 : decode cX3_comes 184 = .ok (.ior, 1) := by decide +kernel
theorem dX3_comes_185 : decode cX3_comes 185 = .ok (.iastore, 1) := by decide +kernel
theorem dX3_comes_186 : decode cX3_comes 186 = .ok (.aload_n 0, 1) := by decide +kernel
theorem dX3_comes_187 : decode cX3_comes 187 = .ok (.iload_n 1, 1) := by decide +kernel
theorem dX3_comes_188 : decode cX3_comes 188 = .ok (.invokevirtual 140, 3) := by decide +kernel
theorem dX3_comes_191 : decode cX3_comes 191 = .ok (.return_, 1) := by decide +kernel
set_option maxRecDepth 20000 in
theorem ggX3_isOver_X3_checks : GoodIn wsX3_isOver wsX3_checks := goodIn_r _ [8, 9, 10, 1, 2, 11, 12, 13, 14, 15, 16, 17, 18, 19, 20, 7, 21, 22, 23, 24, 31, 32, 33, 34, 35, 36, 37, 38, 39, 40, 41, 42, 43, 44, 45, 46, 47, 48, 49, 50, 51, 52, 53, 54, 55, 56, 57, 58, 59] (by decide +kernel) (by decide +kernel)
set_option maxRecDepth 20000 in
theorem gX3_isOver_X3_checks : GoodIn wsX3_isOver (wsV RX3 136 RX3 yX3_checks wsX3_checks) := goodIn_app (goodIn_of _ (by decide +kernel)) ggX3_isOver_X3_checks
set_option maxRecDepth 20000 in
theorem ggX3_isOver_X3_appends : GoodIn wsX3_isOver wsX3_appends := goodIn_r _ [28, 29, 30, 31, 32, 33, 34, 35, 36, 37, 38, 39, 40, 41, 42, 43, 44, 45, 46, 47, 48, 49, 50, 51, 52, 53, 54, 55, 56, 57, 58, 59] (by decide +kernel) (by decide +kernel)
set_option maxRecDepth 20000 in
theorem gX3_isOver_X3_appends : GoodIn wsX3_isOver (wsV RX3 104 RX3 yX3_appends wsX3_appends) := goodIn_app (goodIn_of _ (by decide +kernel)) ggX3_isOver_X3_appends
theorem dX3_isOver_0 : decode cX3_isOver 0 = .ok (.aload_n 0, 1) := by decide +kernel
theorem dX3_isOver_1 : decode cX3_isOver 1 = .ok (.getfield 7, 3) := by decide +kernel
theorem dX3_isOver_4 : decode cX3_isOver 4 = .ok (.iload_n 1, 1) := by decide +kernel
theorem dX3_isOver_5 : decode cX3_isOver 5 = .ok (.baload, 1) := by decide +kernel
theorem dX3_isOver_6 : decode cX3_isOver 6 = .ok (.ifCond .ne 4, 3) := by decide +kernel
theorem dX3_isOver_9 : decode cX3_isOver 9 = .ok (.return_, 1) := by decide +kernel
theorem dX3_isOver_10 : decode cX3_isOver 10 = .ok (.aload_n 0, 1) := by decide +kernel
theorem dX3_isOver_11 : decode cX3_isOver 11 = .ok (.getfield 13, 3) := by decide +kernel
theorem dX3_isOver_14 : decode cX3_isOver 14 = .ok (.iload_n 1, 1) := by decide +kernel
theorem dX3_isOver_15 : decode cX3_isOver 15 = .ok (.iaload, 1) := by decide +kernel
theorem dX3_isOver_16 : decode cX3_isOver 16 = .ok (.istore_n 2, 1) := by decide +kernel
theorem dX3_isOver_17 : decode cX3_isOver 17 = .ok (.iload_n 2, 1) := by decide +kernel
theorem dX3_isOver_18 : decode cX3_isOver 18 = .ok (.iconst 1, 1) := by decide +kernel
theorem dX3_isOver_19 : decode cX3_isOver 19 = .ok (.if_icmp .eq 18, 3) := by decide +kernel
theorem dX3_isOver_22 : decode cX3_isOver 22 = .ok (.aload_n 0, 1) := by decide +kernel
theorem dX3_isOver_23 : decode cX3_isOver 23 = .ok (.getfield 38, 3) := by decide +kernel
theorem dX3_isOver_26 : decode cX3_isOver 26 = .ok (.bipush 9, 2) := by decide +kernel
theorem dX3_isOver_28 : decode cX3_isOver 28 = .ok (.iload_n 2, 1) := by decide +kernel
theorem dX3_isOver_29 : decode cX3_isOver 29 = .ok (.imul, 1) := by decide +kernel
theorem dX3_isOver_30 : decode cX3_isOver 30 = .ok (.iconst 4, 1) := by decide +kernel
theorem dX3_isOver_31 : decode cX3_isOver 31 = .ok (.iadd, 1) := by decide +kernel
theorem dX3_isOver_32 : decode cX3_isOver 32 = .ok (.iaload, 1) := by decide +kernel
theorem dX3_isOver_33 : decode cX3_isOver 33 = .ok (.iconst 1, 1) := by decide +kernel
theorem dX3_isOver_34 : decode cX3_isOver 34 = .ok (.if_icmp .ne 10, 3) := by decide +kernel
theorem dX3_isOver_37 : decode cX3_isOver 37 = .ok (.aload_n 0, 1) := by decide +kernel
theorem dX3_isOver_38 : decode cX3_isOver 38 = .ok (.getfield 7, 3) := by decide +kernel
theorem dX3_isOver_41 : decode cX3_isOver 41 = .ok (.iload_n 1, 1) := by decide +kernel
theorem dX3_isOver_42 : decode cX3_isOver 42 = .ok (.iconst 0, 1) := by decide +kernel
theorem dX3_isOver_43 : decode cX3_isOver 43 = .ok (.bastore, 1) := by decide +kernel
theorem dX3_isOver_44 : decode cX3_isOver 44 = .ok (.iload_n 2, 1) := by decide +kernel
theorem dX3_isOver_45 : decode cX3_isOver 45 = .ok (.iconst 1, 1) := by decide +kernel
theorem dX3_isOver_46 : decode cX3_isOver 46 = .ok (.if_icmp .eq 15, 3) := by decide +kernel
theorem dX3_isOver_49 : decode cX3_isOver 49 = .ok (.aload_n 0, 1) := by decide +kernel
theorem dX3_isOver_50 : decode cX3_isOver 50 = .ok (.iload_n 2, 1) := by decide +kernel
theorem dX3_isOver_51 : decode cX3_isOver 51 = .ok (.invokevirtual 136, 3) := by decide +kernel
theorem dX3_isOver_54 : decode cX3_isOver 54 = .ok (.aload_n 0, 1) := by decide +kernel
theorem dX3_isOver_55 : decode cX3_isOver 55 = .ok (.iconst 1, 1) := by decide +kernel
theorem dX3_isOver_56 : decode cX3_isOver 56 = .ok (.iconst 4, 1) := by decide +kernel
theorem dX3_isOver_57 : decode cX3_isOver 57 = .ok (.iload_n 2, 1) := by decide +kernel
theorem dX3_isOver_58 : decode cX3_isOver 58 = .ok (.invokevirtual 104, 3) := by decide +kernel
theorem dX3_isOver_61 : decode cX3_isOver 61 = .ok (.return_, 1) := by decide +kernel
set_option maxRecDepth 20000 in
theorem ggX3_stands_X3_checks : GoodIn wsX3_stands wsX3_checks := goodIn_r _ [8, 9, 3, 2, 1, 10, 11, 12, 13, 14, 15, 16, 17, 18, 19, 7, 20, 21, 22, 23, 30, 31, 32, 33, 34, 35, 36, 37, 38, 39, 40, 41, 42, 43, 44, 45, 46, 47, 48, 49, 50, 51, 52, 53, 54, 55, 56, 57, 58] (by decide +kernel) (by decide +kernel)
set_option maxRecDepth 20000 in
theorem gX3_stands_X3_checks : GoodIn wsX3_stands (wsV RX3 136 RX3 yX3_checks wsX3_checks) := goodIn_app (goodIn_of _ (by decide +kernel)) ggX3_stands_X3_checks
set_option maxRecDepth 20000 in
theorem ggX3_stands_X3_appends : GoodIn wsX3_stands wsX3_appends := goodIn_r _ [27, 28, 29, 30, 31, 32, 33, 34, 35, 36, 37, 38, 39, 40, 41, 42, 43, 44, 45, 46, 47, 48, 49, 50, 51, 52, 53, 54, 55, 56, 57, 58] (by decide +kernel) (by decide +kernel)
set_option maxRecDepth 20000 in
theorem gX3_stands_X3_appends : GoodIn wsX3_stands (wsV RX3 104 RX3 yX3_appends wsX3_appends) := goodIn_app (goodIn_of _ (by decide +kernel)) ggX3_stands_X3_appends
theorem dX3_stands_0 : decode cX3_stands 0 = .ok (.aload_n 0, 1) := by decide +kernel
theorem dX3_stands_1 : decode cX3_stands 1 = .ok (.getfield 13, 3) := by decide +kernel
theorem dX3_stands_4 : decode cX3_stands 4 = .ok (.iload_n 1, 1) := by decide +kernel
theorem dX3_stands_5 : decode cX3_stands 5 = .ok (.iaload, 1) := by decide +kernel
theorem dX3_stands_6 : decode cX3_stands 6 = .ok (.istore_n 2, 1) := by decide +kernel
theorem dX3_stands_7 : decode cX3_stands 7 = .ok (.aload_n 0, 1) := by decide +kernel
theorem dX3_stands_8 : decode cX3_stands 8 = .ok (.getfield 7, 3) := by decide +kernel
theorem dX3_stands_11 : decode cX3_stands 11 = .ok (.iload_n 1, 1) := by decide +kernel
theorem dX3_stands_12 : decode cX3_stands 12 = .ok (.baload, 1) := by decide +kernel
theorem dX3_stands_13 : decode cX3_stands 13 = .ok (.ifCond .eq 29, 3) := by decide +kernel
theorem dX3_stands_16 : decode cX3_stands 16 = .ok (.aload_n 0, 1) := by decide +kernel
theorem dX3_stands_17 : decode cX3_stands 17 = .ok (.getfield 26, 3) := by decide +kernel
theorem dX3_stands_20 : decode cX3_stands 20 = .ok (.iload_n 1, 1) := by decide +kernel
theorem dX3_stands_21 : decode cX3_stands 21 = .ok (.baload, 1) := by decide +kernel
theorem dX3_stands_22 : decode cX3_stands 22 = .ok (.ifCond .eq 20, 3) := by decide +kernel
theorem dX3_stands_25 : decode cX3_stands 25 = .ok (.iload_n 2, 1) := by decide +kernel
theorem dX3_stands_26 : decode cX3_stands 26 = .ok (.iconst 1, 1) := by decide +kernel
theorem dX3_stands_27 : decode cX3_stands 27 = .ok (.if_icmp .eq 15, 3) := by decide +kernel
theorem dX3_stands_30 : decode cX3_stands 30 = .ok (.aload_n 0, 1) := by decide +kernel
theorem dX3_stands_31 : decode cX3_stands 31 = .ok (.iload_n 2, 1) := by decide +kernel
theorem dX3_stands_32 : decode cX3_stands 32 = .ok (.invokevirtual 136, 3) := by decide +kernel
theorem dX3_stands_35 : decode cX3_stands 35 = .ok (.aload_n 0, 1) := by decide +kernel
theorem dX3_stands_36 : decode cX3_stands 36 = .ok (.iconst 1, 1) := by decide +kernel
theorem dX3_stands_37 : decode cX3_stands 37 = .ok (.iconst 4, 1) := by decide +kernel
theorem dX3_stands_38 : decode cX3_stands 38 = .ok (.iload_n 2, 1) := by decide +kernel
theorem dX3_stands_39 : decode cX3_stands 39 = .ok (.invokevirtual 104, 3) := by decide +kernel
theorem dX3_stands_42 : decode cX3_stands 42 = .ok (.return_, 1) := by decide +kernel
set_option maxRecDepth 20000 in
theorem ggX3_goes_X3_comes : GoodIn wsX3_goes wsX3_comes := goodIn_r _ [8, 9, 10, 11, 12, 13, 14, 15, 16, 17, 7, 18, 19, 20, 21, 22, 23, 24, 25, 26, 27, 28, 29, 30, 31, 32, 33, 34, 35, 36, 37, 38, 39, 40, 41, 42, 43, 44, 45, 46, 47, 48, 49, 3, 2, 50, 51, 52, 53, 54, 55, 56, 57, 58, 59, 60, 61, 62, 63, 64, 65, 66, 67, 68, 69, 70, 71, 72, 73, 74, 75, 76, 77, 78, 79, 80, 81, 90, 91, 92, 93, 94, 95, 96, 97, 98, 99, 100, 101, 102, 103, 104, 105, 106, 107, 108, 109, 110, 111, 112, 113, 114, 115, 116, 117, 118] (by decide +kernel) (by decide +kernel)
set_option maxRecDepth 20000 in
theorem gX3_goes_X3_comes : GoodIn wsX3_goes (wsV RX3 146 RX3 yX3_comes wsX3_comes) := goodIn_app (goodIn_of _ (by decide +kernel)) ggX3_goes_X3_comes
set_option maxRecDepth 20000 in
theorem ggX3_goes_X3_isOver : GoodIn wsX3_goes wsX3_isOver := goodIn_r _ [85, 9, 24, 14, 76, 77, 78, 7, 79, 22, 13, 80, 10, 81, 12, 20, 21, 58, 69, 70, 71, 72, 73, 74, 75, 46, 47, 48, 49, 3, 2, 90, 91, 92, 93, 94, 95, 96, 97, 98, 99, 100, 101, 102, 103, 104, 105, 106, 107, 108, 109, 110, 111, 112, 113, 114, 115, 116, 117, 118] (by decide +kernel) (by decide +kernel)
set_option maxRecDepth 20000 in
theorem gX3_goes_X3_isOver : GoodIn wsX3_goes (wsV RX3 149 RX3 yX3_isOver wsX3_isOver) := goodIn_app (goodIn_of _ (by decide +kernel)) ggX3_goes_X3_isOver
set_option maxRecDepth 20000 in
theorem ggX3_goes_X3_stands : GoodIn wsX3_goes wsX3_stands := goodIn_r _ [89, 24, 9, 13, 76, 77, 78, 7, 79, 22, 80, 10, 81, 12, 20, 21, 58, 69, 70, 71, 72, 73, 74, 75, 46, 47, 48, 49, 3, 2, 90, 91, 92, 93, 94, 95, 96, 97, 98, 99, 100, 101, 102, 103, 104, 105, 106, 107, 108, 109, 110, 111, 112, 113, 114, 115, 116, 117, 118] (by decide +kernel) (by decide +kernel)
set_option maxRecDepth 20000 in
theorem gX3_goes_X3_stands : GoodIn wsX3_goes (wsV RX3 152 RX3 yX3_stands wsX3_stands) := goodIn_app (goodIn_of _ (by decide +kernel)) ggX3_goes_X3_stands
theorem dX3_goes_0 : decode cX3_goes 0 = .ok (.aload_n 0, 1) := by decide +kernel
theorem dX3_goes_1 : decode cX3_goes 1 = .ok (.getfield 143, 3) := by decide +kernel
theorem dX3_goes_4 : decode cX3_goes 4 = .ok (.aload_n 0, 1) := by decide +kernel
theorem dX3_goes_5 : decode cX3_goes 5 = .ok (.getfield 101, 3) := by decide +kernel
theorem dX3_goes_8 : decode cX3_goes 8 = .ok (.if_icmp .eq 96, 3) := by decide +kernel
theorem dX3_goes_11 : decode cX3_goes 11 = .ok (.aload_n 0, 1) := by decide +kernel
theorem dX3_goes_12 : decode cX3_goes 12 = .ok (.getfield 81, 3) := by decide +kernel
theorem dX3_goes_15 : decode cX3_goes 15 = .ok (.aload_n 0, 1) := by decide +kernel
theorem dX3_goes_16 : decode cX3_goes 16 = .ok (.getfield 143, 3) := by decide +kernel
theorem dX3_goes_19 : decode cX3_goes 19 = .ok (.iaload, 1) := by decide +kernel
theorem dX3_goes_20 : decode cX3_goes 20 = .ok (.istore_n 1, 1) := by decide +kernel
theorem dX3_goes_21 : decode cX3_goes 21 = .ok (.aload_n 0, 1) := by decide +kernel
theorem dX3_goes_22 : decode cX3_goes 22 = .ok (.aload_n 0, 1) := by decide +kernel
theorem dX3_goes_23 : decode cX3_goes 23 = .ok (.getfield 143, 3) := by decide +kernel
theorem dX3_goes_26 : decode cX3_goes 26 = .ok (.iconst 1, 1) := by decide +kernel
theorem dX3_goes_27 : decode cX3_goes 27 = .ok (.iadd, 1) := by decide +kernel
theorem dX3_goes_28 : decode cX3_goes 28 = .ok (.sipush 8192, 3) := by decide +kernel
theorem dX3_goes_31 : decode cX3_goes 31 = .ok (.irem, 1) := by decide +kernel
theorem dX3_goes_32 : decode cX3_goes 32 = .ok (.putfield 143, 3) := by decide +kernel
theorem dX3_goes_35 : decode cX3_goes 35 = .ok (.iload_n 1, 1) := by decide +kernel
theorem dX3_goes_36 : decode cX3_goes 36 = .ok (.bipush 50, 2) := by decide +kernel
theorem dX3_goes_38 : decode cX3_goes 38 = .ok (.irem, 1) := by decide +kernel
theorem dX3_goes_39 : decode cX3_goes 39 = .ok (.istore_n 2, 1) := by decide +kernel
theorem dX3_goes_40 : decode cX3_goes 40 = .ok (.iload_n 1, 1) := by decide +kernel
theorem dX3_goes_41 : decode cX3_goes 41 = .ok (.sipush 1000, 3) := by decide +kernel
theorem dX3_goes_44 : decode cX3_goes 44 = .ok (.idiv, 1) := by decide +kernel
theorem dX3_goes_45 : decode cX3_goes 45 = .ok (.lookupswitch 51 #[(1, 27), (2, 43)], 27) := by decide +kernel
theorem dX3_goes_72 : decode cX3_goes 72 = .ok (.aload_n 0, 1) := by decide +kernel
theorem dX3_goes_73 : decode cX3_goes 73 = .ok (.iload_n 2, 1) := by decide +kernel
theorem dX3_goes_74 : decode cX3_goes 74 = .ok (.iload_n 1, 1) := by decide +kernel
theorem dX3_goes_75 : decode cX3_goes 75 = .ok (.sipush 1000, 3) := by decide +kernel
theorem dX3_goes_78 : decode cX3_goes 78 = .ok (.irem, 1) := by decide +kernel
theorem dX3_goes_79 : decode cX3_goes 79 = .ok (.bipush 50, 2) := by decide +kernel
theorem dX3_goes_81 : decode cX3_goes 81 = .ok (.idiv, 1) := by decide +kernel
theorem dX3_goes_82 : decode cX3_goes 82 = .ok (.invokevirtual 146, 3) := by decide +kernel
theorem dX3_goes_85 : decode cX3_goes 85 = .ok (.goto 16, 3) := by decide +kernel
theorem dX3_goes_88 : decode cX3_goes 88 = .ok (.aload_n 0, 1) := by decide +kernel
theorem dX3_goes_89 : decode cX3_goes 89 = .ok (.iload_n 2, 1) := by decide +kernel
theorem dX3_goes_90 : decode cX3_goes 90 = .ok (.invokevirtual 149, 3) := by decide +kernel
theorem dX3_goes_93 : decode cX3_goes 93 = .ok (.goto 8, 3) := by decide +kernel
theorem dX3_goes_96 : decode cX3_goes 96 = .ok (.aload_n 0, 1) := by decide +kernel
theorem dX3_goes_97 : decode cX3_goes 97 = .ok (.iload_n 2, 1) := by decide +kernel
theorem dX3_goes_98 : decode cX3_goes 98 = .ok (.invokevirtual 152, 3) := by decide +kernel
theorem dX3_goes_101 : decode cX3_goes 101 = .ok (.goto (-101), 3) := by decide +kernel
theorem dX3_goes_104 : decode cX3_goes 104 = .ok (.return_, 1) := by decide +kernel
theorem dX3_free_0 : decode cX3_free 0 = .ok (.iconst (-1), 1) := by decide +kernel
theorem dX3_free_1 : decode cX3_free 1 = .ok (.istore_n 1, 1) := by decide +kernel
theorem dX3_free_2 : decode cX3_free 2 = .ok (.bipush 40, 2) := by decide +kernel
theorem dX3_free_4 : decode cX3_free 4 = .ok (.istore_n 2, 1) := by decide +kernel
theorem dX3_free_5 : decode cX3_free 5 = .ok (.iload_n 2, 1) := by decide +kernel
theorem dX3_free_6 : decode cX3_free 6 = .ok (.ifCond .le 92, 3) := by decide +kernel
theorem dX3_free_9 : decode cX3_free 9 = .ok (.aload_n 0, 1) := by decide +kernel
theorem dX3_free_10 : decode cX3_free 10 = .ok (.getfield 7, 3) := by decide +kernel
theorem dX3_free_13 : decode cX3_free 13 = .ok (.iload_n 2, 1) := by decide +kernel
theorem dX3_free_14 : decode cX3_free 14 = .ok (.baload, 1) := by decide +kernel
theorem dX3_free_15 : decode cX3_free 15 = .ok (.ifCond .ne 7, 3) := by decide +kernel
theorem dX3_free_18 : decode cX3_free 18 = .ok (.iconst 1, 1) := by decide +kernel
theorem dX3_free_19 : decode cX3_free 19 = .ok (.goto 4, 3) := by decide +kernel
theorem dX3_free_22 : decode cX3_free 22 = .ok (.iconst 0, 1) := by decide +kernel
theorem dX3_free_23 : decode cX3_free 23 = .ok (.istore_n 3, 1) := by decide +kernel
theorem dX3_free_24 : decode cX3_free 24 = .ok (.iconst 1, 1) := by decide +kernel
theorem dX3_free_25 : decode cX3_free 25 = .ok (.istore 4, 2) := by decide +kernel
theorem dX3_free_27 : decode cX3_free 27 = .ok (.iload 4, 2) := by decide +kernel
theorem dX3_free_29 : decode cX3_free 29 = .ok (.bipush 40, 2) := by decide +kernel
theorem dX3_free_31 : decode cX3_free 31 = .ok (.if_icmp .gt 51, 3) := by decide +kernel
theorem dX3_free_34 : decode cX3_free 34 = .ok (.iload_n 3, 1) := by decide +kernel
theorem dX3_free_35 : decode cX3_free 35 = .ok (.ifCond .eq 39, 3) := by decide +kernel
theorem dX3_free_38 : decode cX3_free 38 = .ok (.aload_n 0, 1) := by decide +kernel
theorem dX3_free_39 : decode cX3_free 39 = .ok (.getfield 7, 3) := by decide +kernel
theorem dX3_free_42 : decode cX3_free 42 = .ok (.iload 4, 2) := by decide +kernel
theorem dX3_free_44 : decode cX3_free 44 = .ok (.baload, 1) := by decide +kernel
theorem dX3_free_45 : decode cX3_free 45 = .ok (.ifCond .eq 25, 3) := by decide +kernel
theorem dX3_free_48 : decode cX3_free 48 = .ok (.aload_n 0, 1) := by decide +kernel
theorem dX3_free_49 : decode cX3_free 49 = .ok (.getfield 17, 3) := by decide +kernel
theorem dX3_free_52 : decode cX3_free 52 = .ok (.iload 4, 2) := by decide +kernel
theorem dX3_free_54 : decode cX3_free 54 = .ok (.iaload, 1) := by decide +kernel
theorem dX3_free_55 : decode cX3_free 55 = .ok (.iload_n 2, 1) := by decide +kernel
theorem dX3_free_56 : decode cX3_free 56 = .ok (.if_icmp .eq 18, 3) := by decide +kernel
theorem dX3_free_59 : decode cX3_free 59 = .ok (.aload_n 0, 1) := by decide +kernel
theorem dX3_free_60 : decode cX3_free 60 = .ok (.getfield 20, 3) := by decide +kernel
theorem dX3_free_63 : decode cX3_free 63 = .ok (.iload 4, 2) := by decide +kernel
theorem dX3_free_65 : decode cX3_free 65 = .ok (.iaload, 1) := by decide +kernel
theorem dX3_free_66 : decode cX3_free 66 = .ok (.iload_n 2, 1) := by decide +kernel
theorem dX3_free_67 : decode cX3_free 67 = .ok (.if_icmp .eq 7, 3) := by decide +kernel
theorem dX3_free_70 : decode cX3_free 70 = .ok (.iconst 1, 1) := by decide +kernel
theorem dX3_free_71 : decode cX3_free 71 = .ok (.goto 4, 3) := by decide +kernel
theorem dX3_free_74 : decode cX3_free 74 = .ok (.iconst 0, 1) := by decide +kernel
theorem dX3_free_75 : decode cX3_free 75 = .ok (.istore_n 3, 1) := by decide +kernel
theorem dX3_free_76 : decode cX3_free 76 = .ok (.iinc 4 1, 3) := by decide +kernel
theorem dX3_free_79 : decode cX3_free 79 = .ok (.goto (-52), 3) := by decide +kernel
theorem dX3_free_82 : decode cX3_free 82 = .ok (.iload_n 3, 1) := by decide +kernel
theorem dX3_free_83 : decode cX3_free 83 = .ok (.ifCond .eq 7, 3) := by decide +kernel
theorem dX3_free_86 : decode cX3_free 86 = .ok (.iload_n 2, 1) := by decide +kernel
theorem dX3_free_87 : decode cX3_free 87 = .ok (.goto 4, 3) := by decide +kernel
theorem dX3_free_90 : decode cX3_free 90 = .ok (.iload_n 1, 1) := by decide +kernel
theorem dX3_free_91 : decode cX3_free 91 = .ok (.istore_n 1, 1) := by decide +kernel
theorem dX3_free_92 : decode cX3_free 92 = .ok (.iinc 2 (-1), 3) := by decide +kernel
theorem dX3_free_95 : decode cX3_free 95 = .ok (.goto (-90), 3) := by decide +kernel
theorem dX3_free_98 : decode cX3_free 98 = .ok (.iload_n 1, 1) := by decide +kernel
theorem dX3_free_99 : decode cX3_free 99 = .ok (.ireturn, 1) := by decide +kernel
set_option maxRecDepth 20000 in
theorem ggX3_fork_X3_free : GoodIn wsX3_fork wsX3_free := goodIn_r _ [21, 1, 3, 4, 35, 36, 37, 38, 39, 40, 41, 42, 43, 44, 45, 46, 47, 48, 49, 50, 51, 52, 53, 54, 55, 56, 57, 58, 59, 60, 61, 62, 63] (by decide +kernel) (by decide +kernel)
set_option maxRecDepth 20000 in
theorem gX3_fork_X3_free : GoodIn wsX3_fork (wsV RX3 155 RX3 yX3_free wsX3_free) := goodIn_app (goodIn_of _ (by decide +kernel)) ggX3_fork_X3_free
set_option maxRecDepth 20000 in
theorem ggX3_fork_X3_is : GoodIn wsX3_fork wsX3_is := goodIn_r _ [25, 1, 35, 36, 37, 38, 39, 40, 41, 42, 43, 44, 45, 46, 47, 48, 49, 50, 51, 52, 53, 54, 55, 56, 57, 58, 59, 60, 61, 62, 63] (by decide +kernel) (by decide +kernel)
set_option maxRecDepth 20000 in
theorem gX3_fork_X3_is : GoodIn wsX3_fork (wsV RX3 159 RX3 yX3_is wsX3_is) := goodIn_app (goodIn_of _ (by decide +kernel)) ggX3_fork_X3_is
set_option maxRecDepth 20000 in
theorem ggX3_fork_X3_isRunning : GoodIn wsX3_fork wsX3_isRunning := goodIn_r _ [29, 5, 6, 7, 35, 36, 37, 38, 39, 40, 41, 42, 43, 44, 45, 46, 47, 48, 49, 50, 51, 52, 53, 54, 55, 56, 57, 58, 59, 60, 61, 62, 63] (by decide +kernel) (by decide +kernel)
set_option maxRecDepth 20000 in
theorem gX3_fork_X3_isRunning : GoodIn wsX3_fork (wsV RX3 93 RX3 yX3_isRunning wsX3_isRunning) := goodIn_app (goodIn_of _ (by decide +kernel)) ggX3_fork_X3_isRunning
set_option maxRecDepth 20000 in
theorem ggX3_fork_X3_fails : GoodIn wsX3_fork wsX3_fails := goodIn_r _ [33, 34, 35, 36, 37, 38, 39, 40, 41, 42, 43, 44, 45, 46, 47, 48, 49, 50, 51, 52, 53, 54, 55, 56, 57, 58, 59, 60, 61, 62, 63] (by decide +kernel) (by decide +kernel)
set_option maxRecDepth 20000 in
theorem gX3_fork_X3_fails : GoodIn wsX3_fork (wsV RX3 162 RX3 yX3_fails wsX3_fails) := goodIn_app (goodIn_of _ (by decide +kernel)) ggX3_fork_X3_fails
theorem dX3_fork_0 : decode cX3_fork 0 = .ok (.aload_n 0, 1) := by decide +kernel
theorem dX3_fork_1 : decode cX3_fork 1 = .ok (.invokevirtual 155, 3) := by decide +kernel
theorem dX3_fork_4 : decode cX3_fork 4 = .ok (.istore_n 2, 1) := by decide +kernel
theorem dX3_fork_5 : decode cX3_fork 5 = .ok (.aload_n 0, 1) := by decide +kernel
theorem dX3_fork_6 : decode cX3_fork 6 = .ok (.aload_n 0, 1) := by decide +kernel
theorem dX3_fork_7 : decode cX3_fork 7 = .ok (.iload_n 1, 1) := by decide +kernel
theorem dX3_fork_8 : decode cX3_fork 8 = .ok (.invokevirtual 159, 3) := by decide +kernel
theorem dX3_fork_11 : decode cX3_fork 11 = .ok (.ifCond .ne 7, 3) := by decide +kernel
theorem dX3_fork_14 : decode cX3_fork 14 = .ok (.iconst 1, 1) := by decide +kernel
theorem dX3_fork_15 : decode cX3_fork 15 = .ok (.goto 21, 3) := by decide +kernel
theorem dX3_fork_18 : decode cX3_fork 18 = .ok (.aload_n 0, 1) := by decide +kernel
theorem dX3_fork_19 : decode cX3_fork 19 = .ok (.iload_n 1, 1) := by decide +kernel
theorem dX3_fork_20 : decode cX3_fork 20 = .ok (.invokevirtual 93, 3) := by decide +kernel
theorem dX3_fork_23 : decode cX3_fork 23 = .ok (.ifCond .eq 8, 3) := by decide +kernel
theorem dX3_fork_26 : decode cX3_fork 26 = .ok (.iload_n 2, 1) := by decide +kernel
theorem dX3_fork_27 : decode cX3_fork 27 = .ok (.iconst (-1), 1) := by decide +kernel
theorem dX3_fork_28 : decode cX3_fork 28 = .ok (.if_icmp .ne 7, 3) := by decide +kernel
theorem dX3_fork_31 : decode cX3_fork 31 = .ok (.iconst 2, 1) := by decide +kernel
theorem dX3_fork_32 : decode cX3_fork 32 = .ok (.goto 4, 3) := by decide +kernel
theorem dX3_fork_35 : decode cX3_fork 35 = .ok (.iconst 0, 1) := by decide +kernel
theorem dX3_fork_36 : decode cX3_fork 36 = .ok (.invokevirtual 162, 3) := by decide +kernel
theorem dX3_fork_39 : decode cX3_fork 39 = .ok (.ifCond .eq 5, 3) := by decide +kernel
theorem dX3_fork_42 : decode cX3_fork 42 = .ok (.iconst 0, 1) := by decide +kernel
theorem dX3_fork_43 : decode cX3_fork 43 = .ok (.ireturn, 1) := by decide +kernel
theorem dX3_fork_44 : decode cX3_fork 44 = .ok (.aload_n 0, 1) := by decide +kernel
theorem dX3_fork_45 : decode cX3_fork 45 = .ok (.getfield 7, 3) := by decide +kernel
theorem dX3_fork_48 : decode cX3_fork 48 = .ok (.iload_n 2, 1) := by decide +kernel
theorem dX3_fork_49 : decode cX3_fork 49 = .ok (.iconst 1, 1) := by decide +kernel
theorem dX3_fork_50 : decode cX3_fork 50 = .ok (.bastore, 1) := by decide +kernel
theorem dX3_fork_51 : decode cX3_fork 51 = .ok (.aload_n 0, 1) := by decide +kernel
theorem dX3_fork_52 : decode cX3_fork 52 = .ok (.getfield 13, 3) := by decide +kernel
theorem dX3_fork_55 : decode cX3_fork 55 = .ok (.iload_n 2, 1) := by decide +kernel
theorem dX3_fork_56 : decode cX3_fork 56 = .ok (.iload_n 1, 1) := by decide +kernel
theorem dX3_fork_57 : decode cX3_fork 57 = .ok (.iastore, 1) := by decide +kernel
theorem dX3_fork_58 : decode cX3_fork 58 = .ok (.aload_n 0, 1) := by decide +kernel
theorem dX3_fork_59 : decode cX3_fork 59 = .ok (.getfield 17, 3) := by decide +kernel
theorem dX3_fork_62 : decode cX3_fork 62 = .ok (.iload_n 2, 1) := by decide +kernel
theorem dX3_fork_63 : decode cX3_fork 63 = .ok (.aload_n 0, 1) := by decide +kernel
theorem dX3_fork_64 : decode cX3_fork 64 = .ok (.getfield 17, 3) := by decide +kernel
theorem dX3_fork_67 : decode cX3_fork 67 = .ok (.iload_n 1, 1) := by decide +kernel
theorem dX3_fork_68 : decode cX3_fork 68 = .ok (.iaload, 1) := by decide +kernel
theorem dX3_fork_69 : decode cX3_fork 69 = .ok (.iastore, 1) := by decide +kernel
theorem dX3_fork_70 : decode cX3_fork 70 = .ok (.aload_n 0, 1) := by decide +kernel
theorem dX3_fork_71 : decode cX3_fork 71 = .ok (.getfield 20, 3) := by decide +kernel
theorem dX3_fork_74 : decode cX3_fork 74 = .ok (.iload_n 2, 1) := by decide +kernel
theorem dX3_fork_75 : decode cX3_fork 75 = .ok (.aload_n 0, 1) := by decide +kernel
theorem dX3_fork_76 : decode cX3_fork 76 = .ok (.getfield 20, 3) := by decide +kernel
theorem dX3_fork_79 : decode cX3_fork 79 = .ok (.iload_n 1, 1) := by decide +kernel
theorem dX3_fork_80 : decode cX3_fork 80 = .ok (.iaload, 1) := by decide +kernel
theorem dX3_fork_81 : decode cX3_fork 81 = .ok (.iastore, 1) := by decide +kernel
