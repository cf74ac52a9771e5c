theorem dL_isSound_290 : decode cL_isSound 290 = .ok (.goto 4, 3) := by decide +kernel
theorem dL_isSound_293 : decode cL_isSound 293 = .ok (.iconst 0, 1) := by decide +kernel
theorem dL_isSound_294 : decode cL_isSound 294 = .ok (.istore 8, 2) := by decide +kernel
theorem dL_isSound_296 : decode cL_isSound 296 = .ok (.iload 4, 2) := by decide +kernel
theorem dL_isSound_298 : decode cL_isSound 298 = .ok (.ifCond .eq 65, 3) := by decide +kernel
theorem dL_isSound_301 : decode cL_isSound 301 = .ok (.iload 8, 2) := by decide +kernel
theorem dL_isSound_303 : decode cL_isSound 303 = .ok (.ifCond .eq 38, 3) := by decide +kernel
theorem dL_isSound_306 : decode cL_isSound 306 = .ok (.aload_n 0, 1) := by decide +kernel
theorem dL_isSound_307 : decode cL_isSound 307 = .ok (.iload_n 1, 1) := by decide +kernel
theorem dL_isSound_308 : decode cL_isSound 308 = .ok (.invokevirtual 112, 3) := by decide +kernel
theorem dL_isSound_311 : decode cL_isSound 311 = .ok (.iconst 1, 1) := by decide +kernel
theorem dL_isSound_312 : decode cL_isSound 312 = .ok (.if_icmp .le 51, 3) := by decide +kernel
theorem dL_isSound_315 : decode cL_isSound 315 = .ok (.aload_n 0, 1) := by decide +kernel
theorem dL_isSound_316 : decode cL_isSound 316 = .ok (.iload_n 1, 1) := by decide +kernel
theorem dL_isSound_317 : decode cL_isSound 317 = .ok (.invokevirtual 115, 3) := by decide +kernel
theorem dL_isSound_320 : decode cL_isSound 320 = .ok (.ifCond .lt 43, 3) := by decide +kernel
theorem dL_isSound_323 : decode cL_isSound 323 = .ok (.iload 7, 2) := by decide +kernel
theorem dL_isSound_325 : decode cL_isSound 325 = .ok (.ifCond .eq 34, 3) := by decide +kernel
theorem dL_isSound_328 : decode cL_isSound 328 = .ok (.aload_n 0, 1) := by decide +kernel
theorem dL_isSound_329 : decode cL_isSound 329 = .ok (.iload_n 1, 1) := by decide +kernel
theorem dL_isSound_330 : decode cL_isSound 330 = .ok (.invokevirtual 115, 3) := by decide +kernel
theorem dL_isSound_333 : decode cL_isSound 333 = .ok (.bipush 9, 2) := by decide +kernel
theorem dL_isSound_335 : decode cL_isSound 335 = .ok (.if_icmp .ge 28, 3) := by decide +kernel
theorem dL_isSound_338 : decode cL_isSound 338 = .ok (.goto 21, 3) := by decide +kernel
theorem dL_isSound_341 : decode cL_isSound 341 = .ok (.aload_n 0, 1) := by decide +kernel
theorem dL_isSound_342 : decode cL_isSound 342 = .ok (.iload_n 1, 1) := by decide +kernel
theorem dL_isSound_343 : decode cL_isSound 343 = .ok (.invokevirtual 112, 3) := by decide +kernel
theorem dL_isSound_346 : decode cL_isSound 346 = .ok (.iconst (-1), 1) := by decide +kernel
theorem dL_isSound_347 : decode cL_isSound 347 = .ok (.if_icmp .ne 16, 3) := by decide +kernel
theorem dL_isSound_350 : decode cL_isSound 350 = .ok (.aload_n 0, 1) := by decide +kernel
theorem dL_isSound_351 : decode cL_isSound 351 = .ok (.iload_n 1, 1) := by decide +kernel
theorem dL_isSound_352 : decode cL_isSound 352 = .ok (.invokevirtual 115, 3) := by decide +kernel
theorem dL_isSound_355 : decode cL_isSound 355 = .ok (.iconst (-1), 1) := by decide +kernel
theorem dL_isSound_356 : decode cL_isSound 356 = .ok (.if_icmp .ne 7, 3) := by decide +kernel
theorem dL_isSound_359 : decode cL_isSound 359 = .ok (.iconst 1, 1) := by decide +kernel
theorem dL_isSound_360 : decode cL_isSound 360 = .ok (.goto 4, 3) := by decide +kernel
theorem dL_isSound_363 : decode cL_isSound 363 = .ok (.iconst 0, 1) := by decide +kernel
theorem dL_isSound_364 : decode cL_isSound 364 = .ok (.ireturn, 1) := by decide +kernel
theorem dL_isOrphaned_0 : decode cL_isOrphaned 0 = .ok (.iconst 2, 1) := by decide +kernel
theorem dL_isOrphaned_1 : decode cL_isOrphaned 1 = .ok (.istore_n 2, 1) := by decide +kernel
theorem dL_isOrphaned_2 : decode cL_isOrphaned 2 = .ok (.iload_n 2, 1) := by decide +kernel
theorem dL_isOrphaned_3 : decode cL_isOrphaned 3 = .ok (.bipush 41, 2) := by decide +kernel
theorem dL_isOrphaned_5 : decode cL_isOrphaned 5 = .ok (.if_icmp .ge 57, 3) := by decide +kernel
theorem dL_isOrphaned_8 : decode cL_isOrphaned 8 = .ok (.aload_n 0, 1) := by decide +kernel
theorem dL_isOrphaned_9 : decode cL_isOrphaned 9 = .ok (.iload_n 2, 1) := by decide +kernel
theorem dL_isOrphaned_10 : decode cL_isOrphaned 10 = .ok (.iload_n 1, 1) := by decide +kernel
theorem dL_isOrphaned_11 : decode cL_isOrphaned 11 = .ok (.invokestatic 96, 3) := by decide +kernel
theorem dL_isOrphaned_14 : decode cL_isOrphaned 14 = .ok (.ifCond .eq 42, 3) := by decide +kernel
theorem dL_isOrphaned_17 : decode cL_isOrphaned 17 = .ok (.aload_n 0, 1) := by decide +kernel
theorem dL_isOrphaned_18 : decode cL_isOrphaned 18 = .ok (.iload_n 2, 1) := by decide +kernel
theorem dL_isOrphaned_19 : decode cL_isOrphaned 19 = .ok (.invokevirtual 100, 3) := by decide +kernel
theorem dL_isOrphaned_22 : decode cL_isOrphaned 22 = .ok (.istore_n 3, 1) := by decide +kernel
theorem dL_isOrphaned_23 : decode cL_isOrphaned 23 = .ok (.aload_n 0, 1) := by decide +kernel
theorem dL_isOrphaned_24 : decode cL_isOrphaned 24 = .ok (.iload_n 3, 1) := by decide +kernel
theorem dL_isOrphaned_25 : decode cL_isOrphaned 25 = .ok (.invokevirtual 90, 3) := by decide +kernel
theorem dL_isOrphaned_28 : decode cL_isOrphaned 28 = .ok (.iconst 3, 1) := by decide +kernel
theorem dL_isOrphaned_29 : decode cL_isOrphaned 29 = .ok (.if_icmp .eq 27, 3) := by decide +kernel
theorem dL_isOrphaned_32 : decode cL_isOrphaned 32 = .ok (.aload_n 0, 1) := by decide +kernel
theorem dL_isOrphaned_33 : decode cL_isOrphaned 33 = .ok (.iload_n 3, 1) := by decide +kernel
theorem dL_isOrphaned_34 : decode cL_isOrphaned 34 = .ok (.invokevirtual 106, 3) := by decide +kernel
theorem dL_isOrphaned_37 : decode cL_isOrphaned 37 = .ok (.aload_n 0, 1) := by decide +kernel
theorem dL_isOrphaned_38 : decode cL_isOrphaned 38 = .ok (.iload_n 2, 1) := by decide +kernel
theorem dL_isOrphaned_39 : decode cL_isOrphaned 39 = .ok (.invokevirtual 106, 3) := by decide +kernel
theorem dL_isOrphaned_42 : decode cL_isOrphaned 42 = .ok (.if_icmp .ne 14, 3) := by decide +kernel
theorem dL_isOrphaned_45 : decode cL_isOrphaned 45 = .ok (.aload_n 0, 1) := by decide +kernel
theorem dL_isOrphaned_46 : decode cL_isOrphaned 46 = .ok (.iload_n 3, 1) := by decide +kernel
theorem dL_isOrphaned_47 : decode cL_isOrphaned 47 = .ok (.invokevirtual 93, 3) := by decide +kernel
theorem dL_isOrphaned_50 : decode cL_isOrphaned 50 = .ok (.iload_n 1, 1) := by decide +kernel
theorem dL_isOrphaned_51 : decode cL_isOrphaned 51 = .ok (.if_icmp .eq 5, 3) := by decide +kernel
theorem dL_isOrphaned_54 : decode cL_isOrphaned 54 = .ok (.iconst 0, 1) := by decide +kernel
theorem dL_isOrphaned_55 : decode cL_isOrphaned 55 = .ok (.ireturn, 1) := by decide +kernel
theorem dL_isOrphaned_56 : decode cL_isOrphaned 56 = .ok (.iinc 2 1, 3) := by decide +kernel
theorem dL_isOrphaned_59 : decode cL_isOrphaned 59 = .ok (.goto (-57), 3) := by decide +kernel
theorem dL_isOrphaned_62 : decode cL_isOrphaned 62 = .ok (.iconst 1, 1) := by decide +kernel
theorem dL_isOrphaned_63 : decode cL_isOrphaned 63 = .ok (.ireturn, 1) := by decide +kernel
theorem dL_areAll_0 : decode cL_areAll 0 = .ok (.iconst 0, 1) := by decide +kernel
theorem dL_areAll_1 : decode cL_areAll 1 = .ok (.istore_n 1, 1) := by decide +kernel
theorem dL_areAll_2 : decode cL_areAll 2 = .ok (.iconst 1, 1) := by decide +kernel
theorem dL_areAll_3 : decode cL_areAll 3 = .ok (.istore_n 2, 1) := by decide +kernel
theorem dL_areAll_4 : decode cL_areAll 4 = .ok (.iload_n 2, 1) := by decide +kernel
theorem dL_areAll_5 : decode cL_areAll 5 = .ok (.bipush 41, 2) := by decide +kernel
theorem dL_areAll_7 : decode cL_areAll 7 = .ok (.if_icmp .ge 61, 3) := by decide +kernel
theorem dL_areAll_10 : decode cL_areAll 10 = .ok (.iload_n 1, 1) := by decide +kernel
theorem dL_areAll_11 : decode cL_areAll 11 = .ok (.aload_n 0, 1) := by decide +kernel
theorem dL_areAll_12 : decode cL_areAll 12 = .ok (.iload_n 2, 1) := by decide +kernel
theorem dL_areAll_13 : decode cL_areAll 13 = .ok (.invokevirtual 86, 3) := by decide +kernel
theorem dL_areAll_16 : decode cL_areAll 16 = .ok (.ifCond .eq 7, 3) := by decide +kernel
theorem dL_areAll_19 : decode cL_areAll 19 = .ok (.iconst 1, 1) := by decide +kernel
theorem dL_areAll_20 : decode cL_areAll 20 = .ok (.goto 4, 3) := by decide +kernel
theorem dL_areAll_23 : decode cL_areAll 23 = .ok (.iconst 0, 1) := by decide +kernel
theorem dL_areAll_24 : decode cL_areAll 24 = .ok (.iadd, 1) := by decide +kernel
theorem dL_areAll_25 : decode cL_areAll 25 = .ok (.istore_n 1, 1) := by decide +kernel
theorem dL_areAll_26 : decode cL_areAll 26 = .ok (.iload_n 2, 1) := by decide +kernel
theorem dL_areAll_27 : decode cL_areAll 27 = .ok (.iconst 1, 1) := by decide +kernel
theorem dL_areAll_28 : decode cL_areAll 28 = .ok (.if_icmp .le 19, 3) := by decide +kernel
theorem dL_areAll_31 : decode cL_areAll 31 = .ok (.aload_n 0, 1) := by decide +kernel
theorem dL_areAll_32 : decode cL_areAll 32 = .ok (.iload_n 2, 1) := by decide +kernel
theorem dL_areAll_33 : decode cL_areAll 33 = .ok (.invokevirtual 86, 3) := by decide +kernel
theorem dL_areAll_36 : decode cL_areAll 36 = .ok (.ifCond .eq 11, 3) := by decide +kernel
theorem dL_areAll_39 : decode cL_areAll 39 = .ok (.aload_n 0, 1) := by decide +kernel
theorem dL_areAll_40 : decode cL_areAll 40 = .ok (.iload_n 2, 1) := by decide +kernel
theorem dL_areAll_41 : decode cL_areAll 41 = .ok (.invokestatic 118, 3) := by decide +kernel
theorem dL_areAll_44 : decode cL_areAll 44 = .ok (.ifCond .eq 16, 3) := by decide +kernel
theorem dL_areAll_47 : decode cL_areAll 47 = .ok (.aload_n 0, 1) := by decide +kernel
theorem dL_areAll_48 : decode cL_areAll 48 = .ok (.iload_n 2, 1) := by decide +kernel
theorem dL_areAll_49 : decode cL_areAll 49 = .ok (.invokevirtual 122, 3) := by decide +kernel
theorem dL_areAll_52 : decode cL_areAll 52 = .ok (.aload_n 0, 1) := by decide +kernel
theorem dL_areAll_53 : decode cL_areAll 53 = .ok (.iload_n 2, 1) := by decide +kernel
theorem dL_areAll_54 : decode cL_areAll 54 = .ok (.invokestatic 125, 3) := by decide +kernel
theorem dL_areAll_57 : decode cL_areAll 57 = .ok (.if_icmp .eq 5, 3) := by decide +kernel
theorem dL_areAll_60 : decode cL_areAll 60 = .ok (.iconst 0, 1) := by decide +kernel
theorem dL_areAll_61 : decode cL_areAll 61 = .ok (.ireturn, 1) := by decide +kernel
theorem dL_areAll_62 : decode cL_areAll 62 = .ok (.iinc 2 1, 3) := by decide +kernel
theorem dL_areAll_65 : decode cL_areAll 65 = .ok (.goto (-61), 3) := by decide +kernel
theorem dL_areAll_68 : decode cL_areAll 68 = .ok (.aload_n 0, 1) := by decide +kernel
theorem dL_areAll_69 : decode cL_areAll 69 = .ok (.invokevirtual 127, 3) := by decide +kernel
theorem dL_areAll_72 : decode cL_areAll 72 = .ok (.istore_n 2, 1) := by decide +kernel
theorem dL_areAll_73 : decode cL_areAll 73 = .ok (.iload_n 2, 1) := by decide +kernel
theorem dL_areAll_74 : decode cL_areAll 74 = .ok (.iconst (-1), 1) := by decide +kernel
theorem dL_areAll_75 : decode cL_areAll 75 = .ok (.if_icmp .ne 19, 3) := by decide +kernel
theorem dL_areAll_78 : decode cL_areAll 78 = .ok (.aload_n 0, 1) := by decide +kernel
theorem dL_areAll_79 : decode cL_areAll 79 = .ok (.invokevirtual 130, 3) := by decide +kernel
theorem dL_areAll_82 : decode cL_areAll 82 = .ok (.iconst (-1), 1) := by decide +kernel
theorem dL_areAll_83 : decode cL_areAll 83 = .ok (.if_icmp .ne 7, 3) := by decide +kernel
theorem dL_areAll_86 : decode cL_areAll 86 = .ok (.iconst 1, 1) := by decide +kernel
theorem dL_areAll_87 : decode cL_areAll 87 = .ok (.goto 45, 3) := by decide +kernel
theorem dL_areAll_90 : decode cL_areAll 90 = .ok (.iconst 0, 1) := by decide +kernel
theorem dL_areAll_91 : decode cL_areAll 91 = .ok (.goto 41, 3) := by decide +kernel
theorem dL_areAll_94 : decode cL_areAll 94 = .ok (.aload_n 0, 1) := by decide +kernel
theorem dL_areAll_95 : decode cL_areAll 95 = .ok (.iload_n 2, 1) := by decide +kernel
theorem dL_areAll_96 : decode cL_areAll 96 = .ok (.invokevirtual 86, 3) := by decide +kernel
theorem dL_areAll_99 : decode cL_areAll 99 = .ok (.ifCond .eq 32, 3) := by decide +kernel
theorem dL_areAll_102 : decode cL_areAll 102 = .ok (.aload_n 0, 1) := by decide +kernel
theorem dL_areAll_103 : decode cL_areAll 103 = .ok (.iload_n 2, 1) := by decide +kernel
theorem dL_areAll_104 : decode cL_areAll 104 = .ok (.invokevirtual 106, 3) := by decide +kernel
theorem dL_areAll_107 : decode cL_areAll 107 = .ok (.iload_n 2, 1) := by decide +kernel
theorem dL_areAll_108 : decode cL_areAll 108 = .ok (.if_icmp .ne 23, 3) := by decide +kernel
theorem dL_areAll_111 : decode cL_areAll 111 = .ok (.aload_n 0, 1) := by decide +kernel
theorem dL_areAll_112 : decode cL_areAll 112 = .ok (.iload_n 2, 1) := by decide +kernel
theorem dL_areAll_113 : decode cL_areAll 113 = .ok (.invokevirtual 90, 3) := by decide +kernel
theorem dL_areAll_116 : decode cL_areAll 116 = .ok (.iconst 3, 1) := by decide +kernel
theorem dL_areAll_117 : decode cL_areAll 117 = .ok (.if_icmp .eq 14, 3) := by decide +kernel
theorem dL_areAll_120 : decode cL_areAll 120 = .ok (.aload_n 0, 1) := by decide +kernel
theorem dL_areAll_121 : decode cL_areAll 121 = .ok (.invokevirtual 130, 3) := by decide +kernel
theorem dL_areAll_124 : decode cL_areAll 124 = .ok (.ifCond .le 7, 3) := by decide +kernel
theorem dL_areAll_127 : decode cL_areAll 127 = .ok (.iconst 1, 1) := by decide +kernel
theorem dL_areAll_128 : decode cL_areAll 128 = .ok (.goto 4, 3) := by decide +kernel
theorem dL_areAll_131 : decode cL_areAll 131 = .ok (.iconst 0, 1) := by decide +kernel
theorem dL_areAll_132 : decode cL_areAll 132 = .ok (.istore_n 3, 1) := by decide +kernel
theorem dL_areAll_133 : decode cL_areAll 133 = .ok (.iload_n 3, 1) := by decide +kernel
theorem dL_areAll_134 : decode cL_areAll 134 = .ok (.ifCond .eq 75, 3) := by decide +kernel
theorem dL_areAll_137 : decode cL_areAll 137 = .ok (.aload_n 0, 1) := by decide +kernel
theorem dL_areAll_138 : decode cL_areAll 138 = .ok (.invokevirtual 133, 3) := by decide +kernel
theorem dL_areAll_141 : decode cL_areAll 141 = .ok (.iload_n 1, 1) := by decide +kernel
theorem dL_areAll_142 : decode cL_areAll 142 = .ok (.if_icmp .ne 67, 3) := by decide +kernel
theorem dL_areAll_145 : decode cL_areAll 145 = .ok (.aload_n 0, 1) := by decide +kernel
theorem dL_areAll_146 : decode cL_areAll 146 = .ok (.iconst 1, 1) := by decide +kernel
theorem dL_areAll_147 : decode cL_areAll 147 = .ok (.invokevirtual 90, 3) := by decide +kernel
theorem dL_areAll_150 : decode cL_areAll 150 = .ok (.ifCond .ne 59, 3) := by decide +kernel
theorem dL_areAll_153 : decode cL_areAll 153 = .ok (.aload_n 0, 1) := by decide +kernel
theorem dL_areAll_154 : decode cL_areAll 154 = .ok (.iconst 1, 1) := by decide +kernel
theorem dL_areAll_155 : decode cL_areAll 155 = .ok (.invokevirtual 100, 3) := by decide +kernel
theorem dL_areAll_158 : decode cL_areAll 158 = .ok (.iconst (-1), 1) := by decide +kernel
theorem dL_areAll_159 : decode cL_areAll 159 = .ok (.if_icmp .ne 50, 3) := by decide +kernel
theorem dL_areAll_162 : decode cL_areAll 162 = .ok (.aload_n 0, 1) := by decide +kernel
theorem dL_areAll_163 : decode cL_areAll 163 = .ok (.iconst 1, 1) := by decide +kernel
theorem dL_areAll_164 : decode cL_areAll 164 = .ok (.invokevirtual 93, 3) := by decide +kernel
theorem dL_areAll_167 : decode cL_areAll 167 = .ok (.iconst 1, 1) := by decide +kernel
theorem dL_areAll_168 : decode cL_areAll 168 = .ok (.if_icmp .ne 41, 3) := by decide +kernel
theorem dL_areAll_171 : decode cL_areAll 171 = .ok (.aload_n 0, 1) := by decide +kernel
theorem dL_areAll_172 : decode cL_areAll 172 = .ok (.iconst 1, 1) := by decide +kernel
theorem dL_areAll_173 : decode cL_areAll 173 = .ok (.invokevirtual 106, 3) := by decide +kernel
theorem dL_areAll_176 : decode cL_areAll 176 = .ok (.iconst 1, 1) := by decide +kernel
theorem dL_areAll_177 : decode cL_areAll 177 = .ok (.if_icmp .ne 32, 3) := by decide +kernel
theorem dL_areAll_180 : decode cL_areAll 180 = .ok (.aload_n 0, 1) := by decide +kernel
theorem dL_areAll_181 : decode cL_areAll 181 = .ok (.iconst 1, 1) := by decide +kernel
theorem dL_areAll_182 : decode cL_areAll 182 = .ok (.invokevirtual 103, 3) := by decide +kernel
theorem dL_areAll_185 : decode cL_areAll 185 = .ok (.ifCond .ne 24, 3) := by decide +kernel
theorem dL_areAll_188 : decode cL_areAll 188 = .ok (.aload_n 0, 1) := by decide +kernel
theorem dL_areAll_189 : decode cL_areAll 189 = .ok (.iconst 1, 1) := by decide +kernel
theorem dL_areAll_190 : decode cL_areAll 190 = .ok (.invokevirtual 136, 3) := by decide +kernel
theorem dL_areAll_193 : decode cL_areAll 193 = .ok (.ifCond .ne 16, 3) := by decide +kernel
theorem dL_areAll_196 : decode cL_areAll 196 = .ok (.aload_n 0, 1) := by decide +kernel
theorem dL_areAll_197 : decode cL_areAll 197 = .ok (.iconst 1, 1) := by decide +kernel
theorem dL_areAll_198 : decode cL_areAll 198 = .ok (.invokevirtual 109, 3) := by decide +kernel
theorem dL_areAll_201 : decode cL_areAll 201 = .ok (.iconst (-1), 1) := by decide +kernel
theorem dL_areAll_202 : decode cL_areAll 202 = .ok (.if_icmp .ne 7, 3) := by decide +kernel
theorem dL_areAll_205 : decode cL_areAll 205 = .ok (.iconst 1, 1) := by decide +kernel
theorem dL_areAll_206 : decode cL_areAll 206 = .ok (.goto 4, 3) := by decide +kernel
theorem dL_areAll_209 : decode cL_areAll 209 = .ok (.iconst 0, 1) := by decide +kernel
theorem dL_areAll_210 : decode cL_areAll 210 = .ok (.ireturn, 1) := by decide +kernel
theorem dL_free_0 : decode cL_free 0 = .ok (.iconst 2, 1) := by decide +kernel
theorem dL_free_1 : decode cL_free 1 = .ok (.istore_n 1, 1) := by decide +kernel
theorem dL_free_2 : decode cL_free 2 = .ok (.iload_n 1, 1) := by decide +kernel
theorem dL_free_3 : decode cL_free 3 = .ok (.bipush 41, 2) := by decide +kernel
theorem dL_free_5 : decode cL_free 5 = .ok (.if_icmp .ge 79, 3) := by decide +kernel
theorem dL_free_8 : decode cL_free 8 = .ok (.aload_n 0, 1) := by decide +kernel
theorem dL_free_9 : decode cL_free 9 = .ok (.iload_n 1, 1) := by decide +kernel
theorem dL_free_10 : decode cL_free 10 = .ok (.invokevirtual 86, 3) := by decide +kernel
theorem dL_free_13 : decode cL_free 13 = .ok (.ifCond .ne 7, 3) := by decide +kernel
theorem dL_free_16 : decode cL_free 16 = .ok (.iconst 1, 1) := by decide +kernel
theorem dL_free_17 : decode cL_free 17 = .ok (.goto 4, 3) := by decide +kernel
theorem dL_free_20 : decode cL_free 20 = .ok (.iconst 0, 1) := by decide +kernel
theorem dL_free_21 : decode cL_free 21 = .ok (.istore_n 2, 1) := by decide +kernel
theorem dL_free_22 : decode cL_free 22 = .ok (.iconst 2, 1) := by decide +kernel
theorem dL_free_23 : decode cL_free 23 = .ok (.istore_n 3, 1) := by decide +kernel
theorem dL_free_24 : decode cL_free 24 = .ok (.iload_n 3, 1) := by decide +kernel
theorem dL_free_25 : decode cL_free 25 = .ok (.bipush 41, 2) := by decide +kernel
theorem dL_free_27 : decode cL_free 27 = .ok (.if_icmp .ge 45, 3) := by decide +kernel
theorem dL_free_30 : decode cL_free 30 = .ok (.iload_n 2, 1) := by decide +kernel
theorem dL_free_31 : decode cL_free 31 = .ok (.ifCond .eq 33, 3) := by decide +kernel
theorem dL_free_34 : decode cL_free 34 = .ok (.aload_n 0, 1) := by decide +kernel
theorem dL_free_35 : decode cL_free 35 = .ok (.iload_n 3, 1) := by decide +kernel
theorem dL_free_36 : decode cL_free 36 = .ok (.invokevirtual 86, 3) := by decide +kernel
theorem dL_free_39 : decode cL_free 39 = .ok (.ifCond .eq 21, 3) := by decide +kernel
theorem dL_free_42 : decode cL_free 42 = .ok (.aload_n 0, 1) := by decide +kernel
theorem dL_free_43 : decode cL_free 43 = .ok (.iload_n 3, 1) := by decide +kernel
theorem dL_free_44 : decode cL_free 44 = .ok (.invokevirtual 93, 3) := by decide +kernel
theorem dL_free_47 : decode cL_free 47 = .ok (.iload_n 1, 1) := by decide +kernel
theorem dL_free_48 : decode cL_free 48 = .ok (.if_icmp .eq 16, 3) := by decide +kernel
theorem dL_free_51 : decode cL_free 51 = .ok (.aload_n 0, 1) := by decide +kernel
theorem dL_free_52 : decode cL_free 52 = .ok (.iload_n 3, 1) := by decide +kernel
theorem dL_free_53 : decode cL_free 53 = .ok (.invokevirtual 106, 3) := by decide +kernel
theorem dL_free_56 : decode cL_free 56 = .ok (.iload_n 1, 1) := by decide +kernel
theorem dL_free_57 : decode cL_free 57 = .ok (.if_icmp .eq 7, 3) := by decide +kernel
theorem dL_free_60 : decode cL_free 60 = .ok (.iconst 1, 1) := by decide +kernel
theorem dL_free_61 : decode cL_free 61 = .ok (.goto 4, 3) := by decide +kernel
theorem dL_free_64 : decode cL_free 64 = .ok (.iconst 0, 1) := by decide +kernel
theorem dL_free_65 : decode cL_free 65 = .ok (.istore_n 2, 1) := by decide +kernel
theorem dL_free_66 : decode cL_free 66 = .ok (.iinc 3 1, 3) := by decide +kernel
theorem dL_free_69 : decode cL_free 69 = .ok (.goto (-45), 3) := by decide +kernel
theorem dL_free_72 : decode cL_free 72 = .ok (.iload_n 2, 1) := by decide +kernel
theorem dL_free_73 : decode cL_free 73 = .ok (.ifCond .eq 5, 3) := by decide +kernel
theorem dL_free_76 : decode cL_free 76 = .ok (.iload_n 1, 1) := by decide +kernel
theorem dL_free_77 : decode cL_free 77 = .ok (.ireturn, 1) := by decide +kernel
theorem dL_free_78 : decode cL_free 78 = .ok (.iinc 1 1, 3) := by decide +kernel
theorem dL_free_81 : decode cL_free 81 = .ok (.goto (-79), 3) := by decide +kernel
theorem dL_free_84 : decode cL_free 84 = .ok (.bipush (-10), 2) := by decide +kernel
theorem dL_free_86 : decode cL_free 86 = .ok (.ireturn, 1) := by decide +kernel
theorem dL_isForked_0 : decode cL_isForked 0 = .ok (.aload_n 0, 1) := by decide +kernel
theorem dL_isForked_1 : decode cL_isForked 1 = .ok (.iload_n 1, 1) := by decide +kernel
theorem dL_isForked_2 : decode cL_isForked 2 = .ok (.invokevirtual 90, 3) := by decide +kernel
theorem dL_isForked_5 : decode cL_isForked 5 = .ok (.ifCond .ne 10, 3) := by decide +kernel
theorem dL_isForked_8 : decode cL_isForked 8 = .ok (.aload_n 0, 1) := by decide +kernel
theorem dL_isForked_9 : decode cL_isForked 9 = .ok (.invokestatic 139, 3) := by decide +kernel
theorem dL_isForked_12 : decode cL_isForked 12 = .ok (.goto 5, 3) := by decide +kernel
theorem dL_isForked_15 : decode cL_isForked 15 = .ok (.bipush (-10), 2) := by decide +kernel
theorem dL_isForked_17 : decode cL_isForked 17 = .ok (.istore_n 2, 1) := by decide +kernel
theorem dL_isForked_18 : decode cL_isForked 18 = .ok (.aload_n 0, 1) := by decide +kernel
theorem dL_isForked_19 : decode cL_isForked 19 = .ok (.iload_n 1, 1) := by decide +kernel
theorem dL_isForked_20 : decode cL_isForked 20 = .ok (.invokestatic 143, 3) := by decide +kernel
theorem dL_isForked_23 : decode cL_isForked 23 = .ok (.istore_n 3, 1) := by decide +kernel
theorem dL_isForked_24 : decode cL_isForked 24 = .ok (.iload_n 3, 1) := by decide +kernel
theorem dL_isForked_25 : decode cL_isForked 25 = .ok (.iload_n 2, 1) := by decide +kernel
theorem dL_isForked_26 : decode cL_isForked 26 = .ok (.if_icmp .ne 79, 3) := by decide +kernel
theorem dL_isForked_29 : decode cL_isForked 29 = .ok (.iload_n 3, 1) := by decide +kernel
theorem dL_isForked_30 : decode cL_isForked 30 = .ok (.ifCond .lt 71, 3) := by decide +kernel
theorem dL_isForked_33 : decode cL_isForked 33 = .ok (.aload_n 0, 1) := by decide +kernel
theorem dL_isForked_34 : decode cL_isForked 34 = .ok (.iload_n 3, 1) := by decide +kernel
theorem dL_isForked_35 : decode cL_isForked 35 = .ok (.invokevirtual 100, 3) := by decide +kernel
theorem dL_isForked_38 : decode cL_isForked 38 = .ok (.iload_n 1, 1) := by decide +kernel
theorem dL_isForked_39 : decode cL_isForked 39 = .ok (.if_icmp .ne 66, 3) := by decide +kernel
theorem dL_isForked_42 : decode cL_isForked 42 = .ok (.aload_n 0, 1) := by decide +kernel
theorem dL_isForked_43 : decode cL_isForked 43 = .ok (.iload_n 3, 1) := by decide +kernel
theorem dL_isForked_44 : decode cL_isForked 44 = .ok (.invokevirtual 93, 3) := by decide +kernel
theorem dL_isForked_47 : decode cL_isForked 47 = .ok (.aload_n 0, 1) := by decide +kernel
theorem dL_isForked_48 : decode cL_isForked 48 = .ok (.iload_n 1, 1) := by decide +kernel
theorem dL_isForked_49 : decode cL_isForked 49 = .ok (.invokevirtual 93, 3) := by decide +kernel
theorem dL_isForked_52 : decode cL_isForked 52 = .ok (.if_icmp .ne 53, 3) := by decide +kernel
theorem dL_isForked_55 : decode cL_isForked 55 = .ok (.aload_n 0, 1) := by decide +kernel
theorem dL_isForked_56 : decode cL_isForked 56 = .ok (.iload_n 3, 1) := by decide +kernel
theorem dL_isForked_57 : decode cL_isForked 57 = .ok (.invokevirtual 106, 3) := by decide +kernel
theorem dL_isForked_60 : decode cL_isForked 60 = .ok (.aload_n 0, 1) := by decide +kernel
theorem dL_isForked_61 : decode cL_isForked 61 = .ok (.iload_n 1, 1) := by decide +kernel
theorem dL_isForked_62 : decode cL_isForked 62 = .ok (.invokevirtual 106, 3) := by decide +kernel
theorem dL_isForked_65 : decode cL_isForked 65 = .ok (.if_icmp .ne 40, 3) := by decide +kernel
theorem dL_isForked_68 : decode cL_isForked 68 = .ok (.aload_n 0, 1) := by decide +kernel
theorem dL_isForked_69 : decode cL_isForked 69 = .ok (.iload_n 3, 1) := by decide +kernel
theorem dL_isForked_70 : decode cL_isForked 70 = .ok (.invokevirtual 90, 3) := by decide +kernel
theorem dL_isForked_73 : decode cL_isForked 73 = .ok (.ifCond .ne 32, 3) := by decide +kernel
theorem dL_isForked_76 : decode cL_isForked 76 = .ok (.aload_n 0, 1) := by decide +kernel
theorem dL_isForked_77 : decode cL_isForked 77 = .ok (.iload_n 3, 1) := by decide +kernel
theorem dL_isForked_78 : decode cL_isForked 78 = .ok (.invokevirtual 103, 3) := by decide +kernel
theorem dL_isForked_81 : decode cL_isForked 81 = .ok (.ifCond .ne 24, 3) := by decide +kernel
theorem dL_isForked_84 : decode cL_isForked 84 = .ok (.aload_n 0, 1) := by decide +kernel
theorem dL_isForked_85 : decode cL_isForked 85 = .ok (.iload_n 3, 1) := by decide +kernel
theorem dL_isForked_86 : decode cL_isForked 86 = .ok (.invokevirtual 136, 3) := by decide +kernel
theorem dL_isForked_89 : decode cL_isForked 89 = .ok (.ifCond .ne 16, 3) := by decide +kernel
theorem dL_isForked_92 : decode cL_isForked 92 = .ok (.aload_n 0, 1) := by decide +kernel
theorem dL_isForked_93 : decode cL_isForked 93 = .ok (.iload_n 3, 1) := by decide +kernel
theorem dL_isForked_94 : decode cL_isForked 94 = .ok (.invokevirtual 109, 3) := by decide +kernel
theorem dL_isForked_97 : decode cL_isForked 97 = .ok (.iconst (-1), 1) := by decide +kernel
theorem dL_isForked_98 : decode cL_isForked 98 = .ok (.if_icmp .ne 7, 3) := by decide +kernel
theorem dL_isForked_101 : decode cL_isForked 101 = .ok (.iconst 1, 1) := by decide +kernel
theorem dL_isForked_102 : decode cL_isForked 102 = .ok (.goto 4, 3) := by decide +kernel
theorem dL_isForked_105 : decode cL_isForked 105 = .ok (.iconst 0, 1) := by decide +kernel
theorem dL_isForked_106 : decode cL_isForked 106 = .ok (.ireturn, 1) := by decide +kernel
theorem dL_isExited_0 : decode cL_isExited 0 = .ok (.iload_n 1, 1) := by decide +kernel
theorem dL_isExited_1 : decode cL_isExited 1 = .ok (.iconst 1, 1) := by decide +kernel
theorem dL_isExited_2 : decode cL_isExited 2 = .ok (.if_icmp .le 15, 3) := by decide +kernel
theorem dL_isExited_5 : decode cL_isExited 5 = .ok (.aload_n 0, 1) := by decide +kernel
theorem dL_isExited_6 : decode cL_isExited 6 = .ok (.iload_n 1, 1) := by decide +kernel
theorem dL_isExited_7 : decode cL_isExited 7 = .ok (.invokevirtual 90, 3) := by decide +kernel
theorem dL_isExited_10 : decode cL_isExited 10 = .ok (.ifCond .ne 7, 3) := by decide +kernel
theorem dL_isExited_13 : decode cL_isExited 13 = .ok (.iconst 1, 1) := by decide +kernel
theorem dL_isExited_14 : decode cL_isExited 14 = .ok (.goto 4, 3) := by decide +kernel
theorem dL_isExited_17 : decode cL_isExited 17 = .ok (.iconst 0, 1) := by decide +kernel
theorem dL_isExited_18 : decode cL_isExited 18 = .ok (.istore_n 3, 1) := by decide +kernel
theorem dL_isExited_19 : decode cL_isExited 19 = .ok (.iload_n 2, 1) := by decide +kernel
theorem dL_isExited_20 : decode cL_isExited 20 = .ok (.sipush 256, 3) := by decide +kernel
theorem dL_isExited_23 : decode cL_isExited 23 = .ok (.if_icmp .ge 7, 3) := by decide +kernel
theorem dL_isExited_26 : decode cL_isExited 26 = .ok (.iconst 1, 1) := by decide +kernel
theorem dL_isExited_27 : decode cL_isExited 27 = .ok (.goto 4, 3) := by decide +kernel
theorem dL_isExited_30 : decode cL_isExited 30 = .ok (.iconst 0, 1) := by decide +kernel
theorem dL_isExited_31 : decode cL_isExited 31 = .ok (.istore 4, 2) := by decide +kernel
theorem dL_isExited_33 : decode cL_isExited 33 = .ok (.iload_n 1, 1) := by decide +kernel
theorem dL_isExited_34 : decode cL_isExited 34 = .ok (.iconst 1, 1) := by decide +kernel
theorem dL_isExited_35 : decode cL_isExited 35 = .ok (.if_icmp .ne 7, 3) := by decide +kernel
theorem dL_isExited_38 : decode cL_isExited 38 = .ok (.iconst 1, 1) := by decide +kernel
theorem dL_isExited_39 : decode cL_isExited 39 = .ok (.goto 8, 3) := by decide +kernel
theorem dL_isExited_42 : decode cL_isExited 42 = .ok (.aload_n 0, 1) := by decide +kernel
theorem dL_isExited_43 : decode cL_isExited 43 = .ok (.iload_n 1, 1) := by decide +kernel
theorem dL_isExited_44 : decode cL_isExited 44 = .ok (.invokevirtual 100, 3) := by decide +kernel
theorem dL_isExited_47 : decode cL_isExited 47 = .ok (.istore 5, 2) := by decide +kernel
theorem dL_isExited_49 : decode cL_isExited 49 = .ok (.aload_n 0, 1) := by decide +kernel
theorem dL_isExited_50 : decode cL_isExited 50 = .ok (.iload_n 1, 1) := by decide +kernel
theorem dL_isExited_51 : decode cL_isExited 51 = .ok (.iload_n 2, 1) := by decide +kernel
theorem dL_isExited_52 : decode cL_isExited 52 = .ok (.invokestatic 146, 3) := by decide +kernel
theorem dL_isExited_55 : decode cL_isExited 55 = .ok (.istore 6, 2) := by decide +kernel
theorem dL_isExited_57 : decode cL_isExited 57 = .ok (.iload_n 3, 1) := by decide +kernel
theorem dL_isExited_58 : decode cL_isExited 58 = .ok (.ifCond .eq 8, 3) := by decide +kernel
theorem dL_isExited_61 : decode cL_isExited 61 = .ok (.iload 4, 2) := by decide +kernel
theorem dL_isExited_63 : decode cL_isExited 63 = .ok (.ifCond .ne 26, 3) := by decide +kernel
theorem dL_isExited_66 : decode cL_isExited 66 = .ok (.iload 6, 2) := by decide +kernel
theorem dL_isExited_68 : decode cL_isExited 68 = .ok (.iload 4, 2) := by decide +kernel
theorem dL_isExited_70 : decode cL_isExited 70 = .ok (.ifCond .eq 8, 3) := by decide +kernel
theorem dL_isExited_73 : decode cL_isExited 73 = .ok (.bipush (-10), 2) := by decide +kernel
theorem dL_isExited_75 : decode cL_isExited 75 = .ok (.goto 5, 3) := by decide +kernel
theorem dL_isExited_78 : decode cL_isExited 78 = .ok (.bipush (-20), 2) := by decide +kernel
theorem dL_isExited_80 : decode cL_isExited 80 = .ok (.if_icmp .ne 7, 3) := by decide +kernel
theorem dL_isExited_83 : decode cL_isExited 83 = .ok (.iconst 1, 1) := by decide +kernel
theorem dL_isExited_84 : decode cL_isExited 84 = .ok (.goto 4, 3) := by decide +kernel
theorem dL_isExited_87 : decode cL_isExited 87 = .ok (.iconst 0, 1) := by decide +kernel
theorem dL_isExited_88 : decode cL_isExited 88 = .ok (.ireturn, 1) := by decide +kernel
theorem dL_isExited_89 : decode cL_isExited 89 = .ok (.iload 6, 2) := by decide +kernel
theorem dL_isExited_91 : decode cL_isExited 91 = .ok (.ifCond .ne 24, 3) := by decide +kernel
theorem dL_isExited_94 : decode cL_isExited 94 = .ok (.aload_n 0, 1) := by decide +kernel
theorem dL_isExited_95 : decode cL_isExited 95 = .ok (.iload_n 1, 1) := by decide +kernel
theorem dL_isExited_96 : decode cL_isExited 96 = .ok (.invokevirtual 86, 3) := by decide +kernel
theorem dL_isExited_99 : decode cL_isExited 99 = .ok (.ifCond .eq 12, 3) := by decide +kernel
theorem dL_isExited_102 : decode cL_isExited 102 = .ok (.aload_n 0, 1) := by decide +kernel
theorem dL_isExited_103 : decode cL_isExited 103 = .ok (.iload_n 1, 1) := by decide +kernel
theorem dL_isExited_104 : decode cL_isExited 104 = .ok (.invokevirtual 90, 3) := by decide +kernel
theorem dL_isExited_107 : decode cL_isExited 107 = .ok (.iconst 3, 1) := by decide +kernel
theorem dL_isExited_108 : decode cL_isExited 108 = .ok (.if_icmp .ne 7, 3) := by decide +kernel
theorem dL_isExited_111 : decode cL_isExited 111 = .ok (.iconst 1, 1) := by decide +kernel
theorem dL_isExited_112 : decode cL_isExited 112 = .ok (.goto 4, 3) := by decide +kernel
theorem dL_isExited_115 : decode cL_isExited 115 = .ok (.iconst 0, 1) := by decide +kernel
theorem dL_isExited_116 : decode cL_isExited 116 = .ok (.istore 7, 2) := by decide +kernel
theorem dL_isExited_118 : decode cL_isExited 118 = .ok (.iconst 2, 1) := by decide +kernel
theorem dL_isExited_119 : decode cL_isExited 119 = .ok (.istore 8, 2) := by decide +kernel
theorem dL_isExited_121 : decode cL_isExited 121 = .ok (.iload 8, 2) := by decide +kernel
theorem dL_isExited_123 : decode cL_isExited 123 = .ok (.bipush 41, 2) := by decide +kernel
theorem dL_isExited_125 : decode cL_isExited 125 = .ok (.if_icmp .ge 40, 3) := by decide +kernel
theorem dL_isExited_128 : decode cL_isExited 128 = .ok (.iload 7, 2) := by decide +kernel
theorem dL_isExited_130 : decode cL_isExited 130 = .ok (.ifCond .eq 35, 3) := by decide +kernel
theorem dL_isExited_133 : decode cL_isExited 133 = .ok (.aload_n 0, 1) := by decide +kernel
theorem dL_isExited_134 : decode cL_isExited 134 = .ok (.iload 8, 2) := by decide +kernel
theorem dL_isExited_136 : decode cL_isExited 136 = .ok (.invokevirtual 86, 3) := by decide +kernel
theorem dL_isExited_139 : decode cL_isExited 139 = .ok (.ifCond .eq 13, 3) := by decide +kernel
theorem dL_isExited_142 : decode cL_isExited 142 = .ok (.aload_n 0, 1) := by decide +kernel
theorem dL_isExited_143 : decode cL_isExited 143 = .ok (.iload 8, 2) := by decide +kernel
theorem dL_isExited_145 : decode cL_isExited 145 = .ok (.invokevirtual 100, 3) := by decide +kernel
theorem dL_isExited_148 : decode cL_isExited 148 = .ok (.iload_n 1, 1) := by decide +kernel
theorem dL_isExited_149 : decode cL_isExited 149 = .ok (.if_icmp .eq 7, 3) := by decide +kernel
theorem dL_isExited_152 : decode cL_isExited 152 = .ok (.iconst 1, 1) := by decide +kernel
theorem dL_isExited_153 : decode cL_isExited 153 = .ok (.goto 4, 3) := by decide +kernel
theorem dL_isExited_156 : decode cL_isExited 156 = .ok (.iconst 0, 1) := by decide +kernel
theorem dL_isExited_157 : decode cL_isExited 157 = .ok (.istore 7, 2) := by decide +kernel
theorem dL_isExited_159 : decode cL_isExited 159 = .ok (.iinc 8 1, 3) := by decide +kernel
theorem dL_isExited_162 : decode cL_isExited 162 = .ok (.goto (-41), 3) := by decide +kernel
theorem dL_isExited_165 : decode cL_isExited 165 = .ok (.iload 7, 2) := by decide +kernel
theorem dL_isExited_167 : decode cL_isExited 167 = .ok (.ifCond .eq 21, 3) := by decide +kernel
theorem dL_isExited_170 : decode cL_isExited 170 = .ok (.iload 5, 2) := by decide +kernel
theorem dL_isExited_172 : decode cL_isExited 172 = .ok (.iconst 1, 1) := by decide +kernel
theorem dL_isExited_173 : decode cL_isExited 173 = .ok (.if_icmp .gt 11, 3) := by decide +kernel
theorem dL_isExited_176 : decode cL_isExited 176 = .ok (.aload_n 0, 1) := by decide +kernel
theorem dL_isExited_177 : decode cL_isExited 177 = .ok (.iload_n 1, 1) := by decide +kernel
theorem dL_isExited_178 : decode cL_isExited 178 = .ok (.invokevirtual 86, 3) := by decide +kernel
theorem dL_isExited_181 : decode cL_isExited 181 = .ok (.ifCond .ne 7, 3) := by decide +kernel
theorem dL_isExited_184 : decode cL_isExited 184 = .ok (.iconst 1, 1) := by decide +kernel
theorem dL_isExited_185 : decode cL_isExited 185 = .ok (.goto 4, 3) := by decide +kernel
theorem dL_isExited_188 : decode cL_isExited 188 = .ok (.iconst 0, 1) := by decide +kernel
theorem dL_isExited_189 : decode cL_isExited 189 = .ok (.ireturn, 1) := by decide +kernel
theorem dL_isWaited_0 : decode cL_isWaited 0 = .ok (.iload_n 1, 1) := by decide +kernel
theorem dL_isWaited_1 : decode cL_isWaited 1 = .ok (.iconst 1, 1) := by decide +kernel
theorem dL_isWaited_2 : decode cL_isWaited 2 = .ok (.if_icmp .le 15, 3) := by decide +kernel
theorem dL_isWaited_5 : decode cL_isWaited 5 = .ok (.aload_n 0, 1) := by decide +kernel
theorem dL_isWaited_6 : decode cL_isWaited 6 = .ok (.iload_n 1, 1) := by decide +kernel
theorem dL_isWaited_7 : decode cL_isWaited 7 = .ok (.invokevirtual 90, 3) := by decide +kernel
theorem dL_isWaited_10 : decode cL_isWaited 10 = .ok (.ifCond .ne 7, 3) := by decide +kernel
theorem dL_isWaited_13 : decode cL_isWaited 13 = .ok (.iconst 1, 1) := by decide +kernel
theorem dL_isWaited_14 : decode cL_isWaited 14 = .ok (.goto 4, 3) := by decide +kernel
theorem dL_isWaited_17 : decode cL_isWaited 17 = .ok (.iconst 0, 1) := by decide +kernel
theorem dL_isWaited_18 : decode cL_isWaited 18 = .ok (.istore 4, 2) := by decide +kernel
theorem dL_isWaited_20 : decode cL_isWaited 20 = .ok (.bipush 99, 2) := by decide +kernel
theorem dL_isWaited_22 : decode cL_isWaited 22 = .ok (.istore 5, 2) := by decide +kernel
theorem dL_isWaited_24 : decode cL_isWaited 24 = .ok (.iconst 0, 1) := by decide +kernel
theorem dL_isWaited_25 : decode cL_isWaited 25 = .ok (.istore 6, 2) := by decide +kernel
theorem dL_isWaited_27 : decode cL_isWaited 27 = .ok (.bipush 40, 2) := by decide +kernel
theorem dL_isWaited_29 : decode cL_isWaited 29 = .ok (.istore 7, 2) := by decide +kernel
theorem dL_isWaited_31 : decode cL_isWaited 31 = .ok (.iload 7, 2) := by decide +kernel
theorem dL_isWaited_33 : decode cL_isWaited 33 = .ok (.iconst 1, 1) := by decide +kernel
theorem dL_isWaited_34 : decode cL_isWaited 34 = .ok (.if_icmp .le 86, 3) := by decide +kernel
theorem dL_isWaited_37 : decode cL_isWaited 37 = .ok (.aload_n 0, 1) := by decide +kernel
theorem dL_isWaited_38 : decode cL_isWaited 38 = .ok (.iload 7, 2) := by decide +kernel
theorem dL_isWaited_40 : decode cL_isWaited 40 = .ok (.invokevirtual 86, 3) := by decide +kernel
theorem dL_isWaited_43 : decode cL_isWaited 43 = .ok (.ifCond .eq 27, 3) := by decide +kernel
theorem dL_isWaited_46 : decode cL_isWaited 46 = .ok (.aload_n 0, 1) := by decide +kernel
theorem dL_isWaited_47 : decode cL_isWaited 47 = .ok (.iload 7, 2) := by decide +kernel
