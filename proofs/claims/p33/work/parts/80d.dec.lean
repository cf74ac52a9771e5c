theorem dL_isBegun_24 : decode cL_isBegun 24 = .ok (.if_icmp .ge 36, 3) := by decide +kernel
theorem dL_isBegun_27 : decode cL_isBegun 27 = .ok (.iload_n 2, 1) := by decide +kernel
theorem dL_isBegun_28 : decode cL_isBegun 28 = .ok (.ifCond .eq 24, 3) := by decide +kernel
theorem dL_isBegun_31 : decode cL_isBegun 31 = .ok (.aload_n 0, 1) := by decide +kernel
theorem dL_isBegun_32 : decode cL_isBegun 32 = .ok (.iload_n 3, 1) := by decide +kernel
theorem dL_isBegun_33 : decode cL_isBegun 33 = .ok (.invokevirtual 86, 3) := by decide +kernel
theorem dL_isBegun_36 : decode cL_isBegun 36 = .ok (.ifCond .eq 12, 3) := by decide +kernel
theorem dL_isBegun_39 : decode cL_isBegun 39 = .ok (.aload_n 0, 1) := by decide +kernel
theorem dL_isBegun_40 : decode cL_isBegun 40 = .ok (.iload_n 3, 1) := by decide +kernel
theorem dL_isBegun_41 : decode cL_isBegun 41 = .ok (.invokevirtual 93, 3) := by decide +kernel
theorem dL_isBegun_44 : decode cL_isBegun 44 = .ok (.iload_n 1, 1) := by decide +kernel
theorem dL_isBegun_45 : decode cL_isBegun 45 = .ok (.if_icmp .eq 7, 3) := by decide +kernel
theorem dL_isBegun_48 : decode cL_isBegun 48 = .ok (.iconst 1, 1) := by decide +kernel
theorem dL_isBegun_49 : decode cL_isBegun 49 = .ok (.goto 4, 3) := by decide +kernel
theorem dL_isBegun_52 : decode cL_isBegun 52 = .ok (.iconst 0, 1) := by decide +kernel
theorem dL_isBegun_53 : decode cL_isBegun 53 = .ok (.istore_n 2, 1) := by decide +kernel
theorem dL_isBegun_54 : decode cL_isBegun 54 = .ok (.iinc 3 1, 3) := by decide +kernel
theorem dL_isBegun_57 : decode cL_isBegun 57 = .ok (.goto (-36), 3) := by decide +kernel
theorem dL_isBegun_60 : decode cL_isBegun 60 = .ok (.aload_n 0, 1) := by decide +kernel
theorem dL_isBegun_61 : decode cL_isBegun 61 = .ok (.iload_n 1, 1) := by decide +kernel
theorem dL_isBegun_62 : decode cL_isBegun 62 = .ok (.invokevirtual 106, 3) := by decide +kernel
theorem dL_isBegun_65 : decode cL_isBegun 65 = .ok (.istore_n 3, 1) := by decide +kernel
theorem dL_isBegun_66 : decode cL_isBegun 66 = .ok (.aload_n 0, 1) := by decide +kernel
theorem dL_isBegun_67 : decode cL_isBegun 67 = .ok (.iload_n 1, 1) := by decide +kernel
theorem dL_isBegun_68 : decode cL_isBegun 68 = .ok (.invokestatic 164, 3) := by decide +kernel
theorem dL_isBegun_71 : decode cL_isBegun 71 = .ok (.iload_n 2, 1) := by decide +kernel
theorem dL_isBegun_72 : decode cL_isBegun 72 = .ok (.ifCond .eq 7, 3) := by decide +kernel
theorem dL_isBegun_75 : decode cL_isBegun 75 = .ok (.iconst 0, 1) := by decide +kernel
theorem dL_isBegun_76 : decode cL_isBegun 76 = .ok (.goto 5, 3) := by decide +kernel
theorem dL_isBegun_79 : decode cL_isBegun 79 = .ok (.bipush (-10), 2) := by decide +kernel
theorem dL_isBegun_81 : decode cL_isBegun 81 = .ok (.if_icmp .ne 37, 3) := by decide +kernel
theorem dL_isBegun_84 : decode cL_isBegun 84 = .ok (.aload_n 0, 1) := by decide +kernel
theorem dL_isBegun_85 : decode cL_isBegun 85 = .ok (.iload_n 1, 1) := by decide +kernel
theorem dL_isBegun_86 : decode cL_isBegun 86 = .ok (.invokevirtual 106, 3) := by decide +kernel
theorem dL_isBegun_89 : decode cL_isBegun 89 = .ok (.iload_n 2, 1) := by decide +kernel
theorem dL_isBegun_90 : decode cL_isBegun 90 = .ok (.ifCond .eq 7, 3) := by decide +kernel
theorem dL_isBegun_93 : decode cL_isBegun 93 = .ok (.iload_n 1, 1) := by decide +kernel
theorem dL_isBegun_94 : decode cL_isBegun 94 = .ok (.goto 4, 3) := by decide +kernel
theorem dL_isBegun_97 : decode cL_isBegun 97 = .ok (.iload_n 3, 1) := by decide +kernel
theorem dL_isBegun_98 : decode cL_isBegun 98 = .ok (.if_icmp .ne 20, 3) := by decide +kernel
theorem dL_isBegun_101 : decode cL_isBegun 101 = .ok (.iload_n 2, 1) := by decide +kernel
theorem dL_isBegun_102 : decode cL_isBegun 102 = .ok (.ifCond .eq 12, 3) := by decide +kernel
theorem dL_isBegun_105 : decode cL_isBegun 105 = .ok (.aload_n 0, 1) := by decide +kernel
theorem dL_isBegun_106 : decode cL_isBegun 106 = .ok (.iload_n 1, 1) := by decide +kernel
theorem dL_isBegun_107 : decode cL_isBegun 107 = .ok (.invokevirtual 93, 3) := by decide +kernel
theorem dL_isBegun_110 : decode cL_isBegun 110 = .ok (.iload_n 1, 1) := by decide +kernel
theorem dL_isBegun_111 : decode cL_isBegun 111 = .ok (.if_icmp .ne 7, 3) := by decide +kernel
theorem dL_isBegun_114 : decode cL_isBegun 114 = .ok (.iconst 1, 1) := by decide +kernel
theorem dL_isBegun_115 : decode cL_isBegun 115 = .ok (.goto 4, 3) := by decide +kernel
theorem dL_isBegun_118 : decode cL_isBegun 118 = .ok (.iconst 0, 1) := by decide +kernel
theorem dL_isBegun_119 : decode cL_isBegun 119 = .ok (.ireturn, 1) := by decide +kernel
theorem dL_isTerminal_0 : decode cL_isTerminal 0 = .ok (.iload_n 1, 1) := by decide +kernel
theorem dL_isTerminal_1 : decode cL_isTerminal 1 = .ok (.iconst 1, 1) := by decide +kernel
theorem dL_isTerminal_2 : decode cL_isTerminal 2 = .ok (.if_icmp .le 15, 3) := by decide +kernel
theorem dL_isTerminal_5 : decode cL_isTerminal 5 = .ok (.aload_n 0, 1) := by decide +kernel
theorem dL_isTerminal_6 : decode cL_isTerminal 6 = .ok (.iload_n 1, 1) := by decide +kernel
theorem dL_isTerminal_7 : decode cL_isTerminal 7 = .ok (.invokevirtual 90, 3) := by decide +kernel
theorem dL_isTerminal_10 : decode cL_isTerminal 10 = .ok (.ifCond .ne 7, 3) := by decide +kernel
theorem dL_isTerminal_13 : decode cL_isTerminal 13 = .ok (.iconst 1, 1) := by decide +kernel
theorem dL_isTerminal_14 : decode cL_isTerminal 14 = .ok (.goto 4, 3) := by decide +kernel
theorem dL_isTerminal_17 : decode cL_isTerminal 17 = .ok (.iconst 0, 1) := by decide +kernel
theorem dL_isTerminal_18 : decode cL_isTerminal 18 = .ok (.istore 4, 2) := by decide +kernel
theorem dL_isTerminal_20 : decode cL_isTerminal 20 = .ok (.aload_n 0, 1) := by decide +kernel
theorem dL_isTerminal_21 : decode cL_isTerminal 21 = .ok (.invokevirtual 127, 3) := by decide +kernel
theorem dL_isTerminal_24 : decode cL_isTerminal 24 = .ok (.istore 5, 2) := by decide +kernel
theorem dL_isTerminal_26 : decode cL_isTerminal 26 = .ok (.aload_n 0, 1) := by decide +kernel
theorem dL_isTerminal_27 : decode cL_isTerminal 27 = .ok (.invokevirtual 130, 3) := by decide +kernel
theorem dL_isTerminal_30 : decode cL_isTerminal 30 = .ok (.istore 6, 2) := by decide +kernel
theorem dL_isTerminal_32 : decode cL_isTerminal 32 = .ok (.iload_n 2, 1) := by decide +kernel
theorem dL_isTerminal_33 : decode cL_isTerminal 33 = .ok (.iconst 4, 1) := by decide +kernel
theorem dL_isTerminal_34 : decode cL_isTerminal 34 = .ok (.irem, 1) := by decide +kernel
theorem dL_isTerminal_35 : decode cL_isTerminal 35 = .ok (.iconst 2, 1) := by decide +kernel
theorem dL_isTerminal_36 : decode cL_isTerminal 36 = .ok (.if_icmp .ge 90, 3) := by decide +kernel
theorem dL_isTerminal_39 : decode cL_isTerminal 39 = .ok (.iload 4, 2) := by decide +kernel
theorem dL_isTerminal_41 : decode cL_isTerminal 41 = .ok (.ifCond .eq 22, 3) := by decide +kernel
theorem dL_isTerminal_44 : decode cL_isTerminal 44 = .ok (.aload_n 0, 1) := by decide +kernel
theorem dL_isTerminal_45 : decode cL_isTerminal 45 = .ok (.iload_n 1, 1) := by decide +kernel
theorem dL_isTerminal_46 : decode cL_isTerminal 46 = .ok (.invokevirtual 106, 3) := by decide +kernel
theorem dL_isTerminal_49 : decode cL_isTerminal 49 = .ok (.iload_n 1, 1) := by decide +kernel
theorem dL_isTerminal_50 : decode cL_isTerminal 50 = .ok (.if_icmp .ne 13, 3) := by decide +kernel
theorem dL_isTerminal_53 : decode cL_isTerminal 53 = .ok (.iload 5, 2) := by decide +kernel
theorem dL_isTerminal_55 : decode cL_isTerminal 55 = .ok (.iconst (-1), 1) := by decide +kernel
theorem dL_isTerminal_56 : decode cL_isTerminal 56 = .ok (.if_icmp .ne 7, 3) := by decide +kernel
theorem dL_isTerminal_59 : decode cL_isTerminal 59 = .ok (.iconst 1, 1) := by decide +kernel
theorem dL_isTerminal_60 : decode cL_isTerminal 60 = .ok (.goto 4, 3) := by decide +kernel
theorem dL_isTerminal_63 : decode cL_isTerminal 63 = .ok (.iconst 0, 1) := by decide +kernel
theorem dL_isTerminal_64 : decode cL_isTerminal 64 = .ok (.istore 7, 2) := by decide +kernel
theorem dL_isTerminal_66 : decode cL_isTerminal 66 = .ok (.aload_n 0, 1) := by decide +kernel
theorem dL_isTerminal_67 : decode cL_isTerminal 67 = .ok (.iload_n 1, 1) := by decide +kernel
theorem dL_isTerminal_68 : decode cL_isTerminal 68 = .ok (.invokestatic 167, 3) := by decide +kernel
theorem dL_isTerminal_71 : decode cL_isTerminal 71 = .ok (.iload 7, 2) := by decide +kernel
theorem dL_isTerminal_73 : decode cL_isTerminal 73 = .ok (.ifCond .eq 7, 3) := by decide +kernel
theorem dL_isTerminal_76 : decode cL_isTerminal 76 = .ok (.iconst 0, 1) := by decide +kernel
theorem dL_isTerminal_77 : decode cL_isTerminal 77 = .ok (.goto 5, 3) := by decide +kernel
theorem dL_isTerminal_80 : decode cL_isTerminal 80 = .ok (.bipush (-10), 2) := by decide +kernel
theorem dL_isTerminal_82 : decode cL_isTerminal 82 = .ok (.if_icmp .ne 42, 3) := by decide +kernel
theorem dL_isTerminal_85 : decode cL_isTerminal 85 = .ok (.aload_n 0, 1) := by decide +kernel
theorem dL_isTerminal_86 : decode cL_isTerminal 86 = .ok (.invokevirtual 127, 3) := by decide +kernel
theorem dL_isTerminal_89 : decode cL_isTerminal 89 = .ok (.iload 7, 2) := by decide +kernel
theorem dL_isTerminal_91 : decode cL_isTerminal 91 = .ok (.ifCond .eq 7, 3) := by decide +kernel
theorem dL_isTerminal_94 : decode cL_isTerminal 94 = .ok (.iload_n 1, 1) := by decide +kernel
theorem dL_isTerminal_95 : decode cL_isTerminal 95 = .ok (.goto 5, 3) := by decide +kernel
theorem dL_isTerminal_98 : decode cL_isTerminal 98 = .ok (.iload 5, 2) := by decide +kernel
theorem dL_isTerminal_100 : decode cL_isTerminal 100 = .ok (.if_icmp .ne 24, 3) := by decide +kernel
theorem dL_isTerminal_103 : decode cL_isTerminal 103 = .ok (.iload 7, 2) := by decide +kernel
theorem dL_isTerminal_105 : decode cL_isTerminal 105 = .ok (.ifCond .eq 15, 3) := by decide +kernel
theorem dL_isTerminal_108 : decode cL_isTerminal 108 = .ok (.aload_n 0, 1) := by decide +kernel
theorem dL_isTerminal_109 : decode cL_isTerminal 109 = .ok (.invokevirtual 130, 3) := by decide +kernel
theorem dL_isTerminal_112 : decode cL_isTerminal 112 = .ok (.aload_n 0, 1) := by decide +kernel
theorem dL_isTerminal_113 : decode cL_isTerminal 113 = .ok (.iload_n 1, 1) := by decide +kernel
theorem dL_isTerminal_114 : decode cL_isTerminal 114 = .ok (.invokevirtual 93, 3) := by decide +kernel
theorem dL_isTerminal_117 : decode cL_isTerminal 117 = .ok (.if_icmp .ne 7, 3) := by decide +kernel
theorem dL_isTerminal_120 : decode cL_isTerminal 120 = .ok (.iconst 1, 1) := by decide +kernel
theorem dL_isTerminal_121 : decode cL_isTerminal 121 = .ok (.goto 4, 3) := by decide +kernel
theorem dL_isTerminal_124 : decode cL_isTerminal 124 = .ok (.iconst 0, 1) := by decide +kernel
theorem dL_isTerminal_125 : decode cL_isTerminal 125 = .ok (.ireturn, 1) := by decide +kernel
theorem dL_isTerminal_126 : decode cL_isTerminal 126 = .ok (.iload_n 2, 1) := by decide +kernel
theorem dL_isTerminal_127 : decode cL_isTerminal 127 = .ok (.iconst 4, 1) := by decide +kernel
theorem dL_isTerminal_128 : decode cL_isTerminal 128 = .ok (.irem, 1) := by decide +kernel
theorem dL_isTerminal_129 : decode cL_isTerminal 129 = .ok (.iconst 2, 1) := by decide +kernel
theorem dL_isTerminal_130 : decode cL_isTerminal 130 = .ok (.if_icmp .ne 160, 3) := by decide +kernel
theorem dL_isTerminal_133 : decode cL_isTerminal 133 = .ok (.iconst 1, 1) := by decide +kernel
theorem dL_isTerminal_134 : decode cL_isTerminal 134 = .ok (.iload_n 3, 1) := by decide +kernel
theorem dL_isTerminal_135 : decode cL_isTerminal 135 = .ok (.bipush 41, 2) := by decide +kernel
theorem dL_isTerminal_137 : decode cL_isTerminal 137 = .ok (.irem, 1) := by decide +kernel
theorem dL_isTerminal_138 : decode cL_isTerminal 138 = .ok (.iadd, 1) := by decide +kernel
theorem dL_isTerminal_139 : decode cL_isTerminal 139 = .ok (.istore 7, 2) := by decide +kernel
theorem dL_isTerminal_141 : decode cL_isTerminal 141 = .ok (.iconst 0, 1) := by decide +kernel
theorem dL_isTerminal_142 : decode cL_isTerminal 142 = .ok (.istore 8, 2) := by decide +kernel
theorem dL_isTerminal_144 : decode cL_isTerminal 144 = .ok (.iconst 1, 1) := by decide +kernel
theorem dL_isTerminal_145 : decode cL_isTerminal 145 = .ok (.istore 9, 2) := by decide +kernel
theorem dL_isTerminal_147 : decode cL_isTerminal 147 = .ok (.iload 9, 2) := by decide +kernel
theorem dL_isTerminal_149 : decode cL_isTerminal 149 = .ok (.bipush 41, 2) := by decide +kernel
theorem dL_isTerminal_151 : decode cL_isTerminal 151 = .ok (.if_icmp .ge 53, 3) := by decide +kernel
theorem dL_isTerminal_154 : decode cL_isTerminal 154 = .ok (.iload 8, 2) := by decide +kernel
theorem dL_isTerminal_156 : decode cL_isTerminal 156 = .ok (.ifCond .ne 35, 3) := by decide +kernel
theorem dL_isTerminal_159 : decode cL_isTerminal 159 = .ok (.iload 7, 2) := by decide +kernel
theorem dL_isTerminal_161 : decode cL_isTerminal 161 = .ok (.bipush 41, 2) := by decide +kernel
theorem dL_isTerminal_163 : decode cL_isTerminal 163 = .ok (.if_icmp .ge 32, 3) := by decide +kernel
theorem dL_isTerminal_166 : decode cL_isTerminal 166 = .ok (.aload_n 0, 1) := by decide +kernel
theorem dL_isTerminal_167 : decode cL_isTerminal 167 = .ok (.iload 9, 2) := by decide +kernel
theorem dL_isTerminal_169 : decode cL_isTerminal 169 = .ok (.iload 7, 2) := by decide +kernel
theorem dL_isTerminal_171 : decode cL_isTerminal 171 = .ok (.invokestatic 96, 3) := by decide +kernel
theorem dL_isTerminal_174 : decode cL_isTerminal 174 = .ok (.ifCond .eq 21, 3) := by decide +kernel
theorem dL_isTerminal_177 : decode cL_isTerminal 177 = .ok (.aload_n 0, 1) := by decide +kernel
theorem dL_isTerminal_178 : decode cL_isTerminal 178 = .ok (.iload 9, 2) := by decide +kernel
theorem dL_isTerminal_180 : decode cL_isTerminal 180 = .ok (.invokevirtual 106, 3) := by decide +kernel
theorem dL_isTerminal_183 : decode cL_isTerminal 183 = .ok (.aload_n 0, 1) := by decide +kernel
theorem dL_isTerminal_184 : decode cL_isTerminal 184 = .ok (.iload_n 1, 1) := by decide +kernel
theorem dL_isTerminal_185 : decode cL_isTerminal 185 = .ok (.invokevirtual 106, 3) := by decide +kernel
theorem dL_isTerminal_188 : decode cL_isTerminal 188 = .ok (.if_icmp .ne 7, 3) := by decide +kernel
theorem dL_isTerminal_191 : decode cL_isTerminal 191 = .ok (.iconst 1, 1) := by decide +kernel
theorem dL_isTerminal_192 : decode cL_isTerminal 192 = .ok (.goto 4, 3) := by decide +kernel
theorem dL_isTerminal_195 : decode cL_isTerminal 195 = .ok (.iconst 0, 1) := by decide +kernel
theorem dL_isTerminal_196 : decode cL_isTerminal 196 = .ok (.istore 8, 2) := by decide +kernel
theorem dL_isTerminal_198 : decode cL_isTerminal 198 = .ok (.iinc 9 1, 3) := by decide +kernel
theorem dL_isTerminal_201 : decode cL_isTerminal 201 = .ok (.goto (-54), 3) := by decide +kernel
theorem dL_isTerminal_204 : decode cL_isTerminal 204 = .ok (.iload 4, 2) := by decide +kernel
theorem dL_isTerminal_206 : decode cL_isTerminal 206 = .ok (.ifCond .eq 22, 3) := by decide +kernel
theorem dL_isTerminal_209 : decode cL_isTerminal 209 = .ok (.aload_n 0, 1) := by decide +kernel
theorem dL_isTerminal_210 : decode cL_isTerminal 210 = .ok (.iload_n 1, 1) := by decide +kernel
theorem dL_isTerminal_211 : decode cL_isTerminal 211 = .ok (.invokevirtual 106, 3) := by decide +kernel
theorem dL_isTerminal_214 : decode cL_isTerminal 214 = .ok (.iload 5, 2) := by decide +kernel
theorem dL_isTerminal_216 : decode cL_isTerminal 216 = .ok (.if_icmp .ne 12, 3) := by decide +kernel
theorem dL_isTerminal_219 : decode cL_isTerminal 219 = .ok (.iload 8, 2) := by decide +kernel
theorem dL_isTerminal_221 : decode cL_isTerminal 221 = .ok (.ifCond .eq 7, 3) := by decide +kernel
theorem dL_isTerminal_224 : decode cL_isTerminal 224 = .ok (.iconst 1, 1) := by decide +kernel
theorem dL_isTerminal_225 : decode cL_isTerminal 225 = .ok (.goto 4, 3) := by decide +kernel
theorem dL_isTerminal_228 : decode cL_isTerminal 228 = .ok (.iconst 0, 1) := by decide +kernel
theorem dL_isTerminal_229 : decode cL_isTerminal 229 = .ok (.istore 9, 2) := by decide +kernel
theorem dL_isTerminal_231 : decode cL_isTerminal 231 = .ok (.aload_n 0, 1) := by decide +kernel
theorem dL_isTerminal_232 : decode cL_isTerminal 232 = .ok (.iload_n 1, 1) := by decide +kernel
theorem dL_isTerminal_233 : decode cL_isTerminal 233 = .ok (.iload 7, 2) := by decide +kernel
theorem dL_isTerminal_235 : decode cL_isTerminal 235 = .ok (.invokestatic 170, 3) := by decide +kernel
theorem dL_isTerminal_238 : decode cL_isTerminal 238 = .ok (.iload 7, 2) := by decide +kernel
theorem dL_isTerminal_240 : decode cL_isTerminal 240 = .ok (.bipush 40, 2) := by decide +kernel
theorem dL_isTerminal_242 : decode cL_isTerminal 242 = .ok (.if_icmp .le 8, 3) := by decide +kernel
theorem dL_isTerminal_245 : decode cL_isTerminal 245 = .ok (.bipush (-20), 2) := by decide +kernel
theorem dL_isTerminal_247 : decode cL_isTerminal 247 = .ok (.goto 15, 3) := by decide +kernel
theorem dL_isTerminal_250 : decode cL_isTerminal 250 = .ok (.iload 9, 2) := by decide +kernel
theorem dL_isTerminal_252 : decode cL_isTerminal 252 = .ok (.ifCond .eq 8, 3) := by decide +kernel
theorem dL_isTerminal_255 : decode cL_isTerminal 255 = .ok (.iload 6, 2) := by decide +kernel
theorem dL_isTerminal_257 : decode cL_isTerminal 257 = .ok (.goto 5, 3) := by decide +kernel
theorem dL_isTerminal_260 : decode cL_isTerminal 260 = .ok (.bipush (-10), 2) := by decide +kernel
theorem dL_isTerminal_262 : decode cL_isTerminal 262 = .ok (.if_icmp .ne 26, 3) := by decide +kernel
theorem dL_isTerminal_265 : decode cL_isTerminal 265 = .ok (.aload_n 0, 1) := by decide +kernel
theorem dL_isTerminal_266 : decode cL_isTerminal 266 = .ok (.invokevirtual 130, 3) := by decide +kernel
theorem dL_isTerminal_269 : decode cL_isTerminal 269 = .ok (.iload 9, 2) := by decide +kernel
theorem dL_isTerminal_271 : decode cL_isTerminal 271 = .ok (.ifCond .eq 8, 3) := by decide +kernel
theorem dL_isTerminal_274 : decode cL_isTerminal 274 = .ok (.iload 7, 2) := by decide +kernel
theorem dL_isTerminal_276 : decode cL_isTerminal 276 = .ok (.goto 5, 3) := by decide +kernel
theorem dL_isTerminal_279 : decode cL_isTerminal 279 = .ok (.iload 6, 2) := by decide +kernel
theorem dL_isTerminal_281 : decode cL_isTerminal 281 = .ok (.if_icmp .ne 7, 3) := by decide +kernel
theorem dL_isTerminal_284 : decode cL_isTerminal 284 = .ok (.iconst 1, 1) := by decide +kernel
theorem dL_isTerminal_285 : decode cL_isTerminal 285 = .ok (.goto 4, 3) := by decide +kernel
theorem dL_isTerminal_288 : decode cL_isTerminal 288 = .ok (.iconst 0, 1) := by decide +kernel
theorem dL_isTerminal_289 : decode cL_isTerminal 289 = .ok (.ireturn, 1) := by decide +kernel
theorem dL_isTerminal_290 : decode cL_isTerminal 290 = .ok (.iload_n 3, 1) := by decide +kernel
theorem dL_isTerminal_291 : decode cL_isTerminal 291 = .ok (.iconst 5, 1) := by decide +kernel
theorem dL_isTerminal_292 : decode cL_isTerminal 292 = .ok (.irem, 1) := by decide +kernel
theorem dL_isTerminal_293 : decode cL_isTerminal 293 = .ok (.ifCond .ne 37, 3) := by decide +kernel
theorem dL_isTerminal_296 : decode cL_isTerminal 296 = .ok (.aload_n 0, 1) := by decide +kernel
theorem dL_isTerminal_297 : decode cL_isTerminal 297 = .ok (.invokestatic 173, 3) := by decide +kernel
theorem dL_isTerminal_300 : decode cL_isTerminal 300 = .ok (.iload 5, 2) := by decide +kernel
theorem dL_isTerminal_302 : decode cL_isTerminal 302 = .ok (.iconst (-1), 1) := by decide +kernel
theorem dL_isTerminal_303 : decode cL_isTerminal 303 = .ok (.if_icmp .ne 8, 3) := by decide +kernel
theorem dL_isTerminal_306 : decode cL_isTerminal 306 = .ok (.bipush (-10), 2) := by decide +kernel
theorem dL_isTerminal_308 : decode cL_isTerminal 308 = .ok (.goto 5, 3) := by decide +kernel
theorem dL_isTerminal_311 : decode cL_isTerminal 311 = .ok (.iload 5, 2) := by decide +kernel
theorem dL_isTerminal_313 : decode cL_isTerminal 313 = .ok (.if_icmp .ne 15, 3) := by decide +kernel
theorem dL_isTerminal_316 : decode cL_isTerminal 316 = .ok (.aload_n 0, 1) := by decide +kernel
theorem dL_isTerminal_317 : decode cL_isTerminal 317 = .ok (.invokevirtual 127, 3) := by decide +kernel
theorem dL_isTerminal_320 : decode cL_isTerminal 320 = .ok (.iconst (-1), 1) := by decide +kernel
theorem dL_isTerminal_321 : decode cL_isTerminal 321 = .ok (.if_icmp .ne 7, 3) := by decide +kernel
theorem dL_isTerminal_324 : decode cL_isTerminal 324 = .ok (.iconst 1, 1) := by decide +kernel
theorem dL_isTerminal_325 : decode cL_isTerminal 325 = .ok (.goto 4, 3) := by decide +kernel
theorem dL_isTerminal_328 : decode cL_isTerminal 328 = .ok (.iconst 0, 1) := by decide +kernel
theorem dL_isTerminal_329 : decode cL_isTerminal 329 = .ok (.ireturn, 1) := by decide +kernel
theorem dL_isTerminal_330 : decode cL_isTerminal 330 = .ok (.iload 5, 2) := by decide +kernel
theorem dL_isTerminal_332 : decode cL_isTerminal 332 = .ok (.iconst (-1), 1) := by decide +kernel
theorem dL_isTerminal_333 : decode cL_isTerminal 333 = .ok (.if_icmp .ne 7, 3) := by decide +kernel
theorem dL_isTerminal_336 : decode cL_isTerminal 336 = .ok (.iconst 0, 1) := by decide +kernel
theorem dL_isTerminal_337 : decode cL_isTerminal 337 = .ok (.goto 9, 3) := by decide +kernel
theorem dL_isTerminal_340 : decode cL_isTerminal 340 = .ok (.aload_n 0, 1) := by decide +kernel
theorem dL_isTerminal_341 : decode cL_isTerminal 341 = .ok (.iload 6, 2) := by decide +kernel
theorem dL_isTerminal_343 : decode cL_isTerminal 343 = .ok (.invokestatic 176, 3) := by decide +kernel
theorem dL_isTerminal_346 : decode cL_isTerminal 346 = .ok (.istore 7, 2) := by decide +kernel
theorem dL_isTerminal_348 : decode cL_isTerminal 348 = .ok (.aload_n 0, 1) := by decide +kernel
theorem dL_isTerminal_349 : decode cL_isTerminal 349 = .ok (.iload_n 3, 1) := by decide +kernel
theorem dL_isTerminal_350 : decode cL_isTerminal 350 = .ok (.iconst 2, 1) := by decide +kernel
theorem dL_isTerminal_351 : decode cL_isTerminal 351 = .ok (.irem, 1) := by decide +kernel
theorem dL_isTerminal_352 : decode cL_isTerminal 352 = .ok (.ifCond .ne 7, 3) := by decide +kernel
theorem dL_isTerminal_355 : decode cL_isTerminal 355 = .ok (.iconst 1, 1) := by decide +kernel
theorem dL_isTerminal_356 : decode cL_isTerminal 356 = .ok (.goto 4, 3) := by decide +kernel
theorem dL_isTerminal_359 : decode cL_isTerminal 359 = .ok (.iconst 0, 1) := by decide +kernel
theorem dL_isTerminal_360 : decode cL_isTerminal 360 = .ok (.invokestatic 179, 3) := by decide +kernel
theorem dL_isTerminal_363 : decode cL_isTerminal 363 = .ok (.iload 5, 2) := by decide +kernel
theorem dL_isTerminal_365 : decode cL_isTerminal 365 = .ok (.iconst (-1), 1) := by decide +kernel
theorem dL_isTerminal_366 : decode cL_isTerminal 366 = .ok (.if_icmp .ne 8, 3) := by decide +kernel
theorem dL_isTerminal_369 : decode cL_isTerminal 369 = .ok (.bipush (-10), 2) := by decide +kernel
theorem dL_isTerminal_371 : decode cL_isTerminal 371 = .ok (.goto 5, 3) := by decide +kernel
theorem dL_isTerminal_374 : decode cL_isTerminal 374 = .ok (.iload 7, 2) := by decide +kernel
theorem dL_isTerminal_376 : decode cL_isTerminal 376 = .ok (.if_icmp .ne 7, 3) := by decide +kernel
theorem dL_isTerminal_379 : decode cL_isTerminal 379 = .ok (.iconst 1, 1) := by decide +kernel
theorem dL_isTerminal_380 : decode cL_isTerminal 380 = .ok (.goto 4, 3) := by decide +kernel
theorem dL_isTerminal_383 : decode cL_isTerminal 383 = .ok (.iconst 0, 1) := by decide +kernel
theorem dL_isTerminal_384 : decode cL_isTerminal 384 = .ok (.ireturn, 1) := by decide +kernel
theorem dL_isDone_0 : decode cL_isDone 0 = .ok (.aload_n 1, 1) := by decide +kernel
theorem dL_isDone_1 : decode cL_isDone 1 = .ok (.iload_n 2, 1) := by decide +kernel
theorem dL_isDone_2 : decode cL_isDone 2 = .ok (.bipush 30, 2) := by decide +kernel
theorem dL_isDone_4 : decode cL_isDone 4 = .ok (.invokestatic 183, 3) := by decide +kernel
theorem dL_isDone_7 : decode cL_isDone 7 = .ok (.istore_n 3, 1) := by decide +kernel
theorem dL_isDone_8 : decode cL_isDone 8 = .ok (.aload_n 0, 1) := by decide +kernel
theorem dL_isDone_9 : decode cL_isDone 9 = .ok (.aload_n 1, 1) := by decide +kernel
theorem dL_isDone_10 : decode cL_isDone 10 = .ok (.iload_n 2, 1) := by decide +kernel
theorem dL_isDone_11 : decode cL_isDone 11 = .ok (.iconst 1, 1) := by decide +kernel
theorem dL_isDone_12 : decode cL_isDone 12 = .ok (.iadd, 1) := by decide +kernel
theorem dL_isDone_13 : decode cL_isDone 13 = .ok (.sipush 4000, 3) := by decide +kernel
theorem dL_isDone_16 : decode cL_isDone 16 = .ok (.invokestatic 183, 3) := by decide +kernel
theorem dL_isDone_19 : decode cL_isDone 19 = .ok (.invokestatic 187, 3) := by decide +kernel
theorem dL_isDone_22 : decode cL_isDone 22 = .ok (.istore 4, 2) := by decide +kernel
theorem dL_isDone_24 : decode cL_isDone 24 = .ok (.aload_n 1, 1) := by decide +kernel
theorem dL_isDone_25 : decode cL_isDone 25 = .ok (.iload_n 2, 1) := by decide +kernel
theorem dL_isDone_26 : decode cL_isDone 26 = .ok (.iconst 2, 1) := by decide +kernel
theorem dL_isDone_27 : decode cL_isDone 27 = .ok (.iadd, 1) := by decide +kernel
theorem dL_isDone_28 : decode cL_isDone 28 = .ok (.sipush 5000, 3) := by decide +kernel
theorem dL_isDone_31 : decode cL_isDone 31 = .ok (.invokestatic 183, 3) := by decide +kernel
theorem dL_isDone_34 : decode cL_isDone 34 = .ok (.istore 5, 2) := by decide +kernel
theorem dL_isDone_36 : decode cL_isDone 36 = .ok (.aload_n 1, 1) := by decide +kernel
theorem dL_isDone_37 : decode cL_isDone 37 = .ok (.iload_n 2, 1) := by decide +kernel
theorem dL_isDone_38 : decode cL_isDone 38 = .ok (.iconst 3, 1) := by decide +kernel
theorem dL_isDone_39 : decode cL_isDone 39 = .ok (.iadd, 1) := by decide +kernel
theorem dL_isDone_40 : decode cL_isDone 40 = .ok (.sipush 6000, 3) := by decide +kernel
theorem dL_isDone_43 : decode cL_isDone 43 = .ok (.invokestatic 183, 3) := by decide +kernel
theorem dL_isDone_46 : decode cL_isDone 46 = .ok (.istore 6, 2) := by decide +kernel
theorem dL_isDone_48 : decode cL_isDone 48 = .ok (.iload_n 3, 1) := by decide +kernel
theorem dL_isDone_49 : decode cL_isDone 49 = .ok (.bipush 8, 2) := by decide +kernel
theorem dL_isDone_51 : decode cL_isDone 51 = .ok (.if_icmp .ge 10, 3) := by decide +kernel
theorem dL_isDone_54 : decode cL_isDone 54 = .ok (.aload_n 0, 1) := by decide +kernel
theorem dL_isDone_55 : decode cL_isDone 55 = .ok (.iload 4, 2) := by decide +kernel
theorem dL_isDone_57 : decode cL_isDone 57 = .ok (.invokestatic 190, 3) := by decide +kernel
theorem dL_isDone_60 : decode cL_isDone 60 = .ok (.ireturn, 1) := by decide +kernel
theorem dL_isDone_61 : decode cL_isDone 61 = .ok (.iload_n 3, 1) := by decide +kernel
theorem dL_isDone_62 : decode cL_isDone 62 = .ok (.bipush 10, 2) := by decide +kernel
theorem dL_isDone_64 : decode cL_isDone 64 = .ok (.if_icmp .ge 16, 3) := by decide +kernel
theorem dL_isDone_67 : decode cL_isDone 67 = .ok (.aload_n 0, 1) := by decide +kernel
theorem dL_isDone_68 : decode cL_isDone 68 = .ok (.iload 4, 2) := by decide +kernel
theorem dL_isDone_70 : decode cL_isDone 70 = .ok (.iload 5, 2) := by decide +kernel
theorem dL_isDone_72 : decode cL_isDone 72 = .ok (.sipush 260, 3) := by decide +kernel
theorem dL_isDone_75 : decode cL_isDone 75 = .ok (.irem, 1) := by decide +kernel
theorem dL_isDone_76 : decode cL_isDone 76 = .ok (.invokestatic 193, 3) := by decide +kernel
theorem dL_isDone_79 : decode cL_isDone 79 = .ok (.ireturn, 1) := by decide +kernel
theorem dL_isDone_80 : decode cL_isDone 80 = .ok (.iload_n 3, 1) := by decide +kernel
theorem dL_isDone_81 : decode cL_isDone 81 = .ok (.bipush 13, 2) := by decide +kernel
theorem dL_isDone_83 : decode cL_isDone 83 = .ok (.if_icmp .ge 38, 3) := by decide +kernel
theorem dL_isDone_86 : decode cL_isDone 86 = .ok (.aload_n 0, 1) := by decide +kernel
theorem dL_isDone_87 : decode cL_isDone 87 = .ok (.iload 4, 2) := by decide +kernel
theorem dL_isDone_89 : decode cL_isDone 89 = .ok (.iload 5, 2) := by decide +kernel
theorem dL_isDone_91 : decode cL_isDone 91 = .ok (.iconst 3, 1) := by decide +kernel
theorem dL_isDone_92 : decode cL_isDone 92 = .ok (.irem, 1) := by decide +kernel
theorem dL_isDone_93 : decode cL_isDone 93 = .ok (.ifCond .ne 7, 3) := by decide +kernel
theorem dL_isDone_96 : decode cL_isDone 96 = .ok (.iconst (-1), 1) := by decide +kernel
theorem dL_isDone_97 : decode cL_isDone 97 = .ok (.goto 8, 3) := by decide +kernel
theorem dL_isDone_100 : decode cL_isDone 100 = .ok (.iload 6, 2) := by decide +kernel
theorem dL_isDone_102 : decode cL_isDone 102 = .ok (.bipush 42, 2) := by decide +kernel
theorem dL_isDone_104 : decode cL_isDone 104 = .ok (.irem, 1) := by decide +kernel
theorem dL_isDone_105 : decode cL_isDone 105 = .ok (.iload 5, 2) := by decide +kernel
theorem dL_isDone_107 : decode cL_isDone 107 = .ok (.iconst 2, 1) := by decide +kernel
theorem dL_isDone_108 : decode cL_isDone 108 = .ok (.irem, 1) := by decide +kernel
theorem dL_isDone_109 : decode cL_isDone 109 = .ok (.ifCond .ne 7, 3) := by decide +kernel
theorem dL_isDone_112 : decode cL_isDone 112 = .ok (.iconst 1, 1) := by decide +kernel
theorem dL_isDone_113 : decode cL_isDone 113 = .ok (.goto 4, 3) := by decide +kernel
theorem dL_isDone_116 : decode cL_isDone 116 = .ok (.iconst 0, 1) := by decide +kernel
theorem dL_isDone_117 : decode cL_isDone 117 = .ok (.invokestatic 196, 3) := by decide +kernel
theorem dL_isDone_120 : decode cL_isDone 120 = .ok (.ireturn, 1) := by decide +kernel
theorem dL_isDone_121 : decode cL_isDone 121 = .ok (.iload_n 3, 1) := by decide +kernel
theorem dL_isDone_122 : decode cL_isDone 122 = .ok (.bipush 18, 2) := by decide +kernel
theorem dL_isDone_124 : decode cL_isDone 124 = .ok (.if_icmp .ge 15, 3) := by decide +kernel
theorem dL_isDone_127 : decode cL_isDone 127 = .ok (.aload_n 0, 1) := by decide +kernel
theorem dL_isDone_128 : decode cL_isDone 128 = .ok (.iload 4, 2) := by decide +kernel
theorem dL_isDone_130 : decode cL_isDone 130 = .ok (.iload 5, 2) := by decide +kernel
theorem dL_isDone_132 : decode cL_isDone 132 = .ok (.bipush 10, 2) := by decide +kernel
theorem dL_isDone_134 : decode cL_isDone 134 = .ok (.irem, 1) := by decide +kernel
theorem dL_isDone_135 : decode cL_isDone 135 = .ok (.invokestatic 200, 3) := by decide +kernel
theorem dL_isDone_138 : decode cL_isDone 138 = .ok (.ireturn, 1) := by decide +kernel
theorem dL_isDone_139 : decode cL_isDone 139 = .ok (.iload_n 3, 1) := by decide +kernel
theorem dL_isDone_140 : decode cL_isDone 140 = .ok (.bipush 21, 2) := by decide +kernel
theorem dL_isDone_142 : decode cL_isDone 142 = .ok (.if_icmp .ge 23, 3) := by decide +kernel
theorem dL_isDone_145 : decode cL_isDone 145 = .ok (.aload_n 0, 1) := by decide +kernel
theorem dL_isDone_146 : decode cL_isDone 146 = .ok (.iload 4, 2) := by decide +kernel
theorem dL_isDone_148 : decode cL_isDone 148 = .ok (.aload_n 0, 1) := by decide +kernel
theorem dL_isDone_149 : decode cL_isDone 149 = .ok (.iload 6, 2) := by decide +kernel
theorem dL_isDone_151 : decode cL_isDone 151 = .ok (.invokestatic 187, 3) := by decide +kernel
theorem dL_isDone_154 : decode cL_isDone 154 = .ok (.iconst 1, 1) := by decide +kernel
theorem dL_isDone_155 : decode cL_isDone 155 = .ok (.iload 5, 2) := by decide +kernel
theorem dL_isDone_157 : decode cL_isDone 157 = .ok (.bipush 41, 2) := by decide +kernel
theorem dL_isDone_159 : decode cL_isDone 159 = .ok (.irem, 1) := by decide +kernel
theorem dL_isDone_160 : decode cL_isDone 160 = .ok (.iadd, 1) := by decide +kernel
theorem dL_isDone_161 : decode cL_isDone 161 = .ok (.invokestatic 203, 3) := by decide +kernel
theorem dL_isDone_164 : decode cL_isDone 164 = .ok (.ireturn, 1) := by decide +kernel
theorem dL_isDone_165 : decode cL_isDone 165 = .ok (.iload_n 3, 1) := by decide +kernel
theorem dL_isDone_166 : decode cL_isDone 166 = .ok (.bipush 23, 2) := by decide +kernel
theorem dL_isDone_168 : decode cL_isDone 168 = .ok (.if_icmp .ge 10, 3) := by decide +kernel
theorem dL_isDone_171 : decode cL_isDone 171 = .ok (.aload_n 0, 1) := by decide +kernel
theorem dL_isDone_172 : decode cL_isDone 172 = .ok (.iload 4, 2) := by decide +kernel
theorem dL_isDone_174 : decode cL_isDone 174 = .ok (.invokestatic 207, 3) := by decide +kernel
theorem dL_isDone_177 : decode cL_isDone 177 = .ok (.ireturn, 1) := by decide +kernel
theorem dL_isDone_178 : decode cL_isDone 178 = .ok (.iload_n 3, 1) := by decide +kernel
theorem dL_isDone_179 : decode cL_isDone 179 = .ok (.bipush 25, 2) := by decide +kernel
theorem dL_isDone_181 : decode cL_isDone 181 = .ok (.if_icmp .ge 14, 3) := by decide +kernel
theorem dL_isDone_184 : decode cL_isDone 184 = .ok (.aload_n 0, 1) := by decide +kernel
theorem dL_isDone_185 : decode cL_isDone 185 = .ok (.iload 4, 2) := by decide +kernel
theorem dL_isDone_187 : decode cL_isDone 187 = .ok (.iload 5, 2) := by decide +kernel
theorem dL_isDone_189 : decode cL_isDone 189 = .ok (.iload 6, 2) := by decide +kernel
theorem dL_isDone_191 : decode cL_isDone 191 = .ok (.invokestatic 210, 3) := by decide +kernel
theorem dL_isDone_194 : decode cL_isDone 194 = .ok (.ireturn, 1) := by decide +kernel
theorem dL_isDone_195 : decode cL_isDone 195 = .ok (.iload 4, 2) := by decide +kernel
theorem dL_isDone_197 : decode cL_isDone 197 = .ok (.iconst 1, 1) := by decide +kernel
theorem dL_isDone_198 : decode cL_isDone 198 = .ok (.if_icmp .le 16, 3) := by decide +kernel
theorem dL_isDone_201 : decode cL_isDone 201 = .ok (.aload_n 0, 1) := by decide +kernel
theorem dL_isDone_202 : decode cL_isDone 202 = .ok (.iload 4, 2) := by decide +kernel
theorem dL_isDone_204 : decode cL_isDone 204 = .ok (.invokevirtual 90, 3) := by decide +kernel
theorem dL_isDone_207 : decode cL_isDone 207 = .ok (.ifCond .ne 7, 3) := by decide +kernel
theorem dL_isDone_210 : decode cL_isDone 210 = .ok (.iconst 1, 1) := by decide +kernel
theorem dL_isDone_211 : decode cL_isDone 211 = .ok (.goto 4, 3) := by decide +kernel
theorem dL_isDone_214 : decode cL_isDone 214 = .ok (.iconst 0, 1) := by decide +kernel
theorem dL_isDone_215 : decode cL_isDone 215 = .ok (.istore 7, 2) := by decide +kernel
theorem dL_isDone_217 : decode cL_isDone 217 = .ok (.iload_n 3, 1) := by decide +kernel
theorem dL_isDone_218 : decode cL_isDone 218 = .ok (.bipush 25, 2) := by decide +kernel
theorem dL_isDone_220 : decode cL_isDone 220 = .ok (.if_icmp .ne 149, 3) := by decide +kernel
theorem dL_isDone_223 : decode cL_isDone 223 = .ok (.aload_n 0, 1) := by decide +kernel
theorem dL_isDone_224 : decode cL_isDone 224 = .ok (.iload 4, 2) := by decide +kernel
theorem dL_isDone_226 : decode cL_isDone 226 = .ok (.iload 5, 2) := by decide +kernel
theorem dL_isDone_228 : decode cL_isDone 228 = .ok (.bipush 9, 2) := by decide +kernel
theorem dL_isDone_230 : decode cL_isDone 230 = .ok (.irem, 1) := by decide +kernel
theorem dL_isDone_231 : decode cL_isDone 231 = .ok (.iload 6, 2) := by decide +kernel
theorem dL_isDone_233 : decode cL_isDone 233 = .ok (.iconst 3, 1) := by decide +kernel
theorem dL_isDone_234 : decode cL_isDone 234 = .ok (.irem, 1) := by decide +kernel
theorem dL_isDone_235 : decode cL_isDone 235 = .ok (.invokestatic 213, 3) := by decide +kernel
theorem dL_isDone_238 : decode cL_isDone 238 = .ok (.istore 8, 2) := by decide +kernel
theorem dL_isDone_240 : decode cL_isDone 240 = .ok (.iload 5, 2) := by decide +kernel
theorem dL_isDone_242 : decode cL_isDone 242 = .ok (.bipush 9, 2) := by decide +kernel
theorem dL_isDone_244 : decode cL_isDone 244 = .ok (.irem, 1) := by decide +kernel
theorem dL_isDone_245 : decode cL_isDone 245 = .ok (.iconst 2, 1) := by decide +kernel
theorem dL_isDone_246 : decode cL_isDone 246 = .ok (.if_icmp .eq 16, 3) := by decide +kernel
theorem dL_isDone_249 : decode cL_isDone 249 = .ok (.iload 5, 2) := by decide +kernel
theorem dL_isDone_251 : decode cL_isDone 251 = .ok (.bipush 9, 2) := by decide +kernel
theorem dL_isDone_253 : decode cL_isDone 253 = .ok (.irem, 1) := by decide +kernel
theorem dL_isDone_254 : decode cL_isDone 254 = .ok (.iconst 5, 1) := by decide +kernel
theorem dL_isDone_255 : decode cL_isDone 255 = .ok (.if_icmp .eq 7, 3) := by decide +kernel
theorem dL_isDone_258 : decode cL_isDone 258 = .ok (.iconst 1, 1) := by decide +kernel
theorem dL_isDone_259 : decode cL_isDone 259 = .ok (.goto 4, 3) := by decide +kernel
theorem dL_isDone_262 : decode cL_isDone 262 = .ok (.iconst 0, 1) := by decide +kernel
theorem dL_isDone_263 : decode cL_isDone 263 = .ok (.istore 9, 2) := by decide +kernel
theorem dL_isDone_265 : decode cL_isDone 265 = .ok (.iload 9, 2) := by decide +kernel
theorem dL_isDone_267 : decode cL_isDone 267 = .ok (.ifCond .ne 18, 3) := by decide +kernel
theorem dL_isDone_270 : decode cL_isDone 270 = .ok (.iload 8, 2) := by decide +kernel
theorem dL_isDone_272 : decode cL_isDone 272 = .ok (.bipush (-20), 2) := by decide +kernel
theorem dL_isDone_274 : decode cL_isDone 274 = .ok (.if_icmp .ne 7, 3) := by decide +kernel
theorem dL_isDone_277 : decode cL_isDone 277 = .ok (.iconst 1, 1) := by decide +kernel
theorem dL_isDone_278 : decode cL_isDone 278 = .ok (.goto 90, 3) := by decide +kernel
theorem dL_isDone_281 : decode cL_isDone 281 = .ok (.iconst 0, 1) := by decide +kernel
theorem dL_isDone_282 : decode cL_isDone 282 = .ok (.goto 86, 3) := by decide +kernel
theorem dL_isDone_285 : decode cL_isDone 285 = .ok (.iload 7, 2) := by decide +kernel
theorem dL_isDone_287 : decode cL_isDone 287 = .ok (.ifCond .ne 18, 3) := by decide +kernel
theorem dL_isDone_290 : decode cL_isDone 290 = .ok (.iload 8, 2) := by decide +kernel
theorem dL_isDone_292 : decode cL_isDone 292 = .ok (.bipush (-10), 2) := by decide +kernel
theorem dL_isDone_294 : decode cL_isDone 294 = .ok (.if_icmp .ne 7, 3) := by decide +kernel
theorem dL_isDone_297 : decode cL_isDone 297 = .ok (.iconst 1, 1) := by decide +kernel
theorem dL_isDone_298 : decode cL_isDone 298 = .ok (.goto 70, 3) := by decide +kernel
theorem dL_isDone_301 : decode cL_isDone 301 = .ok (.iconst 0, 1) := by decide +kernel
theorem dL_isDone_302 : decode cL_isDone 302 = .ok (.goto 66, 3) := by decide +kernel
theorem dL_isDone_305 : decode cL_isDone 305 = .ok (.iload 8, 2) := by decide +kernel
theorem dL_isDone_307 : decode cL_isDone 307 = .ok (.ifCond .lt 60, 3) := by decide +kernel
theorem dL_isDone_310 : decode cL_isDone 310 = .ok (.iload 8, 2) := by decide +kernel
theorem dL_isDone_312 : decode cL_isDone 312 = .ok (.iconst 3, 1) := by decide +kernel
theorem dL_isDone_313 : decode cL_isDone 313 = .ok (.if_icmp .ge 54, 3) := by decide +kernel
theorem dL_isDone_316 : decode cL_isDone 316 = .ok (.aload_n 0, 1) := by decide +kernel
theorem dL_isDone_317 : decode cL_isDone 317 = .ok (.iload 4, 2) := by decide +kernel
theorem dL_isDone_319 : decode cL_isDone 319 = .ok (.iload 5, 2) := by decide +kernel
