theorem dL_isWaited_49 : decode cL_isWaited 49 = .ok (.invokevirtual 100, 3) := by decide +kernel
theorem dL_isWaited_52 : decode cL_isWaited 52 = .ok (.iload_n 1, 1) := by decide +kernel
theorem dL_isWaited_53 : decode cL_isWaited 53 = .ok (.if_icmp .ne 17, 3) := by decide +kernel
theorem dL_isWaited_56 : decode cL_isWaited 56 = .ok (.iload_n 2, 1) := by decide +kernel
theorem dL_isWaited_57 : decode cL_isWaited 57 = .ok (.ifCond .lt 9, 3) := by decide +kernel
theorem dL_isWaited_60 : decode cL_isWaited 60 = .ok (.iload_n 2, 1) := by decide +kernel
theorem dL_isWaited_61 : decode cL_isWaited 61 = .ok (.iload 7, 2) := by decide +kernel
theorem dL_isWaited_63 : decode cL_isWaited 63 = .ok (.if_icmp .ne 7, 3) := by decide +kernel
theorem dL_isWaited_66 : decode cL_isWaited 66 = .ok (.iconst 1, 1) := by decide +kernel
theorem dL_isWaited_67 : decode cL_isWaited 67 = .ok (.goto 4, 3) := by decide +kernel
theorem dL_isWaited_70 : decode cL_isWaited 70 = .ok (.iconst 0, 1) := by decide +kernel
theorem dL_isWaited_71 : decode cL_isWaited 71 = .ok (.istore 8, 2) := by decide +kernel
theorem dL_isWaited_73 : decode cL_isWaited 73 = .ok (.iload 6, 2) := by decide +kernel
theorem dL_isWaited_75 : decode cL_isWaited 75 = .ok (.ifCond .ne 8, 3) := by decide +kernel
theorem dL_isWaited_78 : decode cL_isWaited 78 = .ok (.iload 8, 2) := by decide +kernel
theorem dL_isWaited_80 : decode cL_isWaited 80 = .ok (.ifCond .eq 7, 3) := by decide +kernel
theorem dL_isWaited_83 : decode cL_isWaited 83 = .ok (.iconst 1, 1) := by decide +kernel
theorem dL_isWaited_84 : decode cL_isWaited 84 = .ok (.goto 4, 3) := by decide +kernel
theorem dL_isWaited_87 : decode cL_isWaited 87 = .ok (.iconst 0, 1) := by decide +kernel
theorem dL_isWaited_88 : decode cL_isWaited 88 = .ok (.istore 6, 2) := by decide +kernel
theorem dL_isWaited_90 : decode cL_isWaited 90 = .ok (.iload 8, 2) := by decide +kernel
theorem dL_isWaited_92 : decode cL_isWaited 92 = .ok (.ifCond .eq 18, 3) := by decide +kernel
theorem dL_isWaited_95 : decode cL_isWaited 95 = .ok (.aload_n 0, 1) := by decide +kernel
theorem dL_isWaited_96 : decode cL_isWaited 96 = .ok (.iload 7, 2) := by decide +kernel
theorem dL_isWaited_98 : decode cL_isWaited 98 = .ok (.invokevirtual 90, 3) := by decide +kernel
theorem dL_isWaited_101 : decode cL_isWaited 101 = .ok (.iconst 3, 1) := by decide +kernel
theorem dL_isWaited_102 : decode cL_isWaited 102 = .ok (.if_icmp .ne 8, 3) := by decide +kernel
theorem dL_isWaited_105 : decode cL_isWaited 105 = .ok (.iload 7, 2) := by decide +kernel
theorem dL_isWaited_107 : decode cL_isWaited 107 = .ok (.goto 5, 3) := by decide +kernel
theorem dL_isWaited_110 : decode cL_isWaited 110 = .ok (.iload 5, 2) := by decide +kernel
theorem dL_isWaited_112 : decode cL_isWaited 112 = .ok (.istore 5, 2) := by decide +kernel
theorem dL_isWaited_114 : decode cL_isWaited 114 = .ok (.iinc 7 (-1), 3) := by decide +kernel
theorem dL_isWaited_117 : decode cL_isWaited 117 = .ok (.goto (-86), 3) := by decide +kernel
theorem dL_isWaited_120 : decode cL_isWaited 120 = .ok (.iload_n 2, 1) := by decide +kernel
theorem dL_isWaited_121 : decode cL_isWaited 121 = .ok (.ifCond .ge 12, 3) := by decide +kernel
theorem dL_isWaited_124 : decode cL_isWaited 124 = .ok (.aload_n 0, 1) := by decide +kernel
theorem dL_isWaited_125 : decode cL_isWaited 125 = .ok (.iload_n 1, 1) := by decide +kernel
theorem dL_isWaited_126 : decode cL_isWaited 126 = .ok (.iload_n 3, 1) := by decide +kernel
theorem dL_isWaited_127 : decode cL_isWaited 127 = .ok (.invokestatic 149, 3) := by decide +kernel
theorem dL_isWaited_130 : decode cL_isWaited 130 = .ok (.goto 10, 3) := by decide +kernel
theorem dL_isWaited_133 : decode cL_isWaited 133 = .ok (.aload_n 0, 1) := by decide +kernel
theorem dL_isWaited_134 : decode cL_isWaited 134 = .ok (.iload_n 1, 1) := by decide +kernel
theorem dL_isWaited_135 : decode cL_isWaited 135 = .ok (.iload_n 2, 1) := by decide +kernel
theorem dL_isWaited_136 : decode cL_isWaited 136 = .ok (.iload_n 3, 1) := by decide +kernel
theorem dL_isWaited_137 : decode cL_isWaited 137 = .ok (.invokestatic 153, 3) := by decide +kernel
theorem dL_isWaited_140 : decode cL_isWaited 140 = .ok (.istore 7, 2) := by decide +kernel
theorem dL_isWaited_142 : decode cL_isWaited 142 = .ok (.iload 4, 2) := by decide +kernel
theorem dL_isWaited_144 : decode cL_isWaited 144 = .ok (.ifCond .eq 13, 3) := by decide +kernel
theorem dL_isWaited_147 : decode cL_isWaited 147 = .ok (.iload_n 2, 1) := by decide +kernel
theorem dL_isWaited_148 : decode cL_isWaited 148 = .ok (.bipush 40, 2) := by decide +kernel
theorem dL_isWaited_150 : decode cL_isWaited 150 = .ok (.if_icmp .gt 7, 3) := by decide +kernel
theorem dL_isWaited_153 : decode cL_isWaited 153 = .ok (.iload_n 2, 1) := by decide +kernel
theorem dL_isWaited_154 : decode cL_isWaited 154 = .ok (.ifCond .ne 31, 3) := by decide +kernel
theorem dL_isWaited_157 : decode cL_isWaited 157 = .ok (.iload 7, 2) := by decide +kernel
theorem dL_isWaited_159 : decode cL_isWaited 159 = .ok (.iload_n 2, 1) := by decide +kernel
theorem dL_isWaited_160 : decode cL_isWaited 160 = .ok (.bipush 40, 2) := by decide +kernel
theorem dL_isWaited_162 : decode cL_isWaited 162 = .ok (.if_icmp .gt 7, 3) := by decide +kernel
theorem dL_isWaited_165 : decode cL_isWaited 165 = .ok (.iload_n 2, 1) := by decide +kernel
theorem dL_isWaited_166 : decode cL_isWaited 166 = .ok (.ifCond .ne 8, 3) := by decide +kernel
theorem dL_isWaited_169 : decode cL_isWaited 169 = .ok (.bipush (-20), 2) := by decide +kernel
theorem dL_isWaited_171 : decode cL_isWaited 171 = .ok (.goto 5, 3) := by decide +kernel
theorem dL_isWaited_174 : decode cL_isWaited 174 = .ok (.bipush (-10), 2) := by decide +kernel
theorem dL_isWaited_176 : decode cL_isWaited 176 = .ok (.if_icmp .ne 7, 3) := by decide +kernel
theorem dL_isWaited_179 : decode cL_isWaited 179 = .ok (.iconst 1, 1) := by decide +kernel
theorem dL_isWaited_180 : decode cL_isWaited 180 = .ok (.goto 4, 3) := by decide +kernel
theorem dL_isWaited_183 : decode cL_isWaited 183 = .ok (.iconst 0, 1) := by decide +kernel
theorem dL_isWaited_184 : decode cL_isWaited 184 = .ok (.ireturn, 1) := by decide +kernel
theorem dL_isWaited_185 : decode cL_isWaited 185 = .ok (.iload 6, 2) := by decide +kernel
theorem dL_isWaited_187 : decode cL_isWaited 187 = .ok (.ifCond .ne 32, 3) := by decide +kernel
theorem dL_isWaited_190 : decode cL_isWaited 190 = .ok (.iload 7, 2) := by decide +kernel
theorem dL_isWaited_192 : decode cL_isWaited 192 = .ok (.iconst 1, 1) := by decide +kernel
theorem dL_isWaited_193 : decode cL_isWaited 193 = .ok (.if_icmp .ne 24, 3) := by decide +kernel
theorem dL_isWaited_196 : decode cL_isWaited 196 = .ok (.aload_n 0, 1) := by decide +kernel
theorem dL_isWaited_197 : decode cL_isWaited 197 = .ok (.iload_n 1, 1) := by decide +kernel
theorem dL_isWaited_198 : decode cL_isWaited 198 = .ok (.invokevirtual 109, 3) := by decide +kernel
theorem dL_isWaited_201 : decode cL_isWaited 201 = .ok (.iconst 4, 1) := by decide +kernel
theorem dL_isWaited_202 : decode cL_isWaited 202 = .ok (.if_icmp .ne 15, 3) := by decide +kernel
theorem dL_isWaited_205 : decode cL_isWaited 205 = .ok (.aload_n 0, 1) := by decide +kernel
theorem dL_isWaited_206 : decode cL_isWaited 206 = .ok (.iload_n 1, 1) := by decide +kernel
theorem dL_isWaited_207 : decode cL_isWaited 207 = .ok (.invokevirtual 90, 3) := by decide +kernel
theorem dL_isWaited_210 : decode cL_isWaited 210 = .ok (.ifCond .ne 7, 3) := by decide +kernel
theorem dL_isWaited_213 : decode cL_isWaited 213 = .ok (.iconst 1, 1) := by decide +kernel
theorem dL_isWaited_214 : decode cL_isWaited 214 = .ok (.goto 4, 3) := by decide +kernel
theorem dL_isWaited_217 : decode cL_isWaited 217 = .ok (.iconst 0, 1) := by decide +kernel
theorem dL_isWaited_218 : decode cL_isWaited 218 = .ok (.ireturn, 1) := by decide +kernel
theorem dL_isWaited_219 : decode cL_isWaited 219 = .ok (.iload 7, 2) := by decide +kernel
theorem dL_isWaited_221 : decode cL_isWaited 221 = .ok (.aload_n 0, 1) := by decide +kernel
theorem dL_isWaited_222 : decode cL_isWaited 222 = .ok (.iload_n 1, 1) := by decide +kernel
theorem dL_isWaited_223 : decode cL_isWaited 223 = .ok (.invokevirtual 90, 3) := by decide +kernel
theorem dL_isWaited_226 : decode cL_isWaited 226 = .ok (.ifCond .ne 7, 3) := by decide +kernel
theorem dL_isWaited_229 : decode cL_isWaited 229 = .ok (.iconst 1, 1) := by decide +kernel
theorem dL_isWaited_230 : decode cL_isWaited 230 = .ok (.goto 4, 3) := by decide +kernel
theorem dL_isWaited_233 : decode cL_isWaited 233 = .ok (.iconst 0, 1) := by decide +kernel
theorem dL_isWaited_234 : decode cL_isWaited 234 = .ok (.if_icmp .ne 20, 3) := by decide +kernel
theorem dL_isWaited_237 : decode cL_isWaited 237 = .ok (.iload 5, 2) := by decide +kernel
theorem dL_isWaited_239 : decode cL_isWaited 239 = .ok (.bipush 99, 2) := by decide +kernel
theorem dL_isWaited_241 : decode cL_isWaited 241 = .ok (.if_icmp .eq 9, 3) := by decide +kernel
theorem dL_isWaited_244 : decode cL_isWaited 244 = .ok (.iload 7, 2) := by decide +kernel
theorem dL_isWaited_246 : decode cL_isWaited 246 = .ok (.iconst 1, 1) := by decide +kernel
theorem dL_isWaited_247 : decode cL_isWaited 247 = .ok (.if_icmp .ne 7, 3) := by decide +kernel
theorem dL_isWaited_250 : decode cL_isWaited 250 = .ok (.iconst 1, 1) := by decide +kernel
theorem dL_isWaited_251 : decode cL_isWaited 251 = .ok (.goto 4, 3) := by decide +kernel
theorem dL_isWaited_254 : decode cL_isWaited 254 = .ok (.iconst 0, 1) := by decide +kernel
theorem dL_isWaited_255 : decode cL_isWaited 255 = .ok (.istore 8, 2) := by decide +kernel
theorem dL_isWaited_257 : decode cL_isWaited 257 = .ok (.iload 7, 2) := by decide +kernel
theorem dL_isWaited_259 : decode cL_isWaited 259 = .ok (.iconst 1, 1) := by decide +kernel
theorem dL_isWaited_260 : decode cL_isWaited 260 = .ok (.if_icmp .ne 80, 3) := by decide +kernel
theorem dL_isWaited_263 : decode cL_isWaited 263 = .ok (.iload 8, 2) := by decide +kernel
theorem dL_isWaited_265 : decode cL_isWaited 265 = .ok (.ifCond .eq 75, 3) := by decide +kernel
theorem dL_isWaited_268 : decode cL_isWaited 268 = .ok (.aload_n 0, 1) := by decide +kernel
theorem dL_isWaited_269 : decode cL_isWaited 269 = .ok (.iload_n 1, 1) := by decide +kernel
theorem dL_isWaited_270 : decode cL_isWaited 270 = .ok (.invokevirtual 112, 3) := by decide +kernel
theorem dL_isWaited_273 : decode cL_isWaited 273 = .ok (.istore 9, 2) := by decide +kernel
theorem dL_isWaited_275 : decode cL_isWaited 275 = .ok (.iload 9, 2) := by decide +kernel
theorem dL_isWaited_277 : decode cL_isWaited 277 = .ok (.iload 5, 2) := by decide +kernel
theorem dL_isWaited_279 : decode cL_isWaited 279 = .ok (.if_icmp .gt 58, 3) := by decide +kernel
theorem dL_isWaited_282 : decode cL_isWaited 282 = .ok (.iload 9, 2) := by decide +kernel
theorem dL_isWaited_284 : decode cL_isWaited 284 = .ok (.iload 5, 2) := by decide +kernel
theorem dL_isWaited_286 : decode cL_isWaited 286 = .ok (.if_icmp .ne 24, 3) := by decide +kernel
theorem dL_isWaited_289 : decode cL_isWaited 289 = .ok (.aload_n 0, 1) := by decide +kernel
theorem dL_isWaited_290 : decode cL_isWaited 290 = .ok (.iload 9, 2) := by decide +kernel
theorem dL_isWaited_292 : decode cL_isWaited 292 = .ok (.invokevirtual 86, 3) := by decide +kernel
theorem dL_isWaited_295 : decode cL_isWaited 295 = .ok (.ifCond .ne 42, 3) := by decide +kernel
theorem dL_isWaited_298 : decode cL_isWaited 298 = .ok (.aload_n 0, 1) := by decide +kernel
theorem dL_isWaited_299 : decode cL_isWaited 299 = .ok (.iload_n 1, 1) := by decide +kernel
theorem dL_isWaited_300 : decode cL_isWaited 300 = .ok (.invokevirtual 109, 3) := by decide +kernel
theorem dL_isWaited_303 : decode cL_isWaited 303 = .ok (.iconst 2, 1) := by decide +kernel
theorem dL_isWaited_304 : decode cL_isWaited 304 = .ok (.if_icmp .ge 33, 3) := by decide +kernel
theorem dL_isWaited_307 : decode cL_isWaited 307 = .ok (.goto 26, 3) := by decide +kernel
theorem dL_isWaited_310 : decode cL_isWaited 310 = .ok (.iload_n 3, 1) := by decide +kernel
theorem dL_isWaited_311 : decode cL_isWaited 311 = .ok (.ifCond .eq 26, 3) := by decide +kernel
theorem dL_isWaited_314 : decode cL_isWaited 314 = .ok (.aload_n 0, 1) := by decide +kernel
theorem dL_isWaited_315 : decode cL_isWaited 315 = .ok (.iload 9, 2) := by decide +kernel
theorem dL_isWaited_317 : decode cL_isWaited 317 = .ok (.invokevirtual 90, 3) := by decide +kernel
theorem dL_isWaited_320 : decode cL_isWaited 320 = .ok (.iconst 2, 1) := by decide +kernel
theorem dL_isWaited_321 : decode cL_isWaited 321 = .ok (.if_icmp .ne 16, 3) := by decide +kernel
theorem dL_isWaited_324 : decode cL_isWaited 324 = .ok (.aload_n 0, 1) := by decide +kernel
theorem dL_isWaited_325 : decode cL_isWaited 325 = .ok (.iload_n 1, 1) := by decide +kernel
theorem dL_isWaited_326 : decode cL_isWaited 326 = .ok (.invokevirtual 109, 3) := by decide +kernel
theorem dL_isWaited_329 : decode cL_isWaited 329 = .ok (.iconst 2, 1) := by decide +kernel
theorem dL_isWaited_330 : decode cL_isWaited 330 = .ok (.if_icmp .ne 7, 3) := by decide +kernel
theorem dL_isWaited_333 : decode cL_isWaited 333 = .ok (.iconst 1, 1) := by decide +kernel
theorem dL_isWaited_334 : decode cL_isWaited 334 = .ok (.goto 4, 3) := by decide +kernel
theorem dL_isWaited_337 : decode cL_isWaited 337 = .ok (.iconst 0, 1) := by decide +kernel
theorem dL_isWaited_338 : decode cL_isWaited 338 = .ok (.istore 8, 2) := by decide +kernel
theorem dL_isWaited_340 : decode cL_isWaited 340 = .ok (.iload 8, 2) := by decide +kernel
theorem dL_isWaited_342 : decode cL_isWaited 342 = .ok (.ireturn, 1) := by decide +kernel
theorem dL_isSignalled_0 : decode cL_isSignalled 0 = .ok (.aload_n 0, 1) := by decide +kernel
theorem dL_isSignalled_1 : decode cL_isSignalled 1 = .ok (.iload_n 1, 1) := by decide +kernel
theorem dL_isSignalled_2 : decode cL_isSignalled 2 = .ok (.invokevirtual 90, 3) := by decide +kernel
theorem dL_isSignalled_5 : decode cL_isSignalled 5 = .ok (.istore_n 3, 1) := by decide +kernel
theorem dL_isSignalled_6 : decode cL_isSignalled 6 = .ok (.aload_n 0, 1) := by decide +kernel
theorem dL_isSignalled_7 : decode cL_isSignalled 7 = .ok (.iload_n 1, 1) := by decide +kernel
theorem dL_isSignalled_8 : decode cL_isSignalled 8 = .ok (.invokevirtual 136, 3) := by decide +kernel
theorem dL_isSignalled_11 : decode cL_isSignalled 11 = .ok (.istore 4, 2) := by decide +kernel
theorem dL_isSignalled_13 : decode cL_isSignalled 13 = .ok (.aload_n 0, 1) := by decide +kernel
theorem dL_isSignalled_14 : decode cL_isSignalled 14 = .ok (.iload_n 1, 1) := by decide +kernel
theorem dL_isSignalled_15 : decode cL_isSignalled 15 = .ok (.iload_n 2, 1) := by decide +kernel
theorem dL_isSignalled_16 : decode cL_isSignalled 16 = .ok (.invokestatic 157, 3) := by decide +kernel
theorem dL_isSignalled_19 : decode cL_isSignalled 19 = .ok (.istore 5, 2) := by decide +kernel
theorem dL_isSignalled_21 : decode cL_isSignalled 21 = .ok (.iload_n 2, 1) := by decide +kernel
theorem dL_isSignalled_22 : decode cL_isSignalled 22 = .ok (.bipush 8, 2) := by decide +kernel
theorem dL_isSignalled_24 : decode cL_isSignalled 24 = .ok (.if_icmp .le 16, 3) := by decide +kernel
theorem dL_isSignalled_27 : decode cL_isSignalled 27 = .ok (.iload 5, 2) := by decide +kernel
theorem dL_isSignalled_29 : decode cL_isSignalled 29 = .ok (.bipush (-20), 2) := by decide +kernel
theorem dL_isSignalled_31 : decode cL_isSignalled 31 = .ok (.if_icmp .ne 7, 3) := by decide +kernel
theorem dL_isSignalled_34 : decode cL_isSignalled 34 = .ok (.iconst 1, 1) := by decide +kernel
theorem dL_isSignalled_35 : decode cL_isSignalled 35 = .ok (.goto 4, 3) := by decide +kernel
theorem dL_isSignalled_38 : decode cL_isSignalled 38 = .ok (.iconst 0, 1) := by decide +kernel
theorem dL_isSignalled_39 : decode cL_isSignalled 39 = .ok (.ireturn, 1) := by decide +kernel
theorem dL_isSignalled_40 : decode cL_isSignalled 40 = .ok (.aload_n 0, 1) := by decide +kernel
theorem dL_isSignalled_41 : decode cL_isSignalled 41 = .ok (.iload_n 1, 1) := by decide +kernel
theorem dL_isSignalled_42 : decode cL_isSignalled 42 = .ok (.invokevirtual 86, 3) := by decide +kernel
theorem dL_isSignalled_45 : decode cL_isSignalled 45 = .ok (.ifCond .eq 12, 3) := by decide +kernel
theorem dL_isSignalled_48 : decode cL_isSignalled 48 = .ok (.aload_n 0, 1) := by decide +kernel
theorem dL_isSignalled_49 : decode cL_isSignalled 49 = .ok (.iload_n 1, 1) := by decide +kernel
theorem dL_isSignalled_50 : decode cL_isSignalled 50 = .ok (.invokevirtual 90, 3) := by decide +kernel
theorem dL_isSignalled_53 : decode cL_isSignalled 53 = .ok (.iconst 3, 1) := by decide +kernel
theorem dL_isSignalled_54 : decode cL_isSignalled 54 = .ok (.if_icmp .ne 7, 3) := by decide +kernel
theorem dL_isSignalled_57 : decode cL_isSignalled 57 = .ok (.iconst 1, 1) := by decide +kernel
theorem dL_isSignalled_58 : decode cL_isSignalled 58 = .ok (.goto 4, 3) := by decide +kernel
theorem dL_isSignalled_61 : decode cL_isSignalled 61 = .ok (.iconst 0, 1) := by decide +kernel
theorem dL_isSignalled_62 : decode cL_isSignalled 62 = .ok (.istore 6, 2) := by decide +kernel
theorem dL_isSignalled_64 : decode cL_isSignalled 64 = .ok (.iload_n 1, 1) := by decide +kernel
theorem dL_isSignalled_65 : decode cL_isSignalled 65 = .ok (.iconst 1, 1) := by decide +kernel
theorem dL_isSignalled_66 : decode cL_isSignalled 66 = .ok (.if_icmp .eq 8, 3) := by decide +kernel
theorem dL_isSignalled_69 : decode cL_isSignalled 69 = .ok (.iload_n 3, 1) := by decide +kernel
theorem dL_isSignalled_70 : decode cL_isSignalled 70 = .ok (.iconst 3, 1) := by decide +kernel
theorem dL_isSignalled_71 : decode cL_isSignalled 71 = .ok (.if_icmp .ne 37, 3) := by decide +kernel
theorem dL_isSignalled_74 : decode cL_isSignalled 74 = .ok (.iload 5, 2) := by decide +kernel
theorem dL_isSignalled_76 : decode cL_isSignalled 76 = .ok (.ifCond .ne 30, 3) := by decide +kernel
theorem dL_isSignalled_79 : decode cL_isSignalled 79 = .ok (.iload_n 1, 1) := by decide +kernel
theorem dL_isSignalled_80 : decode cL_isSignalled 80 = .ok (.iconst 1, 1) := by decide +kernel
theorem dL_isSignalled_81 : decode cL_isSignalled 81 = .ok (.if_icmp .gt 11, 3) := by decide +kernel
theorem dL_isSignalled_84 : decode cL_isSignalled 84 = .ok (.aload_n 0, 1) := by decide +kernel
theorem dL_isSignalled_85 : decode cL_isSignalled 85 = .ok (.iconst 1, 1) := by decide +kernel
theorem dL_isSignalled_86 : decode cL_isSignalled 86 = .ok (.invokevirtual 90, 3) := by decide +kernel
theorem dL_isSignalled_89 : decode cL_isSignalled 89 = .ok (.ifCond .ne 17, 3) := by decide +kernel
theorem dL_isSignalled_92 : decode cL_isSignalled 92 = .ok (.iload_n 1, 1) := by decide +kernel
theorem dL_isSignalled_93 : decode cL_isSignalled 93 = .ok (.iconst 1, 1) := by decide +kernel
theorem dL_isSignalled_94 : decode cL_isSignalled 94 = .ok (.if_icmp .eq 8, 3) := by decide +kernel
theorem dL_isSignalled_97 : decode cL_isSignalled 97 = .ok (.iload 6, 2) := by decide +kernel
theorem dL_isSignalled_99 : decode cL_isSignalled 99 = .ok (.ifCond .eq 7, 3) := by decide +kernel
theorem dL_isSignalled_102 : decode cL_isSignalled 102 = .ok (.iconst 1, 1) := by decide +kernel
theorem dL_isSignalled_103 : decode cL_isSignalled 103 = .ok (.goto 4, 3) := by decide +kernel
theorem dL_isSignalled_106 : decode cL_isSignalled 106 = .ok (.iconst 0, 1) := by decide +kernel
theorem dL_isSignalled_107 : decode cL_isSignalled 107 = .ok (.ireturn, 1) := by decide +kernel
theorem dL_isSignalled_108 : decode cL_isSignalled 108 = .ok (.iload_n 2, 1) := by decide +kernel
theorem dL_isSignalled_109 : decode cL_isSignalled 109 = .ok (.iconst 2, 1) := by decide +kernel
theorem dL_isSignalled_110 : decode cL_isSignalled 110 = .ok (.if_icmp .ne 8, 3) := by decide +kernel
theorem dL_isSignalled_113 : decode cL_isSignalled 113 = .ok (.iload 6, 2) := by decide +kernel
theorem dL_isSignalled_115 : decode cL_isSignalled 115 = .ok (.goto 95, 3) := by decide +kernel
theorem dL_isSignalled_118 : decode cL_isSignalled 118 = .ok (.iload_n 2, 1) := by decide +kernel
theorem dL_isSignalled_119 : decode cL_isSignalled 119 = .ok (.iconst 5, 1) := by decide +kernel
theorem dL_isSignalled_120 : decode cL_isSignalled 120 = .ok (.if_icmp .ne 20, 3) := by decide +kernel
theorem dL_isSignalled_123 : decode cL_isSignalled 123 = .ok (.aload_n 0, 1) := by decide +kernel
theorem dL_isSignalled_124 : decode cL_isSignalled 124 = .ok (.iload_n 1, 1) := by decide +kernel
theorem dL_isSignalled_125 : decode cL_isSignalled 125 = .ok (.invokevirtual 90, 3) := by decide +kernel
theorem dL_isSignalled_128 : decode cL_isSignalled 128 = .ok (.iconst 2, 1) := by decide +kernel
theorem dL_isSignalled_129 : decode cL_isSignalled 129 = .ok (.if_icmp .ne 7, 3) := by decide +kernel
theorem dL_isSignalled_132 : decode cL_isSignalled 132 = .ok (.iconst 1, 1) := by decide +kernel
theorem dL_isSignalled_133 : decode cL_isSignalled 133 = .ok (.goto 77, 3) := by decide +kernel
theorem dL_isSignalled_136 : decode cL_isSignalled 136 = .ok (.iconst 0, 1) := by decide +kernel
theorem dL_isSignalled_137 : decode cL_isSignalled 137 = .ok (.goto 73, 3) := by decide +kernel
theorem dL_isSignalled_140 : decode cL_isSignalled 140 = .ok (.iload_n 2, 1) := by decide +kernel
theorem dL_isSignalled_141 : decode cL_isSignalled 141 = .ok (.bipush 7, 2) := by decide +kernel
theorem dL_isSignalled_143 : decode cL_isSignalled 143 = .ok (.if_icmp .ne 38, 3) := by decide +kernel
theorem dL_isSignalled_146 : decode cL_isSignalled 146 = .ok (.iload 6, 2) := by decide +kernel
theorem dL_isSignalled_148 : decode cL_isSignalled 148 = .ok (.ifCond .ne 25, 3) := by decide +kernel
theorem dL_isSignalled_151 : decode cL_isSignalled 151 = .ok (.aload_n 0, 1) := by decide +kernel
theorem dL_isSignalled_152 : decode cL_isSignalled 152 = .ok (.iload_n 1, 1) := by decide +kernel
theorem dL_isSignalled_153 : decode cL_isSignalled 153 = .ok (.invokevirtual 90, 3) := by decide +kernel
theorem dL_isSignalled_156 : decode cL_isSignalled 156 = .ok (.iconst 2, 1) := by decide +kernel
theorem dL_isSignalled_157 : decode cL_isSignalled 157 = .ok (.if_icmp .eq 20, 3) := by decide +kernel
theorem dL_isSignalled_160 : decode cL_isSignalled 160 = .ok (.aload_n 0, 1) := by decide +kernel
theorem dL_isSignalled_161 : decode cL_isSignalled 161 = .ok (.iload_n 1, 1) := by decide +kernel
theorem dL_isSignalled_162 : decode cL_isSignalled 162 = .ok (.invokevirtual 103, 3) := by decide +kernel
theorem dL_isSignalled_165 : decode cL_isSignalled 165 = .ok (.bipush 6, 2) := by decide +kernel
theorem dL_isSignalled_167 : decode cL_isSignalled 167 = .ok (.ishr, 1) := by decide +kernel
theorem dL_isSignalled_168 : decode cL_isSignalled 168 = .ok (.iconst 1, 1) := by decide +kernel
theorem dL_isSignalled_169 : decode cL_isSignalled 169 = .ok (.iand, 1) := by decide +kernel
theorem dL_isSignalled_170 : decode cL_isSignalled 170 = .ok (.ifCond .ne 7, 3) := by decide +kernel
theorem dL_isSignalled_173 : decode cL_isSignalled 173 = .ok (.iconst 1, 1) := by decide +kernel
theorem dL_isSignalled_174 : decode cL_isSignalled 174 = .ok (.goto 36, 3) := by decide +kernel
theorem dL_isSignalled_177 : decode cL_isSignalled 177 = .ok (.iconst 0, 1) := by decide +kernel
theorem dL_isSignalled_178 : decode cL_isSignalled 178 = .ok (.goto 32, 3) := by decide +kernel
theorem dL_isSignalled_181 : decode cL_isSignalled 181 = .ok (.iload_n 3, 1) := by decide +kernel
theorem dL_isSignalled_182 : decode cL_isSignalled 182 = .ok (.iconst 2, 1) := by decide +kernel
theorem dL_isSignalled_183 : decode cL_isSignalled 183 = .ok (.if_icmp .ne 22, 3) := by decide +kernel
theorem dL_isSignalled_186 : decode cL_isSignalled 186 = .ok (.aload_n 0, 1) := by decide +kernel
theorem dL_isSignalled_187 : decode cL_isSignalled 187 = .ok (.iload_n 1, 1) := by decide +kernel
theorem dL_isSignalled_188 : decode cL_isSignalled 188 = .ok (.invokevirtual 90, 3) := by decide +kernel
theorem dL_isSignalled_191 : decode cL_isSignalled 191 = .ok (.iconst 2, 1) := by decide +kernel
theorem dL_isSignalled_192 : decode cL_isSignalled 192 = .ok (.if_icmp .ne 17, 3) := by decide +kernel
theorem dL_isSignalled_195 : decode cL_isSignalled 195 = .ok (.aload_n 0, 1) := by decide +kernel
theorem dL_isSignalled_196 : decode cL_isSignalled 196 = .ok (.iload_n 1, 1) := by decide +kernel
theorem dL_isSignalled_197 : decode cL_isSignalled 197 = .ok (.invokevirtual 136, 3) := by decide +kernel
theorem dL_isSignalled_200 : decode cL_isSignalled 200 = .ok (.iload 4, 2) := by decide +kernel
theorem dL_isSignalled_202 : decode cL_isSignalled 202 = .ok (.if_icmp .ne 7, 3) := by decide +kernel
theorem dL_isSignalled_205 : decode cL_isSignalled 205 = .ok (.iconst 1, 1) := by decide +kernel
theorem dL_isSignalled_206 : decode cL_isSignalled 206 = .ok (.goto 4, 3) := by decide +kernel
theorem dL_isSignalled_209 : decode cL_isSignalled 209 = .ok (.iconst 0, 1) := by decide +kernel
theorem dL_isSignalled_210 : decode cL_isSignalled 210 = .ok (.istore 7, 2) := by decide +kernel
theorem dL_isSignalled_212 : decode cL_isSignalled 212 = .ok (.iload 5, 2) := by decide +kernel
theorem dL_isSignalled_214 : decode cL_isSignalled 214 = .ok (.ifCond .ne 12, 3) := by decide +kernel
theorem dL_isSignalled_217 : decode cL_isSignalled 217 = .ok (.iload 7, 2) := by decide +kernel
theorem dL_isSignalled_219 : decode cL_isSignalled 219 = .ok (.ifCond .eq 7, 3) := by decide +kernel
theorem dL_isSignalled_222 : decode cL_isSignalled 222 = .ok (.iconst 1, 1) := by decide +kernel
theorem dL_isSignalled_223 : decode cL_isSignalled 223 = .ok (.goto 4, 3) := by decide +kernel
theorem dL_isSignalled_226 : decode cL_isSignalled 226 = .ok (.iconst 0, 1) := by decide +kernel
theorem dL_isSignalled_227 : decode cL_isSignalled 227 = .ok (.ireturn, 1) := by decide +kernel
theorem dL_pid_0 : decode cL_pid 0 = .ok (.iconst 1, 1) := by decide +kernel
theorem dL_pid_1 : decode cL_pid 1 = .ok (.iload_n 1, 1) := by decide +kernel
theorem dL_pid_2 : decode cL_pid 2 = .ok (.bipush 40, 2) := by decide +kernel
theorem dL_pid_4 : decode cL_pid 4 = .ok (.irem, 1) := by decide +kernel
theorem dL_pid_5 : decode cL_pid 5 = .ok (.iadd, 1) := by decide +kernel
theorem dL_pid_6 : decode cL_pid 6 = .ok (.istore_n 2, 1) := by decide +kernel
theorem dL_pid_7 : decode cL_pid 7 = .ok (.aload_n 0, 1) := by decide +kernel
theorem dL_pid_8 : decode cL_pid 8 = .ok (.iload_n 2, 1) := by decide +kernel
theorem dL_pid_9 : decode cL_pid 9 = .ok (.invokevirtual 86, 3) := by decide +kernel
theorem dL_pid_12 : decode cL_pid 12 = .ok (.ifCond .ne 13, 3) := by decide +kernel
theorem dL_pid_15 : decode cL_pid 15 = .ok (.iload_n 2, 1) := by decide +kernel
theorem dL_pid_16 : decode cL_pid 16 = .ok (.bipush 40, 2) := by decide +kernel
theorem dL_pid_18 : decode cL_pid 18 = .ok (.irem, 1) := by decide +kernel
theorem dL_pid_19 : decode cL_pid 19 = .ok (.iconst 1, 1) := by decide +kernel
theorem dL_pid_20 : decode cL_pid 20 = .ok (.iadd, 1) := by decide +kernel
theorem dL_pid_21 : decode cL_pid 21 = .ok (.istore_n 2, 1) := by decide +kernel
theorem dL_pid_22 : decode cL_pid 22 = .ok (.goto (-15), 3) := by decide +kernel
theorem dL_pid_25 : decode cL_pid 25 = .ok (.iload_n 2, 1) := by decide +kernel
theorem dL_pid_26 : decode cL_pid 26 = .ok (.ireturn, 1) := by decide +kernel
theorem dL_isGrouped_0 : decode cL_isGrouped 0 = .ok (.iload_n 1, 1) := by decide +kernel
theorem dL_isGrouped_1 : decode cL_isGrouped 1 = .ok (.iconst 1, 1) := by decide +kernel
theorem dL_isGrouped_2 : decode cL_isGrouped 2 = .ok (.if_icmp .le 15, 3) := by decide +kernel
theorem dL_isGrouped_5 : decode cL_isGrouped 5 = .ok (.aload_n 0, 1) := by decide +kernel
theorem dL_isGrouped_6 : decode cL_isGrouped 6 = .ok (.iload_n 1, 1) := by decide +kernel
theorem dL_isGrouped_7 : decode cL_isGrouped 7 = .ok (.invokevirtual 90, 3) := by decide +kernel
theorem dL_isGrouped_10 : decode cL_isGrouped 10 = .ok (.ifCond .ne 7, 3) := by decide +kernel
theorem dL_isGrouped_13 : decode cL_isGrouped 13 = .ok (.iconst 1, 1) := by decide +kernel
theorem dL_isGrouped_14 : decode cL_isGrouped 14 = .ok (.goto 4, 3) := by decide +kernel
theorem dL_isGrouped_17 : decode cL_isGrouped 17 = .ok (.iconst 0, 1) := by decide +kernel
theorem dL_isGrouped_18 : decode cL_isGrouped 18 = .ok (.istore 4, 2) := by decide +kernel
theorem dL_isGrouped_20 : decode cL_isGrouped 20 = .ok (.aload_n 0, 1) := by decide +kernel
theorem dL_isGrouped_21 : decode cL_isGrouped 21 = .ok (.iload_n 2, 1) := by decide +kernel
theorem dL_isGrouped_22 : decode cL_isGrouped 22 = .ok (.invokevirtual 93, 3) := by decide +kernel
theorem dL_isGrouped_25 : decode cL_isGrouped 25 = .ok (.istore 5, 2) := by decide +kernel
theorem dL_isGrouped_27 : decode cL_isGrouped 27 = .ok (.iconst 0, 1) := by decide +kernel
theorem dL_isGrouped_28 : decode cL_isGrouped 28 = .ok (.istore 6, 2) := by decide +kernel
theorem dL_isGrouped_30 : decode cL_isGrouped 30 = .ok (.iconst 1, 1) := by decide +kernel
theorem dL_isGrouped_31 : decode cL_isGrouped 31 = .ok (.istore 7, 2) := by decide +kernel
theorem dL_isGrouped_33 : decode cL_isGrouped 33 = .ok (.iload 7, 2) := by decide +kernel
theorem dL_isGrouped_35 : decode cL_isGrouped 35 = .ok (.bipush 41, 2) := by decide +kernel
theorem dL_isGrouped_37 : decode cL_isGrouped 37 = .ok (.if_icmp .ge 51, 3) := by decide +kernel
theorem dL_isGrouped_40 : decode cL_isGrouped 40 = .ok (.iload 6, 2) := by decide +kernel
theorem dL_isGrouped_42 : decode cL_isGrouped 42 = .ok (.ifCond .ne 33, 3) := by decide +kernel
theorem dL_isGrouped_45 : decode cL_isGrouped 45 = .ok (.iload_n 3, 1) := by decide +kernel
theorem dL_isGrouped_46 : decode cL_isGrouped 46 = .ok (.bipush 41, 2) := by decide +kernel
theorem dL_isGrouped_48 : decode cL_isGrouped 48 = .ok (.if_icmp .ge 31, 3) := by decide +kernel
theorem dL_isGrouped_51 : decode cL_isGrouped 51 = .ok (.aload_n 0, 1) := by decide +kernel
theorem dL_isGrouped_52 : decode cL_isGrouped 52 = .ok (.iload 7, 2) := by decide +kernel
theorem dL_isGrouped_54 : decode cL_isGrouped 54 = .ok (.iload_n 3, 1) := by decide +kernel
theorem dL_isGrouped_55 : decode cL_isGrouped 55 = .ok (.invokestatic 96, 3) := by decide +kernel
theorem dL_isGrouped_58 : decode cL_isGrouped 58 = .ok (.ifCond .eq 21, 3) := by decide +kernel
theorem dL_isGrouped_61 : decode cL_isGrouped 61 = .ok (.aload_n 0, 1) := by decide +kernel
theorem dL_isGrouped_62 : decode cL_isGrouped 62 = .ok (.iload 7, 2) := by decide +kernel
theorem dL_isGrouped_64 : decode cL_isGrouped 64 = .ok (.invokevirtual 106, 3) := by decide +kernel
theorem dL_isGrouped_67 : decode cL_isGrouped 67 = .ok (.aload_n 0, 1) := by decide +kernel
theorem dL_isGrouped_68 : decode cL_isGrouped 68 = .ok (.iload_n 1, 1) := by decide +kernel
theorem dL_isGrouped_69 : decode cL_isGrouped 69 = .ok (.invokevirtual 106, 3) := by decide +kernel
theorem dL_isGrouped_72 : decode cL_isGrouped 72 = .ok (.if_icmp .ne 7, 3) := by decide +kernel
theorem dL_isGrouped_75 : decode cL_isGrouped 75 = .ok (.iconst 1, 1) := by decide +kernel
theorem dL_isGrouped_76 : decode cL_isGrouped 76 = .ok (.goto 4, 3) := by decide +kernel
theorem dL_isGrouped_79 : decode cL_isGrouped 79 = .ok (.iconst 0, 1) := by decide +kernel
theorem dL_isGrouped_80 : decode cL_isGrouped 80 = .ok (.istore 6, 2) := by decide +kernel
theorem dL_isGrouped_82 : decode cL_isGrouped 82 = .ok (.iinc 7 1, 3) := by decide +kernel
theorem dL_isGrouped_85 : decode cL_isGrouped 85 = .ok (.goto (-52), 3) := by decide +kernel
theorem dL_isGrouped_88 : decode cL_isGrouped 88 = .ok (.iload 4, 2) := by decide +kernel
theorem dL_isGrouped_90 : decode cL_isGrouped 90 = .ok (.ifCond .eq 62, 3) := by decide +kernel
theorem dL_isGrouped_93 : decode cL_isGrouped 93 = .ok (.iload_n 2, 1) := by decide +kernel
theorem dL_isGrouped_94 : decode cL_isGrouped 94 = .ok (.iload_n 1, 1) := by decide +kernel
theorem dL_isGrouped_95 : decode cL_isGrouped 95 = .ok (.if_icmp .eq 12, 3) := by decide +kernel
theorem dL_isGrouped_98 : decode cL_isGrouped 98 = .ok (.aload_n 0, 1) := by decide +kernel
theorem dL_isGrouped_99 : decode cL_isGrouped 99 = .ok (.iload_n 2, 1) := by decide +kernel
theorem dL_isGrouped_100 : decode cL_isGrouped 100 = .ok (.invokevirtual 100, 3) := by decide +kernel
theorem dL_isGrouped_103 : decode cL_isGrouped 103 = .ok (.iload_n 1, 1) := by decide +kernel
theorem dL_isGrouped_104 : decode cL_isGrouped 104 = .ok (.if_icmp .ne 48, 3) := by decide +kernel
theorem dL_isGrouped_107 : decode cL_isGrouped 107 = .ok (.aload_n 0, 1) := by decide +kernel
theorem dL_isGrouped_108 : decode cL_isGrouped 108 = .ok (.iload_n 2, 1) := by decide +kernel
theorem dL_isGrouped_109 : decode cL_isGrouped 109 = .ok (.invokevirtual 90, 3) := by decide +kernel
theorem dL_isGrouped_112 : decode cL_isGrouped 112 = .ok (.iconst 3, 1) := by decide +kernel
theorem dL_isGrouped_113 : decode cL_isGrouped 113 = .ok (.if_icmp .eq 39, 3) := by decide +kernel
theorem dL_isGrouped_116 : decode cL_isGrouped 116 = .ok (.aload_n 0, 1) := by decide +kernel
theorem dL_isGrouped_117 : decode cL_isGrouped 117 = .ok (.iload_n 2, 1) := by decide +kernel
theorem dL_isGrouped_118 : decode cL_isGrouped 118 = .ok (.invokevirtual 106, 3) := by decide +kernel
theorem dL_isGrouped_121 : decode cL_isGrouped 121 = .ok (.iload_n 2, 1) := by decide +kernel
theorem dL_isGrouped_122 : decode cL_isGrouped 122 = .ok (.if_icmp .eq 30, 3) := by decide +kernel
theorem dL_isGrouped_125 : decode cL_isGrouped 125 = .ok (.aload_n 0, 1) := by decide +kernel
theorem dL_isGrouped_126 : decode cL_isGrouped 126 = .ok (.iload_n 2, 1) := by decide +kernel
theorem dL_isGrouped_127 : decode cL_isGrouped 127 = .ok (.invokevirtual 106, 3) := by decide +kernel
theorem dL_isGrouped_130 : decode cL_isGrouped 130 = .ok (.aload_n 0, 1) := by decide +kernel
theorem dL_isGrouped_131 : decode cL_isGrouped 131 = .ok (.iload_n 1, 1) := by decide +kernel
theorem dL_isGrouped_132 : decode cL_isGrouped 132 = .ok (.invokevirtual 106, 3) := by decide +kernel
theorem dL_isGrouped_135 : decode cL_isGrouped 135 = .ok (.if_icmp .ne 17, 3) := by decide +kernel
theorem dL_isGrouped_138 : decode cL_isGrouped 138 = .ok (.iload_n 3, 1) := by decide +kernel
theorem dL_isGrouped_139 : decode cL_isGrouped 139 = .ok (.iload_n 2, 1) := by decide +kernel
theorem dL_isGrouped_140 : decode cL_isGrouped 140 = .ok (.if_icmp .eq 8, 3) := by decide +kernel
theorem dL_isGrouped_143 : decode cL_isGrouped 143 = .ok (.iload 6, 2) := by decide +kernel
theorem dL_isGrouped_145 : decode cL_isGrouped 145 = .ok (.ifCond .eq 7, 3) := by decide +kernel
theorem dL_isGrouped_148 : decode cL_isGrouped 148 = .ok (.iconst 1, 1) := by decide +kernel
theorem dL_isGrouped_149 : decode cL_isGrouped 149 = .ok (.goto 4, 3) := by decide +kernel
theorem dL_isGrouped_152 : decode cL_isGrouped 152 = .ok (.iconst 0, 1) := by decide +kernel
theorem dL_isGrouped_153 : decode cL_isGrouped 153 = .ok (.istore 7, 2) := by decide +kernel
theorem dL_isGrouped_155 : decode cL_isGrouped 155 = .ok (.aload_n 0, 1) := by decide +kernel
theorem dL_isGrouped_156 : decode cL_isGrouped 156 = .ok (.iload_n 1, 1) := by decide +kernel
theorem dL_isGrouped_157 : decode cL_isGrouped 157 = .ok (.iload_n 2, 1) := by decide +kernel
theorem dL_isGrouped_158 : decode cL_isGrouped 158 = .ok (.iload_n 3, 1) := by decide +kernel
theorem dL_isGrouped_159 : decode cL_isGrouped 159 = .ok (.invokestatic 160, 3) := by decide +kernel
theorem dL_isGrouped_162 : decode cL_isGrouped 162 = .ok (.istore 8, 2) := by decide +kernel
theorem dL_isGrouped_164 : decode cL_isGrouped 164 = .ok (.iload 8, 2) := by decide +kernel
theorem dL_isGrouped_166 : decode cL_isGrouped 166 = .ok (.iload_n 3, 1) := by decide +kernel
theorem dL_isGrouped_167 : decode cL_isGrouped 167 = .ok (.bipush 40, 2) := by decide +kernel
theorem dL_isGrouped_169 : decode cL_isGrouped 169 = .ok (.if_icmp .le 8, 3) := by decide +kernel
theorem dL_isGrouped_172 : decode cL_isGrouped 172 = .ok (.bipush (-20), 2) := by decide +kernel
theorem dL_isGrouped_174 : decode cL_isGrouped 174 = .ok (.goto 15, 3) := by decide +kernel
theorem dL_isGrouped_177 : decode cL_isGrouped 177 = .ok (.iload 7, 2) := by decide +kernel
theorem dL_isGrouped_179 : decode cL_isGrouped 179 = .ok (.ifCond .eq 8, 3) := by decide +kernel
theorem dL_isGrouped_182 : decode cL_isGrouped 182 = .ok (.iload 5, 2) := by decide +kernel
theorem dL_isGrouped_184 : decode cL_isGrouped 184 = .ok (.goto 5, 3) := by decide +kernel
theorem dL_isGrouped_187 : decode cL_isGrouped 187 = .ok (.bipush (-10), 2) := by decide +kernel
theorem dL_isGrouped_189 : decode cL_isGrouped 189 = .ok (.if_icmp .ne 32, 3) := by decide +kernel
theorem dL_isGrouped_192 : decode cL_isGrouped 192 = .ok (.aload_n 0, 1) := by decide +kernel
theorem dL_isGrouped_193 : decode cL_isGrouped 193 = .ok (.iload_n 2, 1) := by decide +kernel
theorem dL_isGrouped_194 : decode cL_isGrouped 194 = .ok (.invokevirtual 93, 3) := by decide +kernel
theorem dL_isGrouped_197 : decode cL_isGrouped 197 = .ok (.iload_n 3, 1) := by decide +kernel
theorem dL_isGrouped_198 : decode cL_isGrouped 198 = .ok (.bipush 41, 2) := by decide +kernel
theorem dL_isGrouped_200 : decode cL_isGrouped 200 = .ok (.if_icmp .ge 12, 3) := by decide +kernel
theorem dL_isGrouped_203 : decode cL_isGrouped 203 = .ok (.iload 7, 2) := by decide +kernel
theorem dL_isGrouped_205 : decode cL_isGrouped 205 = .ok (.ifCond .eq 7, 3) := by decide +kernel
theorem dL_isGrouped_208 : decode cL_isGrouped 208 = .ok (.iload_n 3, 1) := by decide +kernel
theorem dL_isGrouped_209 : decode cL_isGrouped 209 = .ok (.goto 5, 3) := by decide +kernel
theorem dL_isGrouped_212 : decode cL_isGrouped 212 = .ok (.iload 5, 2) := by decide +kernel
theorem dL_isGrouped_214 : decode cL_isGrouped 214 = .ok (.if_icmp .ne 7, 3) := by decide +kernel
theorem dL_isGrouped_217 : decode cL_isGrouped 217 = .ok (.iconst 1, 1) := by decide +kernel
theorem dL_isGrouped_218 : decode cL_isGrouped 218 = .ok (.goto 4, 3) := by decide +kernel
theorem dL_isGrouped_221 : decode cL_isGrouped 221 = .ok (.iconst 0, 1) := by decide +kernel
theorem dL_isGrouped_222 : decode cL_isGrouped 222 = .ok (.ireturn, 1) := by decide +kernel
theorem dL_isBegun_0 : decode cL_isBegun 0 = .ok (.iload_n 1, 1) := by decide +kernel
theorem dL_isBegun_1 : decode cL_isBegun 1 = .ok (.iconst 1, 1) := by decide +kernel
theorem dL_isBegun_2 : decode cL_isBegun 2 = .ok (.if_icmp .le 15, 3) := by decide +kernel
theorem dL_isBegun_5 : decode cL_isBegun 5 = .ok (.aload_n 0, 1) := by decide +kernel
theorem dL_isBegun_6 : decode cL_isBegun 6 = .ok (.iload_n 1, 1) := by decide +kernel
theorem dL_isBegun_7 : decode cL_isBegun 7 = .ok (.invokevirtual 90, 3) := by decide +kernel
theorem dL_isBegun_10 : decode cL_isBegun 10 = .ok (.ifCond .ne 7, 3) := by decide +kernel
theorem dL_isBegun_13 : decode cL_isBegun 13 = .ok (.iconst 1, 1) := by decide +kernel
theorem dL_isBegun_14 : decode cL_isBegun 14 = .ok (.goto 4, 3) := by decide +kernel
theorem dL_isBegun_17 : decode cL_isBegun 17 = .ok (.iconst 0, 1) := by decide +kernel
theorem dL_isBegun_18 : decode cL_isBegun 18 = .ok (.istore_n 2, 1) := by decide +kernel
theorem dL_isBegun_19 : decode cL_isBegun 19 = .ok (.iconst 1, 1) := by decide +kernel
theorem dL_isBegun_20 : decode cL_isBegun 20 = .ok (.istore_n 3, 1) := by decide +kernel
theorem dL_isBegun_21 : decode cL_isBegun 21 = .ok (.iload_n 3, 1) := by decide +kernel
theorem dL_isBegun_22 : decode cL_isBegun 22 = .ok (.bipush 41, 2) := by decide +kernel
