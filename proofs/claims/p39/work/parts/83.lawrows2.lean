theorem dL_isJoin_0 : decode cL_isJoin 0 = .ok (.aload_n 0, 1) := by decide +kernel
theorem dL_isJoin_1 : decode cL_isJoin 1 = .ok (.aload_n 2, 1) := by decide +kernel
theorem dL_isJoin_2 : decode cL_isJoin 2 = .ok (.iload 5, 2) := by decide +kernel
theorem dL_isJoin_4 : decode cL_isJoin 4 = .ok (.iaload, 1) := by decide +kernel
theorem dL_isJoin_5 : decode cL_isJoin 5 = .ok (.invokevirtual 64, 3) := by decide +kernel
theorem dL_isJoin_8 : decode cL_isJoin 8 = .ok (.aload 4, 2) := by decide +kernel
theorem dL_isJoin_10 : decode cL_isJoin 10 = .ok (.iconst 1, 1) := by decide +kernel
theorem dL_isJoin_11 : decode cL_isJoin 11 = .ok (.iaload, 1) := by decide +kernel
theorem dL_isJoin_12 : decode cL_isJoin 12 = .ok (.if_icmp .gt 7, 3) := by decide +kernel
theorem dL_isJoin_15 : decode cL_isJoin 15 = .ok (.iconst 1, 1) := by decide +kernel
theorem dL_isJoin_16 : decode cL_isJoin 16 = .ok (.goto 4, 3) := by decide +kernel
theorem dL_isJoin_19 : decode cL_isJoin 19 = .ok (.iconst 0, 1) := by decide +kernel
theorem dL_isJoin_20 : decode cL_isJoin 20 = .ok (.istore 6, 2) := by decide +kernel
theorem dL_isJoin_22 : decode cL_isJoin 22 = .ok (.aload_n 0, 1) := by decide +kernel
theorem dL_isJoin_23 : decode cL_isJoin 23 = .ok (.iload 5, 2) := by decide +kernel
theorem dL_isJoin_25 : decode cL_isJoin 25 = .ok (.invokestatic 119, 3) := by decide +kernel
theorem dL_isJoin_28 : decode cL_isJoin 28 = .ok (.iload 6, 2) := by decide +kernel
theorem dL_isJoin_30 : decode cL_isJoin 30 = .ok (.ifCond .eq 7, 3) := by decide +kernel
theorem dL_isJoin_33 : decode cL_isJoin 33 = .ok (.iconst 1, 1) := by decide +kernel
theorem dL_isJoin_34 : decode cL_isJoin 34 = .ok (.goto 4, 3) := by decide +kernel
theorem dL_isJoin_37 : decode cL_isJoin 37 = .ok (.iconst 0, 1) := by decide +kernel
theorem dL_isJoin_38 : decode cL_isJoin 38 = .ok (.if_icmp .ne 36, 3) := by decide +kernel
theorem dL_isJoin_41 : decode cL_isJoin 41 = .ok (.aload_n 0, 1) := by decide +kernel
theorem dL_isJoin_42 : decode cL_isJoin 42 = .ok (.iload 5, 2) := by decide +kernel
theorem dL_isJoin_44 : decode cL_isJoin 44 = .ok (.invokevirtual 58, 3) := by decide +kernel
theorem dL_isJoin_47 : decode cL_isJoin 47 = .ok (.iload 6, 2) := by decide +kernel
theorem dL_isJoin_49 : decode cL_isJoin 49 = .ok (.ifCond .eq 14, 3) := by decide +kernel
theorem dL_isJoin_52 : decode cL_isJoin 52 = .ok (.aload_n 0, 1) := by decide +kernel
theorem dL_isJoin_53 : decode cL_isJoin 53 = .ok (.aload_n 1, 1) := by decide +kernel
theorem dL_isJoin_54 : decode cL_isJoin 54 = .ok (.iload 5, 2) := by decide +kernel
theorem dL_isJoin_56 : decode cL_isJoin 56 = .ok (.iaload, 1) := by decide +kernel
theorem dL_isJoin_57 : decode cL_isJoin 57 = .ok (.invokevirtual 58, 3) := by decide +kernel
theorem dL_isJoin_60 : decode cL_isJoin 60 = .ok (.goto 7, 3) := by decide +kernel
theorem dL_isJoin_63 : decode cL_isJoin 63 = .ok (.aload_n 3, 1) := by decide +kernel
theorem dL_isJoin_64 : decode cL_isJoin 64 = .ok (.iload 5, 2) := by decide +kernel
theorem dL_isJoin_66 : decode cL_isJoin 66 = .ok (.iaload, 1) := by decide +kernel
theorem dL_isJoin_67 : decode cL_isJoin 67 = .ok (.if_icmp .ne 7, 3) := by decide +kernel
theorem dL_isJoin_70 : decode cL_isJoin 70 = .ok (.iconst 1, 1) := by decide +kernel
theorem dL_isJoin_71 : decode cL_isJoin 71 = .ok (.goto 4, 3) := by decide +kernel
theorem dL_isJoin_74 : decode cL_isJoin 74 = .ok (.iconst 0, 1) := by decide +kernel
theorem dL_isJoin_75 : decode cL_isJoin 75 = .ok (.istore 7, 2) := by decide +kernel
theorem dL_isJoin_77 : decode cL_isJoin 77 = .ok (.iconst 0, 1) := by decide +kernel
theorem dL_isJoin_78 : decode cL_isJoin 78 = .ok (.istore 8, 2) := by decide +kernel
theorem dL_isJoin_80 : decode cL_isJoin 80 = .ok (.iconst 0, 1) := by decide +kernel
theorem dL_isJoin_81 : decode cL_isJoin 81 = .ok (.istore 9, 2) := by decide +kernel
theorem dL_isJoin_83 : decode cL_isJoin 83 = .ok (.iconst 0, 1) := by decide +kernel
theorem dL_isJoin_84 : decode cL_isJoin 84 = .ok (.istore 10, 2) := by decide +kernel
theorem dL_isJoin_86 : decode cL_isJoin 86 = .ok (.iload 10, 2) := by decide +kernel
theorem dL_isJoin_88 : decode cL_isJoin 88 = .ok (.aload_n 0, 1) := by decide +kernel
theorem dL_isJoin_89 : decode cL_isJoin 89 = .ok (.aload_n 1, 1) := by decide +kernel
theorem dL_isJoin_90 : decode cL_isJoin 90 = .ok (.iload 5, 2) := by decide +kernel
theorem dL_isJoin_92 : decode cL_isJoin 92 = .ok (.iaload, 1) := by decide +kernel
theorem dL_isJoin_93 : decode cL_isJoin 93 = .ok (.invokevirtual 58, 3) := by decide +kernel
theorem dL_isJoin_96 : decode cL_isJoin 96 = .ok (.if_icmp .ge 145, 3) := by decide +kernel
theorem dL_isJoin_99 : decode cL_isJoin 99 = .ok (.iconst 0, 1) := by decide +kernel
theorem dL_isJoin_100 : decode cL_isJoin 100 = .ok (.istore 11, 2) := by decide +kernel
theorem dL_isJoin_102 : decode cL_isJoin 102 = .ok (.iconst 0, 1) := by decide +kernel
theorem dL_isJoin_103 : decode cL_isJoin 103 = .ok (.istore 12, 2) := by decide +kernel
theorem dL_isJoin_105 : decode cL_isJoin 105 = .ok (.iload 12, 2) := by decide +kernel
theorem dL_isJoin_107 : decode cL_isJoin 107 = .ok (.aload_n 0, 1) := by decide +kernel
theorem dL_isJoin_108 : decode cL_isJoin 108 = .ok (.aload_n 1, 1) := by decide +kernel
theorem dL_isJoin_109 : decode cL_isJoin 109 = .ok (.iload 5, 2) := by decide +kernel
theorem dL_isJoin_111 : decode cL_isJoin 111 = .ok (.iaload, 1) := by decide +kernel
theorem dL_isJoin_112 : decode cL_isJoin 112 = .ok (.iload 10, 2) := by decide +kernel
theorem dL_isJoin_114 : decode cL_isJoin 114 = .ok (.invokevirtual 61, 3) := by decide +kernel
theorem dL_isJoin_117 : decode cL_isJoin 117 = .ok (.if_icmp .ge 81, 3) := by decide +kernel
theorem dL_isJoin_120 : decode cL_isJoin 120 = .ok (.aload_n 0, 1) := by decide +kernel
theorem dL_isJoin_121 : decode cL_isJoin 121 = .ok (.aload_n 2, 1) := by decide +kernel
theorem dL_isJoin_122 : decode cL_isJoin 122 = .ok (.iload 5, 2) := by decide +kernel
theorem dL_isJoin_124 : decode cL_isJoin 124 = .ok (.iaload, 1) := by decide +kernel
theorem dL_isJoin_125 : decode cL_isJoin 125 = .ok (.aload_n 0, 1) := by decide +kernel
theorem dL_isJoin_126 : decode cL_isJoin 126 = .ok (.aload_n 1, 1) := by decide +kernel
theorem dL_isJoin_127 : decode cL_isJoin 127 = .ok (.iload 5, 2) := by decide +kernel
theorem dL_isJoin_129 : decode cL_isJoin 129 = .ok (.iaload, 1) := by decide +kernel
theorem dL_isJoin_130 : decode cL_isJoin 130 = .ok (.iload 10, 2) := by decide +kernel
theorem dL_isJoin_132 : decode cL_isJoin 132 = .ok (.iload 12, 2) := by decide +kernel
theorem dL_isJoin_134 : decode cL_isJoin 134 = .ok (.invokevirtual 67, 3) := by decide +kernel
theorem dL_isJoin_137 : decode cL_isJoin 137 = .ok (.iconst 3, 1) := by decide +kernel
theorem dL_isJoin_138 : decode cL_isJoin 138 = .ok (.invokestatic 115, 3) := by decide +kernel
theorem dL_isJoin_141 : decode cL_isJoin 141 = .ok (.istore 13, 2) := by decide +kernel
theorem dL_isJoin_143 : decode cL_isJoin 143 = .ok (.iload 11, 2) := by decide +kernel
theorem dL_isJoin_145 : decode cL_isJoin 145 = .ok (.iload 13, 2) := by decide +kernel
theorem dL_isJoin_147 : decode cL_isJoin 147 = .ok (.iadd, 1) := by decide +kernel
theorem dL_isJoin_148 : decode cL_isJoin 148 = .ok (.istore 11, 2) := by decide +kernel
theorem dL_isJoin_150 : decode cL_isJoin 150 = .ok (.iload 9, 2) := by decide +kernel
theorem dL_isJoin_152 : decode cL_isJoin 152 = .ok (.iload 13, 2) := by decide +kernel
theorem dL_isJoin_154 : decode cL_isJoin 154 = .ok (.aload_n 0, 1) := by decide +kernel
theorem dL_isJoin_155 : decode cL_isJoin 155 = .ok (.aload_n 1, 1) := by decide +kernel
theorem dL_isJoin_156 : decode cL_isJoin 156 = .ok (.iload 5, 2) := by decide +kernel
theorem dL_isJoin_158 : decode cL_isJoin 158 = .ok (.iaload, 1) := by decide +kernel
theorem dL_isJoin_159 : decode cL_isJoin 159 = .ok (.iload 10, 2) := by decide +kernel
theorem dL_isJoin_161 : decode cL_isJoin 161 = .ok (.iload 12, 2) := by decide +kernel
theorem dL_isJoin_163 : decode cL_isJoin 163 = .ok (.invokevirtual 70, 3) := by decide +kernel
theorem dL_isJoin_166 : decode cL_isJoin 166 = .ok (.imul, 1) := by decide +kernel
theorem dL_isJoin_167 : decode cL_isJoin 167 = .ok (.aload_n 0, 1) := by decide +kernel
theorem dL_isJoin_168 : decode cL_isJoin 168 = .ok (.aload_n 2, 1) := by decide +kernel
theorem dL_isJoin_169 : decode cL_isJoin 169 = .ok (.iload 5, 2) := by decide +kernel
theorem dL_isJoin_171 : decode cL_isJoin 171 = .ok (.iaload, 1) := by decide +kernel
theorem dL_isJoin_172 : decode cL_isJoin 172 = .ok (.aload_n 0, 1) := by decide +kernel
theorem dL_isJoin_173 : decode cL_isJoin 173 = .ok (.aload_n 1, 1) := by decide +kernel
theorem dL_isJoin_174 : decode cL_isJoin 174 = .ok (.iload 5, 2) := by decide +kernel
theorem dL_isJoin_176 : decode cL_isJoin 176 = .ok (.iaload, 1) := by decide +kernel
theorem dL_isJoin_177 : decode cL_isJoin 177 = .ok (.iload 10, 2) := by decide +kernel
theorem dL_isJoin_179 : decode cL_isJoin 179 = .ok (.iload 12, 2) := by decide +kernel
theorem dL_isJoin_181 : decode cL_isJoin 181 = .ok (.invokevirtual 67, 3) := by decide +kernel
theorem dL_isJoin_184 : decode cL_isJoin 184 = .ok (.iconst 0, 1) := by decide +kernel
theorem dL_isJoin_185 : decode cL_isJoin 185 = .ok (.invokestatic 115, 3) := by decide +kernel
theorem dL_isJoin_188 : decode cL_isJoin 188 = .ok (.iadd, 1) := by decide +kernel
theorem dL_isJoin_189 : decode cL_isJoin 189 = .ok (.iadd, 1) := by decide +kernel
theorem dL_isJoin_190 : decode cL_isJoin 190 = .ok (.istore 9, 2) := by decide +kernel
theorem dL_isJoin_192 : decode cL_isJoin 192 = .ok (.iinc 12 1, 3) := by decide +kernel
theorem dL_isJoin_195 : decode cL_isJoin 195 = .ok (.goto (-90), 3) := by decide +kernel
theorem dL_isJoin_198 : decode cL_isJoin 198 = .ok (.iload 7, 2) := by decide +kernel
theorem dL_isJoin_200 : decode cL_isJoin 200 = .ok (.ifCond .eq 25, 3) := by decide +kernel
theorem dL_isJoin_203 : decode cL_isJoin 203 = .ok (.iload 6, 2) := by decide +kernel
theorem dL_isJoin_205 : decode cL_isJoin 205 = .ok (.ifCond .eq 16, 3) := by decide +kernel
theorem dL_isJoin_208 : decode cL_isJoin 208 = .ok (.aload_n 0, 1) := by decide +kernel
theorem dL_isJoin_209 : decode cL_isJoin 209 = .ok (.iload 5, 2) := by decide +kernel
theorem dL_isJoin_211 : decode cL_isJoin 211 = .ok (.iload 10, 2) := by decide +kernel
theorem dL_isJoin_213 : decode cL_isJoin 213 = .ok (.invokevirtual 61, 3) := by decide +kernel
theorem dL_isJoin_216 : decode cL_isJoin 216 = .ok (.iload 11, 2) := by decide +kernel
theorem dL_isJoin_218 : decode cL_isJoin 218 = .ok (.if_icmp .ne 7, 3) := by decide +kernel
theorem dL_isJoin_221 : decode cL_isJoin 221 = .ok (.iconst 1, 1) := by decide +kernel
theorem dL_isJoin_222 : decode cL_isJoin 222 = .ok (.goto 4, 3) := by decide +kernel
theorem dL_isJoin_225 : decode cL_isJoin 225 = .ok (.iconst 0, 1) := by decide +kernel
theorem dL_isJoin_226 : decode cL_isJoin 226 = .ok (.istore 7, 2) := by decide +kernel
theorem dL_isJoin_228 : decode cL_isJoin 228 = .ok (.iload 8, 2) := by decide +kernel
theorem dL_isJoin_230 : decode cL_isJoin 230 = .ok (.iload 11, 2) := by decide +kernel
theorem dL_isJoin_232 : decode cL_isJoin 232 = .ok (.iadd, 1) := by decide +kernel
theorem dL_isJoin_233 : decode cL_isJoin 233 = .ok (.istore 8, 2) := by decide +kernel
theorem dL_isJoin_235 : decode cL_isJoin 235 = .ok (.iinc 10 1, 3) := by decide +kernel
theorem dL_isJoin_238 : decode cL_isJoin 238 = .ok (.goto (-152), 3) := by decide +kernel
theorem dL_isJoin_241 : decode cL_isJoin 241 = .ok (.iconst 0, 1) := by decide +kernel
theorem dL_isJoin_242 : decode cL_isJoin 242 = .ok (.istore 10, 2) := by decide +kernel
theorem dL_isJoin_244 : decode cL_isJoin 244 = .ok (.iload 10, 2) := by decide +kernel
theorem dL_isJoin_246 : decode cL_isJoin 246 = .ok (.aload_n 0, 1) := by decide +kernel
theorem dL_isJoin_247 : decode cL_isJoin 247 = .ok (.iload 5, 2) := by decide +kernel
theorem dL_isJoin_249 : decode cL_isJoin 249 = .ok (.invokevirtual 58, 3) := by decide +kernel
theorem dL_isJoin_252 : decode cL_isJoin 252 = .ok (.if_icmp .ge 120, 3) := by decide +kernel
theorem dL_isJoin_255 : decode cL_isJoin 255 = .ok (.iload 7, 2) := by decide +kernel
theorem dL_isJoin_257 : decode cL_isJoin 257 = .ok (.ifCond .eq 115, 3) := by decide +kernel
theorem dL_isJoin_260 : decode cL_isJoin 260 = .ok (.iconst 0, 1) := by decide +kernel
theorem dL_isJoin_261 : decode cL_isJoin 261 = .ok (.istore 11, 2) := by decide +kernel
theorem dL_isJoin_263 : decode cL_isJoin 263 = .ok (.iload 11, 2) := by decide +kernel
theorem dL_isJoin_265 : decode cL_isJoin 265 = .ok (.aload_n 0, 1) := by decide +kernel
theorem dL_isJoin_266 : decode cL_isJoin 266 = .ok (.iload 5, 2) := by decide +kernel
theorem dL_isJoin_268 : decode cL_isJoin 268 = .ok (.iload 10, 2) := by decide +kernel
theorem dL_isJoin_270 : decode cL_isJoin 270 = .ok (.invokevirtual 61, 3) := by decide +kernel
theorem dL_isJoin_273 : decode cL_isJoin 273 = .ok (.if_icmp .ge 93, 3) := by decide +kernel
theorem dL_isJoin_276 : decode cL_isJoin 276 = .ok (.iload 7, 2) := by decide +kernel
theorem dL_isJoin_278 : decode cL_isJoin 278 = .ok (.ifCond .eq 88, 3) := by decide +kernel
theorem dL_isJoin_281 : decode cL_isJoin 281 = .ok (.iload 9, 2) := by decide +kernel
theorem dL_isJoin_283 : decode cL_isJoin 283 = .ok (.aload_n 0, 1) := by decide +kernel
theorem dL_isJoin_284 : decode cL_isJoin 284 = .ok (.iload 5, 2) := by decide +kernel
theorem dL_isJoin_286 : decode cL_isJoin 286 = .ok (.iload 10, 2) := by decide +kernel
theorem dL_isJoin_288 : decode cL_isJoin 288 = .ok (.iload 11, 2) := by decide +kernel
theorem dL_isJoin_290 : decode cL_isJoin 290 = .ok (.invokevirtual 70, 3) := by decide +kernel
theorem dL_isJoin_293 : decode cL_isJoin 293 = .ok (.isub, 1) := by decide +kernel
theorem dL_isJoin_294 : decode cL_isJoin 294 = .ok (.istore 9, 2) := by decide +kernel
theorem dL_isJoin_296 : decode cL_isJoin 296 = .ok (.iload 6, 2) := by decide +kernel
theorem dL_isJoin_298 : decode cL_isJoin 298 = .ok (.ifCond .ne 55, 3) := by decide +kernel
theorem dL_isJoin_301 : decode cL_isJoin 301 = .ok (.aload_n 0, 1) := by decide +kernel
theorem dL_isJoin_302 : decode cL_isJoin 302 = .ok (.iload 5, 2) := by decide +kernel
theorem dL_isJoin_304 : decode cL_isJoin 304 = .ok (.iload 10, 2) := by decide +kernel
theorem dL_isJoin_306 : decode cL_isJoin 306 = .ok (.iload 11, 2) := by decide +kernel
theorem dL_isJoin_308 : decode cL_isJoin 308 = .ok (.invokevirtual 67, 3) := by decide +kernel
theorem dL_isJoin_311 : decode cL_isJoin 311 = .ok (.aload_n 3, 1) := by decide +kernel
theorem dL_isJoin_312 : decode cL_isJoin 312 = .ok (.iload 5, 2) := by decide +kernel
theorem dL_isJoin_314 : decode cL_isJoin 314 = .ok (.iaload, 1) := by decide +kernel
theorem dL_isJoin_315 : decode cL_isJoin 315 = .ok (.invokestatic 112, 3) := by decide +kernel
theorem dL_isJoin_318 : decode cL_isJoin 318 = .ok (.iload 10, 2) := by decide +kernel
theorem dL_isJoin_320 : decode cL_isJoin 320 = .ok (.if_icmp .ne 37, 3) := by decide +kernel
theorem dL_isJoin_323 : decode cL_isJoin 323 = .ok (.iload 11, 2) := by decide +kernel
theorem dL_isJoin_325 : decode cL_isJoin 325 = .ok (.ifCond .eq 28, 3) := by decide +kernel
theorem dL_isJoin_328 : decode cL_isJoin 328 = .ok (.aload_n 0, 1) := by decide +kernel
theorem dL_isJoin_329 : decode cL_isJoin 329 = .ok (.iload 5, 2) := by decide +kernel
theorem dL_isJoin_331 : decode cL_isJoin 331 = .ok (.iload 10, 2) := by decide +kernel
theorem dL_isJoin_333 : decode cL_isJoin 333 = .ok (.iload 11, 2) := by decide +kernel
theorem dL_isJoin_335 : decode cL_isJoin 335 = .ok (.iconst 1, 1) := by decide +kernel
theorem dL_isJoin_336 : decode cL_isJoin 336 = .ok (.isub, 1) := by decide +kernel
theorem dL_isJoin_337 : decode cL_isJoin 337 = .ok (.invokevirtual 67, 3) := by decide +kernel
theorem dL_isJoin_340 : decode cL_isJoin 340 = .ok (.aload_n 0, 1) := by decide +kernel
theorem dL_isJoin_341 : decode cL_isJoin 341 = .ok (.iload 5, 2) := by decide +kernel
theorem dL_isJoin_343 : decode cL_isJoin 343 = .ok (.iload 10, 2) := by decide +kernel
theorem dL_isJoin_345 : decode cL_isJoin 345 = .ok (.iload 11, 2) := by decide +kernel
theorem dL_isJoin_347 : decode cL_isJoin 347 = .ok (.invokevirtual 67, 3) := by decide +kernel
theorem dL_isJoin_350 : decode cL_isJoin 350 = .ok (.if_icmp .gt 7, 3) := by decide +kernel
theorem dL_isJoin_353 : decode cL_isJoin 353 = .ok (.iconst 1, 1) := by decide +kernel
theorem dL_isJoin_354 : decode cL_isJoin 354 = .ok (.goto 4, 3) := by decide +kernel
theorem dL_isJoin_357 : decode cL_isJoin 357 = .ok (.iconst 0, 1) := by decide +kernel
theorem dL_isJoin_358 : decode cL_isJoin 358 = .ok (.istore 7, 2) := by decide +kernel
theorem dL_isJoin_360 : decode cL_isJoin 360 = .ok (.iinc 11 1, 3) := by decide +kernel
theorem dL_isJoin_363 : decode cL_isJoin 363 = .ok (.goto (-100), 3) := by decide +kernel
theorem dL_isJoin_366 : decode cL_isJoin 366 = .ok (.iinc 10 1, 3) := by decide +kernel
theorem dL_isJoin_369 : decode cL_isJoin 369 = .ok (.goto (-125), 3) := by decide +kernel
theorem dL_isJoin_372 : decode cL_isJoin 372 = .ok (.iload 7, 2) := by decide +kernel
theorem dL_isJoin_374 : decode cL_isJoin 374 = .ok (.ifCond .eq 23, 3) := by decide +kernel
theorem dL_isJoin_377 : decode cL_isJoin 377 = .ok (.aload_n 0, 1) := by decide +kernel
theorem dL_isJoin_378 : decode cL_isJoin 378 = .ok (.iload 5, 2) := by decide +kernel
theorem dL_isJoin_380 : decode cL_isJoin 380 = .ok (.invokevirtual 64, 3) := by decide +kernel
theorem dL_isJoin_383 : decode cL_isJoin 383 = .ok (.iload 8, 2) := by decide +kernel
theorem dL_isJoin_385 : decode cL_isJoin 385 = .ok (.if_icmp .ne 12, 3) := by decide +kernel
theorem dL_isJoin_388 : decode cL_isJoin 388 = .ok (.iload 9, 2) := by decide +kernel
theorem dL_isJoin_390 : decode cL_isJoin 390 = .ok (.ifCond .ne 7, 3) := by decide +kernel
theorem dL_isJoin_393 : decode cL_isJoin 393 = .ok (.iconst 1, 1) := by decide +kernel
theorem dL_isJoin_394 : decode cL_isJoin 394 = .ok (.goto 4, 3) := by decide +kernel
theorem dL_isJoin_397 : decode cL_isJoin 397 = .ok (.iconst 0, 1) := by decide +kernel
theorem dL_isJoin_398 : decode cL_isJoin 398 = .ok (.ireturn, 1) := by decide +kernel
theorem dL_isNode_0 : decode cL_isNode 0 = .ok (.iconst 0, 1) := by decide +kernel
theorem dL_isNode_1 : decode cL_isNode 1 = .ok (.istore 9, 2) := by decide +kernel
theorem dL_isNode_3 : decode cL_isNode 3 = .ok (.iconst 0, 1) := by decide +kernel
theorem dL_isNode_4 : decode cL_isNode 4 = .ok (.istore 10, 2) := by decide +kernel
theorem dL_isNode_6 : decode cL_isNode 6 = .ok (.aload_n 0, 1) := by decide +kernel
theorem dL_isNode_7 : decode cL_isNode 7 = .ok (.iload 8, 2) := by decide +kernel
theorem dL_isNode_9 : decode cL_isNode 9 = .ok (.invokevirtual 58, 3) := by decide +kernel
theorem dL_isNode_12 : decode cL_isNode 12 = .ok (.istore 11, 2) := by decide +kernel
theorem dL_isNode_14 : decode cL_isNode 14 = .ok (.iload 11, 2) := by decide +kernel
theorem dL_isNode_16 : decode cL_isNode 16 = .ok (.ifCond .le 50, 3) := by decide +kernel
theorem dL_isNode_19 : decode cL_isNode 19 = .ok (.iload 11, 2) := by decide +kernel
theorem dL_isNode_21 : decode cL_isNode 21 = .ok (.aload 6, 2) := by decide +kernel
theorem dL_isNode_23 : decode cL_isNode 23 = .ok (.iload 8, 2) := by decide +kernel
theorem dL_isNode_25 : decode cL_isNode 25 = .ok (.iaload, 1) := by decide +kernel
theorem dL_isNode_26 : decode cL_isNode 26 = .ok (.if_icmp .gt 40, 3) := by decide +kernel
theorem dL_isNode_29 : decode cL_isNode 29 = .ok (.aload_n 0, 1) := by decide +kernel
theorem dL_isNode_30 : decode cL_isNode 30 = .ok (.iload 8, 2) := by decide +kernel
theorem dL_isNode_32 : decode cL_isNode 32 = .ok (.invokevirtual 64, 3) := by decide +kernel
theorem dL_isNode_35 : decode cL_isNode 35 = .ok (.aload 5, 2) := by decide +kernel
theorem dL_isNode_37 : decode cL_isNode 37 = .ok (.iload 8, 2) := by decide +kernel
theorem dL_isNode_39 : decode cL_isNode 39 = .ok (.iaload, 1) := by decide +kernel
theorem dL_isNode_40 : decode cL_isNode 40 = .ok (.if_icmp .gt 26, 3) := by decide +kernel
theorem dL_isNode_43 : decode cL_isNode 43 = .ok (.aload_n 1, 1) := by decide +kernel
theorem dL_isNode_44 : decode cL_isNode 44 = .ok (.iload 8, 2) := by decide +kernel
theorem dL_isNode_46 : decode cL_isNode 46 = .ok (.iaload, 1) := by decide +kernel
theorem dL_isNode_47 : decode cL_isNode 47 = .ok (.iconst 5, 1) := by decide +kernel
theorem dL_isNode_48 : decode cL_isNode 48 = .ok (.if_icmp .eq 14, 3) := by decide +kernel
theorem dL_isNode_51 : decode cL_isNode 51 = .ok (.aload_n 0, 1) := by decide +kernel
theorem dL_isNode_52 : decode cL_isNode 52 = .ok (.iload 8, 2) := by decide +kernel
theorem dL_isNode_54 : decode cL_isNode 54 = .ok (.invokestatic 119, 3) := by decide +kernel
theorem dL_isNode_57 : decode cL_isNode 57 = .ok (.bipush (-10), 2) := by decide +kernel
theorem dL_isNode_59 : decode cL_isNode 59 = .ok (.if_icmp .ne 7, 3) := by decide +kernel
theorem dL_isNode_62 : decode cL_isNode 62 = .ok (.iconst 1, 1) := by decide +kernel
theorem dL_isNode_63 : decode cL_isNode 63 = .ok (.goto 4, 3) := by decide +kernel
theorem dL_isNode_66 : decode cL_isNode 66 = .ok (.iconst 0, 1) := by decide +kernel
theorem dL_isNode_67 : decode cL_isNode 67 = .ok (.istore 12, 2) := by decide +kernel
theorem dL_isNode_69 : decode cL_isNode 69 = .ok (.iconst 0, 1) := by decide +kernel
theorem dL_isNode_70 : decode cL_isNode 70 = .ok (.istore 13, 2) := by decide +kernel
theorem dL_isNode_72 : decode cL_isNode 72 = .ok (.iload 13, 2) := by decide +kernel
theorem dL_isNode_74 : decode cL_isNode 74 = .ok (.iload 11, 2) := by decide +kernel
theorem dL_isNode_76 : decode cL_isNode 76 = .ok (.if_icmp .ge 121, 3) := by decide +kernel
theorem dL_isNode_79 : decode cL_isNode 79 = .ok (.iload 12, 2) := by decide +kernel
theorem dL_isNode_81 : decode cL_isNode 81 = .ok (.ifCond .eq 116, 3) := by decide +kernel
theorem dL_isNode_84 : decode cL_isNode 84 = .ok (.aload_n 0, 1) := by decide +kernel
theorem dL_isNode_85 : decode cL_isNode 85 = .ok (.iload 8, 2) := by decide +kernel
theorem dL_isNode_87 : decode cL_isNode 87 = .ok (.iload 13, 2) := by decide +kernel
theorem dL_isNode_89 : decode cL_isNode 89 = .ok (.invokevirtual 61, 3) := by decide +kernel
theorem dL_isNode_92 : decode cL_isNode 92 = .ok (.istore 14, 2) := by decide +kernel
theorem dL_isNode_94 : decode cL_isNode 94 = .ok (.iload 9, 2) := by decide +kernel
theorem dL_isNode_96 : decode cL_isNode 96 = .ok (.iload 14, 2) := by decide +kernel
theorem dL_isNode_98 : decode cL_isNode 98 = .ok (.iadd, 1) := by decide +kernel
theorem dL_isNode_99 : decode cL_isNode 99 = .ok (.istore 9, 2) := by decide +kernel
theorem dL_isNode_101 : decode cL_isNode 101 = .ok (.iconst 0, 1) := by decide +kernel
theorem dL_isNode_102 : decode cL_isNode 102 = .ok (.istore 15, 2) := by decide +kernel
theorem dL_isNode_104 : decode cL_isNode 104 = .ok (.iload 15, 2) := by decide +kernel
theorem dL_isNode_106 : decode cL_isNode 106 = .ok (.iload 14, 2) := by decide +kernel
theorem dL_isNode_108 : decode cL_isNode 108 = .ok (.if_icmp .ge 45, 3) := by decide +kernel
theorem dL_isNode_111 : decode cL_isNode 111 = .ok (.bipush 31, 2) := by decide +kernel
theorem dL_isNode_113 : decode cL_isNode 113 = .ok (.aload_n 0, 1) := by decide +kernel
theorem dL_isNode_114 : decode cL_isNode 114 = .ok (.iload 8, 2) := by decide +kernel
theorem dL_isNode_116 : decode cL_isNode 116 = .ok (.iload 13, 2) := by decide +kernel
theorem dL_isNode_118 : decode cL_isNode 118 = .ok (.iload 15, 2) := by decide +kernel
theorem dL_isNode_120 : decode cL_isNode 120 = .ok (.invokevirtual 67, 3) := by decide +kernel
theorem dL_isNode_123 : decode cL_isNode 123 = .ok (.imul, 1) := by decide +kernel
theorem dL_isNode_124 : decode cL_isNode 124 = .ok (.aload_n 0, 1) := by decide +kernel
theorem dL_isNode_125 : decode cL_isNode 125 = .ok (.iload 8, 2) := by decide +kernel
theorem dL_isNode_127 : decode cL_isNode 127 = .ok (.iload 13, 2) := by decide +kernel
theorem dL_isNode_129 : decode cL_isNode 129 = .ok (.iload 15, 2) := by decide +kernel
theorem dL_isNode_131 : decode cL_isNode 131 = .ok (.invokevirtual 70, 3) := by decide +kernel
theorem dL_isNode_134 : decode cL_isNode 134 = .ok (.iadd, 1) := by decide +kernel
theorem dL_isNode_135 : decode cL_isNode 135 = .ok (.istore 16, 2) := by decide +kernel
theorem dL_isNode_137 : decode cL_isNode 137 = .ok (.iload 10, 2) := by decide +kernel
theorem dL_isNode_139 : decode cL_isNode 139 = .ok (.iload 16, 2) := by decide +kernel
theorem dL_isNode_141 : decode cL_isNode 141 = .ok (.iload 16, 2) := by decide +kernel
theorem dL_isNode_143 : decode cL_isNode 143 = .ok (.imul, 1) := by decide +kernel
theorem dL_isNode_144 : decode cL_isNode 144 = .ok (.iadd, 1) := by decide +kernel
theorem dL_isNode_145 : decode cL_isNode 145 = .ok (.istore 10, 2) := by decide +kernel
theorem dL_isNode_147 : decode cL_isNode 147 = .ok (.iinc 15 1, 3) := by decide +kernel
theorem dL_isNode_150 : decode cL_isNode 150 = .ok (.goto (-46), 3) := by decide +kernel
theorem dL_isNode_153 : decode cL_isNode 153 = .ok (.aload_n 0, 1) := by decide +kernel
theorem dL_isNode_154 : decode cL_isNode 154 = .ok (.iconst 3, 1) := by decide +kernel
theorem dL_isNode_155 : decode cL_isNode 155 = .ok (.iload 8, 2) := by decide +kernel
theorem dL_isNode_157 : decode cL_isNode 157 = .ok (.iload 13, 2) := by decide +kernel
theorem dL_isNode_159 : decode cL_isNode 159 = .ok (.iload 14, 2) := by decide +kernel
theorem dL_isNode_161 : decode cL_isNode 161 = .ok (.invokestatic 102, 3) := by decide +kernel
theorem dL_isNode_164 : decode cL_isNode 164 = .ok (.bipush (-30), 2) := by decide +kernel
theorem dL_isNode_166 : decode cL_isNode 166 = .ok (.if_icmp .ne 22, 3) := by decide +kernel
theorem dL_isNode_169 : decode cL_isNode 169 = .ok (.aload_n 0, 1) := by decide +kernel
theorem dL_isNode_170 : decode cL_isNode 170 = .ok (.iconst 4, 1) := by decide +kernel
theorem dL_isNode_171 : decode cL_isNode 171 = .ok (.iload 8, 2) := by decide +kernel
theorem dL_isNode_173 : decode cL_isNode 173 = .ok (.iload 13, 2) := by decide +kernel
theorem dL_isNode_175 : decode cL_isNode 175 = .ok (.iconst (-1), 1) := by decide +kernel
theorem dL_isNode_176 : decode cL_isNode 176 = .ok (.invokestatic 102, 3) := by decide +kernel
theorem dL_isNode_179 : decode cL_isNode 179 = .ok (.bipush (-30), 2) := by decide +kernel
theorem dL_isNode_181 : decode cL_isNode 181 = .ok (.if_icmp .ne 7, 3) := by decide +kernel
theorem dL_isNode_184 : decode cL_isNode 184 = .ok (.iconst 1, 1) := by decide +kernel
theorem dL_isNode_185 : decode cL_isNode 185 = .ok (.goto 4, 3) := by decide +kernel
theorem dL_isNode_188 : decode cL_isNode 188 = .ok (.iconst 0, 1) := by decide +kernel
theorem dL_isNode_189 : decode cL_isNode 189 = .ok (.istore 12, 2) := by decide +kernel
theorem dL_isNode_191 : decode cL_isNode 191 = .ok (.iinc 13 1, 3) := by decide +kernel
theorem dL_isNode_194 : decode cL_isNode 194 = .ok (.goto (-122), 3) := by decide +kernel
theorem dL_isNode_197 : decode cL_isNode 197 = .ok (.iload 12, 2) := by decide +kernel
theorem dL_isNode_199 : decode cL_isNode 199 = .ok (.ifCond .eq 55, 3) := by decide +kernel
theorem dL_isNode_202 : decode cL_isNode 202 = .ok (.aload_n 0, 1) := by decide +kernel
theorem dL_isNode_203 : decode cL_isNode 203 = .ok (.iload 8, 2) := by decide +kernel
theorem dL_isNode_205 : decode cL_isNode 205 = .ok (.invokevirtual 64, 3) := by decide +kernel
theorem dL_isNode_208 : decode cL_isNode 208 = .ok (.iload 9, 2) := by decide +kernel
theorem dL_isNode_210 : decode cL_isNode 210 = .ok (.if_icmp .ne 44, 3) := by decide +kernel
theorem dL_isNode_213 : decode cL_isNode 213 = .ok (.aload_n 0, 1) := by decide +kernel
theorem dL_isNode_214 : decode cL_isNode 214 = .ok (.iload 8, 2) := by decide +kernel
theorem dL_isNode_216 : decode cL_isNode 216 = .ok (.invokevirtual 73, 3) := by decide +kernel
theorem dL_isNode_219 : decode cL_isNode 219 = .ok (.iload 10, 2) := by decide +kernel
theorem dL_isNode_221 : decode cL_isNode 221 = .ok (.if_icmp .ne 33, 3) := by decide +kernel
theorem dL_isNode_224 : decode cL_isNode 224 = .ok (.aload_n 0, 1) := by decide +kernel
theorem dL_isNode_225 : decode cL_isNode 225 = .ok (.iload 8, 2) := by decide +kernel
theorem dL_isNode_227 : decode cL_isNode 227 = .ok (.invokevirtual 92, 3) := by decide +kernel
theorem dL_isNode_230 : decode cL_isNode 230 = .ok (.iload 10, 2) := by decide +kernel
theorem dL_isNode_232 : decode cL_isNode 232 = .ok (.if_icmp .ne 22, 3) := by decide +kernel
theorem dL_isNode_235 : decode cL_isNode 235 = .ok (.aload_n 0, 1) := by decide +kernel
theorem dL_isNode_236 : decode cL_isNode 236 = .ok (.iconst 1, 1) := by decide +kernel
theorem dL_isNode_237 : decode cL_isNode 237 = .ok (.iload 8, 2) := by decide +kernel
theorem dL_isNode_239 : decode cL_isNode 239 = .ok (.iload 11, 2) := by decide +kernel
theorem dL_isNode_241 : decode cL_isNode 241 = .ok (.iconst 0, 1) := by decide +kernel
theorem dL_isNode_242 : decode cL_isNode 242 = .ok (.invokestatic 102, 3) := by decide +kernel
theorem dL_isNode_245 : decode cL_isNode 245 = .ok (.bipush (-30), 2) := by decide +kernel
theorem dL_isNode_247 : decode cL_isNode 247 = .ok (.if_icmp .ne 7, 3) := by decide +kernel
theorem dL_isNode_250 : decode cL_isNode 250 = .ok (.iconst 1, 1) := by decide +kernel
theorem dL_isNode_251 : decode cL_isNode 251 = .ok (.goto 4, 3) := by decide +kernel
theorem dL_isNode_254 : decode cL_isNode 254 = .ok (.iconst 0, 1) := by decide +kernel
theorem dL_isNode_255 : decode cL_isNode 255 = .ok (.istore 12, 2) := by decide +kernel
theorem dL_isNode_257 : decode cL_isNode 257 = .ok (.iload 12, 2) := by decide +kernel
theorem dL_isNode_259 : decode cL_isNode 259 = .ok (.ifCond .eq 10, 3) := by decide +kernel
theorem dL_isNode_262 : decode cL_isNode 262 = .ok (.aload_n 1, 1) := by decide +kernel
theorem dL_isNode_263 : decode cL_isNode 263 = .ok (.iload 8, 2) := by decide +kernel
theorem dL_isNode_265 : decode cL_isNode 265 = .ok (.iaload, 1) := by decide +kernel
theorem dL_isNode_266 : decode cL_isNode 266 = .ok (.ifCond .ne 30, 3) := by decide +kernel
theorem dL_isNode_269 : decode cL_isNode 269 = .ok (.iload 12, 2) := by decide +kernel
theorem dL_isNode_271 : decode cL_isNode 271 = .ok (.ifCond .eq 23, 3) := by decide +kernel
theorem dL_isNode_274 : decode cL_isNode 274 = .ok (.aload_n 1, 1) := by decide +kernel
theorem dL_isNode_275 : decode cL_isNode 275 = .ok (.iload 8, 2) := by decide +kernel
theorem dL_isNode_277 : decode cL_isNode 277 = .ok (.iaload, 1) := by decide +kernel
theorem dL_isNode_278 : decode cL_isNode 278 = .ok (.ifCond .gt 12, 3) := by decide +kernel
theorem dL_isNode_281 : decode cL_isNode 281 = .ok (.iload 11, 2) := by decide +kernel
theorem dL_isNode_283 : decode cL_isNode 283 = .ok (.aload_n 2, 1) := by decide +kernel
theorem dL_isNode_284 : decode cL_isNode 284 = .ok (.iload 8, 2) := by decide +kernel
theorem dL_isNode_286 : decode cL_isNode 286 = .ok (.iaload, 1) := by decide +kernel
theorem dL_isNode_287 : decode cL_isNode 287 = .ok (.if_icmp .ne 7, 3) := by decide +kernel
theorem dL_isNode_290 : decode cL_isNode 290 = .ok (.iconst 1, 1) := by decide +kernel
theorem dL_isNode_291 : decode cL_isNode 291 = .ok (.goto 4, 3) := by decide +kernel
theorem dL_isNode_294 : decode cL_isNode 294 = .ok (.iconst 0, 1) := by decide +kernel
theorem dL_isNode_295 : decode cL_isNode 295 = .ok (.ireturn, 1) := by decide +kernel
theorem dL_isNode_296 : decode cL_isNode 296 = .ok (.aload_n 1, 1) := by decide +kernel
theorem dL_isNode_297 : decode cL_isNode 297 = .ok (.iload 8, 2) := by decide +kernel
theorem dL_isNode_299 : decode cL_isNode 299 = .ok (.iaload, 1) := by decide +kernel
theorem dL_isNode_300 : decode cL_isNode 300 = .ok (.iconst 3, 1) := by decide +kernel
theorem dL_isNode_301 : decode cL_isNode 301 = .ok (.if_icmp .ge 19, 3) := by decide +kernel
theorem dL_isNode_304 : decode cL_isNode 304 = .ok (.aload_n 0, 1) := by decide +kernel
theorem dL_isNode_305 : decode cL_isNode 305 = .ok (.aload_n 1, 1) := by decide +kernel
theorem dL_isNode_306 : decode cL_isNode 306 = .ok (.aload_n 2, 1) := by decide +kernel
theorem dL_isNode_307 : decode cL_isNode 307 = .ok (.aload_n 3, 1) := by decide +kernel
theorem dL_isNode_308 : decode cL_isNode 308 = .ok (.aload 4, 2) := by decide +kernel
theorem dL_isNode_310 : decode cL_isNode 310 = .ok (.aload 7, 2) := by decide +kernel
theorem dL_isNode_312 : decode cL_isNode 312 = .ok (.iload 8, 2) := by decide +kernel
theorem dL_isNode_314 : decode cL_isNode 314 = .ok (.invokestatic 123, 3) := by decide +kernel
theorem dL_isNode_317 : decode cL_isNode 317 = .ok (.goto 55, 3) := by decide +kernel
theorem dL_isNode_320 : decode cL_isNode 320 = .ok (.aload_n 1, 1) := by decide +kernel
theorem dL_isNode_321 : decode cL_isNode 321 = .ok (.iload 8, 2) := by decide +kernel
theorem dL_isNode_323 : decode cL_isNode 323 = .ok (.iaload, 1) := by decide +kernel
theorem dL_isNode_324 : decode cL_isNode 324 = .ok (.iconst 3, 1) := by decide +kernel
theorem dL_isNode_325 : decode cL_isNode 325 = .ok (.if_icmp .ne 14, 3) := by decide +kernel
theorem dL_isNode_328 : decode cL_isNode 328 = .ok (.aload_n 0, 1) := by decide +kernel
theorem dL_isNode_329 : decode cL_isNode 329 = .ok (.aload_n 2, 1) := by decide +kernel
theorem dL_isNode_330 : decode cL_isNode 330 = .ok (.aload_n 3, 1) := by decide +kernel
theorem dL_isNode_331 : decode cL_isNode 331 = .ok (.iload 8, 2) := by decide +kernel
theorem dL_isNode_333 : decode cL_isNode 333 = .ok (.invokestatic 127, 3) := by decide +kernel
theorem dL_isNode_336 : decode cL_isNode 336 = .ok (.goto 36, 3) := by decide +kernel
theorem dL_isNode_339 : decode cL_isNode 339 = .ok (.aload_n 1, 1) := by decide +kernel
theorem dL_isNode_340 : decode cL_isNode 340 = .ok (.iload 8, 2) := by decide +kernel
theorem dL_isNode_342 : decode cL_isNode 342 = .ok (.iaload, 1) := by decide +kernel
theorem dL_isNode_343 : decode cL_isNode 343 = .ok (.iconst 4, 1) := by decide +kernel
theorem dL_isNode_344 : decode cL_isNode 344 = .ok (.if_icmp .ne 16, 3) := by decide +kernel
theorem dL_isNode_347 : decode cL_isNode 347 = .ok (.aload_n 0, 1) := by decide +kernel
theorem dL_isNode_348 : decode cL_isNode 348 = .ok (.aload_n 2, 1) := by decide +kernel
theorem dL_isNode_349 : decode cL_isNode 349 = .ok (.aload_n 3, 1) := by decide +kernel
theorem dL_isNode_350 : decode cL_isNode 350 = .ok (.aload 4, 2) := by decide +kernel
theorem dL_isNode_352 : decode cL_isNode 352 = .ok (.iload 8, 2) := by decide +kernel
theorem dL_isNode_354 : decode cL_isNode 354 = .ok (.invokestatic 131, 3) := by decide +kernel
theorem dL_isNode_357 : decode cL_isNode 357 = .ok (.goto 15, 3) := by decide +kernel
theorem dL_isNode_360 : decode cL_isNode 360 = .ok (.aload_n 0, 1) := by decide +kernel
theorem dL_isNode_361 : decode cL_isNode 361 = .ok (.aload_n 2, 1) := by decide +kernel
theorem dL_isNode_362 : decode cL_isNode 362 = .ok (.aload_n 3, 1) := by decide +kernel
theorem dL_isNode_363 : decode cL_isNode 363 = .ok (.aload 4, 2) := by decide +kernel
theorem dL_isNode_365 : decode cL_isNode 365 = .ok (.aload 7, 2) := by decide +kernel
theorem dL_isNode_367 : decode cL_isNode 367 = .ok (.iload 8, 2) := by decide +kernel
theorem dL_isNode_369 : decode cL_isNode 369 = .ok (.invokestatic 135, 3) := by decide +kernel
theorem dL_isNode_372 : decode cL_isNode 372 = .ok (.ireturn, 1) := by decide +kernel
theorem dL_areNodes_0 : decode cL_areNodes 0 = .ok (.aload_n 0, 1) := by decide +kernel
theorem dL_areNodes_1 : decode cL_areNodes 1 = .ok (.invokevirtual 139, 3) := by decide +kernel
theorem dL_areNodes_4 : decode cL_areNodes 4 = .ok (.aload 7, 2) := by decide +kernel
theorem dL_areNodes_6 : decode cL_areNodes 6 = .ok (.iconst 0, 1) := by decide +kernel
theorem dL_areNodes_7 : decode cL_areNodes 7 = .ok (.iaload, 1) := by decide +kernel
theorem dL_areNodes_8 : decode cL_areNodes 8 = .ok (.if_icmp .ne 49, 3) := by decide +kernel
theorem dL_areNodes_11 : decode cL_areNodes 11 = .ok (.aload_n 0, 1) := by decide +kernel
theorem dL_areNodes_12 : decode cL_areNodes 12 = .ok (.iconst 0, 1) := by decide +kernel
theorem dL_areNodes_13 : decode cL_areNodes 13 = .ok (.aload 7, 2) := by decide +kernel
theorem dL_areNodes_15 : decode cL_areNodes 15 = .ok (.iconst 0, 1) := by decide +kernel
theorem dL_areNodes_16 : decode cL_areNodes 16 = .ok (.iaload, 1) := by decide +kernel
theorem dL_areNodes_17 : decode cL_areNodes 17 = .ok (.iconst 0, 1) := by decide +kernel
theorem dL_areNodes_18 : decode cL_areNodes 18 = .ok (.iconst 0, 1) := by decide +kernel
theorem dL_areNodes_19 : decode cL_areNodes 19 = .ok (.invokestatic 102, 3) := by decide +kernel
theorem dL_areNodes_22 : decode cL_areNodes 22 = .ok (.bipush (-30), 2) := by decide +kernel
theorem dL_areNodes_24 : decode cL_areNodes 24 = .ok (.if_icmp .ne 33, 3) := by decide +kernel
theorem dL_areNodes_27 : decode cL_areNodes 27 = .ok (.aload_n 0, 1) := by decide +kernel
theorem dL_areNodes_28 : decode cL_areNodes 28 = .ok (.iconst 5, 1) := by decide +kernel
theorem dL_areNodes_29 : decode cL_areNodes 29 = .ok (.iconst (-1), 1) := by decide +kernel
theorem dL_areNodes_30 : decode cL_areNodes 30 = .ok (.iconst 0, 1) := by decide +kernel
theorem dL_areNodes_31 : decode cL_areNodes 31 = .ok (.iconst 0, 1) := by decide +kernel
theorem dL_areNodes_32 : decode cL_areNodes 32 = .ok (.invokestatic 102, 3) := by decide +kernel
theorem dL_areNodes_35 : decode cL_areNodes 35 = .ok (.bipush (-30), 2) := by decide +kernel
theorem dL_areNodes_37 : decode cL_areNodes 37 = .ok (.if_icmp .ne 20, 3) := by decide +kernel
theorem dL_areNodes_40 : decode cL_areNodes 40 = .ok (.aload_n 0, 1) := by decide +kernel
theorem dL_areNodes_41 : decode cL_areNodes 41 = .ok (.aload 7, 2) := by decide +kernel
theorem dL_areNodes_43 : decode cL_areNodes 43 = .ok (.iconst 0, 1) := by decide +kernel
theorem dL_areNodes_44 : decode cL_areNodes 44 = .ok (.iaload, 1) := by decide +kernel
theorem dL_areNodes_45 : decode cL_areNodes 45 = .ok (.invokestatic 119, 3) := by decide +kernel
theorem dL_areNodes_48 : decode cL_areNodes 48 = .ok (.bipush (-30), 2) := by decide +kernel
theorem dL_areNodes_50 : decode cL_areNodes 50 = .ok (.if_icmp .ne 7, 3) := by decide +kernel
theorem dL_areNodes_53 : decode cL_areNodes 53 = .ok (.iconst 1, 1) := by decide +kernel
theorem dL_areNodes_54 : decode cL_areNodes 54 = .ok (.goto 4, 3) := by decide +kernel
theorem dL_areNodes_57 : decode cL_areNodes 57 = .ok (.iconst 0, 1) := by decide +kernel
theorem dL_areNodes_58 : decode cL_areNodes 58 = .ok (.istore 8, 2) := by decide +kernel
theorem dL_areNodes_60 : decode cL_areNodes 60 = .ok (.iconst 0, 1) := by decide +kernel
theorem dL_areNodes_61 : decode cL_areNodes 61 = .ok (.istore 9, 2) := by decide +kernel
theorem dL_areNodes_63 : decode cL_areNodes 63 = .ok (.iconst 0, 1) := by decide +kernel
theorem dL_areNodes_64 : decode cL_areNodes 64 = .ok (.istore 10, 2) := by decide +kernel
theorem dL_areNodes_66 : decode cL_areNodes 66 = .ok (.iload 10, 2) := by decide +kernel
theorem dL_areNodes_68 : decode cL_areNodes 68 = .ok (.aload 7, 2) := by decide +kernel
theorem dL_areNodes_70 : decode cL_areNodes 70 = .ok (.iconst 0, 1) := by decide +kernel
theorem dL_areNodes_71 : decode cL_areNodes 71 = .ok (.iaload, 1) := by decide +kernel
theorem dL_areNodes_72 : decode cL_areNodes 72 = .ok (.if_icmp .ge 197, 3) := by decide +kernel
theorem dL_areNodes_75 : decode cL_areNodes 75 = .ok (.iload 8, 2) := by decide +kernel
theorem dL_areNodes_77 : decode cL_areNodes 77 = .ok (.ifCond .eq 192, 3) := by decide +kernel
theorem dL_areNodes_80 : decode cL_areNodes 80 = .ok (.aload_n 0, 1) := by decide +kernel
theorem dL_areNodes_81 : decode cL_areNodes 81 = .ok (.aload_n 1, 1) := by decide +kernel
theorem dL_areNodes_82 : decode cL_areNodes 82 = .ok (.aload_n 2, 1) := by decide +kernel
theorem dL_areNodes_83 : decode cL_areNodes 83 = .ok (.aload_n 3, 1) := by decide +kernel
theorem dL_areNodes_84 : decode cL_areNodes 84 = .ok (.aload 4, 2) := by decide +kernel
theorem dL_areNodes_86 : decode cL_areNodes 86 = .ok (.aload 5, 2) := by decide +kernel
theorem dL_areNodes_88 : decode cL_areNodes 88 = .ok (.aload 6, 2) := by decide +kernel
theorem dL_areNodes_90 : decode cL_areNodes 90 = .ok (.aload 7, 2) := by decide +kernel
theorem dL_areNodes_92 : decode cL_areNodes 92 = .ok (.iload 10, 2) := by decide +kernel
theorem dL_areNodes_94 : decode cL_areNodes 94 = .ok (.invokestatic 143, 3) := by decide +kernel
theorem dL_areNodes_97 : decode cL_areNodes 97 = .ok (.ifCond .eq 50, 3) := by decide +kernel
theorem dL_areNodes_100 : decode cL_areNodes 100 = .ok (.aload_n 0, 1) := by decide +kernel
theorem dL_areNodes_101 : decode cL_areNodes 101 = .ok (.iload 10, 2) := by decide +kernel
theorem dL_areNodes_103 : decode cL_areNodes 103 = .ok (.invokevirtual 76, 3) := by decide +kernel
theorem dL_areNodes_106 : decode cL_areNodes 106 = .ok (.ifCond .ne 7, 3) := by decide +kernel
theorem dL_areNodes_109 : decode cL_areNodes 109 = .ok (.iconst 1, 1) := by decide +kernel
theorem dL_areNodes_110 : decode cL_areNodes 110 = .ok (.goto 4, 3) := by decide +kernel
theorem dL_areNodes_113 : decode cL_areNodes 113 = .ok (.iconst 0, 1) := by decide +kernel
theorem dL_areNodes_114 : decode cL_areNodes 114 = .ok (.aload_n 0, 1) := by decide +kernel
theorem dL_areNodes_115 : decode cL_areNodes 115 = .ok (.iload 10, 2) := by decide +kernel
theorem dL_areNodes_117 : decode cL_areNodes 117 = .ok (.invokevirtual 88, 3) := by decide +kernel
theorem dL_areNodes_120 : decode cL_areNodes 120 = .ok (.if_icmp .ne 27, 3) := by decide +kernel
theorem dL_areNodes_123 : decode cL_areNodes 123 = .ok (.aload_n 0, 1) := by decide +kernel
theorem dL_areNodes_124 : decode cL_areNodes 124 = .ok (.bipush 7, 2) := by decide +kernel
theorem dL_areNodes_126 : decode cL_areNodes 126 = .ok (.iload 10, 2) := by decide +kernel
theorem dL_areNodes_128 : decode cL_areNodes 128 = .ok (.aload_n 0, 1) := by decide +kernel
theorem dL_areNodes_129 : decode cL_areNodes 129 = .ok (.iload 10, 2) := by decide +kernel
theorem dL_areNodes_131 : decode cL_areNodes 131 = .ok (.invokevirtual 76, 3) := by decide +kernel
theorem dL_areNodes_134 : decode cL_areNodes 134 = .ok (.iconst 0, 1) := by decide +kernel
theorem dL_areNodes_135 : decode cL_areNodes 135 = .ok (.invokestatic 102, 3) := by decide +kernel
theorem dL_areNodes_138 : decode cL_areNodes 138 = .ok (.bipush (-30), 2) := by decide +kernel
theorem dL_areNodes_140 : decode cL_areNodes 140 = .ok (.if_icmp .ne 7, 3) := by decide +kernel
theorem dL_areNodes_143 : decode cL_areNodes 143 = .ok (.iconst 1, 1) := by decide +kernel
theorem dL_areNodes_144 : decode cL_areNodes 144 = .ok (.goto 4, 3) := by decide +kernel
theorem dL_areNodes_147 : decode cL_areNodes 147 = .ok (.iconst 0, 1) := by decide +kernel
theorem dL_areNodes_148 : decode cL_areNodes 148 = .ok (.istore 8, 2) := by decide +kernel
theorem dL_areNodes_150 : decode cL_areNodes 150 = .ok (.iload 9, 2) := by decide +kernel
theorem dL_areNodes_152 : decode cL_areNodes 152 = .ok (.aload_n 0, 1) := by decide +kernel
theorem dL_areNodes_153 : decode cL_areNodes 153 = .ok (.iload 10, 2) := by decide +kernel
theorem dL_areNodes_155 : decode cL_areNodes 155 = .ok (.invokevirtual 88, 3) := by decide +kernel
theorem dL_areNodes_158 : decode cL_areNodes 158 = .ok (.ifCond .eq 12, 3) := by decide +kernel
theorem dL_areNodes_161 : decode cL_areNodes 161 = .ok (.aload_n 0, 1) := by decide +kernel
theorem dL_areNodes_162 : decode cL_areNodes 162 = .ok (.iload 10, 2) := by decide +kernel
theorem dL_areNodes_164 : decode cL_areNodes 164 = .ok (.invokevirtual 64, 3) := by decide +kernel
theorem dL_areNodes_167 : decode cL_areNodes 167 = .ok (.goto 4, 3) := by decide +kernel
theorem dL_areNodes_170 : decode cL_areNodes 170 = .ok (.iconst 0, 1) := by decide +kernel
theorem dL_areNodes_171 : decode cL_areNodes 171 = .ok (.iadd, 1) := by decide +kernel
theorem dL_areNodes_172 : decode cL_areNodes 172 = .ok (.istore 9, 2) := by decide +kernel
theorem dL_areNodes_174 : decode cL_areNodes 174 = .ok (.iconst 0, 1) := by decide +kernel
theorem dL_areNodes_175 : decode cL_areNodes 175 = .ok (.istore 11, 2) := by decide +kernel
theorem dL_areNodes_177 : decode cL_areNodes 177 = .ok (.iload 11, 2) := by decide +kernel
theorem dL_areNodes_179 : decode cL_areNodes 179 = .ok (.aload_n 0, 1) := by decide +kernel
theorem dL_areNodes_180 : decode cL_areNodes 180 = .ok (.iload 10, 2) := by decide +kernel
theorem dL_areNodes_182 : decode cL_areNodes 182 = .ok (.invokevirtual 76, 3) := by decide +kernel
theorem dL_areNodes_185 : decode cL_areNodes 185 = .ok (.if_icmp .ge 78, 3) := by decide +kernel
theorem dL_areNodes_188 : decode cL_areNodes 188 = .ok (.iload 8, 2) := by decide +kernel
theorem dL_areNodes_190 : decode cL_areNodes 190 = .ok (.ifCond .eq 73, 3) := by decide +kernel
theorem dL_areNodes_193 : decode cL_areNodes 193 = .ok (.aload_n 0, 1) := by decide +kernel
theorem dL_areNodes_194 : decode cL_areNodes 194 = .ok (.iload 10, 2) := by decide +kernel
theorem dL_areNodes_196 : decode cL_areNodes 196 = .ok (.iload 11, 2) := by decide +kernel
theorem dL_areNodes_198 : decode cL_areNodes 198 = .ok (.invokevirtual 79, 3) := by decide +kernel
theorem dL_areNodes_201 : decode cL_areNodes 201 = .ok (.istore 12, 2) := by decide +kernel
theorem dL_areNodes_203 : decode cL_areNodes 203 = .ok (.aload_n 0, 1) := by decide +kernel
theorem dL_areNodes_204 : decode cL_areNodes 204 = .ok (.iload 12, 2) := by decide +kernel
theorem dL_areNodes_206 : decode cL_areNodes 206 = .ok (.invokevirtual 88, 3) := by decide +kernel
theorem dL_areNodes_209 : decode cL_areNodes 209 = .ok (.ifCond .ne 45, 3) := by decide +kernel
theorem dL_areNodes_212 : decode cL_areNodes 212 = .ok (.iload 11, 2) := by decide +kernel
theorem dL_areNodes_214 : decode cL_areNodes 214 = .ok (.aload_n 0, 1) := by decide +kernel
theorem dL_areNodes_215 : decode cL_areNodes 215 = .ok (.iload 10, 2) := by decide +kernel
theorem dL_areNodes_217 : decode cL_areNodes 217 = .ok (.invokevirtual 76, 3) := by decide +kernel
theorem dL_areNodes_220 : decode cL_areNodes 220 = .ok (.iconst 1, 1) := by decide +kernel
theorem dL_areNodes_221 : decode cL_areNodes 221 = .ok (.isub, 1) := by decide +kernel
theorem dL_areNodes_222 : decode cL_areNodes 222 = .ok (.if_icmp .ne 13, 3) := by decide +kernel
theorem dL_areNodes_225 : decode cL_areNodes 225 = .ok (.iload 12, 2) := by decide +kernel
theorem dL_areNodes_227 : decode cL_areNodes 227 = .ok (.iload 10, 2) := by decide +kernel
theorem dL_areNodes_229 : decode cL_areNodes 229 = .ok (.if_icmp .ne 25, 3) := by decide +kernel
theorem dL_areNodes_232 : decode cL_areNodes 232 = .ok (.goto 18, 3) := by decide +kernel
theorem dL_areNodes_235 : decode cL_areNodes 235 = .ok (.iload 12, 2) := by decide +kernel
theorem dL_areNodes_237 : decode cL_areNodes 237 = .ok (.aload_n 0, 1) := by decide +kernel
theorem dL_areNodes_238 : decode cL_areNodes 238 = .ok (.iload 10, 2) := by decide +kernel
theorem dL_areNodes_240 : decode cL_areNodes 240 = .ok (.iload 11, 2) := by decide +kernel
theorem dL_areNodes_242 : decode cL_areNodes 242 = .ok (.iconst 1, 1) := by decide +kernel
theorem dL_areNodes_243 : decode cL_areNodes 243 = .ok (.iadd, 1) := by decide +kernel
theorem dL_areNodes_244 : decode cL_areNodes 244 = .ok (.invokevirtual 79, 3) := by decide +kernel
theorem dL_areNodes_247 : decode cL_areNodes 247 = .ok (.if_icmp .ge 7, 3) := by decide +kernel
theorem dL_areNodes_250 : decode cL_areNodes 250 = .ok (.iconst 1, 1) := by decide +kernel
theorem dL_areNodes_251 : decode cL_areNodes 251 = .ok (.goto 4, 3) := by decide +kernel
theorem dL_areNodes_254 : decode cL_areNodes 254 = .ok (.iconst 0, 1) := by decide +kernel
theorem dL_areNodes_255 : decode cL_areNodes 255 = .ok (.istore 8, 2) := by decide +kernel
theorem dL_areNodes_257 : decode cL_areNodes 257 = .ok (.iinc 11 1, 3) := by decide +kernel
theorem dL_areNodes_260 : decode cL_areNodes 260 = .ok (.goto (-83), 3) := by decide +kernel
theorem dL_areNodes_263 : decode cL_areNodes 263 = .ok (.iinc 10 1, 3) := by decide +kernel
theorem dL_areNodes_266 : decode cL_areNodes 266 = .ok (.goto (-200), 3) := by decide +kernel
theorem dL_areNodes_269 : decode cL_areNodes 269 = .ok (.iload 8, 2) := by decide +kernel
theorem dL_areNodes_271 : decode cL_areNodes 271 = .ok (.ifCond .eq 16, 3) := by decide +kernel
theorem dL_areNodes_274 : decode cL_areNodes 274 = .ok (.iload 9, 2) := by decide +kernel
theorem dL_areNodes_276 : decode cL_areNodes 276 = .ok (.aload 7, 2) := by decide +kernel
theorem dL_areNodes_278 : decode cL_areNodes 278 = .ok (.iconst 4, 1) := by decide +kernel
theorem dL_areNodes_279 : decode cL_areNodes 279 = .ok (.iaload, 1) := by decide +kernel
theorem dL_areNodes_280 : decode cL_areNodes 280 = .ok (.if_icmp .gt 7, 3) := by decide +kernel
theorem dL_areNodes_283 : decode cL_areNodes 283 = .ok (.iconst 1, 1) := by decide +kernel
theorem dL_areNodes_284 : decode cL_areNodes 284 = .ok (.goto 4, 3) := by decide +kernel
theorem dL_areNodes_287 : decode cL_areNodes 287 = .ok (.iconst 0, 1) := by decide +kernel
theorem dL_areNodes_288 : decode cL_areNodes 288 = .ok (.ireturn, 1) := by decide +kernel
