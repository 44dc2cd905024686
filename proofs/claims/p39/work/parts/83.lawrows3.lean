theorem dL_areAttempts_0 : decode cL_areAttempts 0 = .ok (.aload_n 0, 1) := by decide +kernel
theorem dL_areAttempts_1 : decode cL_areAttempts 1 = .ok (.invokevirtual 147, 3) := by decide +kernel
theorem dL_areAttempts_4 : decode cL_areAttempts 4 = .ok (.istore_n 3, 1) := by decide +kernel
theorem dL_areAttempts_5 : decode cL_areAttempts 5 = .ok (.iconst 0, 1) := by decide +kernel
theorem dL_areAttempts_6 : decode cL_areAttempts 6 = .ok (.istore 4, 2) := by decide +kernel
theorem dL_areAttempts_8 : decode cL_areAttempts 8 = .ok (.iconst 0, 1) := by decide +kernel
theorem dL_areAttempts_9 : decode cL_areAttempts 9 = .ok (.istore 5, 2) := by decide +kernel
theorem dL_areAttempts_11 : decode cL_areAttempts 11 = .ok (.iconst 0, 1) := by decide +kernel
theorem dL_areAttempts_12 : decode cL_areAttempts 12 = .ok (.istore 6, 2) := by decide +kernel
theorem dL_areAttempts_14 : decode cL_areAttempts 14 = .ok (.aload_n 0, 1) := by decide +kernel
theorem dL_areAttempts_15 : decode cL_areAttempts 15 = .ok (.invokevirtual 150, 3) := by decide +kernel
theorem dL_areAttempts_18 : decode cL_areAttempts 18 = .ok (.iload_n 2, 1) := by decide +kernel
theorem dL_areAttempts_19 : decode cL_areAttempts 19 = .ok (.if_icmp .ne 42, 3) := by decide +kernel
theorem dL_areAttempts_22 : decode cL_areAttempts 22 = .ok (.aload_n 0, 1) := by decide +kernel
theorem dL_areAttempts_23 : decode cL_areAttempts 23 = .ok (.invokevirtual 153, 3) := by decide +kernel
theorem dL_areAttempts_26 : decode cL_areAttempts 26 = .ok (.ifCond .lt 35, 3) := by decide +kernel
theorem dL_areAttempts_29 : decode cL_areAttempts 29 = .ok (.aload_n 0, 1) := by decide +kernel
theorem dL_areAttempts_30 : decode cL_areAttempts 30 = .ok (.bipush 8, 2) := by decide +kernel
theorem dL_areAttempts_32 : decode cL_areAttempts 32 = .ok (.iload_n 3, 1) := by decide +kernel
theorem dL_areAttempts_33 : decode cL_areAttempts 33 = .ok (.iconst 0, 1) := by decide +kernel
theorem dL_areAttempts_34 : decode cL_areAttempts 34 = .ok (.iconst 0, 1) := by decide +kernel
theorem dL_areAttempts_35 : decode cL_areAttempts 35 = .ok (.invokestatic 102, 3) := by decide +kernel
theorem dL_areAttempts_38 : decode cL_areAttempts 38 = .ok (.bipush (-30), 2) := by decide +kernel
theorem dL_areAttempts_40 : decode cL_areAttempts 40 = .ok (.if_icmp .ne 21, 3) := by decide +kernel
theorem dL_areAttempts_43 : decode cL_areAttempts 43 = .ok (.aload_n 0, 1) := by decide +kernel
theorem dL_areAttempts_44 : decode cL_areAttempts 44 = .ok (.bipush 9, 2) := by decide +kernel
theorem dL_areAttempts_46 : decode cL_areAttempts 46 = .ok (.iconst (-1), 1) := by decide +kernel
theorem dL_areAttempts_47 : decode cL_areAttempts 47 = .ok (.iconst 0, 1) := by decide +kernel
theorem dL_areAttempts_48 : decode cL_areAttempts 48 = .ok (.iconst 0, 1) := by decide +kernel
theorem dL_areAttempts_49 : decode cL_areAttempts 49 = .ok (.invokestatic 102, 3) := by decide +kernel
theorem dL_areAttempts_52 : decode cL_areAttempts 52 = .ok (.bipush (-30), 2) := by decide +kernel
theorem dL_areAttempts_54 : decode cL_areAttempts 54 = .ok (.if_icmp .ne 7, 3) := by decide +kernel
theorem dL_areAttempts_57 : decode cL_areAttempts 57 = .ok (.iconst 1, 1) := by decide +kernel
theorem dL_areAttempts_58 : decode cL_areAttempts 58 = .ok (.goto 4, 3) := by decide +kernel
theorem dL_areAttempts_61 : decode cL_areAttempts 61 = .ok (.iconst 0, 1) := by decide +kernel
theorem dL_areAttempts_62 : decode cL_areAttempts 62 = .ok (.istore 7, 2) := by decide +kernel
theorem dL_areAttempts_64 : decode cL_areAttempts 64 = .ok (.iconst 0, 1) := by decide +kernel
theorem dL_areAttempts_65 : decode cL_areAttempts 65 = .ok (.istore 8, 2) := by decide +kernel
theorem dL_areAttempts_67 : decode cL_areAttempts 67 = .ok (.iload 8, 2) := by decide +kernel
theorem dL_areAttempts_69 : decode cL_areAttempts 69 = .ok (.iload_n 3, 1) := by decide +kernel
theorem dL_areAttempts_70 : decode cL_areAttempts 70 = .ok (.if_icmp .ge 374, 3) := by decide +kernel
theorem dL_areAttempts_73 : decode cL_areAttempts 73 = .ok (.iload 7, 2) := by decide +kernel
theorem dL_areAttempts_75 : decode cL_areAttempts 75 = .ok (.ifCond .eq 369, 3) := by decide +kernel
theorem dL_areAttempts_78 : decode cL_areAttempts 78 = .ok (.aload_n 0, 1) := by decide +kernel
theorem dL_areAttempts_79 : decode cL_areAttempts 79 = .ok (.iload 8, 2) := by decide +kernel
theorem dL_areAttempts_81 : decode cL_areAttempts 81 = .ok (.invokevirtual 85, 3) := by decide +kernel
theorem dL_areAttempts_84 : decode cL_areAttempts 84 = .ok (.istore 9, 2) := by decide +kernel
theorem dL_areAttempts_86 : decode cL_areAttempts 86 = .ok (.aload_n 0, 1) := by decide +kernel
theorem dL_areAttempts_87 : decode cL_areAttempts 87 = .ok (.iload 8, 2) := by decide +kernel
theorem dL_areAttempts_89 : decode cL_areAttempts 89 = .ok (.invokevirtual 156, 3) := by decide +kernel
theorem dL_areAttempts_92 : decode cL_areAttempts 92 = .ok (.istore 10, 2) := by decide +kernel
theorem dL_areAttempts_94 : decode cL_areAttempts 94 = .ok (.iload 10, 2) := by decide +kernel
theorem dL_areAttempts_96 : decode cL_areAttempts 96 = .ok (.iload 9, 2) := by decide +kernel
theorem dL_areAttempts_98 : decode cL_areAttempts 98 = .ok (.if_icmp .le 80, 3) := by decide +kernel
theorem dL_areAttempts_101 : decode cL_areAttempts 101 = .ok (.iload 10, 2) := by decide +kernel
theorem dL_areAttempts_103 : decode cL_areAttempts 103 = .ok (.iload_n 2, 1) := by decide +kernel
theorem dL_areAttempts_104 : decode cL_areAttempts 104 = .ok (.if_icmp .gt 74, 3) := by decide +kernel
theorem dL_areAttempts_107 : decode cL_areAttempts 107 = .ok (.aload_n 0, 1) := by decide +kernel
theorem dL_areAttempts_108 : decode cL_areAttempts 108 = .ok (.iload 8, 2) := by decide +kernel
theorem dL_areAttempts_110 : decode cL_areAttempts 110 = .ok (.invokevirtual 159, 3) := by decide +kernel
theorem dL_areAttempts_113 : decode cL_areAttempts 113 = .ok (.ifCond .lt 65, 3) := by decide +kernel
theorem dL_areAttempts_116 : decode cL_areAttempts 116 = .ok (.aload_n 0, 1) := by decide +kernel
theorem dL_areAttempts_117 : decode cL_areAttempts 117 = .ok (.iload 8, 2) := by decide +kernel
theorem dL_areAttempts_119 : decode cL_areAttempts 119 = .ok (.invokevirtual 159, 3) := by decide +kernel
theorem dL_areAttempts_122 : decode cL_areAttempts 122 = .ok (.aload_n 1, 1) := by decide +kernel
theorem dL_areAttempts_123 : decode cL_areAttempts 123 = .ok (.iconst 2, 1) := by decide +kernel
theorem dL_areAttempts_124 : decode cL_areAttempts 124 = .ok (.iaload, 1) := by decide +kernel
theorem dL_areAttempts_125 : decode cL_areAttempts 125 = .ok (.if_icmp .ge 53, 3) := by decide +kernel
theorem dL_areAttempts_128 : decode cL_areAttempts 128 = .ok (.aload_n 0, 1) := by decide +kernel
theorem dL_areAttempts_129 : decode cL_areAttempts 129 = .ok (.iload 8, 2) := by decide +kernel
theorem dL_areAttempts_131 : decode cL_areAttempts 131 = .ok (.invokevirtual 162, 3) := by decide +kernel
theorem dL_areAttempts_134 : decode cL_areAttempts 134 = .ok (.ifCond .lt 44, 3) := by decide +kernel
theorem dL_areAttempts_137 : decode cL_areAttempts 137 = .ok (.aload_n 0, 1) := by decide +kernel
theorem dL_areAttempts_138 : decode cL_areAttempts 138 = .ok (.iload 8, 2) := by decide +kernel
theorem dL_areAttempts_140 : decode cL_areAttempts 140 = .ok (.invokevirtual 162, 3) := by decide +kernel
theorem dL_areAttempts_143 : decode cL_areAttempts 143 = .ok (.aload_n 0, 1) := by decide +kernel
theorem dL_areAttempts_144 : decode cL_areAttempts 144 = .ok (.aload_n 0, 1) := by decide +kernel
theorem dL_areAttempts_145 : decode cL_areAttempts 145 = .ok (.iload 8, 2) := by decide +kernel
theorem dL_areAttempts_147 : decode cL_areAttempts 147 = .ok (.invokevirtual 82, 3) := by decide +kernel
theorem dL_areAttempts_150 : decode cL_areAttempts 150 = .ok (.invokevirtual 58, 3) := by decide +kernel
theorem dL_areAttempts_153 : decode cL_areAttempts 153 = .ok (.if_icmp .ge 25, 3) := by decide +kernel
theorem dL_areAttempts_156 : decode cL_areAttempts 156 = .ok (.iload 8, 2) := by decide +kernel
theorem dL_areAttempts_158 : decode cL_areAttempts 158 = .ok (.ifCond .eq 16, 3) := by decide +kernel
theorem dL_areAttempts_161 : decode cL_areAttempts 161 = .ok (.iload 9, 2) := by decide +kernel
theorem dL_areAttempts_163 : decode cL_areAttempts 163 = .ok (.aload_n 0, 1) := by decide +kernel
theorem dL_areAttempts_164 : decode cL_areAttempts 164 = .ok (.iload 8, 2) := by decide +kernel
theorem dL_areAttempts_166 : decode cL_areAttempts 166 = .ok (.iconst 1, 1) := by decide +kernel
theorem dL_areAttempts_167 : decode cL_areAttempts 167 = .ok (.isub, 1) := by decide +kernel
theorem dL_areAttempts_168 : decode cL_areAttempts 168 = .ok (.invokevirtual 85, 3) := by decide +kernel
theorem dL_areAttempts_171 : decode cL_areAttempts 171 = .ok (.if_icmp .lt 7, 3) := by decide +kernel
theorem dL_areAttempts_174 : decode cL_areAttempts 174 = .ok (.iconst 1, 1) := by decide +kernel
theorem dL_areAttempts_175 : decode cL_areAttempts 175 = .ok (.goto 4, 3) := by decide +kernel
theorem dL_areAttempts_178 : decode cL_areAttempts 178 = .ok (.iconst 0, 1) := by decide +kernel
theorem dL_areAttempts_179 : decode cL_areAttempts 179 = .ok (.istore 7, 2) := by decide +kernel
theorem dL_areAttempts_181 : decode cL_areAttempts 181 = .ok (.iload 10, 2) := by decide +kernel
theorem dL_areAttempts_183 : decode cL_areAttempts 183 = .ok (.iload 4, 2) := by decide +kernel
theorem dL_areAttempts_185 : decode cL_areAttempts 185 = .ok (.if_icmp .le 8, 3) := by decide +kernel
theorem dL_areAttempts_188 : decode cL_areAttempts 188 = .ok (.iload 10, 2) := by decide +kernel
theorem dL_areAttempts_190 : decode cL_areAttempts 190 = .ok (.goto 5, 3) := by decide +kernel
theorem dL_areAttempts_193 : decode cL_areAttempts 193 = .ok (.iload 4, 2) := by decide +kernel
theorem dL_areAttempts_195 : decode cL_areAttempts 195 = .ok (.istore 4, 2) := by decide +kernel
theorem dL_areAttempts_197 : decode cL_areAttempts 197 = .ok (.iload 5, 2) := by decide +kernel
theorem dL_areAttempts_199 : decode cL_areAttempts 199 = .ok (.iload 10, 2) := by decide +kernel
theorem dL_areAttempts_201 : decode cL_areAttempts 201 = .ok (.iload 9, 2) := by decide +kernel
theorem dL_areAttempts_203 : decode cL_areAttempts 203 = .ok (.isub, 1) := by decide +kernel
theorem dL_areAttempts_204 : decode cL_areAttempts 204 = .ok (.iadd, 1) := by decide +kernel
theorem dL_areAttempts_205 : decode cL_areAttempts 205 = .ok (.istore 5, 2) := by decide +kernel
theorem dL_areAttempts_207 : decode cL_areAttempts 207 = .ok (.iconst 0, 1) := by decide +kernel
theorem dL_areAttempts_208 : decode cL_areAttempts 208 = .ok (.istore 11, 2) := by decide +kernel
theorem dL_areAttempts_210 : decode cL_areAttempts 210 = .ok (.iconst 0, 1) := by decide +kernel
theorem dL_areAttempts_211 : decode cL_areAttempts 211 = .ok (.istore 12, 2) := by decide +kernel
theorem dL_areAttempts_213 : decode cL_areAttempts 213 = .ok (.iload 12, 2) := by decide +kernel
theorem dL_areAttempts_215 : decode cL_areAttempts 215 = .ok (.iload 8, 2) := by decide +kernel
theorem dL_areAttempts_217 : decode cL_areAttempts 217 = .ok (.if_icmp .ge 183, 3) := by decide +kernel
theorem dL_areAttempts_220 : decode cL_areAttempts 220 = .ok (.iload 7, 2) := by decide +kernel
theorem dL_areAttempts_222 : decode cL_areAttempts 222 = .ok (.ifCond .eq 74, 3) := by decide +kernel
theorem dL_areAttempts_225 : decode cL_areAttempts 225 = .ok (.aload_n 0, 1) := by decide +kernel
theorem dL_areAttempts_226 : decode cL_areAttempts 226 = .ok (.iload 12, 2) := by decide +kernel
theorem dL_areAttempts_228 : decode cL_areAttempts 228 = .ok (.invokevirtual 159, 3) := by decide +kernel
theorem dL_areAttempts_231 : decode cL_areAttempts 231 = .ok (.aload_n 0, 1) := by decide +kernel
theorem dL_areAttempts_232 : decode cL_areAttempts 232 = .ok (.iload 8, 2) := by decide +kernel
theorem dL_areAttempts_234 : decode cL_areAttempts 234 = .ok (.invokevirtual 159, 3) := by decide +kernel
theorem dL_areAttempts_237 : decode cL_areAttempts 237 = .ok (.if_icmp .ne 14, 3) := by decide +kernel
theorem dL_areAttempts_240 : decode cL_areAttempts 240 = .ok (.aload_n 0, 1) := by decide +kernel
theorem dL_areAttempts_241 : decode cL_areAttempts 241 = .ok (.iload 12, 2) := by decide +kernel
theorem dL_areAttempts_243 : decode cL_areAttempts 243 = .ok (.invokevirtual 156, 3) := by decide +kernel
theorem dL_areAttempts_246 : decode cL_areAttempts 246 = .ok (.iload 9, 2) := by decide +kernel
theorem dL_areAttempts_248 : decode cL_areAttempts 248 = .ok (.if_icmp .gt 48, 3) := by decide +kernel
theorem dL_areAttempts_251 : decode cL_areAttempts 251 = .ok (.aload_n 0, 1) := by decide +kernel
theorem dL_areAttempts_252 : decode cL_areAttempts 252 = .ok (.iload 12, 2) := by decide +kernel
theorem dL_areAttempts_254 : decode cL_areAttempts 254 = .ok (.invokevirtual 82, 3) := by decide +kernel
theorem dL_areAttempts_257 : decode cL_areAttempts 257 = .ok (.aload_n 0, 1) := by decide +kernel
theorem dL_areAttempts_258 : decode cL_areAttempts 258 = .ok (.iload 8, 2) := by decide +kernel
theorem dL_areAttempts_260 : decode cL_areAttempts 260 = .ok (.invokevirtual 82, 3) := by decide +kernel
theorem dL_areAttempts_263 : decode cL_areAttempts 263 = .ok (.if_icmp .eq 29, 3) := by decide +kernel
theorem dL_areAttempts_266 : decode cL_areAttempts 266 = .ok (.aload_n 0, 1) := by decide +kernel
theorem dL_areAttempts_267 : decode cL_areAttempts 267 = .ok (.iload 12, 2) := by decide +kernel
theorem dL_areAttempts_269 : decode cL_areAttempts 269 = .ok (.invokevirtual 82, 3) := by decide +kernel
theorem dL_areAttempts_272 : decode cL_areAttempts 272 = .ok (.aload_n 0, 1) := by decide +kernel
theorem dL_areAttempts_273 : decode cL_areAttempts 273 = .ok (.iload 8, 2) := by decide +kernel
theorem dL_areAttempts_275 : decode cL_areAttempts 275 = .ok (.invokevirtual 82, 3) := by decide +kernel
theorem dL_areAttempts_278 : decode cL_areAttempts 278 = .ok (.if_icmp .ge 18, 3) := by decide +kernel
theorem dL_areAttempts_281 : decode cL_areAttempts 281 = .ok (.aload_n 0, 1) := by decide +kernel
theorem dL_areAttempts_282 : decode cL_areAttempts 282 = .ok (.iload 12, 2) := by decide +kernel
theorem dL_areAttempts_284 : decode cL_areAttempts 284 = .ok (.invokevirtual 156, 3) := by decide +kernel
theorem dL_areAttempts_287 : decode cL_areAttempts 287 = .ok (.iload 9, 2) := by decide +kernel
theorem dL_areAttempts_289 : decode cL_areAttempts 289 = .ok (.if_icmp .gt 7, 3) := by decide +kernel
theorem dL_areAttempts_292 : decode cL_areAttempts 292 = .ok (.iconst 1, 1) := by decide +kernel
theorem dL_areAttempts_293 : decode cL_areAttempts 293 = .ok (.goto 4, 3) := by decide +kernel
theorem dL_areAttempts_296 : decode cL_areAttempts 296 = .ok (.iconst 0, 1) := by decide +kernel
theorem dL_areAttempts_297 : decode cL_areAttempts 297 = .ok (.istore 7, 2) := by decide +kernel
theorem dL_areAttempts_299 : decode cL_areAttempts 299 = .ok (.aload_n 0, 1) := by decide +kernel
theorem dL_areAttempts_300 : decode cL_areAttempts 300 = .ok (.iload 12, 2) := by decide +kernel
theorem dL_areAttempts_302 : decode cL_areAttempts 302 = .ok (.invokevirtual 82, 3) := by decide +kernel
theorem dL_areAttempts_305 : decode cL_areAttempts 305 = .ok (.aload_n 0, 1) := by decide +kernel
theorem dL_areAttempts_306 : decode cL_areAttempts 306 = .ok (.iload 8, 2) := by decide +kernel
theorem dL_areAttempts_308 : decode cL_areAttempts 308 = .ok (.invokevirtual 82, 3) := by decide +kernel
theorem dL_areAttempts_311 : decode cL_areAttempts 311 = .ok (.if_icmp .ne 22, 3) := by decide +kernel
theorem dL_areAttempts_314 : decode cL_areAttempts 314 = .ok (.aload_n 0, 1) := by decide +kernel
theorem dL_areAttempts_315 : decode cL_areAttempts 315 = .ok (.iload 12, 2) := by decide +kernel
theorem dL_areAttempts_317 : decode cL_areAttempts 317 = .ok (.invokevirtual 162, 3) := by decide +kernel
theorem dL_areAttempts_320 : decode cL_areAttempts 320 = .ok (.aload_n 0, 1) := by decide +kernel
theorem dL_areAttempts_321 : decode cL_areAttempts 321 = .ok (.iload 8, 2) := by decide +kernel
theorem dL_areAttempts_323 : decode cL_areAttempts 323 = .ok (.invokevirtual 162, 3) := by decide +kernel
theorem dL_areAttempts_326 : decode cL_areAttempts 326 = .ok (.if_icmp .ne 7, 3) := by decide +kernel
theorem dL_areAttempts_329 : decode cL_areAttempts 329 = .ok (.iconst 1, 1) := by decide +kernel
theorem dL_areAttempts_330 : decode cL_areAttempts 330 = .ok (.goto 4, 3) := by decide +kernel
theorem dL_areAttempts_333 : decode cL_areAttempts 333 = .ok (.iconst 0, 1) := by decide +kernel
theorem dL_areAttempts_334 : decode cL_areAttempts 334 = .ok (.istore 13, 2) := by decide +kernel
theorem dL_areAttempts_336 : decode cL_areAttempts 336 = .ok (.iload 7, 2) := by decide +kernel
theorem dL_areAttempts_338 : decode cL_areAttempts 338 = .ok (.ifCond .eq 38, 3) := by decide +kernel
theorem dL_areAttempts_341 : decode cL_areAttempts 341 = .ok (.iload 13, 2) := by decide +kernel
theorem dL_areAttempts_343 : decode cL_areAttempts 343 = .ok (.ifCond .eq 29, 3) := by decide +kernel
theorem dL_areAttempts_346 : decode cL_areAttempts 346 = .ok (.aload_n 0, 1) := by decide +kernel
theorem dL_areAttempts_347 : decode cL_areAttempts 347 = .ok (.iload 12, 2) := by decide +kernel
theorem dL_areAttempts_349 : decode cL_areAttempts 349 = .ok (.invokevirtual 156, 3) := by decide +kernel
theorem dL_areAttempts_352 : decode cL_areAttempts 352 = .ok (.iload 10, 2) := by decide +kernel
theorem dL_areAttempts_354 : decode cL_areAttempts 354 = .ok (.if_icmp .ne 22, 3) := by decide +kernel
theorem dL_areAttempts_357 : decode cL_areAttempts 357 = .ok (.aload_n 0, 1) := by decide +kernel
theorem dL_areAttempts_358 : decode cL_areAttempts 358 = .ok (.iload 12, 2) := by decide +kernel
theorem dL_areAttempts_360 : decode cL_areAttempts 360 = .ok (.invokevirtual 159, 3) := by decide +kernel
theorem dL_areAttempts_363 : decode cL_areAttempts 363 = .ok (.aload_n 0, 1) := by decide +kernel
theorem dL_areAttempts_364 : decode cL_areAttempts 364 = .ok (.iload 8, 2) := by decide +kernel
theorem dL_areAttempts_366 : decode cL_areAttempts 366 = .ok (.invokevirtual 159, 3) := by decide +kernel
theorem dL_areAttempts_369 : decode cL_areAttempts 369 = .ok (.if_icmp .eq 7, 3) := by decide +kernel
theorem dL_areAttempts_372 : decode cL_areAttempts 372 = .ok (.iconst 1, 1) := by decide +kernel
theorem dL_areAttempts_373 : decode cL_areAttempts 373 = .ok (.goto 4, 3) := by decide +kernel
theorem dL_areAttempts_376 : decode cL_areAttempts 376 = .ok (.iconst 0, 1) := by decide +kernel
theorem dL_areAttempts_377 : decode cL_areAttempts 377 = .ok (.istore 7, 2) := by decide +kernel
theorem dL_areAttempts_379 : decode cL_areAttempts 379 = .ok (.iload 11, 2) := by decide +kernel
theorem dL_areAttempts_381 : decode cL_areAttempts 381 = .ok (.iload 13, 2) := by decide +kernel
theorem dL_areAttempts_383 : decode cL_areAttempts 383 = .ok (.ifCond .eq 7, 3) := by decide +kernel
theorem dL_areAttempts_386 : decode cL_areAttempts 386 = .ok (.iconst 1, 1) := by decide +kernel
theorem dL_areAttempts_387 : decode cL_areAttempts 387 = .ok (.goto 4, 3) := by decide +kernel
theorem dL_areAttempts_390 : decode cL_areAttempts 390 = .ok (.iconst 0, 1) := by decide +kernel
theorem dL_areAttempts_391 : decode cL_areAttempts 391 = .ok (.iadd, 1) := by decide +kernel
theorem dL_areAttempts_392 : decode cL_areAttempts 392 = .ok (.istore 11, 2) := by decide +kernel
theorem dL_areAttempts_394 : decode cL_areAttempts 394 = .ok (.iinc 12 1, 3) := by decide +kernel
theorem dL_areAttempts_397 : decode cL_areAttempts 397 = .ok (.goto (-184), 3) := by decide +kernel
theorem dL_areAttempts_400 : decode cL_areAttempts 400 = .ok (.iload 7, 2) := by decide +kernel
theorem dL_areAttempts_402 : decode cL_areAttempts 402 = .ok (.ifCond .eq 26, 3) := by decide +kernel
theorem dL_areAttempts_405 : decode cL_areAttempts 405 = .ok (.iload 11, 2) := by decide +kernel
theorem dL_areAttempts_407 : decode cL_areAttempts 407 = .ok (.aload_n 0, 1) := by decide +kernel
theorem dL_areAttempts_408 : decode cL_areAttempts 408 = .ok (.iload 8, 2) := by decide +kernel
theorem dL_areAttempts_410 : decode cL_areAttempts 410 = .ok (.invokevirtual 165, 3) := by decide +kernel
theorem dL_areAttempts_413 : decode cL_areAttempts 413 = .ok (.ifCond .eq 7, 3) := by decide +kernel
theorem dL_areAttempts_416 : decode cL_areAttempts 416 = .ok (.iconst 1, 1) := by decide +kernel
theorem dL_areAttempts_417 : decode cL_areAttempts 417 = .ok (.goto 4, 3) := by decide +kernel
theorem dL_areAttempts_420 : decode cL_areAttempts 420 = .ok (.iconst 0, 1) := by decide +kernel
theorem dL_areAttempts_421 : decode cL_areAttempts 421 = .ok (.if_icmp .ne 7, 3) := by decide +kernel
theorem dL_areAttempts_424 : decode cL_areAttempts 424 = .ok (.iconst 1, 1) := by decide +kernel
theorem dL_areAttempts_425 : decode cL_areAttempts 425 = .ok (.goto 4, 3) := by decide +kernel
theorem dL_areAttempts_428 : decode cL_areAttempts 428 = .ok (.iconst 0, 1) := by decide +kernel
theorem dL_areAttempts_429 : decode cL_areAttempts 429 = .ok (.istore 7, 2) := by decide +kernel
theorem dL_areAttempts_431 : decode cL_areAttempts 431 = .ok (.iload 6, 2) := by decide +kernel
theorem dL_areAttempts_433 : decode cL_areAttempts 433 = .ok (.iload 11, 2) := by decide +kernel
theorem dL_areAttempts_435 : decode cL_areAttempts 435 = .ok (.iadd, 1) := by decide +kernel
theorem dL_areAttempts_436 : decode cL_areAttempts 436 = .ok (.istore 6, 2) := by decide +kernel
theorem dL_areAttempts_438 : decode cL_areAttempts 438 = .ok (.iinc 8 1, 3) := by decide +kernel
theorem dL_areAttempts_441 : decode cL_areAttempts 441 = .ok (.goto (-374), 3) := by decide +kernel
theorem dL_areAttempts_444 : decode cL_areAttempts 444 = .ok (.iload 7, 2) := by decide +kernel
theorem dL_areAttempts_446 : decode cL_areAttempts 446 = .ok (.ifCond .eq 47, 3) := by decide +kernel
theorem dL_areAttempts_449 : decode cL_areAttempts 449 = .ok (.iload 4, 2) := by decide +kernel
theorem dL_areAttempts_451 : decode cL_areAttempts 451 = .ok (.iload_n 2, 1) := by decide +kernel
theorem dL_areAttempts_452 : decode cL_areAttempts 452 = .ok (.if_icmp .ne 41, 3) := by decide +kernel
theorem dL_areAttempts_455 : decode cL_areAttempts 455 = .ok (.aload_n 0, 1) := by decide +kernel
theorem dL_areAttempts_456 : decode cL_areAttempts 456 = .ok (.invokevirtual 168, 3) := by decide +kernel
theorem dL_areAttempts_459 : decode cL_areAttempts 459 = .ok (.iload_n 2, 1) := by decide +kernel
theorem dL_areAttempts_460 : decode cL_areAttempts 460 = .ok (.ifCond .ne 7, 3) := by decide +kernel
theorem dL_areAttempts_463 : decode cL_areAttempts 463 = .ok (.fconst 0, 1) := by decide +kernel
theorem dL_areAttempts_464 : decode cL_areAttempts 464 = .ok (.goto 13, 3) := by decide +kernel
theorem dL_areAttempts_467 : decode cL_areAttempts 467 = .ok (.iload 5, 2) := by decide +kernel
theorem dL_areAttempts_469 : decode cL_areAttempts 469 = .ok (.i2f, 1) := by decide +kernel
theorem dL_areAttempts_470 : decode cL_areAttempts 470 = .ok (.iload_n 2, 1) := by decide +kernel
theorem dL_areAttempts_471 : decode cL_areAttempts 471 = .ok (.aload_n 1, 1) := by decide +kernel
theorem dL_areAttempts_472 : decode cL_areAttempts 472 = .ok (.iconst 2, 1) := by decide +kernel
theorem dL_areAttempts_473 : decode cL_areAttempts 473 = .ok (.iaload, 1) := by decide +kernel
theorem dL_areAttempts_474 : decode cL_areAttempts 474 = .ok (.imul, 1) := by decide +kernel
theorem dL_areAttempts_475 : decode cL_areAttempts 475 = .ok (.i2f, 1) := by decide +kernel
theorem dL_areAttempts_476 : decode cL_areAttempts 476 = .ok (.fdiv, 1) := by decide +kernel
theorem dL_areAttempts_477 : decode cL_areAttempts 477 = .ok (.fcmp .l, 1) := by decide +kernel
theorem dL_areAttempts_478 : decode cL_areAttempts 478 = .ok (.ifCond .ne 15, 3) := by decide +kernel
theorem dL_areAttempts_481 : decode cL_areAttempts 481 = .ok (.iload 6, 2) := by decide +kernel
theorem dL_areAttempts_483 : decode cL_areAttempts 483 = .ok (.iload_n 3, 1) := by decide +kernel
theorem dL_areAttempts_484 : decode cL_areAttempts 484 = .ok (.iconst 2, 1) := by decide +kernel
theorem dL_areAttempts_485 : decode cL_areAttempts 485 = .ok (.idiv, 1) := by decide +kernel
theorem dL_areAttempts_486 : decode cL_areAttempts 486 = .ok (.if_icmp .gt 7, 3) := by decide +kernel
theorem dL_areAttempts_489 : decode cL_areAttempts 489 = .ok (.iconst 1, 1) := by decide +kernel
theorem dL_areAttempts_490 : decode cL_areAttempts 490 = .ok (.goto 4, 3) := by decide +kernel
theorem dL_areAttempts_493 : decode cL_areAttempts 493 = .ok (.iconst 0, 1) := by decide +kernel
theorem dL_areAttempts_494 : decode cL_areAttempts 494 = .ok (.ireturn, 1) := by decide +kernel
theorem dL_isMade_0 : decode cL_isMade 0 = .ok (.iload 8, 2) := by decide +kernel
theorem dL_isMade_2 : decode cL_isMade 2 = .ok (.bipush 6, 2) := by decide +kernel
theorem dL_isMade_4 : decode cL_isMade 4 = .ok (.irem, 1) := by decide +kernel
theorem dL_isMade_5 : decode cL_isMade 5 = .ok (.istore 11, 2) := by decide +kernel
theorem dL_isMade_7 : decode cL_isMade 7 = .ok (.iload 8, 2) := by decide +kernel
theorem dL_isMade_9 : decode cL_isMade 9 = .ok (.bipush 6, 2) := by decide +kernel
theorem dL_isMade_11 : decode cL_isMade 11 = .ok (.idiv, 1) := by decide +kernel
theorem dL_isMade_12 : decode cL_isMade 12 = .ok (.aload 7, 2) := by decide +kernel
theorem dL_isMade_14 : decode cL_isMade 14 = .ok (.iconst 0, 1) := by decide +kernel
theorem dL_isMade_15 : decode cL_isMade 15 = .ok (.iaload, 1) := by decide +kernel
theorem dL_isMade_16 : decode cL_isMade 16 = .ok (.iconst 1, 1) := by decide +kernel
theorem dL_isMade_17 : decode cL_isMade 17 = .ok (.iadd, 1) := by decide +kernel
theorem dL_isMade_18 : decode cL_isMade 18 = .ok (.irem, 1) := by decide +kernel
theorem dL_isMade_19 : decode cL_isMade 19 = .ok (.istore 12, 2) := by decide +kernel
theorem dL_isMade_21 : decode cL_isMade 21 = .ok (.iload 11, 2) := by decide +kernel
theorem dL_isMade_23 : decode cL_isMade 23 = .ok (.iconst 3, 1) := by decide +kernel
theorem dL_isMade_24 : decode cL_isMade 24 = .ok (.if_icmp .eq 9, 3) := by decide +kernel
theorem dL_isMade_27 : decode cL_isMade 27 = .ok (.iload 11, 2) := by decide +kernel
theorem dL_isMade_29 : decode cL_isMade 29 = .ok (.iconst 5, 1) := by decide +kernel
theorem dL_isMade_30 : decode cL_isMade 30 = .ok (.if_icmp .ne 15, 3) := by decide +kernel
theorem dL_isMade_33 : decode cL_isMade 33 = .ok (.iload 9, 2) := by decide +kernel
theorem dL_isMade_35 : decode cL_isMade 35 = .ok (.aload 7, 2) := by decide +kernel
theorem dL_isMade_37 : decode cL_isMade 37 = .ok (.iconst 0, 1) := by decide +kernel
theorem dL_isMade_38 : decode cL_isMade 38 = .ok (.iaload, 1) := by decide +kernel
theorem dL_isMade_39 : decode cL_isMade 39 = .ok (.iconst 1, 1) := by decide +kernel
theorem dL_isMade_40 : decode cL_isMade 40 = .ok (.iadd, 1) := by decide +kernel
theorem dL_isMade_41 : decode cL_isMade 41 = .ok (.irem, 1) := by decide +kernel
theorem dL_isMade_42 : decode cL_isMade 42 = .ok (.goto 8, 3) := by decide +kernel
theorem dL_isMade_45 : decode cL_isMade 45 = .ok (.iload 9, 2) := by decide +kernel
theorem dL_isMade_47 : decode cL_isMade 47 = .ok (.bipush 6, 2) := by decide +kernel
theorem dL_isMade_49 : decode cL_isMade 49 = .ok (.irem, 1) := by decide +kernel
theorem dL_isMade_50 : decode cL_isMade 50 = .ok (.istore 13, 2) := by decide +kernel
theorem dL_isMade_52 : decode cL_isMade 52 = .ok (.iload 11, 2) := by decide +kernel
theorem dL_isMade_54 : decode cL_isMade 54 = .ok (.iconst 2, 1) := by decide +kernel
theorem dL_isMade_55 : decode cL_isMade 55 = .ok (.if_icmp .ne 14, 3) := by decide +kernel
theorem dL_isMade_58 : decode cL_isMade 58 = .ok (.iload 10, 2) := by decide +kernel
theorem dL_isMade_60 : decode cL_isMade 60 = .ok (.bipush 90, 2) := by decide +kernel
theorem dL_isMade_62 : decode cL_isMade 62 = .ok (.irem, 1) := by decide +kernel
theorem dL_isMade_63 : decode cL_isMade 63 = .ok (.bipush 20, 2) := by decide +kernel
theorem dL_isMade_65 : decode cL_isMade 65 = .ok (.isub, 1) := by decide +kernel
theorem dL_isMade_66 : decode cL_isMade 66 = .ok (.goto 24, 3) := by decide +kernel
theorem dL_isMade_69 : decode cL_isMade 69 = .ok (.iload 11, 2) := by decide +kernel
theorem dL_isMade_71 : decode cL_isMade 71 = .ok (.iconst 1, 1) := by decide +kernel
theorem dL_isMade_72 : decode cL_isMade 72 = .ok (.if_icmp .ne 13, 3) := by decide +kernel
theorem dL_isMade_75 : decode cL_isMade 75 = .ok (.iload 10, 2) := by decide +kernel
theorem dL_isMade_77 : decode cL_isMade 77 = .ok (.bipush 12, 2) := by decide +kernel
theorem dL_isMade_79 : decode cL_isMade 79 = .ok (.irem, 1) := by decide +kernel
theorem dL_isMade_80 : decode cL_isMade 80 = .ok (.iconst 3, 1) := by decide +kernel
theorem dL_isMade_81 : decode cL_isMade 81 = .ok (.isub, 1) := by decide +kernel
theorem dL_isMade_82 : decode cL_isMade 82 = .ok (.goto 8, 3) := by decide +kernel
theorem dL_isMade_85 : decode cL_isMade 85 = .ok (.iload 10, 2) := by decide +kernel
theorem dL_isMade_87 : decode cL_isMade 87 = .ok (.bipush 6, 2) := by decide +kernel
theorem dL_isMade_89 : decode cL_isMade 89 = .ok (.irem, 1) := by decide +kernel
theorem dL_isMade_90 : decode cL_isMade 90 = .ok (.istore 14, 2) := by decide +kernel
theorem dL_isMade_92 : decode cL_isMade 92 = .ok (.iload 11, 2) := by decide +kernel
theorem dL_isMade_94 : decode cL_isMade 94 = .ok (.ifCond .ne 13, 3) := by decide +kernel
theorem dL_isMade_97 : decode cL_isMade 97 = .ok (.iload 8, 2) := by decide +kernel
theorem dL_isMade_99 : decode cL_isMade 99 = .ok (.bipush 6, 2) := by decide +kernel
theorem dL_isMade_101 : decode cL_isMade 101 = .ok (.idiv, 1) := by decide +kernel
theorem dL_isMade_102 : decode cL_isMade 102 = .ok (.bipush 6, 2) := by decide +kernel
theorem dL_isMade_104 : decode cL_isMade 104 = .ok (.irem, 1) := by decide +kernel
theorem dL_isMade_105 : decode cL_isMade 105 = .ok (.istore 12, 2) := by decide +kernel
theorem dL_isMade_107 : decode cL_isMade 107 = .ok (.iload 9, 2) := by decide +kernel
theorem dL_isMade_109 : decode cL_isMade 109 = .ok (.bipush 40, 2) := by decide +kernel
theorem dL_isMade_111 : decode cL_isMade 111 = .ok (.irem, 1) := by decide +kernel
theorem dL_isMade_112 : decode cL_isMade 112 = .ok (.bipush 20, 2) := by decide +kernel
theorem dL_isMade_114 : decode cL_isMade 114 = .ok (.isub, 1) := by decide +kernel
theorem dL_isMade_115 : decode cL_isMade 115 = .ok (.istore 15, 2) := by decide +kernel
theorem dL_isMade_117 : decode cL_isMade 117 = .ok (.iload 11, 2) := by decide +kernel
theorem dL_isMade_119 : decode cL_isMade 119 = .ok (.ifCond .eq 33, 3) := by decide +kernel
theorem dL_isMade_122 : decode cL_isMade 122 = .ok (.iload 12, 2) := by decide +kernel
theorem dL_isMade_124 : decode cL_isMade 124 = .ok (.aload 7, 2) := by decide +kernel
theorem dL_isMade_126 : decode cL_isMade 126 = .ok (.iconst 0, 1) := by decide +kernel
theorem dL_isMade_127 : decode cL_isMade 127 = .ok (.iaload, 1) := by decide +kernel
theorem dL_isMade_128 : decode cL_isMade 128 = .ok (.if_icmp .ge 28, 3) := by decide +kernel
theorem dL_isMade_131 : decode cL_isMade 131 = .ok (.iload 11, 2) := by decide +kernel
theorem dL_isMade_133 : decode cL_isMade 133 = .ok (.iconst 3, 1) := by decide +kernel
theorem dL_isMade_134 : decode cL_isMade 134 = .ok (.if_icmp .eq 9, 3) := by decide +kernel
theorem dL_isMade_137 : decode cL_isMade 137 = .ok (.iload 11, 2) := by decide +kernel
theorem dL_isMade_139 : decode cL_isMade 139 = .ok (.iconst 5, 1) := by decide +kernel
theorem dL_isMade_140 : decode cL_isMade 140 = .ok (.if_icmp .ne 12, 3) := by decide +kernel
theorem dL_isMade_143 : decode cL_isMade 143 = .ok (.iload 13, 2) := by decide +kernel
theorem dL_isMade_145 : decode cL_isMade 145 = .ok (.aload 7, 2) := by decide +kernel
theorem dL_isMade_147 : decode cL_isMade 147 = .ok (.iconst 0, 1) := by decide +kernel
theorem dL_isMade_148 : decode cL_isMade 148 = .ok (.iaload, 1) := by decide +kernel
theorem dL_isMade_149 : decode cL_isMade 149 = .ok (.if_icmp .ge 7, 3) := by decide +kernel
theorem dL_isMade_152 : decode cL_isMade 152 = .ok (.iconst 1, 1) := by decide +kernel
theorem dL_isMade_153 : decode cL_isMade 153 = .ok (.goto 4, 3) := by decide +kernel
theorem dL_isMade_156 : decode cL_isMade 156 = .ok (.iconst 0, 1) := by decide +kernel
theorem dL_isMade_157 : decode cL_isMade 157 = .ok (.istore 16, 2) := by decide +kernel
theorem dL_isMade_159 : decode cL_isMade 159 = .ok (.iload 11, 2) := by decide +kernel
theorem dL_isMade_161 : decode cL_isMade 161 = .ok (.ifCond .ne 22, 3) := by decide +kernel
theorem dL_isMade_164 : decode cL_isMade 164 = .ok (.iload 12, 2) := by decide +kernel
theorem dL_isMade_166 : decode cL_isMade 166 = .ok (.ifCond .le 13, 3) := by decide +kernel
theorem dL_isMade_169 : decode cL_isMade 169 = .ok (.iload 12, 2) := by decide +kernel
theorem dL_isMade_171 : decode cL_isMade 171 = .ok (.iconst 5, 1) := by decide +kernel
theorem dL_isMade_172 : decode cL_isMade 172 = .ok (.if_icmp .ge 7, 3) := by decide +kernel
theorem dL_isMade_175 : decode cL_isMade 175 = .ok (.iconst 1, 1) := by decide +kernel
theorem dL_isMade_176 : decode cL_isMade 176 = .ok (.goto 91, 3) := by decide +kernel
theorem dL_isMade_179 : decode cL_isMade 179 = .ok (.iconst 0, 1) := by decide +kernel
theorem dL_isMade_180 : decode cL_isMade 180 = .ok (.goto 87, 3) := by decide +kernel
theorem dL_isMade_183 : decode cL_isMade 183 = .ok (.iload 11, 2) := by decide +kernel
theorem dL_isMade_185 : decode cL_isMade 185 = .ok (.iconst 1, 1) := by decide +kernel
theorem dL_isMade_186 : decode cL_isMade 186 = .ok (.if_icmp .ne 28, 3) := by decide +kernel
theorem dL_isMade_189 : decode cL_isMade 189 = .ok (.iload 13, 2) := by decide +kernel
theorem dL_isMade_191 : decode cL_isMade 191 = .ok (.iconst 5, 1) := by decide +kernel
theorem dL_isMade_192 : decode cL_isMade 192 = .ok (.if_icmp .ge 18, 3) := by decide +kernel
theorem dL_isMade_195 : decode cL_isMade 195 = .ok (.iload 13, 2) := by decide +kernel
theorem dL_isMade_197 : decode cL_isMade 197 = .ok (.iconst 3, 1) := by decide +kernel
theorem dL_isMade_198 : decode cL_isMade 198 = .ok (.if_icmp .ne 8, 3) := by decide +kernel
theorem dL_isMade_201 : decode cL_isMade 201 = .ok (.iload 14, 2) := by decide +kernel
theorem dL_isMade_203 : decode cL_isMade 203 = .ok (.ifCond .le 7, 3) := by decide +kernel
theorem dL_isMade_206 : decode cL_isMade 206 = .ok (.iconst 1, 1) := by decide +kernel
theorem dL_isMade_207 : decode cL_isMade 207 = .ok (.goto 60, 3) := by decide +kernel
theorem dL_isMade_210 : decode cL_isMade 210 = .ok (.iconst 0, 1) := by decide +kernel
theorem dL_isMade_211 : decode cL_isMade 211 = .ok (.goto 56, 3) := by decide +kernel
theorem dL_isMade_214 : decode cL_isMade 214 = .ok (.iload 11, 2) := by decide +kernel
theorem dL_isMade_216 : decode cL_isMade 216 = .ok (.iconst 4, 1) := by decide +kernel
theorem dL_isMade_217 : decode cL_isMade 217 = .ok (.if_icmp .ne 28, 3) := by decide +kernel
theorem dL_isMade_220 : decode cL_isMade 220 = .ok (.iload 13, 2) := by decide +kernel
theorem dL_isMade_222 : decode cL_isMade 222 = .ok (.iconst 4, 1) := by decide +kernel
theorem dL_isMade_223 : decode cL_isMade 223 = .ok (.if_icmp .ge 18, 3) := by decide +kernel
theorem dL_isMade_226 : decode cL_isMade 226 = .ok (.iload 14, 2) := by decide +kernel
theorem dL_isMade_228 : decode cL_isMade 228 = .ok (.ifCond .le 13, 3) := by decide +kernel
theorem dL_isMade_231 : decode cL_isMade 231 = .ok (.iload 14, 2) := by decide +kernel
theorem dL_isMade_233 : decode cL_isMade 233 = .ok (.iconst 5, 1) := by decide +kernel
theorem dL_isMade_234 : decode cL_isMade 234 = .ok (.if_icmp .ge 7, 3) := by decide +kernel
theorem dL_isMade_237 : decode cL_isMade 237 = .ok (.iconst 1, 1) := by decide +kernel
theorem dL_isMade_238 : decode cL_isMade 238 = .ok (.goto 29, 3) := by decide +kernel
theorem dL_isMade_241 : decode cL_isMade 241 = .ok (.iconst 0, 1) := by decide +kernel
theorem dL_isMade_242 : decode cL_isMade 242 = .ok (.goto 25, 3) := by decide +kernel
theorem dL_isMade_245 : decode cL_isMade 245 = .ok (.iload 11, 2) := by decide +kernel
theorem dL_isMade_247 : decode cL_isMade 247 = .ok (.iconst 5, 1) := by decide +kernel
theorem dL_isMade_248 : decode cL_isMade 248 = .ok (.if_icmp .ne 14, 3) := by decide +kernel
theorem dL_isMade_251 : decode cL_isMade 251 = .ok (.iload 14, 2) := by decide +kernel
theorem dL_isMade_253 : decode cL_isMade 253 = .ok (.ifCond .le 13, 3) := by decide +kernel
theorem dL_isMade_256 : decode cL_isMade 256 = .ok (.iload 14, 2) := by decide +kernel
theorem dL_isMade_258 : decode cL_isMade 258 = .ok (.iconst 5, 1) := by decide +kernel
theorem dL_isMade_259 : decode cL_isMade 259 = .ok (.if_icmp .ge 7, 3) := by decide +kernel
theorem dL_isMade_262 : decode cL_isMade 262 = .ok (.iconst 1, 1) := by decide +kernel
theorem dL_isMade_263 : decode cL_isMade 263 = .ok (.goto 4, 3) := by decide +kernel
theorem dL_isMade_266 : decode cL_isMade 266 = .ok (.iconst 0, 1) := by decide +kernel
theorem dL_isMade_267 : decode cL_isMade 267 = .ok (.istore 17, 2) := by decide +kernel
theorem dL_isMade_269 : decode cL_isMade 269 = .ok (.iload 16, 2) := by decide +kernel
theorem dL_isMade_271 : decode cL_isMade 271 = .ok (.ifCond .ne 7, 3) := by decide +kernel
theorem dL_isMade_274 : decode cL_isMade 274 = .ok (.iconst 0, 1) := by decide +kernel
theorem dL_isMade_275 : decode cL_isMade 275 = .ok (.goto 58, 3) := by decide +kernel
theorem dL_isMade_278 : decode cL_isMade 278 = .ok (.iload 11, 2) := by decide +kernel
theorem dL_isMade_280 : decode cL_isMade 280 = .ok (.ifCond .ne 8, 3) := by decide +kernel
theorem dL_isMade_283 : decode cL_isMade 283 = .ok (.bipush 12, 2) := by decide +kernel
theorem dL_isMade_285 : decode cL_isMade 285 = .ok (.goto 48, 3) := by decide +kernel
theorem dL_isMade_288 : decode cL_isMade 288 = .ok (.iload 11, 2) := by decide +kernel
theorem dL_isMade_290 : decode cL_isMade 290 = .ok (.iconst 3, 1) := by decide +kernel
theorem dL_isMade_291 : decode cL_isMade 291 = .ok (.if_icmp .ne 17, 3) := by decide +kernel
theorem dL_isMade_294 : decode cL_isMade 294 = .ok (.aload 5, 2) := by decide +kernel
theorem dL_isMade_296 : decode cL_isMade 296 = .ok (.iload 12, 2) := by decide +kernel
theorem dL_isMade_298 : decode cL_isMade 298 = .ok (.iaload, 1) := by decide +kernel
theorem dL_isMade_299 : decode cL_isMade 299 = .ok (.aload 5, 2) := by decide +kernel
theorem dL_isMade_301 : decode cL_isMade 301 = .ok (.iload 13, 2) := by decide +kernel
theorem dL_isMade_303 : decode cL_isMade 303 = .ok (.iaload, 1) := by decide +kernel
theorem dL_isMade_304 : decode cL_isMade 304 = .ok (.iadd, 1) := by decide +kernel
theorem dL_isMade_305 : decode cL_isMade 305 = .ok (.goto 28, 3) := by decide +kernel
theorem dL_isMade_308 : decode cL_isMade 308 = .ok (.iload 11, 2) := by decide +kernel
theorem dL_isMade_310 : decode cL_isMade 310 = .ok (.iconst 5, 1) := by decide +kernel
theorem dL_isMade_311 : decode cL_isMade 311 = .ok (.if_icmp .ne 17, 3) := by decide +kernel
theorem dL_isMade_314 : decode cL_isMade 314 = .ok (.aload 5, 2) := by decide +kernel
theorem dL_isMade_316 : decode cL_isMade 316 = .ok (.iload 12, 2) := by decide +kernel
theorem dL_isMade_318 : decode cL_isMade 318 = .ok (.iaload, 1) := by decide +kernel
theorem dL_isMade_319 : decode cL_isMade 319 = .ok (.aload 5, 2) := by decide +kernel
theorem dL_isMade_321 : decode cL_isMade 321 = .ok (.iload 13, 2) := by decide +kernel
theorem dL_isMade_323 : decode cL_isMade 323 = .ok (.iaload, 1) := by decide +kernel
theorem dL_isMade_324 : decode cL_isMade 324 = .ok (.imul, 1) := by decide +kernel
theorem dL_isMade_325 : decode cL_isMade 325 = .ok (.goto 8, 3) := by decide +kernel
theorem dL_isMade_328 : decode cL_isMade 328 = .ok (.aload 5, 2) := by decide +kernel
theorem dL_isMade_330 : decode cL_isMade 330 = .ok (.iload 12, 2) := by decide +kernel
theorem dL_isMade_332 : decode cL_isMade 332 = .ok (.iaload, 1) := by decide +kernel
theorem dL_isMade_333 : decode cL_isMade 333 = .ok (.istore 18, 2) := by decide +kernel
theorem dL_isMade_335 : decode cL_isMade 335 = .ok (.iload 16, 2) := by decide +kernel
theorem dL_isMade_337 : decode cL_isMade 337 = .ok (.ifCond .ne 7, 3) := by decide +kernel
theorem dL_isMade_340 : decode cL_isMade 340 = .ok (.iconst 0, 1) := by decide +kernel
theorem dL_isMade_341 : decode cL_isMade 341 = .ok (.goto 78, 3) := by decide +kernel
theorem dL_isMade_344 : decode cL_isMade 344 = .ok (.iload 11, 2) := by decide +kernel
theorem dL_isMade_346 : decode cL_isMade 346 = .ok (.ifCond .ne 8, 3) := by decide +kernel
theorem dL_isMade_349 : decode cL_isMade 349 = .ok (.iload 12, 2) := by decide +kernel
theorem dL_isMade_351 : decode cL_isMade 351 = .ok (.goto 68, 3) := by decide +kernel
theorem dL_isMade_354 : decode cL_isMade 354 = .ok (.iload 11, 2) := by decide +kernel
theorem dL_isMade_356 : decode cL_isMade 356 = .ok (.iconst 3, 1) := by decide +kernel
theorem dL_isMade_357 : decode cL_isMade 357 = .ok (.if_icmp .ne 17, 3) := by decide +kernel
theorem dL_isMade_360 : decode cL_isMade 360 = .ok (.aload 6, 2) := by decide +kernel
theorem dL_isMade_362 : decode cL_isMade 362 = .ok (.iload 12, 2) := by decide +kernel
theorem dL_isMade_364 : decode cL_isMade 364 = .ok (.iaload, 1) := by decide +kernel
theorem dL_isMade_365 : decode cL_isMade 365 = .ok (.aload 6, 2) := by decide +kernel
theorem dL_isMade_367 : decode cL_isMade 367 = .ok (.iload 13, 2) := by decide +kernel
theorem dL_isMade_369 : decode cL_isMade 369 = .ok (.iaload, 1) := by decide +kernel
theorem dL_isMade_370 : decode cL_isMade 370 = .ok (.iadd, 1) := by decide +kernel
theorem dL_isMade_371 : decode cL_isMade 371 = .ok (.goto 48, 3) := by decide +kernel
theorem dL_isMade_374 : decode cL_isMade 374 = .ok (.iload 11, 2) := by decide +kernel
theorem dL_isMade_376 : decode cL_isMade 376 = .ok (.iconst 4, 1) := by decide +kernel
theorem dL_isMade_377 : decode cL_isMade 377 = .ok (.if_icmp .ne 8, 3) := by decide +kernel
theorem dL_isMade_380 : decode cL_isMade 380 = .ok (.iload 14, 2) := by decide +kernel
theorem dL_isMade_382 : decode cL_isMade 382 = .ok (.goto 37, 3) := by decide +kernel
theorem dL_isMade_385 : decode cL_isMade 385 = .ok (.iload 11, 2) := by decide +kernel
theorem dL_isMade_387 : decode cL_isMade 387 = .ok (.iconst 5, 1) := by decide +kernel
theorem dL_isMade_388 : decode cL_isMade 388 = .ok (.if_icmp .ne 26, 3) := by decide +kernel
theorem dL_isMade_391 : decode cL_isMade 391 = .ok (.iload 14, 2) := by decide +kernel
theorem dL_isMade_393 : decode cL_isMade 393 = .ok (.aload 6, 2) := by decide +kernel
theorem dL_isMade_395 : decode cL_isMade 395 = .ok (.iload 12, 2) := by decide +kernel
theorem dL_isMade_397 : decode cL_isMade 397 = .ok (.iaload, 1) := by decide +kernel
theorem dL_isMade_398 : decode cL_isMade 398 = .ok (.if_icmp .le 8, 3) := by decide +kernel
theorem dL_isMade_401 : decode cL_isMade 401 = .ok (.iload 14, 2) := by decide +kernel
theorem dL_isMade_403 : decode cL_isMade 403 = .ok (.goto 16, 3) := by decide +kernel
theorem dL_isMade_406 : decode cL_isMade 406 = .ok (.aload 6, 2) := by decide +kernel
theorem dL_isMade_408 : decode cL_isMade 408 = .ok (.iload 12, 2) := by decide +kernel
theorem dL_isMade_410 : decode cL_isMade 410 = .ok (.iaload, 1) := by decide +kernel
theorem dL_isMade_411 : decode cL_isMade 411 = .ok (.goto 8, 3) := by decide +kernel
theorem dL_isMade_414 : decode cL_isMade 414 = .ok (.aload 6, 2) := by decide +kernel
theorem dL_isMade_416 : decode cL_isMade 416 = .ok (.iload 12, 2) := by decide +kernel
theorem dL_isMade_418 : decode cL_isMade 418 = .ok (.iaload, 1) := by decide +kernel
theorem dL_isMade_419 : decode cL_isMade 419 = .ok (.istore 19, 2) := by decide +kernel
theorem dL_isMade_421 : decode cL_isMade 421 = .ok (.iload 16, 2) := by decide +kernel
theorem dL_isMade_423 : decode cL_isMade 423 = .ok (.ifCond .ne 8, 3) := by decide +kernel
theorem dL_isMade_426 : decode cL_isMade 426 = .ok (.bipush (-30), 2) := by decide +kernel
theorem dL_isMade_428 : decode cL_isMade 428 = .ok (.goto 46, 3) := by decide +kernel
theorem dL_isMade_431 : decode cL_isMade 431 = .ok (.iload 17, 2) := by decide +kernel
theorem dL_isMade_433 : decode cL_isMade 433 = .ok (.ifCond .ne 8, 3) := by decide +kernel
theorem dL_isMade_436 : decode cL_isMade 436 = .ok (.bipush (-20), 2) := by decide +kernel
theorem dL_isMade_438 : decode cL_isMade 438 = .ok (.goto 36, 3) := by decide +kernel
theorem dL_isMade_441 : decode cL_isMade 441 = .ok (.aload 7, 2) := by decide +kernel
theorem dL_isMade_443 : decode cL_isMade 443 = .ok (.iconst 0, 1) := by decide +kernel
theorem dL_isMade_444 : decode cL_isMade 444 = .ok (.iaload, 1) := by decide +kernel
theorem dL_isMade_445 : decode cL_isMade 445 = .ok (.bipush 14, 2) := by decide +kernel
theorem dL_isMade_447 : decode cL_isMade 447 = .ok (.if_icmp .eq 18, 3) := by decide +kernel
theorem dL_isMade_450 : decode cL_isMade 450 = .ok (.iload 18, 2) := by decide +kernel
theorem dL_isMade_452 : decode cL_isMade 452 = .ok (.sipush 300, 3) := by decide +kernel
theorem dL_isMade_455 : decode cL_isMade 455 = .ok (.if_icmp .gt 10, 3) := by decide +kernel
theorem dL_isMade_458 : decode cL_isMade 458 = .ok (.iload 19, 2) := by decide +kernel
theorem dL_isMade_460 : decode cL_isMade 460 = .ok (.bipush 8, 2) := by decide +kernel
theorem dL_isMade_462 : decode cL_isMade 462 = .ok (.if_icmp .le 8, 3) := by decide +kernel
theorem dL_isMade_465 : decode cL_isMade 465 = .ok (.bipush (-10), 2) := by decide +kernel
theorem dL_isMade_467 : decode cL_isMade 467 = .ok (.goto 7, 3) := by decide +kernel
theorem dL_isMade_470 : decode cL_isMade 470 = .ok (.aload 7, 2) := by decide +kernel
theorem dL_isMade_472 : decode cL_isMade 472 = .ok (.iconst 0, 1) := by decide +kernel
theorem dL_isMade_473 : decode cL_isMade 473 = .ok (.iaload, 1) := by decide +kernel
theorem dL_isMade_474 : decode cL_isMade 474 = .ok (.istore 20, 2) := by decide +kernel
theorem dL_isMade_476 : decode cL_isMade 476 = .ok (.aload_n 0, 1) := by decide +kernel
theorem dL_isMade_477 : decode cL_isMade 477 = .ok (.iload 11, 2) := by decide +kernel
theorem dL_isMade_479 : decode cL_isMade 479 = .ok (.iload 12, 2) := by decide +kernel
theorem dL_isMade_481 : decode cL_isMade 481 = .ok (.iload 11, 2) := by decide +kernel
theorem dL_isMade_483 : decode cL_isMade 483 = .ok (.iconst 2, 1) := by decide +kernel
theorem dL_isMade_484 : decode cL_isMade 484 = .ok (.if_icmp .ne 8, 3) := by decide +kernel
theorem dL_isMade_487 : decode cL_isMade 487 = .ok (.iload 15, 2) := by decide +kernel
theorem dL_isMade_489 : decode cL_isMade 489 = .ok (.goto 5, 3) := by decide +kernel
theorem dL_isMade_492 : decode cL_isMade 492 = .ok (.iload 13, 2) := by decide +kernel
theorem dL_isMade_494 : decode cL_isMade 494 = .ok (.iload 14, 2) := by decide +kernel
theorem dL_isMade_496 : decode cL_isMade 496 = .ok (.invokestatic 171, 3) := by decide +kernel
theorem dL_isMade_499 : decode cL_isMade 499 = .ok (.istore 21, 2) := by decide +kernel
theorem dL_isMade_501 : decode cL_isMade 501 = .ok (.iload 20, 2) := by decide +kernel
theorem dL_isMade_503 : decode cL_isMade 503 = .ok (.ifCond .lt 61, 3) := by decide +kernel
theorem dL_isMade_506 : decode cL_isMade 506 = .ok (.aload_n 1, 1) := by decide +kernel
theorem dL_isMade_507 : decode cL_isMade 507 = .ok (.iload 20, 2) := by decide +kernel
theorem dL_isMade_509 : decode cL_isMade 509 = .ok (.iload 11, 2) := by decide +kernel
theorem dL_isMade_511 : decode cL_isMade 511 = .ok (.iastore, 1) := by decide +kernel
theorem dL_isMade_512 : decode cL_isMade 512 = .ok (.aload_n 2, 1) := by decide +kernel
theorem dL_isMade_513 : decode cL_isMade 513 = .ok (.iload 20, 2) := by decide +kernel
theorem dL_isMade_515 : decode cL_isMade 515 = .ok (.iload 12, 2) := by decide +kernel
theorem dL_isMade_517 : decode cL_isMade 517 = .ok (.iastore, 1) := by decide +kernel
theorem dL_isMade_518 : decode cL_isMade 518 = .ok (.aload_n 3, 1) := by decide +kernel
theorem dL_isMade_519 : decode cL_isMade 519 = .ok (.iload 20, 2) := by decide +kernel
theorem dL_isMade_521 : decode cL_isMade 521 = .ok (.iload 11, 2) := by decide +kernel
theorem dL_isMade_523 : decode cL_isMade 523 = .ok (.iconst 2, 1) := by decide +kernel
theorem dL_isMade_524 : decode cL_isMade 524 = .ok (.if_icmp .ne 8, 3) := by decide +kernel
theorem dL_isMade_527 : decode cL_isMade 527 = .ok (.iload 15, 2) := by decide +kernel
theorem dL_isMade_529 : decode cL_isMade 529 = .ok (.goto 5, 3) := by decide +kernel
theorem dL_isMade_532 : decode cL_isMade 532 = .ok (.iload 13, 2) := by decide +kernel
theorem dL_isMade_534 : decode cL_isMade 534 = .ok (.iastore, 1) := by decide +kernel
theorem dL_isMade_535 : decode cL_isMade 535 = .ok (.aload 4, 2) := by decide +kernel
theorem dL_isMade_537 : decode cL_isMade 537 = .ok (.iload 20, 2) := by decide +kernel
theorem dL_isMade_539 : decode cL_isMade 539 = .ok (.iload 14, 2) := by decide +kernel
theorem dL_isMade_541 : decode cL_isMade 541 = .ok (.iastore, 1) := by decide +kernel
theorem dL_isMade_542 : decode cL_isMade 542 = .ok (.aload 5, 2) := by decide +kernel
theorem dL_isMade_544 : decode cL_isMade 544 = .ok (.iload 20, 2) := by decide +kernel
theorem dL_isMade_546 : decode cL_isMade 546 = .ok (.iload 18, 2) := by decide +kernel
theorem dL_isMade_548 : decode cL_isMade 548 = .ok (.iastore, 1) := by decide +kernel
theorem dL_isMade_549 : decode cL_isMade 549 = .ok (.aload 6, 2) := by decide +kernel
theorem dL_isMade_551 : decode cL_isMade 551 = .ok (.iload 20, 2) := by decide +kernel
theorem dL_isMade_553 : decode cL_isMade 553 = .ok (.iload 19, 2) := by decide +kernel
theorem dL_isMade_555 : decode cL_isMade 555 = .ok (.iastore, 1) := by decide +kernel
theorem dL_isMade_556 : decode cL_isMade 556 = .ok (.aload 7, 2) := by decide +kernel
theorem dL_isMade_558 : decode cL_isMade 558 = .ok (.iconst 0, 1) := by decide +kernel
theorem dL_isMade_559 : decode cL_isMade 559 = .ok (.dup2, 1) := by decide +kernel
theorem dL_isMade_560 : decode cL_isMade 560 = .ok (.iaload, 1) := by decide +kernel
theorem dL_isMade_561 : decode cL_isMade 561 = .ok (.iconst 1, 1) := by decide +kernel
theorem dL_isMade_562 : decode cL_isMade 562 = .ok (.iadd, 1) := by decide +kernel
theorem dL_isMade_563 : decode cL_isMade 563 = .ok (.iastore, 1) := by decide +kernel
theorem dL_isMade_564 : decode cL_isMade 564 = .ok (.iload 21, 2) := by decide +kernel
theorem dL_isMade_566 : decode cL_isMade 566 = .ok (.iload 20, 2) := by decide +kernel
theorem dL_isMade_568 : decode cL_isMade 568 = .ok (.if_icmp .ne 21, 3) := by decide +kernel
theorem dL_isMade_571 : decode cL_isMade 571 = .ok (.iload 20, 2) := by decide +kernel
theorem dL_isMade_573 : decode cL_isMade 573 = .ok (.ifCond .lt 12, 3) := by decide +kernel
theorem dL_isMade_576 : decode cL_isMade 576 = .ok (.aload_n 0, 1) := by decide +kernel
theorem dL_isMade_577 : decode cL_isMade 577 = .ok (.iload 20, 2) := by decide +kernel
theorem dL_isMade_579 : decode cL_isMade 579 = .ok (.invokevirtual 88, 3) := by decide +kernel
theorem dL_isMade_582 : decode cL_isMade 582 = .ok (.ifCond .ne 7, 3) := by decide +kernel
theorem dL_isMade_585 : decode cL_isMade 585 = .ok (.iconst 1, 1) := by decide +kernel
theorem dL_isMade_586 : decode cL_isMade 586 = .ok (.goto 4, 3) := by decide +kernel
theorem dL_isMade_589 : decode cL_isMade 589 = .ok (.iconst 0, 1) := by decide +kernel
theorem dL_isMade_590 : decode cL_isMade 590 = .ok (.ireturn, 1) := by decide +kernel
