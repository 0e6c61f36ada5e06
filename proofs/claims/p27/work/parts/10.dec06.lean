theorem dL_rules_46 : decode cL_rules 46 = .ok (.invokestatic 128, 3) := by decide +kernel
theorem dL_rules_49 : decode cL_rules 49 = .ok (.ifCond .ne 6, 3) := by decide +kernel
theorem dL_rules_52 : decode cL_rules 52 = .ok (.goto 315, 3) := by decide +kernel
theorem dL_rules_55 : decode cL_rules 55 = .ok (.aload_n 2, 1) := by decide +kernel
theorem dL_rules_56 : decode cL_rules 56 = .ok (.iload 5, 2) := by decide +kernel
theorem dL_rules_58 : decode cL_rules 58 = .ok (.iload 8, 2) := by decide +kernel
theorem dL_rules_60 : decode cL_rules 60 = .ok (.iconst 1, 1) := by decide +kernel
theorem dL_rules_61 : decode cL_rules 61 = .ok (.invokestatic 124, 3) := by decide +kernel
theorem dL_rules_64 : decode cL_rules 64 = .ok (.istore 9, 2) := by decide +kernel
theorem dL_rules_66 : decode cL_rules 66 = .ok (.aload_n 2, 1) := by decide +kernel
theorem dL_rules_67 : decode cL_rules 67 = .ok (.iload 5, 2) := by decide +kernel
theorem dL_rules_69 : decode cL_rules 69 = .ok (.iload 8, 2) := by decide +kernel
theorem dL_rules_71 : decode cL_rules 71 = .ok (.iconst 2, 1) := by decide +kernel
theorem dL_rules_72 : decode cL_rules 72 = .ok (.invokestatic 124, 3) := by decide +kernel
theorem dL_rules_75 : decode cL_rules 75 = .ok (.istore 10, 2) := by decide +kernel
theorem dL_rules_77 : decode cL_rules 77 = .ok (.aload_n 2, 1) := by decide +kernel
theorem dL_rules_78 : decode cL_rules 78 = .ok (.iload 5, 2) := by decide +kernel
theorem dL_rules_80 : decode cL_rules 80 = .ok (.iload 8, 2) := by decide +kernel
theorem dL_rules_82 : decode cL_rules 82 = .ok (.iconst 3, 1) := by decide +kernel
theorem dL_rules_83 : decode cL_rules 83 = .ok (.invokestatic 124, 3) := by decide +kernel
theorem dL_rules_86 : decode cL_rules 86 = .ok (.istore 11, 2) := by decide +kernel
theorem dL_rules_88 : decode cL_rules 88 = .ok (.iload 7, 2) := by decide +kernel
theorem dL_rules_90 : decode cL_rules 90 = .ok (.ifCond .ne 25, 3) := by decide +kernel
theorem dL_rules_93 : decode cL_rules 93 = .ok (.aload_n 0, 1) := by decide +kernel
theorem dL_rules_94 : decode cL_rules 94 = .ok (.iload 6, 2) := by decide +kernel
theorem dL_rules_96 : decode cL_rules 96 = .ok (.aload_n 0, 1) := by decide +kernel
theorem dL_rules_97 : decode cL_rules 97 = .ok (.iload 6, 2) := by decide +kernel
theorem dL_rules_99 : decode cL_rules 99 = .ok (.laload, 1) := by decide +kernel
theorem dL_rules_100 : decode cL_rules 100 = .ok (.iconst 0, 1) := by decide +kernel
theorem dL_rules_101 : decode cL_rules 101 = .ok (.sipush 255, 3) := by decide +kernel
theorem dL_rules_104 : decode cL_rules 104 = .ok (.iload 9, 2) := by decide +kernel
theorem dL_rules_106 : decode cL_rules 106 = .ok (.invokestatic 132, 3) := by decide +kernel
theorem dL_rules_109 : decode cL_rules 109 = .ok (.lastore, 1) := by decide +kernel
theorem dL_rules_110 : decode cL_rules 110 = .ok (.iload 6, 2) := by decide +kernel
theorem dL_rules_112 : decode cL_rules 112 = .ok (.iconst 1, 1) := by decide +kernel
theorem dL_rules_113 : decode cL_rules 113 = .ok (.iadd, 1) := by decide +kernel
theorem dL_rules_114 : decode cL_rules 114 = .ok (.ireturn, 1) := by decide +kernel
theorem dL_rules_115 : decode cL_rules 115 = .ok (.aload_n 0, 1) := by decide +kernel
theorem dL_rules_116 : decode cL_rules 116 = .ok (.iload 6, 2) := by decide +kernel
theorem dL_rules_118 : decode cL_rules 118 = .ok (.laload, 1) := by decide +kernel
theorem dL_rules_119 : decode cL_rules 119 = .ok (.bipush 15, 2) := by decide +kernel
theorem dL_rules_121 : decode cL_rules 121 = .ok (.iconst 3, 1) := by decide +kernel
theorem dL_rules_122 : decode cL_rules 122 = .ok (.invokestatic 116, 3) := by decide +kernel
theorem dL_rules_125 : decode cL_rules 125 = .ok (.istore 12, 2) := by decide +kernel
theorem dL_rules_127 : decode cL_rules 127 = .ok (.iload 7, 2) := by decide +kernel
theorem dL_rules_129 : decode cL_rules 129 = .ok (.iconst 2, 1) := by decide +kernel
theorem dL_rules_130 : decode cL_rules 130 = .ok (.if_icmp .ne 52, 3) := by decide +kernel
theorem dL_rules_133 : decode cL_rules 133 = .ok (.iload 12, 2) := by decide +kernel
theorem dL_rules_135 : decode cL_rules 135 = .ok (.ifCond .le 47, 3) := by decide +kernel
theorem dL_rules_138 : decode cL_rules 138 = .ok (.aload_n 0, 1) := by decide +kernel
theorem dL_rules_139 : decode cL_rules 139 = .ok (.iload 6, 2) := by decide +kernel
theorem dL_rules_141 : decode cL_rules 141 = .ok (.aload_n 0, 1) := by decide +kernel
theorem dL_rules_142 : decode cL_rules 142 = .ok (.iload 6, 2) := by decide +kernel
theorem dL_rules_144 : decode cL_rules 144 = .ok (.laload, 1) := by decide +kernel
theorem dL_rules_145 : decode cL_rules 145 = .ok (.iconst 0, 1) := by decide +kernel
theorem dL_rules_146 : decode cL_rules 146 = .ok (.sipush 255, 3) := by decide +kernel
theorem dL_rules_149 : decode cL_rules 149 = .ok (.iload 12, 2) := by decide +kernel
theorem dL_rules_151 : decode cL_rules 151 = .ok (.iconst 1, 1) := by decide +kernel
theorem dL_rules_152 : decode cL_rules 152 = .ok (.if_icmp .ne 8, 3) := by decide +kernel
theorem dL_rules_155 : decode cL_rules 155 = .ok (.iload 9, 2) := by decide +kernel
theorem dL_rules_157 : decode cL_rules 157 = .ok (.goto 16, 3) := by decide +kernel
theorem dL_rules_160 : decode cL_rules 160 = .ok (.iload 12, 2) := by decide +kernel
theorem dL_rules_162 : decode cL_rules 162 = .ok (.iconst 2, 1) := by decide +kernel
theorem dL_rules_163 : decode cL_rules 163 = .ok (.if_icmp .ne 8, 3) := by decide +kernel
theorem dL_rules_166 : decode cL_rules 166 = .ok (.iload 10, 2) := by decide +kernel
theorem dL_rules_168 : decode cL_rules 168 = .ok (.goto 5, 3) := by decide +kernel
theorem dL_rules_171 : decode cL_rules 171 = .ok (.iload 11, 2) := by decide +kernel
theorem dL_rules_173 : decode cL_rules 173 = .ok (.invokestatic 132, 3) := by decide +kernel
theorem dL_rules_176 : decode cL_rules 176 = .ok (.lastore, 1) := by decide +kernel
theorem dL_rules_177 : decode cL_rules 177 = .ok (.iload 6, 2) := by decide +kernel
theorem dL_rules_179 : decode cL_rules 179 = .ok (.iconst 1, 1) := by decide +kernel
theorem dL_rules_180 : decode cL_rules 180 = .ok (.iadd, 1) := by decide +kernel
theorem dL_rules_181 : decode cL_rules 181 = .ok (.ireturn, 1) := by decide +kernel
theorem dL_rules_182 : decode cL_rules 182 = .ok (.iload 11, 2) := by decide +kernel
theorem dL_rules_184 : decode cL_rules 184 = .ok (.bipush (-100), 2) := by decide +kernel
theorem dL_rules_186 : decode cL_rules 186 = .ok (.if_icmp .ne 7, 3) := by decide +kernel
theorem dL_rules_189 : decode cL_rules 189 = .ok (.iconst 1, 1) := by decide +kernel
theorem dL_rules_190 : decode cL_rules 190 = .ok (.goto 4, 3) := by decide +kernel
theorem dL_rules_193 : decode cL_rules 193 = .ok (.iconst 2, 1) := by decide +kernel
theorem dL_rules_194 : decode cL_rules 194 = .ok (.istore 13, 2) := by decide +kernel
theorem dL_rules_196 : decode cL_rules 196 = .ok (.iload 7, 2) := by decide +kernel
theorem dL_rules_198 : decode cL_rules 198 = .ok (.iconst 1, 1) := by decide +kernel
theorem dL_rules_199 : decode cL_rules 199 = .ok (.if_icmp .ne 112, 3) := by decide +kernel
theorem dL_rules_202 : decode cL_rules 202 = .ok (.aload 4, 2) := by decide +kernel
theorem dL_rules_204 : decode cL_rules 204 = .ok (.iconst 5, 1) := by decide +kernel
theorem dL_rules_205 : decode cL_rules 205 = .ok (.iaload, 1) := by decide +kernel
theorem dL_rules_206 : decode cL_rules 206 = .ok (.iload 13, 2) := by decide +kernel
theorem dL_rules_208 : decode cL_rules 208 = .ok (.iadd, 1) := by decide +kernel
theorem dL_rules_209 : decode cL_rules 209 = .ok (.bipush 64, 2) := by decide +kernel
theorem dL_rules_211 : decode cL_rules 211 = .ok (.if_icmp .ge 100, 3) := by decide +kernel
theorem dL_rules_214 : decode cL_rules 214 = .ok (.aload_n 0, 1) := by decide +kernel
theorem dL_rules_215 : decode cL_rules 215 = .ok (.iload 6, 2) := by decide +kernel
theorem dL_rules_217 : decode cL_rules 217 = .ok (.laload, 1) := by decide +kernel
theorem dL_rules_218 : decode cL_rules 218 = .ok (.lstore 14, 2) := by decide +kernel
theorem dL_rules_220 : decode cL_rules 220 = .ok (.aload_n 0, 1) := by decide +kernel
theorem dL_rules_221 : decode cL_rules 221 = .ok (.iload 6, 2) := by decide +kernel
theorem dL_rules_223 : decode cL_rules 223 = .ok (.lload 14, 2) := by decide +kernel
theorem dL_rules_225 : decode cL_rules 225 = .ok (.iconst 0, 1) := by decide +kernel
theorem dL_rules_226 : decode cL_rules 226 = .ok (.sipush 255, 3) := by decide +kernel
theorem dL_rules_229 : decode cL_rules 229 = .ok (.iload 9, 2) := by decide +kernel
theorem dL_rules_231 : decode cL_rules 231 = .ok (.invokestatic 132, 3) := by decide +kernel
theorem dL_rules_234 : decode cL_rules 234 = .ok (.lastore, 1) := by decide +kernel
theorem dL_rules_235 : decode cL_rules 235 = .ok (.aload_n 0, 1) := by decide +kernel
theorem dL_rules_236 : decode cL_rules 236 = .ok (.aload 4, 2) := by decide +kernel
theorem dL_rules_238 : decode cL_rules 238 = .ok (.iload 6, 2) := by decide +kernel
theorem dL_rules_240 : decode cL_rules 240 = .ok (.iconst 1, 1) := by decide +kernel
theorem dL_rules_241 : decode cL_rules 241 = .ok (.iadd, 1) := by decide +kernel
theorem dL_rules_242 : decode cL_rules 242 = .ok (.lload 14, 2) := by decide +kernel
theorem dL_rules_244 : decode cL_rules 244 = .ok (.iconst 0, 1) := by decide +kernel
theorem dL_rules_245 : decode cL_rules 245 = .ok (.sipush 255, 3) := by decide +kernel
theorem dL_rules_248 : decode cL_rules 248 = .ok (.iload 10, 2) := by decide +kernel
theorem dL_rules_250 : decode cL_rules 250 = .ok (.invokestatic 132, 3) := by decide +kernel
theorem dL_rules_253 : decode cL_rules 253 = .ok (.invokestatic 136, 3) := by decide +kernel
theorem dL_rules_256 : decode cL_rules 256 = .ok (.iload 13, 2) := by decide +kernel
theorem dL_rules_258 : decode cL_rules 258 = .ok (.iconst 2, 1) := by decide +kernel
theorem dL_rules_259 : decode cL_rules 259 = .ok (.if_icmp .ne 24, 3) := by decide +kernel
theorem dL_rules_262 : decode cL_rules 262 = .ok (.aload_n 0, 1) := by decide +kernel
theorem dL_rules_263 : decode cL_rules 263 = .ok (.aload 4, 2) := by decide +kernel
theorem dL_rules_265 : decode cL_rules 265 = .ok (.iload 6, 2) := by decide +kernel
theorem dL_rules_267 : decode cL_rules 267 = .ok (.iconst 2, 1) := by decide +kernel
theorem dL_rules_268 : decode cL_rules 268 = .ok (.iadd, 1) := by decide +kernel
theorem dL_rules_269 : decode cL_rules 269 = .ok (.lload 14, 2) := by decide +kernel
theorem dL_rules_271 : decode cL_rules 271 = .ok (.iconst 0, 1) := by decide +kernel
theorem dL_rules_272 : decode cL_rules 272 = .ok (.sipush 255, 3) := by decide +kernel
theorem dL_rules_275 : decode cL_rules 275 = .ok (.iload 11, 2) := by decide +kernel
theorem dL_rules_277 : decode cL_rules 277 = .ok (.invokestatic 132, 3) := by decide +kernel
theorem dL_rules_280 : decode cL_rules 280 = .ok (.invokestatic 136, 3) := by decide +kernel
theorem dL_rules_283 : decode cL_rules 283 = .ok (.aload 4, 2) := by decide +kernel
theorem dL_rules_285 : decode cL_rules 285 = .ok (.bipush 7, 2) := by decide +kernel
theorem dL_rules_287 : decode cL_rules 287 = .ok (.iaload, 1) := by decide +kernel
theorem dL_rules_288 : decode cL_rules 288 = .ok (.iload 6, 2) := by decide +kernel
theorem dL_rules_290 : decode cL_rules 290 = .ok (.if_icmp .ne 13, 3) := by decide +kernel
theorem dL_rules_293 : decode cL_rules 293 = .ok (.aload 4, 2) := by decide +kernel
theorem dL_rules_295 : decode cL_rules 295 = .ok (.bipush 7, 2) := by decide +kernel
theorem dL_rules_297 : decode cL_rules 297 = .ok (.iload 6, 2) := by decide +kernel
theorem dL_rules_299 : decode cL_rules 299 = .ok (.iload 13, 2) := by decide +kernel
theorem dL_rules_301 : decode cL_rules 301 = .ok (.iadd, 1) := by decide +kernel
theorem dL_rules_302 : decode cL_rules 302 = .ok (.iastore, 1) := by decide +kernel
theorem dL_rules_303 : decode cL_rules 303 = .ok (.iload 6, 2) := by decide +kernel
theorem dL_rules_305 : decode cL_rules 305 = .ok (.iload 13, 2) := by decide +kernel
theorem dL_rules_307 : decode cL_rules 307 = .ok (.iadd, 1) := by decide +kernel
theorem dL_rules_308 : decode cL_rules 308 = .ok (.iconst 1, 1) := by decide +kernel
theorem dL_rules_309 : decode cL_rules 309 = .ok (.iadd, 1) := by decide +kernel
theorem dL_rules_310 : decode cL_rules 310 = .ok (.ireturn, 1) := by decide +kernel
theorem dL_rules_311 : decode cL_rules 311 = .ok (.iload 7, 2) := by decide +kernel
theorem dL_rules_313 : decode cL_rules 313 = .ok (.iconst 1, 1) := by decide +kernel
theorem dL_rules_314 : decode cL_rules 314 = .ok (.if_icmp .ne 21, 3) := by decide +kernel
theorem dL_rules_317 : decode cL_rules 317 = .ok (.aload 4, 2) := by decide +kernel
theorem dL_rules_319 : decode cL_rules 319 = .ok (.iconst 5, 1) := by decide +kernel
theorem dL_rules_320 : decode cL_rules 320 = .ok (.iaload, 1) := by decide +kernel
theorem dL_rules_321 : decode cL_rules 321 = .ok (.iload 13, 2) := by decide +kernel
theorem dL_rules_323 : decode cL_rules 323 = .ok (.iadd, 1) := by decide +kernel
theorem dL_rules_324 : decode cL_rules 324 = .ok (.bipush 64, 2) := by decide +kernel
theorem dL_rules_326 : decode cL_rules 326 = .ok (.if_icmp .lt 9, 3) := by decide +kernel
theorem dL_rules_329 : decode cL_rules 329 = .ok (.aload 4, 2) := by decide +kernel
theorem dL_rules_331 : decode cL_rules 331 = .ok (.bipush 10, 2) := by decide +kernel
theorem dL_rules_333 : decode cL_rules 333 = .ok (.iconst 1, 1) := by decide +kernel
theorem dL_rules_334 : decode cL_rules 334 = .ok (.iastore, 1) := by decide +kernel
theorem dL_rules_335 : decode cL_rules 335 = .ok (.iload 7, 2) := by decide +kernel
theorem dL_rules_337 : decode cL_rules 337 = .ok (.iconst 3, 1) := by decide +kernel
theorem dL_rules_338 : decode cL_rules 338 = .ok (.if_icmp .ne 29, 3) := by decide +kernel
theorem dL_rules_341 : decode cL_rules 341 = .ok (.aload_n 0, 1) := by decide +kernel
theorem dL_rules_342 : decode cL_rules 342 = .ok (.aload_n 1, 1) := by decide +kernel
theorem dL_rules_343 : decode cL_rules 343 = .ok (.aload_n 3, 1) := by decide +kernel
theorem dL_rules_344 : decode cL_rules 344 = .ok (.aload 4, 2) := by decide +kernel
theorem dL_rules_346 : decode cL_rules 346 = .ok (.iload 5, 2) := by decide +kernel
theorem dL_rules_348 : decode cL_rules 348 = .ok (.iload 6, 2) := by decide +kernel
theorem dL_rules_350 : decode cL_rules 350 = .ok (.iload 9, 2) := by decide +kernel
theorem dL_rules_352 : decode cL_rules 352 = .ok (.iload 10, 2) := by decide +kernel
theorem dL_rules_354 : decode cL_rules 354 = .ok (.iload 11, 2) := by decide +kernel
theorem dL_rules_356 : decode cL_rules 356 = .ok (.invokestatic 140, 3) := by decide +kernel
theorem dL_rules_359 : decode cL_rules 359 = .ok (.ifCond .eq 8, 3) := by decide +kernel
theorem dL_rules_362 : decode cL_rules 362 = .ok (.iload 6, 2) := by decide +kernel
theorem dL_rules_364 : decode cL_rules 364 = .ok (.iconst 1, 1) := by decide +kernel
theorem dL_rules_365 : decode cL_rules 365 = .ok (.iadd, 1) := by decide +kernel
theorem dL_rules_366 : decode cL_rules 366 = .ok (.ireturn, 1) := by decide +kernel
theorem dL_rules_367 : decode cL_rules 367 = .ok (.iinc 8 1, 3) := by decide +kernel
theorem dL_rules_370 : decode cL_rules 370 = .ok (.goto (-358), 3) := by decide +kernel
theorem dL_rules_373 : decode cL_rules 373 = .ok (.iconst (-1), 1) := by decide +kernel
theorem dL_rules_374 : decode cL_rules 374 = .ok (.ireturn, 1) := by decide +kernel
theorem dL_parts_0 : decode cL_parts 0 = .ok (.aload_n 0, 1) := by decide +kernel
theorem dL_parts_1 : decode cL_parts 1 = .ok (.iload_n 3, 1) := by decide +kernel
theorem dL_parts_2 : decode cL_parts 2 = .ok (.laload, 1) := by decide +kernel
theorem dL_parts_3 : decode cL_parts 3 = .ok (.bipush 17, 2) := by decide +kernel
theorem dL_parts_5 : decode cL_parts 5 = .ok (.ldc 144, 2) := by decide +kernel
theorem dL_parts_7 : decode cL_parts 7 = .ok (.invokestatic 116, 3) := by decide +kernel
theorem dL_parts_10 : decode cL_parts 10 = .ok (.iconst 1, 1) := by decide +kernel
theorem dL_parts_11 : decode cL_parts 11 = .ok (.isub, 1) := by decide +kernel
theorem dL_parts_12 : decode cL_parts 12 = .ok (.istore 6, 2) := by decide +kernel
theorem dL_parts_14 : decode cL_parts 14 = .ok (.aload_n 0, 1) := by decide +kernel
theorem dL_parts_15 : decode cL_parts 15 = .ok (.iload_n 3, 1) := by decide +kernel
theorem dL_parts_16 : decode cL_parts 16 = .ok (.aload_n 0, 1) := by decide +kernel
theorem dL_parts_17 : decode cL_parts 17 = .ok (.iload_n 3, 1) := by decide +kernel
theorem dL_parts_18 : decode cL_parts 18 = .ok (.laload, 1) := by decide +kernel
theorem dL_parts_19 : decode cL_parts 19 = .ok (.bipush 17, 2) := by decide +kernel
theorem dL_parts_21 : decode cL_parts 21 = .ok (.ldc 144, 2) := by decide +kernel
theorem dL_parts_23 : decode cL_parts 23 = .ok (.iload 4, 2) := by decide +kernel
theorem dL_parts_25 : decode cL_parts 25 = .ok (.iload 6, 2) := by decide +kernel
theorem dL_parts_27 : decode cL_parts 27 = .ok (.ifCond .ge 10, 3) := by decide +kernel
theorem dL_parts_30 : decode cL_parts 30 = .ok (.iload 5, 2) := by decide +kernel
theorem dL_parts_32 : decode cL_parts 32 = .ok (.iconst 1, 1) := by decide +kernel
theorem dL_parts_33 : decode cL_parts 33 = .ok (.isub, 1) := by decide +kernel
theorem dL_parts_34 : decode cL_parts 34 = .ok (.goto 5, 3) := by decide +kernel
theorem dL_parts_37 : decode cL_parts 37 = .ok (.iload 6, 2) := by decide +kernel
theorem dL_parts_39 : decode cL_parts 39 = .ok (.iadd, 1) := by decide +kernel
theorem dL_parts_40 : decode cL_parts 40 = .ok (.iconst 1, 1) := by decide +kernel
theorem dL_parts_41 : decode cL_parts 41 = .ok (.iadd, 1) := by decide +kernel
theorem dL_parts_42 : decode cL_parts 42 = .ok (.invokestatic 132, 3) := by decide +kernel
theorem dL_parts_45 : decode cL_parts 45 = .ok (.lastore, 1) := by decide +kernel
theorem dL_parts_46 : decode cL_parts 46 = .ok (.return_, 1) := by decide +kernel
theorem dL_joined_0 : decode cL_joined 0 = .ok (.aload_n 0, 1) := by decide +kernel
theorem dL_joined_1 : decode cL_joined 1 = .ok (.aload_n 1, 1) := by decide +kernel
theorem dL_joined_2 : decode cL_joined 2 = .ok (.aload_n 2, 1) := by decide +kernel
theorem dL_joined_3 : decode cL_joined 3 = .ok (.aload_n 3, 1) := by decide +kernel
theorem dL_joined_4 : decode cL_joined 4 = .ok (.iload 4, 2) := by decide +kernel
theorem dL_joined_6 : decode cL_joined 6 = .ok (.iload 5, 2) := by decide +kernel
theorem dL_joined_8 : decode cL_joined 8 = .ok (.iconst 1, 1) := by decide +kernel
theorem dL_joined_9 : decode cL_joined 9 = .ok (.invokestatic 145, 3) := by decide +kernel
theorem dL_joined_12 : decode cL_joined 12 = .ok (.istore 9, 2) := by decide +kernel
theorem dL_joined_14 : decode cL_joined 14 = .ok (.iload 9, 2) := by decide +kernel
theorem dL_joined_16 : decode cL_joined 16 = .ok (.ifCond .lt 23, 3) := by decide +kernel
theorem dL_joined_19 : decode cL_joined 19 = .ok (.aload_n 2, 1) := by decide +kernel
theorem dL_joined_20 : decode cL_joined 20 = .ok (.aload_n 3, 1) := by decide +kernel
theorem dL_joined_21 : decode cL_joined 21 = .ok (.bipush 6, 2) := by decide +kernel
theorem dL_joined_23 : decode cL_joined 23 = .ok (.iaload, 1) := by decide +kernel
theorem dL_joined_24 : decode cL_joined 24 = .ok (.iload 6, 2) := by decide +kernel
theorem dL_joined_26 : decode cL_joined 26 = .ok (.aload_n 0, 1) := by decide +kernel
theorem dL_joined_27 : decode cL_joined 27 = .ok (.iload 9, 2) := by decide +kernel
theorem dL_joined_29 : decode cL_joined 29 = .ok (.laload, 1) := by decide +kernel
theorem dL_joined_30 : decode cL_joined 30 = .ok (.invokestatic 108, 3) := by decide +kernel
theorem dL_joined_33 : decode cL_joined 33 = .ok (.invokestatic 128, 3) := by decide +kernel
theorem dL_joined_36 : decode cL_joined 36 = .ok (.ifCond .ne 5, 3) := by decide +kernel
theorem dL_joined_39 : decode cL_joined 39 = .ok (.iconst 0, 1) := by decide +kernel
theorem dL_joined_40 : decode cL_joined 40 = .ok (.ireturn, 1) := by decide +kernel
theorem dL_joined_41 : decode cL_joined 41 = .ok (.iload 7, 2) := by decide +kernel
theorem dL_joined_43 : decode cL_joined 43 = .ok (.bipush (-100), 2) := by decide +kernel
theorem dL_joined_45 : decode cL_joined 45 = .ok (.if_icmp .ne 8, 3) := by decide +kernel
theorem dL_joined_48 : decode cL_joined 48 = .ok (.iload 9, 2) := by decide +kernel
theorem dL_joined_50 : decode cL_joined 50 = .ok (.goto 15, 3) := by decide +kernel
theorem dL_joined_53 : decode cL_joined 53 = .ok (.aload_n 0, 1) := by decide +kernel
theorem dL_joined_54 : decode cL_joined 54 = .ok (.aload_n 1, 1) := by decide +kernel
theorem dL_joined_55 : decode cL_joined 55 = .ok (.aload_n 2, 1) := by decide +kernel
theorem dL_joined_56 : decode cL_joined 56 = .ok (.aload_n 3, 1) := by decide +kernel
theorem dL_joined_57 : decode cL_joined 57 = .ok (.iload 4, 2) := by decide +kernel
theorem dL_joined_59 : decode cL_joined 59 = .ok (.iload 9, 2) := by decide +kernel
theorem dL_joined_61 : decode cL_joined 61 = .ok (.iconst 1, 1) := by decide +kernel
theorem dL_joined_62 : decode cL_joined 62 = .ok (.invokestatic 145, 3) := by decide +kernel
theorem dL_joined_65 : decode cL_joined 65 = .ok (.istore 10, 2) := by decide +kernel
theorem dL_joined_67 : decode cL_joined 67 = .ok (.iload 10, 2) := by decide +kernel
theorem dL_joined_69 : decode cL_joined 69 = .ok (.ifCond .lt 30, 3) := by decide +kernel
theorem dL_joined_72 : decode cL_joined 72 = .ok (.iload 7, 2) := by decide +kernel
theorem dL_joined_74 : decode cL_joined 74 = .ok (.bipush (-100), 2) := by decide +kernel
theorem dL_joined_76 : decode cL_joined 76 = .ok (.if_icmp .eq 25, 3) := by decide +kernel
theorem dL_joined_79 : decode cL_joined 79 = .ok (.aload_n 2, 1) := by decide +kernel
theorem dL_joined_80 : decode cL_joined 80 = .ok (.aload_n 3, 1) := by decide +kernel
theorem dL_joined_81 : decode cL_joined 81 = .ok (.bipush 6, 2) := by decide +kernel
theorem dL_joined_83 : decode cL_joined 83 = .ok (.iaload, 1) := by decide +kernel
theorem dL_joined_84 : decode cL_joined 84 = .ok (.iload 7, 2) := by decide +kernel
theorem dL_joined_86 : decode cL_joined 86 = .ok (.aload_n 0, 1) := by decide +kernel
theorem dL_joined_87 : decode cL_joined 87 = .ok (.iload 10, 2) := by decide +kernel
theorem dL_joined_89 : decode cL_joined 89 = .ok (.laload, 1) := by decide +kernel
theorem dL_joined_90 : decode cL_joined 90 = .ok (.invokestatic 108, 3) := by decide +kernel
theorem dL_joined_93 : decode cL_joined 93 = .ok (.invokestatic 128, 3) := by decide +kernel
theorem dL_joined_96 : decode cL_joined 96 = .ok (.ifCond .ne 5, 3) := by decide +kernel
theorem dL_joined_99 : decode cL_joined 99 = .ok (.iconst 0, 1) := by decide +kernel
theorem dL_joined_100 : decode cL_joined 100 = .ok (.ireturn, 1) := by decide +kernel
theorem dL_joined_101 : decode cL_joined 101 = .ok (.iconst 0, 1) := by decide +kernel
theorem dL_joined_102 : decode cL_joined 102 = .ok (.istore 11, 2) := by decide +kernel
theorem dL_joined_104 : decode cL_joined 104 = .ok (.aload_n 0, 1) := by decide +kernel
theorem dL_joined_105 : decode cL_joined 105 = .ok (.iload 5, 2) := by decide +kernel
theorem dL_joined_107 : decode cL_joined 107 = .ok (.laload, 1) := by decide +kernel
theorem dL_joined_108 : decode cL_joined 108 = .ok (.bipush 35, 2) := by decide +kernel
theorem dL_joined_110 : decode cL_joined 110 = .ok (.ldc 144, 2) := by decide +kernel
theorem dL_joined_112 : decode cL_joined 112 = .ok (.invokestatic 116, 3) := by decide +kernel
theorem dL_joined_115 : decode cL_joined 115 = .ok (.istore 12, 2) := by decide +kernel
theorem dL_joined_117 : decode cL_joined 117 = .ok (.aload_n 0, 1) := by decide +kernel
theorem dL_joined_118 : decode cL_joined 118 = .ok (.iload 5, 2) := by decide +kernel
theorem dL_joined_120 : decode cL_joined 120 = .ok (.laload, 1) := by decide +kernel
theorem dL_joined_121 : decode cL_joined 121 = .ok (.bipush 8, 2) := by decide +kernel
theorem dL_joined_123 : decode cL_joined 123 = .ok (.bipush 15, 2) := by decide +kernel
theorem dL_joined_125 : decode cL_joined 125 = .ok (.invokestatic 116, 3) := by decide +kernel
theorem dL_joined_128 : decode cL_joined 128 = .ok (.istore 13, 2) := by decide +kernel
theorem dL_joined_130 : decode cL_joined 130 = .ok (.iload 13, 2) := by decide +kernel
theorem dL_joined_132 : decode cL_joined 132 = .ok (.istore 14, 2) := by decide +kernel
theorem dL_joined_134 : decode cL_joined 134 = .ok (.iload 5, 2) := by decide +kernel
theorem dL_joined_136 : decode cL_joined 136 = .ok (.iconst 1, 1) := by decide +kernel
theorem dL_joined_137 : decode cL_joined 137 = .ok (.iadd, 1) := by decide +kernel
theorem dL_joined_138 : decode cL_joined 138 = .ok (.istore 15, 2) := by decide +kernel
theorem dL_joined_140 : decode cL_joined 140 = .ok (.iload 15, 2) := by decide +kernel
theorem dL_joined_142 : decode cL_joined 142 = .ok (.aload_n 3, 1) := by decide +kernel
theorem dL_joined_143 : decode cL_joined 143 = .ok (.iconst 5, 1) := by decide +kernel
theorem dL_joined_144 : decode cL_joined 144 = .ok (.iaload, 1) := by decide +kernel
theorem dL_joined_145 : decode cL_joined 145 = .ok (.if_icmp .ge 134, 3) := by decide +kernel
theorem dL_joined_148 : decode cL_joined 148 = .ok (.iload 15, 2) := by decide +kernel
theorem dL_joined_150 : decode cL_joined 150 = .ok (.iload 9, 2) := by decide +kernel
theorem dL_joined_152 : decode cL_joined 152 = .ok (.if_icmp .eq 10, 3) := by decide +kernel
theorem dL_joined_155 : decode cL_joined 155 = .ok (.iload 15, 2) := by decide +kernel
theorem dL_joined_157 : decode cL_joined 157 = .ok (.iload 10, 2) := by decide +kernel
theorem dL_joined_159 : decode cL_joined 159 = .ok (.if_icmp .ne 71, 3) := by decide +kernel
theorem dL_joined_162 : decode cL_joined 162 = .ok (.iload 11, 2) := by decide +kernel
theorem dL_joined_164 : decode cL_joined 164 = .ok (.iload 12, 2) := by decide +kernel
theorem dL_joined_166 : decode cL_joined 166 = .ok (.iadd, 1) := by decide +kernel
theorem dL_joined_167 : decode cL_joined 167 = .ok (.istore 11, 2) := by decide +kernel
theorem dL_joined_169 : decode cL_joined 169 = .ok (.aload_n 0, 1) := by decide +kernel
theorem dL_joined_170 : decode cL_joined 170 = .ok (.iload 15, 2) := by decide +kernel
theorem dL_joined_172 : decode cL_joined 172 = .ok (.laload, 1) := by decide +kernel
theorem dL_joined_173 : decode cL_joined 173 = .ok (.bipush 35, 2) := by decide +kernel
theorem dL_joined_175 : decode cL_joined 175 = .ok (.ldc 144, 2) := by decide +kernel
theorem dL_joined_177 : decode cL_joined 177 = .ok (.invokestatic 116, 3) := by decide +kernel
theorem dL_joined_180 : decode cL_joined 180 = .ok (.istore 12, 2) := by decide +kernel
theorem dL_joined_182 : decode cL_joined 182 = .ok (.aload_n 0, 1) := by decide +kernel
theorem dL_joined_183 : decode cL_joined 183 = .ok (.iload 15, 2) := by decide +kernel
theorem dL_joined_185 : decode cL_joined 185 = .ok (.laload, 1) := by decide +kernel
theorem dL_joined_186 : decode cL_joined 186 = .ok (.bipush 8, 2) := by decide +kernel
theorem dL_joined_188 : decode cL_joined 188 = .ok (.bipush 15, 2) := by decide +kernel
theorem dL_joined_190 : decode cL_joined 190 = .ok (.invokestatic 116, 3) := by decide +kernel
theorem dL_joined_193 : decode cL_joined 193 = .ok (.istore 16, 2) := by decide +kernel
theorem dL_joined_195 : decode cL_joined 195 = .ok (.iload 16, 2) := by decide +kernel
theorem dL_joined_197 : decode cL_joined 197 = .ok (.iload 13, 2) := by decide +kernel
theorem dL_joined_199 : decode cL_joined 199 = .ok (.if_icmp .ge 8, 3) := by decide +kernel
theorem dL_joined_202 : decode cL_joined 202 = .ok (.iload 16, 2) := by decide +kernel
theorem dL_joined_204 : decode cL_joined 204 = .ok (.goto 5, 3) := by decide +kernel
theorem dL_joined_207 : decode cL_joined 207 = .ok (.iload 13, 2) := by decide +kernel
theorem dL_joined_209 : decode cL_joined 209 = .ok (.istore 13, 2) := by decide +kernel
theorem dL_joined_211 : decode cL_joined 211 = .ok (.iload 16, 2) := by decide +kernel
theorem dL_joined_213 : decode cL_joined 213 = .ok (.iload 14, 2) := by decide +kernel
theorem dL_joined_215 : decode cL_joined 215 = .ok (.if_icmp .le 8, 3) := by decide +kernel
theorem dL_joined_218 : decode cL_joined 218 = .ok (.iload 16, 2) := by decide +kernel
theorem dL_joined_220 : decode cL_joined 220 = .ok (.goto 5, 3) := by decide +kernel
theorem dL_joined_223 : decode cL_joined 223 = .ok (.iload 14, 2) := by decide +kernel
theorem dL_joined_225 : decode cL_joined 225 = .ok (.istore 14, 2) := by decide +kernel
theorem dL_joined_227 : decode cL_joined 227 = .ok (.goto 46, 3) := by decide +kernel
theorem dL_joined_230 : decode cL_joined 230 = .ok (.aload_n 2, 1) := by decide +kernel
theorem dL_joined_231 : decode cL_joined 231 = .ok (.aload_n 3, 1) := by decide +kernel
theorem dL_joined_232 : decode cL_joined 232 = .ok (.bipush 6, 2) := by decide +kernel
theorem dL_joined_234 : decode cL_joined 234 = .ok (.iaload, 1) := by decide +kernel
theorem dL_joined_235 : decode cL_joined 235 = .ok (.aload_n 0, 1) := by decide +kernel
theorem dL_joined_236 : decode cL_joined 236 = .ok (.iload 15, 2) := by decide +kernel
theorem dL_joined_238 : decode cL_joined 238 = .ok (.laload, 1) := by decide +kernel
theorem dL_joined_239 : decode cL_joined 239 = .ok (.invokestatic 108, 3) := by decide +kernel
theorem dL_joined_242 : decode cL_joined 242 = .ok (.invokestatic 112, 3) := by decide +kernel
theorem dL_joined_245 : decode cL_joined 245 = .ok (.ifCond .lt 18, 3) := by decide +kernel
theorem dL_joined_248 : decode cL_joined 248 = .ok (.aload_n 0, 1) := by decide +kernel
theorem dL_joined_249 : decode cL_joined 249 = .ok (.aload_n 2, 1) := by decide +kernel
theorem dL_joined_250 : decode cL_joined 250 = .ok (.aload_n 3, 1) := by decide +kernel
theorem dL_joined_251 : decode cL_joined 251 = .ok (.iload 15, 2) := by decide +kernel
theorem dL_joined_253 : decode cL_joined 253 = .ok (.iload 11, 2) := by decide +kernel
theorem dL_joined_255 : decode cL_joined 255 = .ok (.iload 12, 2) := by decide +kernel
theorem dL_joined_257 : decode cL_joined 257 = .ok (.invokestatic 149, 3) := by decide +kernel
theorem dL_joined_260 : decode cL_joined 260 = .ok (.goto 13, 3) := by decide +kernel
theorem dL_joined_263 : decode cL_joined 263 = .ok (.iload 15, 2) := by decide +kernel
theorem dL_joined_265 : decode cL_joined 265 = .ok (.iload 10, 2) := by decide +kernel
theorem dL_joined_267 : decode cL_joined 267 = .ok (.if_icmp .le 6, 3) := by decide +kernel
theorem dL_joined_270 : decode cL_joined 270 = .ok (.goto 9, 3) := by decide +kernel
theorem dL_joined_273 : decode cL_joined 273 = .ok (.iinc 15 1, 3) := by decide +kernel
theorem dL_joined_276 : decode cL_joined 276 = .ok (.goto (-136), 3) := by decide +kernel
theorem dL_joined_279 : decode cL_joined 279 = .ok (.iconst 0, 1) := by decide +kernel
theorem dL_joined_280 : decode cL_joined 280 = .ok (.istore 15, 2) := by decide +kernel
theorem dL_joined_282 : decode cL_joined 282 = .ok (.iload 15, 2) := by decide +kernel
theorem dL_joined_284 : decode cL_joined 284 = .ok (.aload_n 3, 1) := by decide +kernel
theorem dL_joined_285 : decode cL_joined 285 = .ok (.iconst 5, 1) := by decide +kernel
theorem dL_joined_286 : decode cL_joined 286 = .ok (.iaload, 1) := by decide +kernel
theorem dL_joined_287 : decode cL_joined 287 = .ok (.if_icmp .ge 58, 3) := by decide +kernel
theorem dL_joined_290 : decode cL_joined 290 = .ok (.aload_n 0, 1) := by decide +kernel
theorem dL_joined_291 : decode cL_joined 291 = .ok (.iload 15, 2) := by decide +kernel
theorem dL_joined_293 : decode cL_joined 293 = .ok (.laload, 1) := by decide +kernel
theorem dL_joined_294 : decode cL_joined 294 = .ok (.bipush 8, 2) := by decide +kernel
theorem dL_joined_296 : decode cL_joined 296 = .ok (.bipush 15, 2) := by decide +kernel
theorem dL_joined_298 : decode cL_joined 298 = .ok (.invokestatic 116, 3) := by decide +kernel
theorem dL_joined_301 : decode cL_joined 301 = .ok (.iload 13, 2) := by decide +kernel
theorem dL_joined_303 : decode cL_joined 303 = .ok (.if_icmp .lt 36, 3) := by decide +kernel
theorem dL_joined_306 : decode cL_joined 306 = .ok (.aload_n 0, 1) := by decide +kernel
theorem dL_joined_307 : decode cL_joined 307 = .ok (.iload 15, 2) := by decide +kernel
theorem dL_joined_309 : decode cL_joined 309 = .ok (.laload, 1) := by decide +kernel
theorem dL_joined_310 : decode cL_joined 310 = .ok (.bipush 8, 2) := by decide +kernel
theorem dL_joined_312 : decode cL_joined 312 = .ok (.bipush 15, 2) := by decide +kernel
theorem dL_joined_314 : decode cL_joined 314 = .ok (.invokestatic 116, 3) := by decide +kernel
theorem dL_joined_317 : decode cL_joined 317 = .ok (.iload 14, 2) := by decide +kernel
theorem dL_joined_319 : decode cL_joined 319 = .ok (.if_icmp .gt 20, 3) := by decide +kernel
theorem dL_joined_322 : decode cL_joined 322 = .ok (.aload_n 0, 1) := by decide +kernel
theorem dL_joined_323 : decode cL_joined 323 = .ok (.iload 15, 2) := by decide +kernel
theorem dL_joined_325 : decode cL_joined 325 = .ok (.aload_n 0, 1) := by decide +kernel
theorem dL_joined_326 : decode cL_joined 326 = .ok (.iload 15, 2) := by decide +kernel
theorem dL_joined_328 : decode cL_joined 328 = .ok (.laload, 1) := by decide +kernel
theorem dL_joined_329 : decode cL_joined 329 = .ok (.bipush 8, 2) := by decide +kernel
theorem dL_joined_331 : decode cL_joined 331 = .ok (.bipush 15, 2) := by decide +kernel
theorem dL_joined_333 : decode cL_joined 333 = .ok (.iload 13, 2) := by decide +kernel
theorem dL_joined_335 : decode cL_joined 335 = .ok (.invokestatic 132, 3) := by decide +kernel
theorem dL_joined_338 : decode cL_joined 338 = .ok (.lastore, 1) := by decide +kernel
theorem dL_joined_339 : decode cL_joined 339 = .ok (.iinc 15 1, 3) := by decide +kernel
theorem dL_joined_342 : decode cL_joined 342 = .ok (.goto (-60), 3) := by decide +kernel
theorem dL_joined_345 : decode cL_joined 345 = .ok (.aload_n 0, 1) := by decide +kernel
theorem dL_joined_346 : decode cL_joined 346 = .ok (.iload 5, 2) := by decide +kernel
theorem dL_joined_348 : decode cL_joined 348 = .ok (.aload_n 0, 1) := by decide +kernel
theorem dL_joined_349 : decode cL_joined 349 = .ok (.iload 5, 2) := by decide +kernel
theorem dL_joined_351 : decode cL_joined 351 = .ok (.laload, 1) := by decide +kernel
theorem dL_joined_352 : decode cL_joined 352 = .ok (.iconst 0, 1) := by decide +kernel
theorem dL_joined_353 : decode cL_joined 353 = .ok (.sipush 255, 3) := by decide +kernel
theorem dL_joined_356 : decode cL_joined 356 = .ok (.iload 8, 2) := by decide +kernel
theorem dL_joined_358 : decode cL_joined 358 = .ok (.invokestatic 132, 3) := by decide +kernel
theorem dL_joined_361 : decode cL_joined 361 = .ok (.bipush 35, 2) := by decide +kernel
theorem dL_joined_363 : decode cL_joined 363 = .ok (.ldc 144, 2) := by decide +kernel
theorem dL_joined_365 : decode cL_joined 365 = .ok (.iload 11, 2) := by decide +kernel
theorem dL_joined_367 : decode cL_joined 367 = .ok (.iload 12, 2) := by decide +kernel
theorem dL_joined_369 : decode cL_joined 369 = .ok (.iadd, 1) := by decide +kernel
theorem dL_joined_370 : decode cL_joined 370 = .ok (.invokestatic 132, 3) := by decide +kernel
theorem dL_joined_373 : decode cL_joined 373 = .ok (.lastore, 1) := by decide +kernel
theorem dL_joined_374 : decode cL_joined 374 = .ok (.aload_n 3, 1) := by decide +kernel
theorem dL_joined_375 : decode cL_joined 375 = .ok (.bipush 7, 2) := by decide +kernel
theorem dL_joined_377 : decode cL_joined 377 = .ok (.iaload, 1) := by decide +kernel
theorem dL_joined_378 : decode cL_joined 378 = .ok (.iload 9, 2) := by decide +kernel
theorem dL_joined_380 : decode cL_joined 380 = .ok (.if_icmp .eq 12, 3) := by decide +kernel
theorem dL_joined_383 : decode cL_joined 383 = .ok (.aload_n 3, 1) := by decide +kernel
theorem dL_joined_384 : decode cL_joined 384 = .ok (.bipush 7, 2) := by decide +kernel
theorem dL_joined_386 : decode cL_joined 386 = .ok (.iaload, 1) := by decide +kernel
theorem dL_joined_387 : decode cL_joined 387 = .ok (.iload 10, 2) := by decide +kernel
theorem dL_joined_389 : decode cL_joined 389 = .ok (.if_icmp .ne 7, 3) := by decide +kernel
theorem dL_joined_392 : decode cL_joined 392 = .ok (.iconst 1, 1) := by decide +kernel
theorem dL_joined_393 : decode cL_joined 393 = .ok (.goto 4, 3) := by decide +kernel
theorem dL_joined_396 : decode cL_joined 396 = .ok (.iconst 0, 1) := by decide +kernel
theorem dL_joined_397 : decode cL_joined 397 = .ok (.istore 15, 2) := by decide +kernel
theorem dL_joined_399 : decode cL_joined 399 = .ok (.iload 10, 2) := by decide +kernel
theorem dL_joined_401 : decode cL_joined 401 = .ok (.iload 9, 2) := by decide +kernel
theorem dL_joined_403 : decode cL_joined 403 = .ok (.if_icmp .eq 11, 3) := by decide +kernel
theorem dL_joined_406 : decode cL_joined 406 = .ok (.aload_n 0, 1) := by decide +kernel
theorem dL_joined_407 : decode cL_joined 407 = .ok (.aload_n 3, 1) := by decide +kernel
theorem dL_joined_408 : decode cL_joined 408 = .ok (.iload 10, 2) := by decide +kernel
theorem dL_joined_410 : decode cL_joined 410 = .ok (.invokestatic 153, 3) := by decide +kernel
theorem dL_joined_413 : decode cL_joined 413 = .ok (.pop2, 1) := by decide +kernel
theorem dL_joined_414 : decode cL_joined 414 = .ok (.aload_n 0, 1) := by decide +kernel
theorem dL_joined_415 : decode cL_joined 415 = .ok (.aload_n 3, 1) := by decide +kernel
theorem dL_joined_416 : decode cL_joined 416 = .ok (.iload 9, 2) := by decide +kernel
theorem dL_joined_418 : decode cL_joined 418 = .ok (.invokestatic 153, 3) := by decide +kernel
theorem dL_joined_421 : decode cL_joined 421 = .ok (.pop2, 1) := by decide +kernel
theorem dL_joined_422 : decode cL_joined 422 = .ok (.iload 15, 2) := by decide +kernel
theorem dL_joined_424 : decode cL_joined 424 = .ok (.ifCond .eq 9, 3) := by decide +kernel
theorem dL_joined_427 : decode cL_joined 427 = .ok (.aload_n 3, 1) := by decide +kernel
theorem dL_joined_428 : decode cL_joined 428 = .ok (.bipush 7, 2) := by decide +kernel
theorem dL_joined_430 : decode cL_joined 430 = .ok (.iload 5, 2) := by decide +kernel
theorem dL_joined_432 : decode cL_joined 432 = .ok (.iastore, 1) := by decide +kernel
theorem dL_joined_433 : decode cL_joined 433 = .ok (.iconst 1, 1) := by decide +kernel
theorem dL_joined_434 : decode cL_joined 434 = .ok (.ireturn, 1) := by decide +kernel
theorem dL_fits_0 : decode cL_fits 0 = .ok (.iload_n 3, 1) := by decide +kernel
theorem dL_fits_1 : decode cL_fits 1 = .ok (.bipush (-100), 2) := by decide +kernel
theorem dL_fits_3 : decode cL_fits 3 = .ok (.if_icmp .eq 27, 3) := by decide +kernel
theorem dL_fits_6 : decode cL_fits 6 = .ok (.iload 4, 2) := by decide +kernel
theorem dL_fits_8 : decode cL_fits 8 = .ok (.ifCond .lt 26, 3) := by decide +kernel
theorem dL_fits_11 : decode cL_fits 11 = .ok (.aload_n 1, 1) := by decide +kernel
theorem dL_fits_12 : decode cL_fits 12 = .ok (.aload_n 2, 1) := by decide +kernel
theorem dL_fits_13 : decode cL_fits 13 = .ok (.bipush 6, 2) := by decide +kernel
theorem dL_fits_15 : decode cL_fits 15 = .ok (.iaload, 1) := by decide +kernel
theorem dL_fits_16 : decode cL_fits 16 = .ok (.iload_n 3, 1) := by decide +kernel
theorem dL_fits_17 : decode cL_fits 17 = .ok (.aload_n 0, 1) := by decide +kernel
theorem dL_fits_18 : decode cL_fits 18 = .ok (.iload 4, 2) := by decide +kernel
theorem dL_fits_20 : decode cL_fits 20 = .ok (.laload, 1) := by decide +kernel
theorem dL_fits_21 : decode cL_fits 21 = .ok (.invokestatic 108, 3) := by decide +kernel
theorem dL_fits_24 : decode cL_fits 24 = .ok (.invokestatic 128, 3) := by decide +kernel
theorem dL_fits_27 : decode cL_fits 27 = .ok (.ifCond .eq 7, 3) := by decide +kernel
theorem dL_fits_30 : decode cL_fits 30 = .ok (.iconst 1, 1) := by decide +kernel
theorem dL_fits_31 : decode cL_fits 31 = .ok (.goto 4, 3) := by decide +kernel
theorem dL_fits_34 : decode cL_fits 34 = .ok (.iconst 0, 1) := by decide +kernel
theorem dL_fits_35 : decode cL_fits 35 = .ok (.ireturn, 1) := by decide +kernel
theorem dL_context_0 : decode cL_context 0 = .ok (.iconst 0, 1) := by decide +kernel
theorem dL_context_1 : decode cL_context 1 = .ok (.istore 7, 2) := by decide +kernel
theorem dL_context_3 : decode cL_context 3 = .ok (.iload 7, 2) := by decide +kernel
theorem dL_context_5 : decode cL_context 5 = .ok (.aload_n 1, 1) := by decide +kernel
theorem dL_context_6 : decode cL_context 6 = .ok (.iload 5, 2) := by decide +kernel
theorem dL_context_8 : decode cL_context 8 = .ok (.iaload, 1) := by decide +kernel
theorem dL_context_9 : decode cL_context 9 = .ok (.bipush 13, 2) := by decide +kernel
theorem dL_context_11 : decode cL_context 11 = .ok (.ishr, 1) := by decide +kernel
theorem dL_context_12 : decode cL_context 12 = .ok (.if_icmp .ge 300, 3) := by decide +kernel
theorem dL_context_15 : decode cL_context 15 = .ok (.aload_n 2, 1) := by decide +kernel
theorem dL_context_16 : decode cL_context 16 = .ok (.iload 5, 2) := by decide +kernel
theorem dL_context_18 : decode cL_context 18 = .ok (.iload 7, 2) := by decide +kernel
theorem dL_context_20 : decode cL_context 20 = .ok (.iconst 2, 1) := by decide +kernel
theorem dL_context_21 : decode cL_context 21 = .ok (.invokestatic 124, 3) := by decide +kernel
theorem dL_context_24 : decode cL_context 24 = .ok (.istore 8, 2) := by decide +kernel
theorem dL_context_26 : decode cL_context 26 = .ok (.iload 8, 2) := by decide +kernel
theorem dL_context_28 : decode cL_context 28 = .ok (.bipush (-100), 2) := by decide +kernel
theorem dL_context_30 : decode cL_context 30 = .ok (.if_icmp .ne 8, 3) := by decide +kernel
theorem dL_context_33 : decode cL_context 33 = .ok (.iload 6, 2) := by decide +kernel
theorem dL_context_35 : decode cL_context 35 = .ok (.goto 16, 3) := by decide +kernel
theorem dL_context_38 : decode cL_context 38 = .ok (.aload_n 0, 1) := by decide +kernel
theorem dL_context_39 : decode cL_context 39 = .ok (.aload_n 1, 1) := by decide +kernel
theorem dL_context_40 : decode cL_context 40 = .ok (.aload_n 3, 1) := by decide +kernel
theorem dL_context_41 : decode cL_context 41 = .ok (.aload 4, 2) := by decide +kernel
theorem dL_context_43 : decode cL_context 43 = .ok (.iload 5, 2) := by decide +kernel
theorem dL_context_45 : decode cL_context 45 = .ok (.iload 6, 2) := by decide +kernel
theorem dL_context_47 : decode cL_context 47 = .ok (.iconst 1, 1) := by decide +kernel
theorem dL_context_48 : decode cL_context 48 = .ok (.invokestatic 145, 3) := by decide +kernel
theorem dL_context_51 : decode cL_context 51 = .ok (.istore 9, 2) := by decide +kernel
theorem dL_context_53 : decode cL_context 53 = .ok (.iload 9, 2) := by decide +kernel
theorem dL_context_55 : decode cL_context 55 = .ok (.ifCond .lt 251, 3) := by decide +kernel
theorem dL_context_58 : decode cL_context 58 = .ok (.aload_n 0, 1) := by decide +kernel
theorem dL_context_59 : decode cL_context 59 = .ok (.aload_n 3, 1) := by decide +kernel
theorem dL_context_60 : decode cL_context 60 = .ok (.aload 4, 2) := by decide +kernel
theorem dL_context_62 : decode cL_context 62 = .ok (.aload_n 2, 1) := by decide +kernel
theorem dL_context_63 : decode cL_context 63 = .ok (.iload 5, 2) := by decide +kernel
theorem dL_context_65 : decode cL_context 65 = .ok (.iload 7, 2) := by decide +kernel
theorem dL_context_67 : decode cL_context 67 = .ok (.iconst 1, 1) := by decide +kernel
theorem dL_context_68 : decode cL_context 68 = .ok (.invokestatic 124, 3) := by decide +kernel
theorem dL_context_71 : decode cL_context 71 = .ok (.iload 6, 2) := by decide +kernel
theorem dL_context_73 : decode cL_context 73 = .ok (.invokestatic 157, 3) := by decide +kernel
theorem dL_context_76 : decode cL_context 76 = .ok (.ifCond .eq 230, 3) := by decide +kernel
theorem dL_context_79 : decode cL_context 79 = .ok (.aload_n 0, 1) := by decide +kernel
theorem dL_context_80 : decode cL_context 80 = .ok (.aload_n 3, 1) := by decide +kernel
theorem dL_context_81 : decode cL_context 81 = .ok (.aload 4, 2) := by decide +kernel
theorem dL_context_83 : decode cL_context 83 = .ok (.iload 8, 2) := by decide +kernel
theorem dL_context_85 : decode cL_context 85 = .ok (.iload 9, 2) := by decide +kernel
theorem dL_context_87 : decode cL_context 87 = .ok (.invokestatic 157, 3) := by decide +kernel
theorem dL_context_90 : decode cL_context 90 = .ok (.ifCond .ne 6, 3) := by decide +kernel
theorem dL_context_93 : decode cL_context 93 = .ok (.goto 213, 3) := by decide +kernel
theorem dL_context_96 : decode cL_context 96 = .ok (.aload_n 0, 1) := by decide +kernel
theorem dL_context_97 : decode cL_context 97 = .ok (.aload_n 3, 1) := by decide +kernel
theorem dL_context_98 : decode cL_context 98 = .ok (.aload 4, 2) := by decide +kernel
theorem dL_context_100 : decode cL_context 100 = .ok (.aload_n 2, 1) := by decide +kernel
theorem dL_context_101 : decode cL_context 101 = .ok (.iload 5, 2) := by decide +kernel
theorem dL_context_103 : decode cL_context 103 = .ok (.iload 7, 2) := by decide +kernel
theorem dL_context_105 : decode cL_context 105 = .ok (.iconst 0, 1) := by decide +kernel
theorem dL_context_106 : decode cL_context 106 = .ok (.invokestatic 124, 3) := by decide +kernel
theorem dL_context_109 : decode cL_context 109 = .ok (.aload_n 0, 1) := by decide +kernel
theorem dL_context_110 : decode cL_context 110 = .ok (.aload_n 1, 1) := by decide +kernel
theorem dL_context_111 : decode cL_context 111 = .ok (.aload_n 3, 1) := by decide +kernel
theorem dL_context_112 : decode cL_context 112 = .ok (.aload 4, 2) := by decide +kernel
theorem dL_context_114 : decode cL_context 114 = .ok (.iload 5, 2) := by decide +kernel
theorem dL_context_116 : decode cL_context 116 = .ok (.iload 6, 2) := by decide +kernel
theorem dL_context_118 : decode cL_context 118 = .ok (.iconst (-1), 1) := by decide +kernel
theorem dL_context_119 : decode cL_context 119 = .ok (.invokestatic 145, 3) := by decide +kernel
theorem dL_context_122 : decode cL_context 122 = .ok (.invokestatic 157, 3) := by decide +kernel
theorem dL_context_125 : decode cL_context 125 = .ok (.ifCond .eq 181, 3) := by decide +kernel
theorem dL_context_128 : decode cL_context 128 = .ok (.aload_n 0, 1) := by decide +kernel
theorem dL_context_129 : decode cL_context 129 = .ok (.aload_n 3, 1) := by decide +kernel
theorem dL_context_130 : decode cL_context 130 = .ok (.aload 4, 2) := by decide +kernel
theorem dL_context_132 : decode cL_context 132 = .ok (.aload_n 2, 1) := by decide +kernel
theorem dL_context_133 : decode cL_context 133 = .ok (.iload 5, 2) := by decide +kernel
theorem dL_context_135 : decode cL_context 135 = .ok (.iload 7, 2) := by decide +kernel
theorem dL_context_137 : decode cL_context 137 = .ok (.iconst 3, 1) := by decide +kernel
theorem dL_context_138 : decode cL_context 138 = .ok (.invokestatic 124, 3) := by decide +kernel
theorem dL_context_141 : decode cL_context 141 = .ok (.aload_n 0, 1) := by decide +kernel
theorem dL_context_142 : decode cL_context 142 = .ok (.aload_n 1, 1) := by decide +kernel
theorem dL_context_143 : decode cL_context 143 = .ok (.aload_n 3, 1) := by decide +kernel
theorem dL_context_144 : decode cL_context 144 = .ok (.aload 4, 2) := by decide +kernel
theorem dL_context_146 : decode cL_context 146 = .ok (.iload 5, 2) := by decide +kernel
theorem dL_context_148 : decode cL_context 148 = .ok (.iload 9, 2) := by decide +kernel
theorem dL_context_150 : decode cL_context 150 = .ok (.iconst 1, 1) := by decide +kernel
theorem dL_context_151 : decode cL_context 151 = .ok (.invokestatic 145, 3) := by decide +kernel
theorem dL_context_154 : decode cL_context 154 = .ok (.invokestatic 157, 3) := by decide +kernel
theorem dL_context_157 : decode cL_context 157 = .ok (.ifCond .ne 6, 3) := by decide +kernel
theorem dL_context_160 : decode cL_context 160 = .ok (.goto 146, 3) := by decide +kernel
theorem dL_context_163 : decode cL_context 163 = .ok (.aload 4, 2) := by decide +kernel
theorem dL_context_165 : decode cL_context 165 = .ok (.bipush 7, 2) := by decide +kernel
theorem dL_context_167 : decode cL_context 167 = .ok (.iload 9, 2) := by decide +kernel
theorem dL_context_169 : decode cL_context 169 = .ok (.iastore, 1) := by decide +kernel
theorem dL_context_170 : decode cL_context 170 = .ok (.aload_n 2, 1) := by decide +kernel
theorem dL_context_171 : decode cL_context 171 = .ok (.iload 5, 2) := by decide +kernel
theorem dL_context_173 : decode cL_context 173 = .ok (.iload 7, 2) := by decide +kernel
theorem dL_context_175 : decode cL_context 175 = .ok (.iconst 5, 1) := by decide +kernel
theorem dL_context_176 : decode cL_context 176 = .ok (.invokestatic 124, 3) := by decide +kernel
theorem dL_context_179 : decode cL_context 179 = .ok (.istore 10, 2) := by decide +kernel
theorem dL_context_181 : decode cL_context 181 = .ok (.aload_n 2, 1) := by decide +kernel
theorem dL_context_182 : decode cL_context 182 = .ok (.iload 5, 2) := by decide +kernel
theorem dL_context_184 : decode cL_context 184 = .ok (.iload 7, 2) := by decide +kernel
theorem dL_context_186 : decode cL_context 186 = .ok (.iconst 4, 1) := by decide +kernel
theorem dL_context_187 : decode cL_context 187 = .ok (.invokestatic 124, 3) := by decide +kernel
theorem dL_context_190 : decode cL_context 190 = .ok (.ifCond .ne 8, 3) := by decide +kernel
theorem dL_context_193 : decode cL_context 193 = .ok (.iload 6, 2) := by decide +kernel
theorem dL_context_195 : decode cL_context 195 = .ok (.goto 5, 3) := by decide +kernel
theorem dL_context_198 : decode cL_context 198 = .ok (.iload 9, 2) := by decide +kernel
theorem dL_context_200 : decode cL_context 200 = .ok (.istore 11, 2) := by decide +kernel
theorem dL_context_202 : decode cL_context 202 = .ok (.bipush 8, 2) := by decide +kernel
theorem dL_context_204 : decode cL_context 204 = .ok (.aload 4, 2) := by decide +kernel
theorem dL_context_206 : decode cL_context 206 = .ok (.bipush 6, 2) := by decide +kernel
theorem dL_context_208 : decode cL_context 208 = .ok (.iaload, 1) := by decide +kernel
theorem dL_context_209 : decode cL_context 209 = .ok (.imul, 1) := by decide +kernel
theorem dL_context_210 : decode cL_context 210 = .ok (.iload 10, 2) := by decide +kernel
theorem dL_context_212 : decode cL_context 212 = .ok (.iadd, 1) := by decide +kernel
theorem dL_context_213 : decode cL_context 213 = .ok (.istore 12, 2) := by decide +kernel
theorem dL_context_215 : decode cL_context 215 = .ok (.iload 10, 2) := by decide +kernel
theorem dL_context_217 : decode cL_context 217 = .ok (.aload 4, 2) := by decide +kernel
theorem dL_context_219 : decode cL_context 219 = .ok (.iconst 3, 1) := by decide +kernel
theorem dL_context_220 : decode cL_context 220 = .ok (.aload 4, 2) := by decide +kernel
theorem dL_context_222 : decode cL_context 222 = .ok (.bipush 6, 2) := by decide +kernel
theorem dL_context_224 : decode cL_context 224 = .ok (.iaload, 1) := by decide +kernel
theorem dL_context_225 : decode cL_context 225 = .ok (.iadd, 1) := by decide +kernel
theorem dL_context_226 : decode cL_context 226 = .ok (.iaload, 1) := by decide +kernel
theorem dL_context_227 : decode cL_context 227 = .ok (.if_icmp .ge 47, 3) := by decide +kernel
theorem dL_context_230 : decode cL_context 230 = .ok (.aload_n 1, 1) := by decide +kernel
theorem dL_context_231 : decode cL_context 231 = .ok (.iload 12, 2) := by decide +kernel
theorem dL_context_233 : decode cL_context 233 = .ok (.iaload, 1) := by decide +kernel
theorem dL_context_234 : decode cL_context 234 = .ok (.bipush 15, 2) := by decide +kernel
theorem dL_context_236 : decode cL_context 236 = .ok (.iand, 1) := by decide +kernel
theorem dL_context_237 : decode cL_context 237 = .ok (.iconst 4, 1) := by decide +kernel
theorem dL_context_238 : decode cL_context 238 = .ok (.if_icmp .ge 36, 3) := by decide +kernel
theorem dL_context_241 : decode cL_context 241 = .ok (.aload_n 1, 1) := by decide +kernel
theorem dL_context_242 : decode cL_context 242 = .ok (.aload_n 3, 1) := by decide +kernel
theorem dL_context_243 : decode cL_context 243 = .ok (.aload 4, 2) := by decide +kernel
theorem dL_context_245 : decode cL_context 245 = .ok (.bipush 6, 2) := by decide +kernel
theorem dL_context_247 : decode cL_context 247 = .ok (.iaload, 1) := by decide +kernel
theorem dL_context_248 : decode cL_context 248 = .ok (.iload 12, 2) := by decide +kernel
theorem dL_context_250 : decode cL_context 250 = .ok (.aload_n 0, 1) := by decide +kernel
theorem dL_context_251 : decode cL_context 251 = .ok (.iload 11, 2) := by decide +kernel
theorem dL_context_253 : decode cL_context 253 = .ok (.laload, 1) := by decide +kernel
theorem dL_context_254 : decode cL_context 254 = .ok (.invokestatic 120, 3) := by decide +kernel
theorem dL_context_257 : decode cL_context 257 = .ok (.ifCond .ne 17, 3) := by decide +kernel
theorem dL_context_260 : decode cL_context 260 = .ok (.aload_n 0, 1) := by decide +kernel
theorem dL_context_261 : decode cL_context 261 = .ok (.aload_n 1, 1) := by decide +kernel
theorem dL_context_262 : decode cL_context 262 = .ok (.aload_n 2, 1) := by decide +kernel
theorem dL_context_263 : decode cL_context 263 = .ok (.aload_n 3, 1) := by decide +kernel
theorem dL_context_264 : decode cL_context 264 = .ok (.aload 4, 2) := by decide +kernel
theorem dL_context_266 : decode cL_context 266 = .ok (.iload 12, 2) := by decide +kernel
theorem dL_context_268 : decode cL_context 268 = .ok (.iload 11, 2) := by decide +kernel
theorem dL_context_270 : decode cL_context 270 = .ok (.invokestatic 161, 3) := by decide +kernel
theorem dL_context_273 : decode cL_context 273 = .ok (.pop, 1) := by decide +kernel
theorem dL_context_274 : decode cL_context 274 = .ok (.aload 4, 2) := by decide +kernel
theorem dL_context_276 : decode cL_context 276 = .ok (.bipush 7, 2) := by decide +kernel
theorem dL_context_278 : decode cL_context 278 = .ok (.iaload, 1) := by decide +kernel
theorem dL_context_279 : decode cL_context 279 = .ok (.iconst 1, 1) := by decide +kernel
theorem dL_context_280 : decode cL_context 280 = .ok (.iadd, 1) := by decide +kernel
theorem dL_context_281 : decode cL_context 281 = .ok (.istore 13, 2) := by decide +kernel
theorem dL_context_283 : decode cL_context 283 = .ok (.aload 4, 2) := by decide +kernel
theorem dL_context_285 : decode cL_context 285 = .ok (.bipush 7, 2) := by decide +kernel
theorem dL_context_287 : decode cL_context 287 = .ok (.iconst (-1), 1) := by decide +kernel
theorem dL_context_288 : decode cL_context 288 = .ok (.iastore, 1) := by decide +kernel
theorem dL_context_289 : decode cL_context 289 = .ok (.iload 13, 2) := by decide +kernel
theorem dL_context_291 : decode cL_context 291 = .ok (.iload 6, 2) := by decide +kernel
theorem dL_context_293 : decode cL_context 293 = .ok (.if_icmp .le 8, 3) := by decide +kernel
theorem dL_context_296 : decode cL_context 296 = .ok (.iload 13, 2) := by decide +kernel
theorem dL_context_298 : decode cL_context 298 = .ok (.goto 7, 3) := by decide +kernel
theorem dL_context_301 : decode cL_context 301 = .ok (.iload 6, 2) := by decide +kernel
theorem dL_context_303 : decode cL_context 303 = .ok (.iconst 1, 1) := by decide +kernel
theorem dL_context_304 : decode cL_context 304 = .ok (.iadd, 1) := by decide +kernel
theorem dL_context_305 : decode cL_context 305 = .ok (.ireturn, 1) := by decide +kernel
theorem dL_context_306 : decode cL_context 306 = .ok (.iinc 7 1, 3) := by decide +kernel
theorem dL_context_309 : decode cL_context 309 = .ok (.goto (-306), 3) := by decide +kernel
theorem dL_context_312 : decode cL_context 312 = .ok (.iconst (-1), 1) := by decide +kernel
theorem dL_context_313 : decode cL_context 313 = .ok (.ireturn, 1) := by decide +kernel
theorem dL_stage_0 : decode cL_stage 0 = .ok (.bipush 8, 2) := by decide +kernel
theorem dL_stage_2 : decode cL_stage 2 = .ok (.aload 4, 2) := by decide +kernel
theorem dL_stage_4 : decode cL_stage 4 = .ok (.bipush 6, 2) := by decide +kernel
theorem dL_stage_6 : decode cL_stage 6 = .ok (.iaload, 1) := by decide +kernel
theorem dL_stage_7 : decode cL_stage 7 = .ok (.imul, 1) := by decide +kernel
theorem dL_stage_8 : decode cL_stage 8 = .ok (.istore 6, 2) := by decide +kernel
theorem dL_stage_10 : decode cL_stage 10 = .ok (.iload 6, 2) := by decide +kernel
theorem dL_stage_12 : decode cL_stage 12 = .ok (.bipush 8, 2) := by decide +kernel
theorem dL_stage_14 : decode cL_stage 14 = .ok (.aload 4, 2) := by decide +kernel
theorem dL_stage_16 : decode cL_stage 16 = .ok (.bipush 6, 2) := by decide +kernel
theorem dL_stage_18 : decode cL_stage 18 = .ok (.iaload, 1) := by decide +kernel
theorem dL_stage_19 : decode cL_stage 19 = .ok (.imul, 1) := by decide +kernel
theorem dL_stage_20 : decode cL_stage 20 = .ok (.aload 4, 2) := by decide +kernel
theorem dL_stage_22 : decode cL_stage 22 = .ok (.iconst 3, 1) := by decide +kernel
theorem dL_stage_23 : decode cL_stage 23 = .ok (.aload 4, 2) := by decide +kernel
theorem dL_stage_25 : decode cL_stage 25 = .ok (.bipush 6, 2) := by decide +kernel
theorem dL_stage_27 : decode cL_stage 27 = .ok (.iaload, 1) := by decide +kernel
theorem dL_stage_28 : decode cL_stage 28 = .ok (.iadd, 1) := by decide +kernel
theorem dL_stage_29 : decode cL_stage 29 = .ok (.iaload, 1) := by decide +kernel
theorem dL_stage_30 : decode cL_stage 30 = .ok (.iadd, 1) := by decide +kernel
theorem dL_stage_31 : decode cL_stage 31 = .ok (.if_icmp .ge 364, 3) := by decide +kernel
theorem dL_stage_34 : decode cL_stage 34 = .ok (.aload_n 1, 1) := by decide +kernel
theorem dL_stage_35 : decode cL_stage 35 = .ok (.iload 6, 2) := by decide +kernel
theorem dL_stage_37 : decode cL_stage 37 = .ok (.iaload, 1) := by decide +kernel
theorem dL_stage_38 : decode cL_stage 38 = .ok (.bipush 15, 2) := by decide +kernel
theorem dL_stage_40 : decode cL_stage 40 = .ok (.iand, 1) := by decide +kernel
theorem dL_stage_41 : decode cL_stage 41 = .ok (.istore 7, 2) := by decide +kernel
theorem dL_stage_43 : decode cL_stage 43 = .ok (.aload_n 1, 1) := by decide +kernel
theorem dL_stage_44 : decode cL_stage 44 = .ok (.iload 6, 2) := by decide +kernel
theorem dL_stage_46 : decode cL_stage 46 = .ok (.iaload, 1) := by decide +kernel
theorem dL_stage_47 : decode cL_stage 47 = .ok (.bipush 8, 2) := by decide +kernel
theorem dL_stage_49 : decode cL_stage 49 = .ok (.ishr, 1) := by decide +kernel
theorem dL_stage_50 : decode cL_stage 50 = .ok (.iconst 3, 1) := by decide +kernel
theorem dL_stage_51 : decode cL_stage 51 = .ok (.iand, 1) := by decide +kernel
theorem dL_stage_52 : decode cL_stage 52 = .ok (.istore 8, 2) := by decide +kernel
theorem dL_stage_54 : decode cL_stage 54 = .ok (.iload 7, 2) := by decide +kernel
theorem dL_stage_56 : decode cL_stage 56 = .ok (.iconst 5, 1) := by decide +kernel
theorem dL_stage_57 : decode cL_stage 57 = .ok (.if_icmp .gt 332, 3) := by decide +kernel
theorem dL_stage_60 : decode cL_stage 60 = .ok (.aload_n 1, 1) := by decide +kernel
theorem dL_stage_61 : decode cL_stage 61 = .ok (.iload 6, 2) := by decide +kernel
theorem dL_stage_63 : decode cL_stage 63 = .ok (.iaload, 1) := by decide +kernel
theorem dL_stage_64 : decode cL_stage 64 = .ok (.bipush 7, 2) := by decide +kernel
theorem dL_stage_66 : decode cL_stage 66 = .ok (.ishr, 1) := by decide +kernel
theorem dL_stage_67 : decode cL_stage 67 = .ok (.iconst 1, 1) := by decide +kernel
theorem dL_stage_68 : decode cL_stage 68 = .ok (.iand, 1) := by decide +kernel
theorem dL_stage_69 : decode cL_stage 69 = .ok (.iload 5, 2) := by decide +kernel
theorem dL_stage_71 : decode cL_stage 71 = .ok (.if_icmp .ne 318, 3) := by decide +kernel
theorem dL_stage_74 : decode cL_stage 74 = .ok (.iload 8, 2) := by decide +kernel
theorem dL_stage_76 : decode cL_stage 76 = .ok (.ifCond .eq 15, 3) := by decide +kernel
theorem dL_stage_79 : decode cL_stage 79 = .ok (.iload 8, 2) := by decide +kernel
theorem dL_stage_81 : decode cL_stage 81 = .ok (.aload 4, 2) := by decide +kernel
theorem dL_stage_83 : decode cL_stage 83 = .ok (.iconst 2, 1) := by decide +kernel
theorem dL_stage_84 : decode cL_stage 84 = .ok (.iaload, 1) := by decide +kernel
theorem dL_stage_85 : decode cL_stage 85 = .ok (.if_icmp .eq 6, 3) := by decide +kernel
theorem dL_stage_88 : decode cL_stage 88 = .ok (.goto 301, 3) := by decide +kernel
theorem dL_stage_91 : decode cL_stage 91 = .ok (.iload 7, 2) := by decide +kernel
theorem dL_stage_93 : decode cL_stage 93 = .ok (.iconst 5, 1) := by decide +kernel
theorem dL_stage_94 : decode cL_stage 94 = .ok (.if_icmp .ne 12, 3) := by decide +kernel
theorem dL_stage_97 : decode cL_stage 97 = .ok (.aload 4, 2) := by decide +kernel
theorem dL_stage_99 : decode cL_stage 99 = .ok (.iconst 5, 1) := by decide +kernel
theorem dL_stage_100 : decode cL_stage 100 = .ok (.iaload, 1) := by decide +kernel
theorem dL_stage_101 : decode cL_stage 101 = .ok (.iconst 1, 1) := by decide +kernel
theorem dL_stage_102 : decode cL_stage 102 = .ok (.isub, 1) := by decide +kernel
theorem dL_stage_103 : decode cL_stage 103 = .ok (.goto 4, 3) := by decide +kernel
theorem dL_stage_106 : decode cL_stage 106 = .ok (.iconst 0, 1) := by decide +kernel
theorem dL_stage_107 : decode cL_stage 107 = .ok (.istore 9, 2) := by decide +kernel
theorem dL_stage_109 : decode cL_stage 109 = .ok (.iload 9, 2) := by decide +kernel
theorem dL_stage_111 : decode cL_stage 111 = .ok (.ifCond .lt 278, 3) := by decide +kernel
theorem dL_stage_114 : decode cL_stage 114 = .ok (.iload 9, 2) := by decide +kernel
theorem dL_stage_116 : decode cL_stage 116 = .ok (.aload 4, 2) := by decide +kernel
theorem dL_stage_118 : decode cL_stage 118 = .ok (.iconst 5, 1) := by decide +kernel
theorem dL_stage_119 : decode cL_stage 119 = .ok (.iaload, 1) := by decide +kernel
theorem dL_stage_120 : decode cL_stage 120 = .ok (.if_icmp .ge 269, 3) := by decide +kernel
theorem dL_stage_123 : decode cL_stage 123 = .ok (.iconst (-1), 1) := by decide +kernel
theorem dL_stage_124 : decode cL_stage 124 = .ok (.istore 10, 2) := by decide +kernel
theorem dL_stage_126 : decode cL_stage 126 = .ok (.aload_n 1, 1) := by decide +kernel
theorem dL_stage_127 : decode cL_stage 127 = .ok (.aload_n 3, 1) := by decide +kernel
theorem dL_stage_128 : decode cL_stage 128 = .ok (.aload 4, 2) := by decide +kernel
theorem dL_stage_130 : decode cL_stage 130 = .ok (.bipush 6, 2) := by decide +kernel
theorem dL_stage_132 : decode cL_stage 132 = .ok (.iaload, 1) := by decide +kernel
theorem dL_stage_133 : decode cL_stage 133 = .ok (.iload 6, 2) := by decide +kernel
theorem dL_stage_135 : decode cL_stage 135 = .ok (.aload_n 0, 1) := by decide +kernel
theorem dL_stage_136 : decode cL_stage 136 = .ok (.iload 9, 2) := by decide +kernel
theorem dL_stage_138 : decode cL_stage 138 = .ok (.laload, 1) := by decide +kernel
theorem dL_stage_139 : decode cL_stage 139 = .ok (.invokestatic 120, 3) := by decide +kernel
theorem dL_stage_142 : decode cL_stage 142 = .ok (.ifCond .ne 20, 3) := by decide +kernel
theorem dL_stage_145 : decode cL_stage 145 = .ok (.aload_n 1, 1) := by decide +kernel
theorem dL_stage_146 : decode cL_stage 146 = .ok (.iload 6, 2) := by decide +kernel
theorem dL_stage_148 : decode cL_stage 148 = .ok (.aload_n 0, 1) := by decide +kernel
theorem dL_stage_149 : decode cL_stage 149 = .ok (.iload 9, 2) := by decide +kernel
theorem dL_stage_151 : decode cL_stage 151 = .ok (.laload, 1) := by decide +kernel
theorem dL_stage_152 : decode cL_stage 152 = .ok (.invokestatic 165, 3) := by decide +kernel
theorem dL_stage_155 : decode cL_stage 155 = .ok (.ifCond .eq 7, 3) := by decide +kernel
theorem dL_stage_158 : decode cL_stage 158 = .ok (.iconst 1, 1) := by decide +kernel
theorem dL_stage_159 : decode cL_stage 159 = .ok (.goto 4, 3) := by decide +kernel
theorem dL_stage_162 : decode cL_stage 162 = .ok (.iconst 0, 1) := by decide +kernel
theorem dL_stage_163 : decode cL_stage 163 = .ok (.istore 11, 2) := by decide +kernel
theorem dL_stage_165 : decode cL_stage 165 = .ok (.iload 11, 2) := by decide +kernel
theorem dL_stage_167 : decode cL_stage 167 = .ok (.ifCond .eq 148, 3) := by decide +kernel
theorem dL_stage_170 : decode cL_stage 170 = .ok (.iload 7, 2) := by decide +kernel
theorem dL_stage_172 : decode cL_stage 172 = .ok (.iconst 5, 1) := by decide +kernel
theorem dL_stage_173 : decode cL_stage 173 = .ok (.if_icmp .ne 142, 3) := by decide +kernel
theorem dL_stage_176 : decode cL_stage 176 = .ok (.iconst 0, 1) := by decide +kernel
theorem dL_stage_177 : decode cL_stage 177 = .ok (.istore 12, 2) := by decide +kernel
theorem dL_stage_179 : decode cL_stage 179 = .ok (.iload 12, 2) := by decide +kernel
theorem dL_stage_181 : decode cL_stage 181 = .ok (.aload_n 1, 1) := by decide +kernel
theorem dL_stage_182 : decode cL_stage 182 = .ok (.iload 6, 2) := by decide +kernel
theorem dL_stage_184 : decode cL_stage 184 = .ok (.iaload, 1) := by decide +kernel
theorem dL_stage_185 : decode cL_stage 185 = .ok (.bipush 13, 2) := by decide +kernel
theorem dL_stage_187 : decode cL_stage 187 = .ok (.ishr, 1) := by decide +kernel
theorem dL_stage_188 : decode cL_stage 188 = .ok (.if_icmp .ge 124, 3) := by decide +kernel
theorem dL_stage_191 : decode cL_stage 191 = .ok (.aload_n 0, 1) := by decide +kernel
theorem dL_stage_192 : decode cL_stage 192 = .ok (.aload_n 3, 1) := by decide +kernel
theorem dL_stage_193 : decode cL_stage 193 = .ok (.aload 4, 2) := by decide +kernel
theorem dL_stage_195 : decode cL_stage 195 = .ok (.aload_n 2, 1) := by decide +kernel
theorem dL_stage_196 : decode cL_stage 196 = .ok (.iload 6, 2) := by decide +kernel
theorem dL_stage_198 : decode cL_stage 198 = .ok (.iload 12, 2) := by decide +kernel
theorem dL_stage_200 : decode cL_stage 200 = .ok (.iconst 1, 1) := by decide +kernel
theorem dL_stage_201 : decode cL_stage 201 = .ok (.invokestatic 124, 3) := by decide +kernel
theorem dL_stage_204 : decode cL_stage 204 = .ok (.iload 9, 2) := by decide +kernel
theorem dL_stage_206 : decode cL_stage 206 = .ok (.invokestatic 157, 3) := by decide +kernel
theorem dL_stage_209 : decode cL_stage 209 = .ok (.ifCond .eq 97, 3) := by decide +kernel
theorem dL_stage_212 : decode cL_stage 212 = .ok (.aload_n 0, 1) := by decide +kernel
theorem dL_stage_213 : decode cL_stage 213 = .ok (.aload_n 3, 1) := by decide +kernel
theorem dL_stage_214 : decode cL_stage 214 = .ok (.aload 4, 2) := by decide +kernel
theorem dL_stage_216 : decode cL_stage 216 = .ok (.aload_n 2, 1) := by decide +kernel
theorem dL_stage_217 : decode cL_stage 217 = .ok (.iload 6, 2) := by decide +kernel
theorem dL_stage_219 : decode cL_stage 219 = .ok (.iload 12, 2) := by decide +kernel
theorem dL_stage_221 : decode cL_stage 221 = .ok (.iconst 0, 1) := by decide +kernel
theorem dL_stage_222 : decode cL_stage 222 = .ok (.invokestatic 124, 3) := by decide +kernel
theorem dL_stage_225 : decode cL_stage 225 = .ok (.aload_n 0, 1) := by decide +kernel
theorem dL_stage_226 : decode cL_stage 226 = .ok (.aload_n 1, 1) := by decide +kernel
theorem dL_stage_227 : decode cL_stage 227 = .ok (.aload_n 3, 1) := by decide +kernel
theorem dL_stage_228 : decode cL_stage 228 = .ok (.aload 4, 2) := by decide +kernel
theorem dL_stage_230 : decode cL_stage 230 = .ok (.iload 6, 2) := by decide +kernel
theorem dL_stage_232 : decode cL_stage 232 = .ok (.iload 9, 2) := by decide +kernel
theorem dL_stage_234 : decode cL_stage 234 = .ok (.iconst (-1), 1) := by decide +kernel
theorem dL_stage_235 : decode cL_stage 235 = .ok (.invokestatic 145, 3) := by decide +kernel
theorem dL_stage_238 : decode cL_stage 238 = .ok (.invokestatic 157, 3) := by decide +kernel
theorem dL_stage_241 : decode cL_stage 241 = .ok (.ifCond .eq 65, 3) := by decide +kernel
theorem dL_stage_244 : decode cL_stage 244 = .ok (.aload_n 0, 1) := by decide +kernel
theorem dL_stage_245 : decode cL_stage 245 = .ok (.aload_n 3, 1) := by decide +kernel
theorem dL_stage_246 : decode cL_stage 246 = .ok (.aload 4, 2) := by decide +kernel
theorem dL_stage_248 : decode cL_stage 248 = .ok (.aload_n 2, 1) := by decide +kernel
theorem dL_stage_249 : decode cL_stage 249 = .ok (.iload 6, 2) := by decide +kernel
theorem dL_stage_251 : decode cL_stage 251 = .ok (.iload 12, 2) := by decide +kernel
theorem dL_stage_253 : decode cL_stage 253 = .ok (.iconst 2, 1) := by decide +kernel
theorem dL_stage_254 : decode cL_stage 254 = .ok (.invokestatic 124, 3) := by decide +kernel
theorem dL_stage_257 : decode cL_stage 257 = .ok (.aload_n 0, 1) := by decide +kernel
theorem dL_stage_258 : decode cL_stage 258 = .ok (.aload_n 1, 1) := by decide +kernel
theorem dL_stage_259 : decode cL_stage 259 = .ok (.aload_n 3, 1) := by decide +kernel
theorem dL_stage_260 : decode cL_stage 260 = .ok (.aload 4, 2) := by decide +kernel
theorem dL_stage_262 : decode cL_stage 262 = .ok (.iload 6, 2) := by decide +kernel
theorem dL_stage_264 : decode cL_stage 264 = .ok (.iload 9, 2) := by decide +kernel
theorem dL_stage_266 : decode cL_stage 266 = .ok (.iconst 1, 1) := by decide +kernel
theorem dL_stage_267 : decode cL_stage 267 = .ok (.invokestatic 145, 3) := by decide +kernel
theorem dL_stage_270 : decode cL_stage 270 = .ok (.invokestatic 157, 3) := by decide +kernel
theorem dL_stage_273 : decode cL_stage 273 = .ok (.ifCond .ne 6, 3) := by decide +kernel
theorem dL_stage_276 : decode cL_stage 276 = .ok (.goto 30, 3) := by decide +kernel
theorem dL_stage_279 : decode cL_stage 279 = .ok (.aload_n 0, 1) := by decide +kernel
theorem dL_stage_280 : decode cL_stage 280 = .ok (.iload 9, 2) := by decide +kernel
theorem dL_stage_282 : decode cL_stage 282 = .ok (.aload_n 0, 1) := by decide +kernel
theorem dL_stage_283 : decode cL_stage 283 = .ok (.iload 9, 2) := by decide +kernel
theorem dL_stage_285 : decode cL_stage 285 = .ok (.laload, 1) := by decide +kernel
theorem dL_stage_286 : decode cL_stage 286 = .ok (.iconst 0, 1) := by decide +kernel
theorem dL_stage_287 : decode cL_stage 287 = .ok (.sipush 255, 3) := by decide +kernel
theorem dL_stage_290 : decode cL_stage 290 = .ok (.aload_n 2, 1) := by decide +kernel
theorem dL_stage_291 : decode cL_stage 291 = .ok (.iload 6, 2) := by decide +kernel
theorem dL_stage_293 : decode cL_stage 293 = .ok (.iload 12, 2) := by decide +kernel
theorem dL_stage_295 : decode cL_stage 295 = .ok (.iconst 3, 1) := by decide +kernel
theorem dL_stage_296 : decode cL_stage 296 = .ok (.invokestatic 124, 3) := by decide +kernel
theorem dL_stage_299 : decode cL_stage 299 = .ok (.invokestatic 132, 3) := by decide +kernel
theorem dL_stage_302 : decode cL_stage 302 = .ok (.lastore, 1) := by decide +kernel
theorem dL_stage_303 : decode cL_stage 303 = .ok (.goto 9, 3) := by decide +kernel
theorem dL_stage_306 : decode cL_stage 306 = .ok (.iinc 12 1, 3) := by decide +kernel
theorem dL_stage_309 : decode cL_stage 309 = .ok (.goto (-130), 3) := by decide +kernel
theorem dL_stage_312 : decode cL_stage 312 = .ok (.goto 45, 3) := by decide +kernel
theorem dL_stage_315 : decode cL_stage 315 = .ok (.iload 11, 2) := by decide +kernel
theorem dL_stage_317 : decode cL_stage 317 = .ok (.ifCond .eq 40, 3) := by decide +kernel
theorem dL_stage_320 : decode cL_stage 320 = .ok (.iload 7, 2) := by decide +kernel
theorem dL_stage_322 : decode cL_stage 322 = .ok (.iconst 4, 1) := by decide +kernel
theorem dL_stage_323 : decode cL_stage 323 = .ok (.if_icmp .ne 19, 3) := by decide +kernel
theorem dL_stage_326 : decode cL_stage 326 = .ok (.aload_n 0, 1) := by decide +kernel
theorem dL_stage_327 : decode cL_stage 327 = .ok (.aload_n 1, 1) := by decide +kernel
theorem dL_stage_328 : decode cL_stage 328 = .ok (.aload_n 2, 1) := by decide +kernel
theorem dL_stage_329 : decode cL_stage 329 = .ok (.aload_n 3, 1) := by decide +kernel
theorem dL_stage_330 : decode cL_stage 330 = .ok (.aload 4, 2) := by decide +kernel
theorem dL_stage_332 : decode cL_stage 332 = .ok (.iload 6, 2) := by decide +kernel
theorem dL_stage_334 : decode cL_stage 334 = .ok (.iload 9, 2) := by decide +kernel
theorem dL_stage_336 : decode cL_stage 336 = .ok (.invokestatic 169, 3) := by decide +kernel
theorem dL_stage_339 : decode cL_stage 339 = .ok (.goto 16, 3) := by decide +kernel
theorem dL_stage_342 : decode cL_stage 342 = .ok (.aload_n 0, 1) := by decide +kernel
theorem dL_stage_343 : decode cL_stage 343 = .ok (.aload_n 1, 1) := by decide +kernel
theorem dL_stage_344 : decode cL_stage 344 = .ok (.aload_n 2, 1) := by decide +kernel
theorem dL_stage_345 : decode cL_stage 345 = .ok (.aload_n 3, 1) := by decide +kernel
theorem dL_stage_346 : decode cL_stage 346 = .ok (.aload 4, 2) := by decide +kernel
theorem dL_stage_348 : decode cL_stage 348 = .ok (.iload 6, 2) := by decide +kernel
theorem dL_stage_350 : decode cL_stage 350 = .ok (.iload 9, 2) := by decide +kernel
theorem dL_stage_352 : decode cL_stage 352 = .ok (.invokestatic 161, 3) := by decide +kernel
theorem dL_stage_355 : decode cL_stage 355 = .ok (.istore 10, 2) := by decide +kernel
theorem dL_stage_357 : decode cL_stage 357 = .ok (.iload 7, 2) := by decide +kernel
theorem dL_stage_359 : decode cL_stage 359 = .ok (.iconst 5, 1) := by decide +kernel
theorem dL_stage_360 : decode cL_stage 360 = .ok (.if_icmp .ne 10, 3) := by decide +kernel
theorem dL_stage_363 : decode cL_stage 363 = .ok (.iload 9, 2) := by decide +kernel
theorem dL_stage_365 : decode cL_stage 365 = .ok (.iconst 1, 1) := by decide +kernel
theorem dL_stage_366 : decode cL_stage 366 = .ok (.isub, 1) := by decide +kernel
theorem dL_stage_367 : decode cL_stage 367 = .ok (.goto 17, 3) := by decide +kernel
theorem dL_stage_370 : decode cL_stage 370 = .ok (.iload 10, 2) := by decide +kernel
theorem dL_stage_372 : decode cL_stage 372 = .ok (.ifCond .ge 10, 3) := by decide +kernel
theorem dL_stage_375 : decode cL_stage 375 = .ok (.iload 9, 2) := by decide +kernel
theorem dL_stage_377 : decode cL_stage 377 = .ok (.iconst 1, 1) := by decide +kernel
theorem dL_stage_378 : decode cL_stage 378 = .ok (.iadd, 1) := by decide +kernel
theorem dL_stage_379 : decode cL_stage 379 = .ok (.goto 5, 3) := by decide +kernel
theorem dL_stage_382 : decode cL_stage 382 = .ok (.iload 10, 2) := by decide +kernel
theorem dL_stage_384 : decode cL_stage 384 = .ok (.istore 9, 2) := by decide +kernel
theorem dL_stage_386 : decode cL_stage 386 = .ok (.goto (-277), 3) := by decide +kernel
theorem dL_stage_389 : decode cL_stage 389 = .ok (.iinc 6 1, 3) := by decide +kernel
theorem dL_stage_392 : decode cL_stage 392 = .ok (.goto (-382), 3) := by decide +kernel
theorem dL_stage_395 : decode cL_stage 395 = .ok (.return_, 1) := by decide +kernel
theorem dL_letter_0 : decode cL_letter 0 = .ok (.iload_n 0, 1) := by decide +kernel
theorem dL_letter_1 : decode cL_letter 1 = .ok (.bipush 10, 2) := by decide +kernel
theorem dL_letter_3 : decode cL_letter 3 = .ok (.if_icmp .lt 9, 3) := by decide +kernel
theorem dL_letter_6 : decode cL_letter 6 = .ok (.iload_n 0, 1) := by decide +kernel
theorem dL_letter_7 : decode cL_letter 7 = .ok (.bipush 16, 2) := by decide +kernel
theorem dL_letter_9 : decode cL_letter 9 = .ok (.if_icmp .lt 9, 3) := by decide +kernel
theorem dL_letter_12 : decode cL_letter 12 = .ok (.iload_n 0, 1) := by decide +kernel
theorem dL_letter_13 : decode cL_letter 13 = .ok (.bipush 20, 2) := by decide +kernel
theorem dL_letter_15 : decode cL_letter 15 = .ok (.if_icmp .ne 7, 3) := by decide +kernel
theorem dL_letter_18 : decode cL_letter 18 = .ok (.iconst 1, 1) := by decide +kernel
theorem dL_letter_19 : decode cL_letter 19 = .ok (.goto 4, 3) := by decide +kernel
theorem dL_letter_22 : decode cL_letter 22 = .ok (.iconst 0, 1) := by decide +kernel
theorem dL_letter_23 : decode cL_letter 23 = .ok (.ireturn, 1) := by decide +kernel
theorem dL_markSign_0 : decode cL_markSign 0 = .ok (.iload_n 0, 1) := by decide +kernel
theorem dL_markSign_1 : decode cL_markSign 1 = .ok (.bipush 20, 2) := by decide +kernel
theorem dL_markSign_3 : decode cL_markSign 3 = .ok (.if_icmp .le 13, 3) := by decide +kernel
theorem dL_markSign_6 : decode cL_markSign 6 = .ok (.iload_n 0, 1) := by decide +kernel
theorem dL_markSign_7 : decode cL_markSign 7 = .ok (.bipush 24, 2) := by decide +kernel
theorem dL_markSign_9 : decode cL_markSign 9 = .ok (.if_icmp .ge 7, 3) := by decide +kernel
theorem dL_markSign_12 : decode cL_markSign 12 = .ok (.iconst 1, 1) := by decide +kernel
theorem dL_markSign_13 : decode cL_markSign 13 = .ok (.goto 4, 3) := by decide +kernel
theorem dL_markSign_16 : decode cL_markSign 16 = .ok (.iconst 0, 1) := by decide +kernel
theorem dL_markSign_17 : decode cL_markSign 17 = .ok (.ireturn, 1) := by decide +kernel
theorem dL_formed_0 : decode cL_formed 0 = .ok (.aload_n 0, 1) := by decide +kernel
theorem dL_formed_1 : decode cL_formed 1 = .ok (.iload_n 3, 1) := by decide +kernel
theorem dL_formed_2 : decode cL_formed 2 = .ok (.iaload, 1) := by decide +kernel
theorem dL_formed_3 : decode cL_formed 3 = .ok (.bipush 63, 2) := by decide +kernel
theorem dL_formed_5 : decode cL_formed 5 = .ok (.iand, 1) := by decide +kernel
theorem dL_formed_6 : decode cL_formed 6 = .ok (.istore 4, 2) := by decide +kernel
theorem dL_formed_8 : decode cL_formed 8 = .ok (.iload 4, 2) := by decide +kernel
theorem dL_formed_10 : decode cL_formed 10 = .ok (.bipush 10, 2) := by decide +kernel
theorem dL_formed_12 : decode cL_formed 12 = .ok (.if_icmp .lt 10, 3) := by decide +kernel
theorem dL_formed_15 : decode cL_formed 15 = .ok (.iload 4, 2) := by decide +kernel
theorem dL_formed_17 : decode cL_formed 17 = .ok (.bipush 20, 2) := by decide +kernel
theorem dL_formed_19 : decode cL_formed 19 = .ok (.if_icmp .le 5, 3) := by decide +kernel
theorem dL_formed_22 : decode cL_formed 22 = .ok (.iconst 4, 1) := by decide +kernel
theorem dL_formed_23 : decode cL_formed 23 = .ok (.ireturn, 1) := by decide +kernel
theorem dL_formed_24 : decode cL_formed 24 = .ok (.iload_n 3, 1) := by decide +kernel
theorem dL_formed_25 : decode cL_formed 25 = .ok (.iconst 1, 1) := by decide +kernel
theorem dL_formed_26 : decode cL_formed 26 = .ok (.isub, 1) := by decide +kernel
theorem dL_formed_27 : decode cL_formed 27 = .ok (.istore 5, 2) := by decide +kernel
theorem dL_formed_29 : decode cL_formed 29 = .ok (.iload 5, 2) := by decide +kernel
theorem dL_formed_31 : decode cL_formed 31 = .ok (.iload_n 1, 1) := by decide +kernel
theorem dL_formed_32 : decode cL_formed 32 = .ok (.if_icmp .lt 22, 3) := by decide +kernel
theorem dL_formed_35 : decode cL_formed 35 = .ok (.aload_n 0, 1) := by decide +kernel
theorem dL_formed_36 : decode cL_formed 36 = .ok (.iload 5, 2) := by decide +kernel
theorem dL_formed_38 : decode cL_formed 38 = .ok (.iaload, 1) := by decide +kernel
theorem dL_formed_39 : decode cL_formed 39 = .ok (.bipush 63, 2) := by decide +kernel
theorem dL_formed_41 : decode cL_formed 41 = .ok (.iand, 1) := by decide +kernel
theorem dL_formed_42 : decode cL_formed 42 = .ok (.invokestatic 172, 3) := by decide +kernel
theorem dL_formed_45 : decode cL_formed 45 = .ok (.ifCond .eq 9, 3) := by decide +kernel
theorem dL_formed_48 : decode cL_formed 48 = .ok (.iinc 5 (-1), 3) := by decide +kernel
theorem dL_formed_51 : decode cL_formed 51 = .ok (.goto (-22), 3) := by decide +kernel
theorem dL_formed_54 : decode cL_formed 54 = .ok (.iload_n 3, 1) := by decide +kernel
theorem dL_formed_55 : decode cL_formed 55 = .ok (.iconst 1, 1) := by decide +kernel
theorem dL_formed_56 : decode cL_formed 56 = .ok (.iadd, 1) := by decide +kernel
theorem dL_formed_57 : decode cL_formed 57 = .ok (.istore 6, 2) := by decide +kernel
theorem dL_formed_59 : decode cL_formed 59 = .ok (.iload 6, 2) := by decide +kernel
theorem dL_formed_61 : decode cL_formed 61 = .ok (.iload_n 2, 1) := by decide +kernel
theorem dL_formed_62 : decode cL_formed 62 = .ok (.if_icmp .ge 22, 3) := by decide +kernel
theorem dL_formed_65 : decode cL_formed 65 = .ok (.aload_n 0, 1) := by decide +kernel
theorem dL_formed_66 : decode cL_formed 66 = .ok (.iload 6, 2) := by decide +kernel
theorem dL_formed_68 : decode cL_formed 68 = .ok (.iaload, 1) := by decide +kernel
theorem dL_formed_69 : decode cL_formed 69 = .ok (.bipush 63, 2) := by decide +kernel
theorem dL_formed_71 : decode cL_formed 71 = .ok (.iand, 1) := by decide +kernel
theorem dL_formed_72 : decode cL_formed 72 = .ok (.invokestatic 172, 3) := by decide +kernel
theorem dL_formed_75 : decode cL_formed 75 = .ok (.ifCond .eq 9, 3) := by decide +kernel
theorem dL_formed_78 : decode cL_formed 78 = .ok (.iinc 6 1, 3) := by decide +kernel
theorem dL_formed_81 : decode cL_formed 81 = .ok (.goto (-22), 3) := by decide +kernel
theorem dL_formed_84 : decode cL_formed 84 = .ok (.iload 4, 2) := by decide +kernel
theorem dL_formed_86 : decode cL_formed 86 = .ok (.bipush 19, 2) := by decide +kernel
theorem dL_formed_88 : decode cL_formed 88 = .ok (.if_icmp .eq 37, 3) := by decide +kernel
theorem dL_formed_91 : decode cL_formed 91 = .ok (.iload 5, 2) := by decide +kernel
theorem dL_formed_93 : decode cL_formed 93 = .ok (.iload_n 1, 1) := by decide +kernel
theorem dL_formed_94 : decode cL_formed 94 = .ok (.if_icmp .lt 31, 3) := by decide +kernel
theorem dL_formed_97 : decode cL_formed 97 = .ok (.aload_n 0, 1) := by decide +kernel
theorem dL_formed_98 : decode cL_formed 98 = .ok (.iload 5, 2) := by decide +kernel
theorem dL_formed_100 : decode cL_formed 100 = .ok (.iaload, 1) := by decide +kernel
theorem dL_formed_101 : decode cL_formed 101 = .ok (.bipush 63, 2) := by decide +kernel
theorem dL_formed_103 : decode cL_formed 103 = .ok (.iand, 1) := by decide +kernel
theorem dL_formed_104 : decode cL_formed 104 = .ok (.invokestatic 175, 3) := by decide +kernel
theorem dL_formed_107 : decode cL_formed 107 = .ok (.ifCond .ne 14, 3) := by decide +kernel
theorem dL_formed_110 : decode cL_formed 110 = .ok (.aload_n 0, 1) := by decide +kernel
theorem dL_formed_111 : decode cL_formed 111 = .ok (.iload 5, 2) := by decide +kernel
theorem dL_formed_113 : decode cL_formed 113 = .ok (.iaload, 1) := by decide +kernel
theorem dL_formed_114 : decode cL_formed 114 = .ok (.bipush 63, 2) := by decide +kernel
theorem dL_formed_116 : decode cL_formed 116 = .ok (.iand, 1) := by decide +kernel
theorem dL_formed_117 : decode cL_formed 117 = .ok (.iconst 2, 1) := by decide +kernel
theorem dL_formed_118 : decode cL_formed 118 = .ok (.if_icmp .ne 7, 3) := by decide +kernel
theorem dL_formed_121 : decode cL_formed 121 = .ok (.iconst 1, 1) := by decide +kernel
theorem dL_formed_122 : decode cL_formed 122 = .ok (.goto 4, 3) := by decide +kernel
theorem dL_formed_125 : decode cL_formed 125 = .ok (.iconst 0, 1) := by decide +kernel
theorem dL_formed_126 : decode cL_formed 126 = .ok (.istore 7, 2) := by decide +kernel
theorem dL_formed_128 : decode cL_formed 128 = .ok (.iload 4, 2) := by decide +kernel
theorem dL_formed_130 : decode cL_formed 130 = .ok (.invokestatic 175, 3) := by decide +kernel
theorem dL_formed_133 : decode cL_formed 133 = .ok (.ifCond .eq 61, 3) := by decide +kernel
theorem dL_formed_136 : decode cL_formed 136 = .ok (.iload 6, 2) := by decide +kernel
theorem dL_formed_138 : decode cL_formed 138 = .ok (.iload_n 2, 1) := by decide +kernel
theorem dL_formed_139 : decode cL_formed 139 = .ok (.if_icmp .ge 55, 3) := by decide +kernel
theorem dL_formed_142 : decode cL_formed 142 = .ok (.aload_n 0, 1) := by decide +kernel
theorem dL_formed_143 : decode cL_formed 143 = .ok (.iload 6, 2) := by decide +kernel
theorem dL_formed_145 : decode cL_formed 145 = .ok (.iaload, 1) := by decide +kernel
theorem dL_formed_146 : decode cL_formed 146 = .ok (.bipush 63, 2) := by decide +kernel
theorem dL_formed_148 : decode cL_formed 148 = .ok (.iand, 1) := by decide +kernel
theorem dL_formed_149 : decode cL_formed 149 = .ok (.invokestatic 175, 3) := by decide +kernel
theorem dL_formed_152 : decode cL_formed 152 = .ok (.ifCond .ne 38, 3) := by decide +kernel
theorem dL_formed_155 : decode cL_formed 155 = .ok (.aload_n 0, 1) := by decide +kernel
theorem dL_formed_156 : decode cL_formed 156 = .ok (.iload 6, 2) := by decide +kernel
theorem dL_formed_158 : decode cL_formed 158 = .ok (.iaload, 1) := by decide +kernel
theorem dL_formed_159 : decode cL_formed 159 = .ok (.bipush 63, 2) := by decide +kernel
theorem dL_formed_161 : decode cL_formed 161 = .ok (.iand, 1) := by decide +kernel
theorem dL_formed_162 : decode cL_formed 162 = .ok (.iconst 2, 1) := by decide +kernel
theorem dL_formed_163 : decode cL_formed 163 = .ok (.if_icmp .eq 27, 3) := by decide +kernel
theorem dL_formed_166 : decode cL_formed 166 = .ok (.aload_n 0, 1) := by decide +kernel
theorem dL_formed_167 : decode cL_formed 167 = .ok (.iload 6, 2) := by decide +kernel
theorem dL_formed_169 : decode cL_formed 169 = .ok (.iaload, 1) := by decide +kernel
theorem dL_formed_170 : decode cL_formed 170 = .ok (.bipush 63, 2) := by decide +kernel
theorem dL_formed_172 : decode cL_formed 172 = .ok (.iand, 1) := by decide +kernel
theorem dL_formed_173 : decode cL_formed 173 = .ok (.bipush 15, 2) := by decide +kernel
theorem dL_formed_175 : decode cL_formed 175 = .ok (.if_icmp .le 19, 3) := by decide +kernel
theorem dL_formed_178 : decode cL_formed 178 = .ok (.aload_n 0, 1) := by decide +kernel
theorem dL_formed_179 : decode cL_formed 179 = .ok (.iload 6, 2) := by decide +kernel
theorem dL_formed_181 : decode cL_formed 181 = .ok (.iaload, 1) := by decide +kernel
theorem dL_formed_182 : decode cL_formed 182 = .ok (.bipush 63, 2) := by decide +kernel
theorem dL_formed_184 : decode cL_formed 184 = .ok (.iand, 1) := by decide +kernel
theorem dL_formed_185 : decode cL_formed 185 = .ok (.bipush 19, 2) := by decide +kernel
theorem dL_formed_187 : decode cL_formed 187 = .ok (.if_icmp .ge 7, 3) := by decide +kernel
theorem dL_formed_190 : decode cL_formed 190 = .ok (.iconst 1, 1) := by decide +kernel
theorem dL_formed_191 : decode cL_formed 191 = .ok (.goto 4, 3) := by decide +kernel
theorem dL_formed_194 : decode cL_formed 194 = .ok (.iconst 0, 1) := by decide +kernel
theorem dL_formed_195 : decode cL_formed 195 = .ok (.istore 8, 2) := by decide +kernel
theorem dL_formed_197 : decode cL_formed 197 = .ok (.iload 7, 2) := by decide +kernel
theorem dL_formed_199 : decode cL_formed 199 = .ok (.ifCond .eq 12, 3) := by decide +kernel
theorem dL_formed_202 : decode cL_formed 202 = .ok (.iload 8, 2) := by decide +kernel
theorem dL_formed_204 : decode cL_formed 204 = .ok (.ifCond .eq 7, 3) := by decide +kernel
theorem dL_formed_207 : decode cL_formed 207 = .ok (.iconst 2, 1) := by decide +kernel
theorem dL_formed_208 : decode cL_formed 208 = .ok (.goto 22, 3) := by decide +kernel
theorem dL_formed_211 : decode cL_formed 211 = .ok (.iload 7, 2) := by decide +kernel
theorem dL_formed_213 : decode cL_formed 213 = .ok (.ifCond .eq 7, 3) := by decide +kernel
theorem dL_formed_216 : decode cL_formed 216 = .ok (.iconst 3, 1) := by decide +kernel
theorem dL_formed_217 : decode cL_formed 217 = .ok (.goto 13, 3) := by decide +kernel
theorem dL_formed_220 : decode cL_formed 220 = .ok (.iload 8, 2) := by decide +kernel
theorem dL_formed_222 : decode cL_formed 222 = .ok (.ifCond .eq 7, 3) := by decide +kernel
theorem dL_formed_225 : decode cL_formed 225 = .ok (.iconst 1, 1) := by decide +kernel
theorem dL_formed_226 : decode cL_formed 226 = .ok (.goto 4, 3) := by decide +kernel
