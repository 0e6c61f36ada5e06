theorem dL_filled_324 : decode cL_filled 324 = .ok (.sipush 10001, 3) := by decide +kernel
theorem dL_filled_327 : decode cL_filled 327 = .ok (.invokestatic 249, 3) := by decide +kernel
theorem dL_filled_330 : decode cL_filled 330 = .ok (.sipush (-7200), 3) := by decide +kernel
theorem dL_filled_333 : decode cL_filled 333 = .ok (.if_icmp .ne 7, 3) := by decide +kernel
theorem dL_filled_336 : decode cL_filled 336 = .ok (.iconst 1, 1) := by decide +kernel
theorem dL_filled_337 : decode cL_filled 337 = .ok (.goto 4, 3) := by decide +kernel
theorem dL_filled_340 : decode cL_filled 340 = .ok (.iconst 0, 1) := by decide +kernel
theorem dL_filled_341 : decode cL_filled 341 = .ok (.ireturn, 1) := by decide +kernel
theorem dL_isTold_0 : decode cL_isTold 0 = .ok (.aload 6, 2) := by decide +kernel
theorem dL_isTold_2 : decode cL_isTold 2 = .ok (.bipush 8, 2) := by decide +kernel
theorem dL_isTold_4 : decode cL_isTold 4 = .ok (.iconst 0, 1) := by decide +kernel
theorem dL_isTold_5 : decode cL_isTold 5 = .ok (.iastore, 1) := by decide +kernel
theorem dL_isTold_6 : decode cL_isTold 6 = .ok (.aload 6, 2) := by decide +kernel
theorem dL_isTold_8 : decode cL_isTold 8 = .ok (.bipush 9, 2) := by decide +kernel
theorem dL_isTold_10 : decode cL_isTold 10 = .ok (.iconst 0, 1) := by decide +kernel
theorem dL_isTold_11 : decode cL_isTold 11 = .ok (.iastore, 1) := by decide +kernel
theorem dL_isTold_12 : decode cL_isTold 12 = .ok (.aload_n 2, 1) := by decide +kernel
theorem dL_isTold_13 : decode cL_isTold 13 = .ok (.aload_n 3, 1) := by decide +kernel
theorem dL_isTold_14 : decode cL_isTold 14 = .ok (.aload 4, 2) := by decide +kernel
theorem dL_isTold_16 : decode cL_isTold 16 = .ok (.aload 5, 2) := by decide +kernel
theorem dL_isTold_18 : decode cL_isTold 18 = .ok (.aload 6, 2) := by decide +kernel
theorem dL_isTold_20 : decode cL_isTold 20 = .ok (.lload 7, 2) := by decide +kernel
theorem dL_isTold_22 : decode cL_isTold 22 = .ok (.iconst 0, 1) := by decide +kernel
theorem dL_isTold_23 : decode cL_isTold 23 = .ok (.aload 6, 2) := by decide +kernel
theorem dL_isTold_25 : decode cL_isTold 25 = .ok (.iconst 1, 1) := by decide +kernel
theorem dL_isTold_26 : decode cL_isTold 26 = .ok (.iaload, 1) := by decide +kernel
theorem dL_isTold_27 : decode cL_isTold 27 = .ok (.aload 9, 2) := by decide +kernel
theorem dL_isTold_29 : decode cL_isTold 29 = .ok (.aload 10, 2) := by decide +kernel
theorem dL_isTold_31 : decode cL_isTold 31 = .ok (.aload 11, 2) := by decide +kernel
theorem dL_isTold_33 : decode cL_isTold 33 = .ok (.aload 12, 2) := by decide +kernel
theorem dL_isTold_35 : decode cL_isTold 35 = .ok (.aload 13, 2) := by decide +kernel
theorem dL_isTold_37 : decode cL_isTold 37 = .ok (.aload 14, 2) := by decide +kernel
theorem dL_isTold_39 : decode cL_isTold 39 = .ok (.invokestatic 254, 3) := by decide +kernel
theorem dL_isTold_42 : decode cL_isTold 42 = .ok (.aload 6, 2) := by decide +kernel
theorem dL_isTold_44 : decode cL_isTold 44 = .ok (.bipush 10, 2) := by decide +kernel
theorem dL_isTold_46 : decode cL_isTold 46 = .ok (.iaload, 1) := by decide +kernel
theorem dL_isTold_47 : decode cL_isTold 47 = .ok (.iconst 1, 1) := by decide +kernel
theorem dL_isTold_48 : decode cL_isTold 48 = .ok (.if_icmp .ne 5, 3) := by decide +kernel
theorem dL_isTold_51 : decode cL_isTold 51 = .ok (.iconst 1, 1) := by decide +kernel
theorem dL_isTold_52 : decode cL_isTold 52 = .ok (.ireturn, 1) := by decide +kernel
theorem dL_isTold_53 : decode cL_isTold 53 = .ok (.aload_n 0, 1) := by decide +kernel
theorem dL_isTold_54 : decode cL_isTold 54 = .ok (.invokevirtual 258, 3) := by decide +kernel
theorem dL_isTold_57 : decode cL_isTold 57 = .ok (.aload 6, 2) := by decide +kernel
theorem dL_isTold_59 : decode cL_isTold 59 = .ok (.bipush 8, 2) := by decide +kernel
theorem dL_isTold_61 : decode cL_isTold 61 = .ok (.iaload, 1) := by decide +kernel
theorem dL_isTold_62 : decode cL_isTold 62 = .ok (.if_icmp .eq 5, 3) := by decide +kernel
theorem dL_isTold_65 : decode cL_isTold 65 = .ok (.iconst 0, 1) := by decide +kernel
theorem dL_isTold_66 : decode cL_isTold 66 = .ok (.ireturn, 1) := by decide +kernel
theorem dL_isTold_67 : decode cL_isTold 67 = .ok (.iconst 0, 1) := by decide +kernel
theorem dL_isTold_68 : decode cL_isTold 68 = .ok (.istore 15, 2) := by decide +kernel
theorem dL_isTold_70 : decode cL_isTold 70 = .ok (.iload 15, 2) := by decide +kernel
theorem dL_isTold_72 : decode cL_isTold 72 = .ok (.aload 6, 2) := by decide +kernel
theorem dL_isTold_74 : decode cL_isTold 74 = .ok (.bipush 8, 2) := by decide +kernel
theorem dL_isTold_76 : decode cL_isTold 76 = .ok (.iaload, 1) := by decide +kernel
theorem dL_isTold_77 : decode cL_isTold 77 = .ok (.if_icmp .ge 109, 3) := by decide +kernel
theorem dL_isTold_80 : decode cL_isTold 80 = .ok (.aload_n 0, 1) := by decide +kernel
theorem dL_isTold_81 : decode cL_isTold 81 = .ok (.iload 15, 2) := by decide +kernel
theorem dL_isTold_83 : decode cL_isTold 83 = .ok (.invokestatic 262, 3) := by decide +kernel
theorem dL_isTold_86 : decode cL_isTold 86 = .ok (.aload 9, 2) := by decide +kernel
theorem dL_isTold_88 : decode cL_isTold 88 = .ok (.iload 15, 2) := by decide +kernel
theorem dL_isTold_90 : decode cL_isTold 90 = .ok (.iaload, 1) := by decide +kernel
theorem dL_isTold_91 : decode cL_isTold 91 = .ok (.sipush 255, 3) := by decide +kernel
theorem dL_isTold_94 : decode cL_isTold 94 = .ok (.iand, 1) := by decide +kernel
theorem dL_isTold_95 : decode cL_isTold 95 = .ok (.if_icmp .ne 83, 3) := by decide +kernel
theorem dL_isTold_98 : decode cL_isTold 98 = .ok (.aload_n 0, 1) := by decide +kernel
theorem dL_isTold_99 : decode cL_isTold 99 = .ok (.iload 15, 2) := by decide +kernel
theorem dL_isTold_101 : decode cL_isTold 101 = .ok (.invokestatic 264, 3) := by decide +kernel
theorem dL_isTold_104 : decode cL_isTold 104 = .ok (.aload 9, 2) := by decide +kernel
theorem dL_isTold_106 : decode cL_isTold 106 = .ok (.iload 15, 2) := by decide +kernel
theorem dL_isTold_108 : decode cL_isTold 108 = .ok (.iaload, 1) := by decide +kernel
theorem dL_isTold_109 : decode cL_isTold 109 = .ok (.sipush 255, 3) := by decide +kernel
theorem dL_isTold_112 : decode cL_isTold 112 = .ok (.iand, 1) := by decide +kernel
theorem dL_isTold_113 : decode cL_isTold 113 = .ok (.if_icmp .ne 65, 3) := by decide +kernel
theorem dL_isTold_116 : decode cL_isTold 116 = .ok (.aload_n 0, 1) := by decide +kernel
theorem dL_isTold_117 : decode cL_isTold 117 = .ok (.iload 15, 2) := by decide +kernel
theorem dL_isTold_119 : decode cL_isTold 119 = .ok (.invokestatic 266, 3) := by decide +kernel
theorem dL_isTold_122 : decode cL_isTold 122 = .ok (.aload 9, 2) := by decide +kernel
theorem dL_isTold_124 : decode cL_isTold 124 = .ok (.iload 15, 2) := by decide +kernel
theorem dL_isTold_126 : decode cL_isTold 126 = .ok (.iaload, 1) := by decide +kernel
theorem dL_isTold_127 : decode cL_isTold 127 = .ok (.bipush 8, 2) := by decide +kernel
theorem dL_isTold_129 : decode cL_isTold 129 = .ok (.ishr, 1) := by decide +kernel
theorem dL_isTold_130 : decode cL_isTold 130 = .ok (.if_icmp .ne 48, 3) := by decide +kernel
theorem dL_isTold_133 : decode cL_isTold 133 = .ok (.aload_n 0, 1) := by decide +kernel
theorem dL_isTold_134 : decode cL_isTold 134 = .ok (.iload 15, 2) := by decide +kernel
theorem dL_isTold_136 : decode cL_isTold 136 = .ok (.iconst 0, 1) := by decide +kernel
theorem dL_isTold_137 : decode cL_isTold 137 = .ok (.invokestatic 268, 3) := by decide +kernel
theorem dL_isTold_140 : decode cL_isTold 140 = .ok (.aload 12, 2) := by decide +kernel
theorem dL_isTold_142 : decode cL_isTold 142 = .ok (.iload 15, 2) := by decide +kernel
theorem dL_isTold_144 : decode cL_isTold 144 = .ok (.iaload, 1) := by decide +kernel
theorem dL_isTold_145 : decode cL_isTold 145 = .ok (.if_icmp .ne 33, 3) := by decide +kernel
theorem dL_isTold_148 : decode cL_isTold 148 = .ok (.aload_n 0, 1) := by decide +kernel
theorem dL_isTold_149 : decode cL_isTold 149 = .ok (.iload 15, 2) := by decide +kernel
theorem dL_isTold_151 : decode cL_isTold 151 = .ok (.iconst 1, 1) := by decide +kernel
theorem dL_isTold_152 : decode cL_isTold 152 = .ok (.invokestatic 268, 3) := by decide +kernel
theorem dL_isTold_155 : decode cL_isTold 155 = .ok (.aload 11, 2) := by decide +kernel
theorem dL_isTold_157 : decode cL_isTold 157 = .ok (.iload 15, 2) := by decide +kernel
theorem dL_isTold_159 : decode cL_isTold 159 = .ok (.iaload, 1) := by decide +kernel
theorem dL_isTold_160 : decode cL_isTold 160 = .ok (.if_icmp .ne 18, 3) := by decide +kernel
theorem dL_isTold_163 : decode cL_isTold 163 = .ok (.aload_n 0, 1) := by decide +kernel
theorem dL_isTold_164 : decode cL_isTold 164 = .ok (.iload 15, 2) := by decide +kernel
theorem dL_isTold_166 : decode cL_isTold 166 = .ok (.iconst 2, 1) := by decide +kernel
theorem dL_isTold_167 : decode cL_isTold 167 = .ok (.invokestatic 268, 3) := by decide +kernel
theorem dL_isTold_170 : decode cL_isTold 170 = .ok (.aload 10, 2) := by decide +kernel
theorem dL_isTold_172 : decode cL_isTold 172 = .ok (.iload 15, 2) := by decide +kernel
theorem dL_isTold_174 : decode cL_isTold 174 = .ok (.iaload, 1) := by decide +kernel
theorem dL_isTold_175 : decode cL_isTold 175 = .ok (.if_icmp .eq 5, 3) := by decide +kernel
theorem dL_isTold_178 : decode cL_isTold 178 = .ok (.iconst 0, 1) := by decide +kernel
theorem dL_isTold_179 : decode cL_isTold 179 = .ok (.ireturn, 1) := by decide +kernel
theorem dL_isTold_180 : decode cL_isTold 180 = .ok (.iinc 15 1, 3) := by decide +kernel
theorem dL_isTold_183 : decode cL_isTold 183 = .ok (.goto (-113), 3) := by decide +kernel
theorem dL_isTold_186 : decode cL_isTold 186 = .ok (.aload_n 0, 1) := by decide +kernel
theorem dL_isTold_187 : decode cL_isTold 187 = .ok (.aload 6, 2) := by decide +kernel
theorem dL_isTold_189 : decode cL_isTold 189 = .ok (.bipush 8, 2) := by decide +kernel
theorem dL_isTold_191 : decode cL_isTold 191 = .ok (.iaload, 1) := by decide +kernel
theorem dL_isTold_192 : decode cL_isTold 192 = .ok (.invokestatic 262, 3) := by decide +kernel
theorem dL_isTold_195 : decode cL_isTold 195 = .ok (.sipush (-7100), 3) := by decide +kernel
theorem dL_isTold_198 : decode cL_isTold 198 = .ok (.if_icmp .ne 65, 3) := by decide +kernel
theorem dL_isTold_201 : decode cL_isTold 201 = .ok (.aload_n 0, 1) := by decide +kernel
theorem dL_isTold_202 : decode cL_isTold 202 = .ok (.iconst (-1), 1) := by decide +kernel
theorem dL_isTold_203 : decode cL_isTold 203 = .ok (.invokestatic 264, 3) := by decide +kernel
theorem dL_isTold_206 : decode cL_isTold 206 = .ok (.sipush (-7100), 3) := by decide +kernel
theorem dL_isTold_209 : decode cL_isTold 209 = .ok (.if_icmp .ne 54, 3) := by decide +kernel
theorem dL_isTold_212 : decode cL_isTold 212 = .ok (.aload_n 0, 1) := by decide +kernel
theorem dL_isTold_213 : decode cL_isTold 213 = .ok (.aload 6, 2) := by decide +kernel
theorem dL_isTold_215 : decode cL_isTold 215 = .ok (.bipush 8, 2) := by decide +kernel
theorem dL_isTold_217 : decode cL_isTold 217 = .ok (.iaload, 1) := by decide +kernel
theorem dL_isTold_218 : decode cL_isTold 218 = .ok (.invokestatic 266, 3) := by decide +kernel
theorem dL_isTold_221 : decode cL_isTold 221 = .ok (.sipush (-7100), 3) := by decide +kernel
theorem dL_isTold_224 : decode cL_isTold 224 = .ok (.if_icmp .ne 39, 3) := by decide +kernel
theorem dL_isTold_227 : decode cL_isTold 227 = .ok (.aload_n 0, 1) := by decide +kernel
theorem dL_isTold_228 : decode cL_isTold 228 = .ok (.aload 6, 2) := by decide +kernel
theorem dL_isTold_230 : decode cL_isTold 230 = .ok (.bipush 8, 2) := by decide +kernel
theorem dL_isTold_232 : decode cL_isTold 232 = .ok (.iaload, 1) := by decide +kernel
theorem dL_isTold_233 : decode cL_isTold 233 = .ok (.iconst 3, 1) := by decide +kernel
theorem dL_isTold_234 : decode cL_isTold 234 = .ok (.invokestatic 268, 3) := by decide +kernel
theorem dL_isTold_237 : decode cL_isTold 237 = .ok (.sipush (-7100), 3) := by decide +kernel
theorem dL_isTold_240 : decode cL_isTold 240 = .ok (.if_icmp .ne 23, 3) := by decide +kernel
theorem dL_isTold_243 : decode cL_isTold 243 = .ok (.aload 6, 2) := by decide +kernel
theorem dL_isTold_245 : decode cL_isTold 245 = .ok (.bipush 8, 2) := by decide +kernel
theorem dL_isTold_247 : decode cL_isTold 247 = .ok (.iaload, 1) := by decide +kernel
theorem dL_isTold_248 : decode cL_isTold 248 = .ok (.ifCond .le 17, 3) := by decide +kernel
theorem dL_isTold_251 : decode cL_isTold 251 = .ok (.aload_n 0, 1) := by decide +kernel
theorem dL_isTold_252 : decode cL_isTold 252 = .ok (.iconst 0, 1) := by decide +kernel
theorem dL_isTold_253 : decode cL_isTold 253 = .ok (.iconst 3, 1) := by decide +kernel
theorem dL_isTold_254 : decode cL_isTold 254 = .ok (.invokestatic 268, 3) := by decide +kernel
theorem dL_isTold_257 : decode cL_isTold 257 = .ok (.sipush (-7200), 3) := by decide +kernel
theorem dL_isTold_260 : decode cL_isTold 260 = .ok (.if_icmp .eq 5, 3) := by decide +kernel
theorem dL_isTold_263 : decode cL_isTold 263 = .ok (.iconst 0, 1) := by decide +kernel
theorem dL_isTold_264 : decode cL_isTold 264 = .ok (.ireturn, 1) := by decide +kernel
theorem dL_isTold_265 : decode cL_isTold 265 = .ok (.aload_n 0, 1) := by decide +kernel
theorem dL_isTold_266 : decode cL_isTold 266 = .ok (.iload_n 1, 1) := by decide +kernel
theorem dL_isTold_267 : decode cL_isTold 267 = .ok (.aload_n 2, 1) := by decide +kernel
theorem dL_isTold_268 : decode cL_isTold 268 = .ok (.aload_n 3, 1) := by decide +kernel
theorem dL_isTold_269 : decode cL_isTold 269 = .ok (.aload 4, 2) := by decide +kernel
theorem dL_isTold_271 : decode cL_isTold 271 = .ok (.aload 5, 2) := by decide +kernel
theorem dL_isTold_273 : decode cL_isTold 273 = .ok (.aload 6, 2) := by decide +kernel
theorem dL_isTold_275 : decode cL_isTold 275 = .ok (.lload 7, 2) := by decide +kernel
theorem dL_isTold_277 : decode cL_isTold 277 = .ok (.aload 9, 2) := by decide +kernel
theorem dL_isTold_279 : decode cL_isTold 279 = .ok (.aload 10, 2) := by decide +kernel
theorem dL_isTold_281 : decode cL_isTold 281 = .ok (.aload 14, 2) := by decide +kernel
theorem dL_isTold_283 : decode cL_isTold 283 = .ok (.invokestatic 270, 3) := by decide +kernel
theorem dL_isTold_286 : decode cL_isTold 286 = .ok (.ifCond .eq 42, 3) := by decide +kernel
theorem dL_isTold_289 : decode cL_isTold 289 = .ok (.aload_n 0, 1) := by decide +kernel
theorem dL_isTold_290 : decode cL_isTold 290 = .ok (.aload 6, 2) := by decide +kernel
theorem dL_isTold_292 : decode cL_isTold 292 = .ok (.iconst 1, 1) := by decide +kernel
theorem dL_isTold_293 : decode cL_isTold 293 = .ok (.iaload, 1) := by decide +kernel
theorem dL_isTold_294 : decode cL_isTold 294 = .ok (.invokestatic 236, 3) := by decide +kernel
theorem dL_isTold_297 : decode cL_isTold 297 = .ok (.sipush (-7100), 3) := by decide +kernel
theorem dL_isTold_300 : decode cL_isTold 300 = .ok (.if_icmp .ne 28, 3) := by decide +kernel
theorem dL_isTold_303 : decode cL_isTold 303 = .ok (.aload_n 0, 1) := by decide +kernel
theorem dL_isTold_304 : decode cL_isTold 304 = .ok (.iconst (-1), 1) := by decide +kernel
theorem dL_isTold_305 : decode cL_isTold 305 = .ok (.invokestatic 239, 3) := by decide +kernel
theorem dL_isTold_308 : decode cL_isTold 308 = .ok (.sipush (-7100), 3) := by decide +kernel
theorem dL_isTold_311 : decode cL_isTold 311 = .ok (.if_icmp .ne 17, 3) := by decide +kernel
theorem dL_isTold_314 : decode cL_isTold 314 = .ok (.aload_n 0, 1) := by decide +kernel
theorem dL_isTold_315 : decode cL_isTold 315 = .ok (.aload 6, 2) := by decide +kernel
theorem dL_isTold_317 : decode cL_isTold 317 = .ok (.iconst 1, 1) := by decide +kernel
theorem dL_isTold_318 : decode cL_isTold 318 = .ok (.iaload, 1) := by decide +kernel
theorem dL_isTold_319 : decode cL_isTold 319 = .ok (.invokestatic 241, 3) := by decide +kernel
theorem dL_isTold_322 : decode cL_isTold 322 = .ok (.sipush (-7100), 3) := by decide +kernel
theorem dL_isTold_325 : decode cL_isTold 325 = .ok (.if_icmp .eq 5, 3) := by decide +kernel
theorem dL_isTold_328 : decode cL_isTold 328 = .ok (.iconst 0, 1) := by decide +kernel
theorem dL_isTold_329 : decode cL_isTold 329 = .ok (.ireturn, 1) := by decide +kernel
theorem dL_isTold_330 : decode cL_isTold 330 = .ok (.aload 6, 2) := by decide +kernel
theorem dL_isTold_332 : decode cL_isTold 332 = .ok (.iconst 1, 1) := by decide +kernel
theorem dL_isTold_333 : decode cL_isTold 333 = .ok (.iaload, 1) := by decide +kernel
theorem dL_isTold_334 : decode cL_isTold 334 = .ok (.iconst 2, 1) := by decide +kernel
theorem dL_isTold_335 : decode cL_isTold 335 = .ok (.if_icmp .ge 31, 3) := by decide +kernel
theorem dL_isTold_338 : decode cL_isTold 338 = .ok (.aload_n 0, 1) := by decide +kernel
theorem dL_isTold_339 : decode cL_isTold 339 = .ok (.iconst 1, 1) := by decide +kernel
theorem dL_isTold_340 : decode cL_isTold 340 = .ok (.invokestatic 274, 3) := by decide +kernel
theorem dL_isTold_343 : decode cL_isTold 343 = .ok (.sipush (-7100), 3) := by decide +kernel
theorem dL_isTold_346 : decode cL_isTold 346 = .ok (.if_icmp .ne 18, 3) := by decide +kernel
theorem dL_isTold_349 : decode cL_isTold 349 = .ok (.aload_n 0, 1) := by decide +kernel
theorem dL_isTold_350 : decode cL_isTold 350 = .ok (.iconst 0, 1) := by decide +kernel
theorem dL_isTold_351 : decode cL_isTold 351 = .ok (.invokestatic 274, 3) := by decide +kernel
theorem dL_isTold_354 : decode cL_isTold 354 = .ok (.sipush (-7100), 3) := by decide +kernel
theorem dL_isTold_357 : decode cL_isTold 357 = .ok (.if_icmp .ne 7, 3) := by decide +kernel
theorem dL_isTold_360 : decode cL_isTold 360 = .ok (.iconst 1, 1) := by decide +kernel
theorem dL_isTold_361 : decode cL_isTold 361 = .ok (.goto 4, 3) := by decide +kernel
theorem dL_isTold_364 : decode cL_isTold 364 = .ok (.iconst 0, 1) := by decide +kernel
theorem dL_isTold_365 : decode cL_isTold 365 = .ok (.ireturn, 1) := by decide +kernel
theorem dL_isTold_366 : decode cL_isTold 366 = .ok (.iconst 1, 1) := by decide +kernel
theorem dL_isTold_367 : decode cL_isTold 367 = .ok (.iload_n 1, 1) := by decide +kernel
theorem dL_isTold_368 : decode cL_isTold 368 = .ok (.bipush 16, 2) := by decide +kernel
theorem dL_isTold_370 : decode cL_isTold 370 = .ok (.ishr, 1) := by decide +kernel
theorem dL_isTold_371 : decode cL_isTold 371 = .ok (.aload 6, 2) := by decide +kernel
theorem dL_isTold_373 : decode cL_isTold 373 = .ok (.iconst 1, 1) := by decide +kernel
theorem dL_isTold_374 : decode cL_isTold 374 = .ok (.iaload, 1) := by decide +kernel
theorem dL_isTold_375 : decode cL_isTold 375 = .ok (.iconst 1, 1) := by decide +kernel
theorem dL_isTold_376 : decode cL_isTold 376 = .ok (.isub, 1) := by decide +kernel
theorem dL_isTold_377 : decode cL_isTold 377 = .ok (.invokestatic 229, 3) := by decide +kernel
theorem dL_isTold_380 : decode cL_isTold 380 = .ok (.iadd, 1) := by decide +kernel
theorem dL_isTold_381 : decode cL_isTold 381 = .ok (.istore 15, 2) := by decide +kernel
theorem dL_isTold_383 : decode cL_isTold 383 = .ok (.bipush 64, 2) := by decide +kernel
theorem dL_isTold_385 : decode cL_isTold 385 = .ok (.newarray .int, 2) := by decide +kernel
theorem dL_isTold_387 : decode cL_isTold 387 = .ok (.astore 16, 2) := by decide +kernel
theorem dL_isTold_389 : decode cL_isTold 389 = .ok (.bipush 64, 2) := by decide +kernel
theorem dL_isTold_391 : decode cL_isTold 391 = .ok (.newarray .int, 2) := by decide +kernel
theorem dL_isTold_393 : decode cL_isTold 393 = .ok (.astore 17, 2) := by decide +kernel
theorem dL_isTold_395 : decode cL_isTold 395 = .ok (.bipush 64, 2) := by decide +kernel
theorem dL_isTold_397 : decode cL_isTold 397 = .ok (.newarray .int, 2) := by decide +kernel
theorem dL_isTold_399 : decode cL_isTold 399 = .ok (.astore 18, 2) := by decide +kernel
theorem dL_isTold_401 : decode cL_isTold 401 = .ok (.bipush 64, 2) := by decide +kernel
theorem dL_isTold_403 : decode cL_isTold 403 = .ok (.newarray .int, 2) := by decide +kernel
theorem dL_isTold_405 : decode cL_isTold 405 = .ok (.astore 19, 2) := by decide +kernel
theorem dL_isTold_407 : decode cL_isTold 407 = .ok (.bipush 64, 2) := by decide +kernel
theorem dL_isTold_409 : decode cL_isTold 409 = .ok (.newarray .int, 2) := by decide +kernel
theorem dL_isTold_411 : decode cL_isTold 411 = .ok (.astore 20, 2) := by decide +kernel
theorem dL_isTold_413 : decode cL_isTold 413 = .ok (.bipush 62, 2) := by decide +kernel
theorem dL_isTold_415 : decode cL_isTold 415 = .ok (.newarray .int, 2) := by decide +kernel
theorem dL_isTold_417 : decode cL_isTold 417 = .ok (.astore 21, 2) := by decide +kernel
theorem dL_isTold_419 : decode cL_isTold 419 = .ok (.aload 6, 2) := by decide +kernel
theorem dL_isTold_421 : decode cL_isTold 421 = .ok (.bipush 8, 2) := by decide +kernel
theorem dL_isTold_423 : decode cL_isTold 423 = .ok (.iaload, 1) := by decide +kernel
theorem dL_isTold_424 : decode cL_isTold 424 = .ok (.istore 22, 2) := by decide +kernel
theorem dL_isTold_426 : decode cL_isTold 426 = .ok (.aload 6, 2) := by decide +kernel
theorem dL_isTold_428 : decode cL_isTold 428 = .ok (.bipush 8, 2) := by decide +kernel
theorem dL_isTold_430 : decode cL_isTold 430 = .ok (.iconst 0, 1) := by decide +kernel
theorem dL_isTold_431 : decode cL_isTold 431 = .ok (.iastore, 1) := by decide +kernel
theorem dL_isTold_432 : decode cL_isTold 432 = .ok (.aload 6, 2) := by decide +kernel
theorem dL_isTold_434 : decode cL_isTold 434 = .ok (.bipush 9, 2) := by decide +kernel
theorem dL_isTold_436 : decode cL_isTold 436 = .ok (.iconst 0, 1) := by decide +kernel
theorem dL_isTold_437 : decode cL_isTold 437 = .ok (.iastore, 1) := by decide +kernel
theorem dL_isTold_438 : decode cL_isTold 438 = .ok (.aload_n 2, 1) := by decide +kernel
theorem dL_isTold_439 : decode cL_isTold 439 = .ok (.aload_n 3, 1) := by decide +kernel
theorem dL_isTold_440 : decode cL_isTold 440 = .ok (.aload 4, 2) := by decide +kernel
theorem dL_isTold_442 : decode cL_isTold 442 = .ok (.aload 5, 2) := by decide +kernel
theorem dL_isTold_444 : decode cL_isTold 444 = .ok (.aload 6, 2) := by decide +kernel
theorem dL_isTold_446 : decode cL_isTold 446 = .ok (.lload 7, 2) := by decide +kernel
theorem dL_isTold_448 : decode cL_isTold 448 = .ok (.iconst 0, 1) := by decide +kernel
theorem dL_isTold_449 : decode cL_isTold 449 = .ok (.iload 15, 2) := by decide +kernel
theorem dL_isTold_451 : decode cL_isTold 451 = .ok (.aload 16, 2) := by decide +kernel
theorem dL_isTold_453 : decode cL_isTold 453 = .ok (.aload 17, 2) := by decide +kernel
theorem dL_isTold_455 : decode cL_isTold 455 = .ok (.aload 18, 2) := by decide +kernel
theorem dL_isTold_457 : decode cL_isTold 457 = .ok (.aload 19, 2) := by decide +kernel
theorem dL_isTold_459 : decode cL_isTold 459 = .ok (.aload 20, 2) := by decide +kernel
theorem dL_isTold_461 : decode cL_isTold 461 = .ok (.aload 21, 2) := by decide +kernel
theorem dL_isTold_463 : decode cL_isTold 463 = .ok (.invokestatic 254, 3) := by decide +kernel
theorem dL_isTold_466 : decode cL_isTold 466 = .ok (.aload_n 2, 1) := by decide +kernel
theorem dL_isTold_467 : decode cL_isTold 467 = .ok (.aload_n 3, 1) := by decide +kernel
theorem dL_isTold_468 : decode cL_isTold 468 = .ok (.aload 4, 2) := by decide +kernel
theorem dL_isTold_470 : decode cL_isTold 470 = .ok (.aload 5, 2) := by decide +kernel
theorem dL_isTold_472 : decode cL_isTold 472 = .ok (.aload 6, 2) := by decide +kernel
theorem dL_isTold_474 : decode cL_isTold 474 = .ok (.lload 7, 2) := by decide +kernel
theorem dL_isTold_476 : decode cL_isTold 476 = .ok (.iload 15, 2) := by decide +kernel
theorem dL_isTold_478 : decode cL_isTold 478 = .ok (.aload 6, 2) := by decide +kernel
theorem dL_isTold_480 : decode cL_isTold 480 = .ok (.iconst 1, 1) := by decide +kernel
theorem dL_isTold_481 : decode cL_isTold 481 = .ok (.iaload, 1) := by decide +kernel
theorem dL_isTold_482 : decode cL_isTold 482 = .ok (.aload 16, 2) := by decide +kernel
theorem dL_isTold_484 : decode cL_isTold 484 = .ok (.aload 17, 2) := by decide +kernel
theorem dL_isTold_486 : decode cL_isTold 486 = .ok (.aload 18, 2) := by decide +kernel
theorem dL_isTold_488 : decode cL_isTold 488 = .ok (.aload 19, 2) := by decide +kernel
theorem dL_isTold_490 : decode cL_isTold 490 = .ok (.aload 20, 2) := by decide +kernel
theorem dL_isTold_492 : decode cL_isTold 492 = .ok (.aload 21, 2) := by decide +kernel
theorem dL_isTold_494 : decode cL_isTold 494 = .ok (.invokestatic 254, 3) := by decide +kernel
theorem dL_isTold_497 : decode cL_isTold 497 = .ok (.aload 6, 2) := by decide +kernel
theorem dL_isTold_499 : decode cL_isTold 499 = .ok (.bipush 10, 2) := by decide +kernel
theorem dL_isTold_501 : decode cL_isTold 501 = .ok (.iaload, 1) := by decide +kernel
theorem dL_isTold_502 : decode cL_isTold 502 = .ok (.iconst 1, 1) := by decide +kernel
theorem dL_isTold_503 : decode cL_isTold 503 = .ok (.if_icmp .ne 5, 3) := by decide +kernel
theorem dL_isTold_506 : decode cL_isTold 506 = .ok (.iconst 1, 1) := by decide +kernel
theorem dL_isTold_507 : decode cL_isTold 507 = .ok (.ireturn, 1) := by decide +kernel
theorem dL_isTold_508 : decode cL_isTold 508 = .ok (.iload 22, 2) := by decide +kernel
theorem dL_isTold_510 : decode cL_isTold 510 = .ok (.aload 6, 2) := by decide +kernel
theorem dL_isTold_512 : decode cL_isTold 512 = .ok (.bipush 8, 2) := by decide +kernel
theorem dL_isTold_514 : decode cL_isTold 514 = .ok (.iaload, 1) := by decide +kernel
theorem dL_isTold_515 : decode cL_isTold 515 = .ok (.if_icmp .ne 7, 3) := by decide +kernel
theorem dL_isTold_518 : decode cL_isTold 518 = .ok (.iconst 1, 1) := by decide +kernel
theorem dL_isTold_519 : decode cL_isTold 519 = .ok (.goto 4, 3) := by decide +kernel
theorem dL_isTold_522 : decode cL_isTold 522 = .ok (.iconst 0, 1) := by decide +kernel
theorem dL_isTold_523 : decode cL_isTold 523 = .ok (.istore 23, 2) := by decide +kernel
theorem dL_isTold_525 : decode cL_isTold 525 = .ok (.iconst 0, 1) := by decide +kernel
theorem dL_isTold_526 : decode cL_isTold 526 = .ok (.istore 24, 2) := by decide +kernel
theorem dL_isTold_528 : decode cL_isTold 528 = .ok (.iload 24, 2) := by decide +kernel
theorem dL_isTold_530 : decode cL_isTold 530 = .ok (.iload 22, 2) := by decide +kernel
theorem dL_isTold_532 : decode cL_isTold 532 = .ok (.if_icmp .ge 73, 3) := by decide +kernel
theorem dL_isTold_535 : decode cL_isTold 535 = .ok (.iload 23, 2) := by decide +kernel
theorem dL_isTold_537 : decode cL_isTold 537 = .ok (.ifCond .eq 68, 3) := by decide +kernel
theorem dL_isTold_540 : decode cL_isTold 540 = .ok (.aload 9, 2) := by decide +kernel
theorem dL_isTold_542 : decode cL_isTold 542 = .ok (.iload 24, 2) := by decide +kernel
theorem dL_isTold_544 : decode cL_isTold 544 = .ok (.iaload, 1) := by decide +kernel
theorem dL_isTold_545 : decode cL_isTold 545 = .ok (.aload 16, 2) := by decide +kernel
theorem dL_isTold_547 : decode cL_isTold 547 = .ok (.iload 24, 2) := by decide +kernel
theorem dL_isTold_549 : decode cL_isTold 549 = .ok (.iaload, 1) := by decide +kernel
theorem dL_isTold_550 : decode cL_isTold 550 = .ok (.if_icmp .ne 46, 3) := by decide +kernel
theorem dL_isTold_553 : decode cL_isTold 553 = .ok (.aload 10, 2) := by decide +kernel
theorem dL_isTold_555 : decode cL_isTold 555 = .ok (.iload 24, 2) := by decide +kernel
theorem dL_isTold_557 : decode cL_isTold 557 = .ok (.iaload, 1) := by decide +kernel
theorem dL_isTold_558 : decode cL_isTold 558 = .ok (.aload 17, 2) := by decide +kernel
theorem dL_isTold_560 : decode cL_isTold 560 = .ok (.iload 24, 2) := by decide +kernel
theorem dL_isTold_562 : decode cL_isTold 562 = .ok (.iaload, 1) := by decide +kernel
theorem dL_isTold_563 : decode cL_isTold 563 = .ok (.if_icmp .ne 33, 3) := by decide +kernel
theorem dL_isTold_566 : decode cL_isTold 566 = .ok (.aload 11, 2) := by decide +kernel
theorem dL_isTold_568 : decode cL_isTold 568 = .ok (.iload 24, 2) := by decide +kernel
theorem dL_isTold_570 : decode cL_isTold 570 = .ok (.iaload, 1) := by decide +kernel
theorem dL_isTold_571 : decode cL_isTold 571 = .ok (.aload 18, 2) := by decide +kernel
theorem dL_isTold_573 : decode cL_isTold 573 = .ok (.iload 24, 2) := by decide +kernel
theorem dL_isTold_575 : decode cL_isTold 575 = .ok (.iaload, 1) := by decide +kernel
theorem dL_isTold_576 : decode cL_isTold 576 = .ok (.if_icmp .ne 20, 3) := by decide +kernel
theorem dL_isTold_579 : decode cL_isTold 579 = .ok (.aload 13, 2) := by decide +kernel
theorem dL_isTold_581 : decode cL_isTold 581 = .ok (.iload 24, 2) := by decide +kernel
theorem dL_isTold_583 : decode cL_isTold 583 = .ok (.iaload, 1) := by decide +kernel
theorem dL_isTold_584 : decode cL_isTold 584 = .ok (.aload 20, 2) := by decide +kernel
theorem dL_isTold_586 : decode cL_isTold 586 = .ok (.iload 24, 2) := by decide +kernel
theorem dL_isTold_588 : decode cL_isTold 588 = .ok (.iaload, 1) := by decide +kernel
theorem dL_isTold_589 : decode cL_isTold 589 = .ok (.if_icmp .ne 7, 3) := by decide +kernel
theorem dL_isTold_592 : decode cL_isTold 592 = .ok (.iconst 1, 1) := by decide +kernel
theorem dL_isTold_593 : decode cL_isTold 593 = .ok (.goto 4, 3) := by decide +kernel
theorem dL_isTold_596 : decode cL_isTold 596 = .ok (.iconst 0, 1) := by decide +kernel
theorem dL_isTold_597 : decode cL_isTold 597 = .ok (.istore 23, 2) := by decide +kernel
theorem dL_isTold_599 : decode cL_isTold 599 = .ok (.iinc 24 1, 3) := by decide +kernel
theorem dL_isTold_602 : decode cL_isTold 602 = .ok (.goto (-74), 3) := by decide +kernel
theorem dL_isTold_605 : decode cL_isTold 605 = .ok (.aload_n 0, 1) := by decide +kernel
theorem dL_isTold_606 : decode cL_isTold 606 = .ok (.iload 15, 2) := by decide +kernel
theorem dL_isTold_608 : decode cL_isTold 608 = .ok (.invokestatic 274, 3) := by decide +kernel
theorem dL_isTold_611 : decode cL_isTold 611 = .ok (.iload 23, 2) := by decide +kernel
theorem dL_isTold_613 : decode cL_isTold 613 = .ok (.ifCond .eq 7, 3) := by decide +kernel
theorem dL_isTold_616 : decode cL_isTold 616 = .ok (.iconst 1, 1) := by decide +kernel
theorem dL_isTold_617 : decode cL_isTold 617 = .ok (.goto 4, 3) := by decide +kernel
theorem dL_isTold_620 : decode cL_isTold 620 = .ok (.iconst 0, 1) := by decide +kernel
theorem dL_isTold_621 : decode cL_isTold 621 = .ok (.if_icmp .ne 21, 3) := by decide +kernel
theorem dL_isTold_624 : decode cL_isTold 624 = .ok (.aload_n 0, 1) := by decide +kernel
theorem dL_isTold_625 : decode cL_isTold 625 = .ok (.aload 6, 2) := by decide +kernel
theorem dL_isTold_627 : decode cL_isTold 627 = .ok (.iconst 1, 1) := by decide +kernel
theorem dL_isTold_628 : decode cL_isTold 628 = .ok (.iaload, 1) := by decide +kernel
theorem dL_isTold_629 : decode cL_isTold 629 = .ok (.invokestatic 274, 3) := by decide +kernel
theorem dL_isTold_632 : decode cL_isTold 632 = .ok (.sipush (-7100), 3) := by decide +kernel
theorem dL_isTold_635 : decode cL_isTold 635 = .ok (.if_icmp .ne 7, 3) := by decide +kernel
theorem dL_isTold_638 : decode cL_isTold 638 = .ok (.iconst 1, 1) := by decide +kernel
theorem dL_isTold_639 : decode cL_isTold 639 = .ok (.goto 4, 3) := by decide +kernel
theorem dL_isTold_642 : decode cL_isTold 642 = .ok (.iconst 0, 1) := by decide +kernel
theorem dL_isTold_643 : decode cL_isTold 643 = .ok (.ireturn, 1) := by decide +kernel
theorem dL_sized_0 : decode cL_sized 0 = .ok (.aload_n 0, 1) := by decide +kernel
theorem dL_sized_1 : decode cL_sized 1 = .ok (.bipush 8, 2) := by decide +kernel
theorem dL_sized_3 : decode cL_sized 3 = .ok (.aload_n 3, 1) := by decide +kernel
theorem dL_sized_4 : decode cL_sized 4 = .ok (.iconst 0, 1) := by decide +kernel
theorem dL_sized_5 : decode cL_sized 5 = .ok (.iaload, 1) := by decide +kernel
theorem dL_sized_6 : decode cL_sized 6 = .ok (.imul, 1) := by decide +kernel
theorem dL_sized_7 : decode cL_sized 7 = .ok (.iload 4, 2) := by decide +kernel
theorem dL_sized_9 : decode cL_sized 9 = .ok (.iadd, 1) := by decide +kernel
theorem dL_sized_10 : decode cL_sized 10 = .ok (.iaload, 1) := by decide +kernel
theorem dL_sized_11 : decode cL_sized 11 = .ok (.bipush 15, 2) := by decide +kernel
theorem dL_sized_13 : decode cL_sized 13 = .ok (.iand, 1) := by decide +kernel
theorem dL_sized_14 : decode cL_sized 14 = .ok (.istore 5, 2) := by decide +kernel
theorem dL_sized_16 : decode cL_sized 16 = .ok (.iconst 1, 1) := by decide +kernel
theorem dL_sized_17 : decode cL_sized 17 = .ok (.istore 6, 2) := by decide +kernel
theorem dL_sized_19 : decode cL_sized 19 = .ok (.iconst 0, 1) := by decide +kernel
theorem dL_sized_20 : decode cL_sized 20 = .ok (.istore 7, 2) := by decide +kernel
theorem dL_sized_22 : decode cL_sized 22 = .ok (.iconst 0, 1) := by decide +kernel
theorem dL_sized_23 : decode cL_sized 23 = .ok (.istore 8, 2) := by decide +kernel
theorem dL_sized_25 : decode cL_sized 25 = .ok (.iload 8, 2) := by decide +kernel
theorem dL_sized_27 : decode cL_sized 27 = .ok (.sipush 256, 3) := by decide +kernel
theorem dL_sized_30 : decode cL_sized 30 = .ok (.if_icmp .ge 195, 3) := by decide +kernel
theorem dL_sized_33 : decode cL_sized 33 = .ok (.iload 8, 2) := by decide +kernel
theorem dL_sized_35 : decode cL_sized 35 = .ok (.bipush 45, 2) := by decide +kernel
theorem dL_sized_37 : decode cL_sized 37 = .ok (.if_icmp .lt 17, 3) := by decide +kernel
theorem dL_sized_40 : decode cL_sized 40 = .ok (.iload 8, 2) := by decide +kernel
theorem dL_sized_42 : decode cL_sized 42 = .ok (.bipush 63, 2) := by decide +kernel
theorem dL_sized_44 : decode cL_sized 44 = .ok (.if_icmp .le 14, 3) := by decide +kernel
theorem dL_sized_47 : decode cL_sized 47 = .ok (.iload 8, 2) := by decide +kernel
theorem dL_sized_49 : decode cL_sized 49 = .ok (.bipush 83, 2) := by decide +kernel
theorem dL_sized_51 : decode cL_sized 51 = .ok (.if_icmp .ge 7, 3) := by decide +kernel
theorem dL_sized_54 : decode cL_sized 54 = .ok (.iconst 1, 1) := by decide +kernel
theorem dL_sized_55 : decode cL_sized 55 = .ok (.goto 4, 3) := by decide +kernel
theorem dL_sized_58 : decode cL_sized 58 = .ok (.iconst 0, 1) := by decide +kernel
theorem dL_sized_59 : decode cL_sized 59 = .ok (.istore 9, 2) := by decide +kernel
theorem dL_sized_61 : decode cL_sized 61 = .ok (.iconst 0, 1) := by decide +kernel
theorem dL_sized_62 : decode cL_sized 62 = .ok (.istore 10, 2) := by decide +kernel
theorem dL_sized_64 : decode cL_sized 64 = .ok (.iconst 0, 1) := by decide +kernel
theorem dL_sized_65 : decode cL_sized 65 = .ok (.istore 11, 2) := by decide +kernel
theorem dL_sized_67 : decode cL_sized 67 = .ok (.iload 11, 2) := by decide +kernel
theorem dL_sized_69 : decode cL_sized 69 = .ok (.aload_n 0, 1) := by decide +kernel
theorem dL_sized_70 : decode cL_sized 70 = .ok (.bipush 8, 2) := by decide +kernel
theorem dL_sized_72 : decode cL_sized 72 = .ok (.aload_n 3, 1) := by decide +kernel
theorem dL_sized_73 : decode cL_sized 73 = .ok (.iconst 0, 1) := by decide +kernel
theorem dL_sized_74 : decode cL_sized 74 = .ok (.iaload, 1) := by decide +kernel
theorem dL_sized_75 : decode cL_sized 75 = .ok (.imul, 1) := by decide +kernel
theorem dL_sized_76 : decode cL_sized 76 = .ok (.iload 4, 2) := by decide +kernel
theorem dL_sized_78 : decode cL_sized 78 = .ok (.iadd, 1) := by decide +kernel
theorem dL_sized_79 : decode cL_sized 79 = .ok (.iaload, 1) := by decide +kernel
theorem dL_sized_80 : decode cL_sized 80 = .ok (.bipush 13, 2) := by decide +kernel
theorem dL_sized_82 : decode cL_sized 82 = .ok (.ishr, 1) := by decide +kernel
theorem dL_sized_83 : decode cL_sized 83 = .ok (.if_icmp .ge 82, 3) := by decide +kernel
theorem dL_sized_86 : decode cL_sized 86 = .ok (.aload_n 1, 1) := by decide +kernel
theorem dL_sized_87 : decode cL_sized 87 = .ok (.bipush 8, 2) := by decide +kernel
theorem dL_sized_89 : decode cL_sized 89 = .ok (.aload_n 3, 1) := by decide +kernel
theorem dL_sized_90 : decode cL_sized 90 = .ok (.iconst 0, 1) := by decide +kernel
theorem dL_sized_91 : decode cL_sized 91 = .ok (.iaload, 1) := by decide +kernel
theorem dL_sized_92 : decode cL_sized 92 = .ok (.imul, 1) := by decide +kernel
theorem dL_sized_93 : decode cL_sized 93 = .ok (.iload 4, 2) := by decide +kernel
theorem dL_sized_95 : decode cL_sized 95 = .ok (.iadd, 1) := by decide +kernel
theorem dL_sized_96 : decode cL_sized 96 = .ok (.iload 11, 2) := by decide +kernel
theorem dL_sized_98 : decode cL_sized 98 = .ok (.iload 5, 2) := by decide +kernel
theorem dL_sized_100 : decode cL_sized 100 = .ok (.iconst 4, 1) := by decide +kernel
theorem dL_sized_101 : decode cL_sized 101 = .ok (.if_icmp .eq 9, 3) := by decide +kernel
theorem dL_sized_104 : decode cL_sized 104 = .ok (.iload 5, 2) := by decide +kernel
theorem dL_sized_106 : decode cL_sized 106 = .ok (.iconst 5, 1) := by decide +kernel
theorem dL_sized_107 : decode cL_sized 107 = .ok (.if_icmp .ne 7, 3) := by decide +kernel
theorem dL_sized_110 : decode cL_sized 110 = .ok (.iconst 1, 1) := by decide +kernel
theorem dL_sized_111 : decode cL_sized 111 = .ok (.goto 4, 3) := by decide +kernel
theorem dL_sized_114 : decode cL_sized 114 = .ok (.iconst 0, 1) := by decide +kernel
theorem dL_sized_115 : decode cL_sized 115 = .ok (.invokestatic 124, 3) := by decide +kernel
theorem dL_sized_118 : decode cL_sized 118 = .ok (.istore 12, 2) := by decide +kernel
theorem dL_sized_120 : decode cL_sized 120 = .ok (.iload 9, 2) := by decide +kernel
theorem dL_sized_122 : decode cL_sized 122 = .ok (.ifCond .eq 20, 3) := by decide +kernel
theorem dL_sized_125 : decode cL_sized 125 = .ok (.aload_n 2, 1) := by decide +kernel
theorem dL_sized_126 : decode cL_sized 126 = .ok (.aload_n 3, 1) := by decide +kernel
theorem dL_sized_127 : decode cL_sized 127 = .ok (.iconst 0, 1) := by decide +kernel
theorem dL_sized_128 : decode cL_sized 128 = .ok (.iaload, 1) := by decide +kernel
theorem dL_sized_129 : decode cL_sized 129 = .ok (.iload 12, 2) := by decide +kernel
theorem dL_sized_131 : decode cL_sized 131 = .ok (.iload 8, 2) := by decide +kernel
theorem dL_sized_133 : decode cL_sized 133 = .ok (.invokestatic 128, 3) := by decide +kernel
theorem dL_sized_136 : decode cL_sized 136 = .ok (.ifCond .eq 23, 3) := by decide +kernel
theorem dL_sized_139 : decode cL_sized 139 = .ok (.goto 11, 3) := by decide +kernel
theorem dL_sized_142 : decode cL_sized 142 = .ok (.iload 12, 2) := by decide +kernel
theorem dL_sized_144 : decode cL_sized 144 = .ok (.sipush 300, 3) := by decide +kernel
theorem dL_sized_147 : decode cL_sized 147 = .ok (.if_icmp .ne 12, 3) := by decide +kernel
theorem dL_sized_150 : decode cL_sized 150 = .ok (.iload 10, 2) := by decide +kernel
theorem dL_sized_152 : decode cL_sized 152 = .ok (.iconst 1, 1) := by decide +kernel
theorem dL_sized_153 : decode cL_sized 153 = .ok (.iload 11, 2) := by decide +kernel
theorem dL_sized_155 : decode cL_sized 155 = .ok (.ishl, 1) := by decide +kernel
theorem dL_sized_156 : decode cL_sized 156 = .ok (.ior, 1) := by decide +kernel
theorem dL_sized_157 : decode cL_sized 157 = .ok (.istore 10, 2) := by decide +kernel
theorem dL_sized_159 : decode cL_sized 159 = .ok (.iinc 11 1, 3) := by decide +kernel
theorem dL_sized_162 : decode cL_sized 162 = .ok (.goto (-95), 3) := by decide +kernel
theorem dL_sized_165 : decode cL_sized 165 = .ok (.iload 10, 2) := by decide +kernel
theorem dL_sized_167 : decode cL_sized 167 = .ok (.ifCond .le 6, 3) := by decide +kernel
theorem dL_sized_170 : decode cL_sized 170 = .ok (.iinc 7 1, 3) := by decide +kernel
theorem dL_sized_173 : decode cL_sized 173 = .ok (.iconst 0, 1) := by decide +kernel
theorem dL_sized_174 : decode cL_sized 174 = .ok (.istore 11, 2) := by decide +kernel
theorem dL_sized_176 : decode cL_sized 176 = .ok (.iload 11, 2) := by decide +kernel
theorem dL_sized_178 : decode cL_sized 178 = .ok (.iconst 4, 1) := by decide +kernel
theorem dL_sized_179 : decode cL_sized 179 = .ok (.if_icmp .ge 31, 3) := by decide +kernel
theorem dL_sized_182 : decode cL_sized 182 = .ok (.iload 6, 2) := by decide +kernel
theorem dL_sized_184 : decode cL_sized 184 = .ok (.iload 10, 2) := by decide +kernel
theorem dL_sized_186 : decode cL_sized 186 = .ok (.ishr, 1) := by decide +kernel
theorem dL_sized_187 : decode cL_sized 187 = .ok (.iconst 1, 1) := by decide +kernel
theorem dL_sized_188 : decode cL_sized 188 = .ok (.iand, 1) := by decide +kernel
theorem dL_sized_189 : decode cL_sized 189 = .ok (.ifCond .ne 21, 3) := by decide +kernel
theorem dL_sized_192 : decode cL_sized 192 = .ok (.iload 7, 2) := by decide +kernel
theorem dL_sized_194 : decode cL_sized 194 = .ok (.iload 10, 2) := by decide +kernel
theorem dL_sized_196 : decode cL_sized 196 = .ok (.iload 11, 2) := by decide +kernel
theorem dL_sized_198 : decode cL_sized 198 = .ok (.ishr, 1) := by decide +kernel
theorem dL_sized_199 : decode cL_sized 199 = .ok (.iconst 1, 1) := by decide +kernel
theorem dL_sized_200 : decode cL_sized 200 = .ok (.iand, 1) := by decide +kernel
theorem dL_sized_201 : decode cL_sized 201 = .ok (.iadd, 1) := by decide +kernel
theorem dL_sized_202 : decode cL_sized 202 = .ok (.istore 7, 2) := by decide +kernel
theorem dL_sized_204 : decode cL_sized 204 = .ok (.iinc 11 1, 3) := by decide +kernel
theorem dL_sized_207 : decode cL_sized 207 = .ok (.goto (-31), 3) := by decide +kernel
theorem dL_sized_210 : decode cL_sized 210 = .ok (.iload 6, 2) := by decide +kernel
theorem dL_sized_212 : decode cL_sized 212 = .ok (.iconst 1, 1) := by decide +kernel
theorem dL_sized_213 : decode cL_sized 213 = .ok (.iload 10, 2) := by decide +kernel
theorem dL_sized_215 : decode cL_sized 215 = .ok (.ishl, 1) := by decide +kernel
theorem dL_sized_216 : decode cL_sized 216 = .ok (.ior, 1) := by decide +kernel
theorem dL_sized_217 : decode cL_sized 217 = .ok (.istore 6, 2) := by decide +kernel
theorem dL_sized_219 : decode cL_sized 219 = .ok (.iinc 8 1, 3) := by decide +kernel
theorem dL_sized_222 : decode cL_sized 222 = .ok (.goto (-197), 3) := by decide +kernel
theorem dL_sized_225 : decode cL_sized 225 = .ok (.iload 7, 2) := by decide +kernel
theorem dL_sized_227 : decode cL_sized 227 = .ok (.ireturn, 1) := by decide +kernel
theorem dL_glyphBy_0 : decode cL_glyphBy 0 = .ok (.iload_n 0, 1) := by decide +kernel
theorem dL_glyphBy_1 : decode cL_glyphBy 1 = .ok (.iconst 3, 1) := by decide +kernel
theorem dL_glyphBy_2 : decode cL_glyphBy 2 = .ok (.invokestatic 229, 3) := by decide +kernel
theorem dL_glyphBy_5 : decode cL_glyphBy 5 = .ok (.iconst 2, 1) := by decide +kernel
theorem dL_glyphBy_6 : decode cL_glyphBy 6 = .ok (.if_icmp .ge 14, 3) := by decide +kernel
theorem dL_glyphBy_9 : decode cL_glyphBy 9 = .ok (.iload_n 0, 1) := by decide +kernel
theorem dL_glyphBy_10 : decode cL_glyphBy 10 = .ok (.iconst 2, 1) := by decide +kernel
theorem dL_glyphBy_11 : decode cL_glyphBy 11 = .ok (.ishr, 1) := by decide +kernel
theorem dL_glyphBy_12 : decode cL_glyphBy 12 = .ok (.bipush 45, 2) := by decide +kernel
theorem dL_glyphBy_14 : decode cL_glyphBy 14 = .ok (.invokestatic 229, 3) := by decide +kernel
theorem dL_glyphBy_17 : decode cL_glyphBy 17 = .ok (.goto 14, 3) := by decide +kernel
theorem dL_glyphBy_20 : decode cL_glyphBy 20 = .ok (.bipush 64, 2) := by decide +kernel
theorem dL_glyphBy_22 : decode cL_glyphBy 22 = .ok (.iload_n 0, 1) := by decide +kernel
theorem dL_glyphBy_23 : decode cL_glyphBy 23 = .ok (.iconst 2, 1) := by decide +kernel
theorem dL_glyphBy_24 : decode cL_glyphBy 24 = .ok (.ishr, 1) := by decide +kernel
theorem dL_glyphBy_25 : decode cL_glyphBy 25 = .ok (.bipush 19, 2) := by decide +kernel
theorem dL_glyphBy_27 : decode cL_glyphBy 27 = .ok (.invokestatic 229, 3) := by decide +kernel
theorem dL_glyphBy_30 : decode cL_glyphBy 30 = .ok (.iadd, 1) := by decide +kernel
theorem dL_glyphBy_31 : decode cL_glyphBy 31 = .ok (.istore_n 1, 1) := by decide +kernel
theorem dL_glyphBy_32 : decode cL_glyphBy 32 = .ok (.iload_n 0, 1) := by decide +kernel
theorem dL_glyphBy_33 : decode cL_glyphBy 33 = .ok (.bipush 8, 2) := by decide +kernel
theorem dL_glyphBy_35 : decode cL_glyphBy 35 = .ok (.ishr, 1) := by decide +kernel
theorem dL_glyphBy_36 : decode cL_glyphBy 36 = .ok (.iconst 4, 1) := by decide +kernel
theorem dL_glyphBy_37 : decode cL_glyphBy 37 = .ok (.invokestatic 229, 3) := by decide +kernel
theorem dL_glyphBy_40 : decode cL_glyphBy 40 = .ok (.ifCond .ne 16, 3) := by decide +kernel
theorem dL_glyphBy_43 : decode cL_glyphBy 43 = .ok (.bipush 20, 2) := by decide +kernel
theorem dL_glyphBy_45 : decode cL_glyphBy 45 = .ok (.iload_n 0, 1) := by decide +kernel
theorem dL_glyphBy_46 : decode cL_glyphBy 46 = .ok (.iconst 2, 1) := by decide +kernel
theorem dL_glyphBy_47 : decode cL_glyphBy 47 = .ok (.ishr, 1) := by decide +kernel
theorem dL_glyphBy_48 : decode cL_glyphBy 48 = .ok (.iconst 4, 1) := by decide +kernel
theorem dL_glyphBy_49 : decode cL_glyphBy 49 = .ok (.invokestatic 229, 3) := by decide +kernel
theorem dL_glyphBy_52 : decode cL_glyphBy 52 = .ok (.iadd, 1) := by decide +kernel
theorem dL_glyphBy_53 : decode cL_glyphBy 53 = .ok (.goto 4, 3) := by decide +kernel
theorem dL_glyphBy_56 : decode cL_glyphBy 56 = .ok (.iload_n 1, 1) := by decide +kernel
theorem dL_glyphBy_57 : decode cL_glyphBy 57 = .ok (.ireturn, 1) := by decide +kernel
theorem dL_itemBy_0 : decode cL_itemBy 0 = .ok (.iload_n 0, 1) := by decide +kernel
theorem dL_itemBy_1 : decode cL_itemBy 1 = .ok (.iconst 5, 1) := by decide +kernel
theorem dL_itemBy_2 : decode cL_itemBy 2 = .ok (.invokestatic 229, 3) := by decide +kernel
theorem dL_itemBy_5 : decode cL_itemBy 5 = .ok (.istore_n 2, 1) := by decide +kernel
theorem dL_itemBy_6 : decode cL_itemBy 6 = .ok (.iload_n 1, 1) := by decide +kernel
theorem dL_itemBy_7 : decode cL_itemBy 7 = .ok (.ifCond .eq 12, 3) := by decide +kernel
theorem dL_itemBy_10 : decode cL_itemBy 10 = .ok (.iload_n 2, 1) := by decide +kernel
theorem dL_itemBy_11 : decode cL_itemBy 11 = .ok (.ifCond .ne 8, 3) := by decide +kernel
theorem dL_itemBy_14 : decode cL_itemBy 14 = .ok (.bipush (-100), 2) := by decide +kernel
theorem dL_itemBy_16 : decode cL_itemBy 16 = .ok (.goto 28, 3) := by decide +kernel
theorem dL_itemBy_19 : decode cL_itemBy 19 = .ok (.iload_n 2, 1) := by decide +kernel
theorem dL_itemBy_20 : decode cL_itemBy 20 = .ok (.iconst 2, 1) := by decide +kernel
theorem dL_itemBy_21 : decode cL_itemBy 21 = .ok (.if_icmp .ge 17, 3) := by decide +kernel
theorem dL_itemBy_24 : decode cL_itemBy 24 = .ok (.sipush 300, 3) := by decide +kernel
theorem dL_itemBy_27 : decode cL_itemBy 27 = .ok (.iload_n 0, 1) := by decide +kernel
theorem dL_itemBy_28 : decode cL_itemBy 28 = .ok (.iconst 3, 1) := by decide +kernel
theorem dL_itemBy_29 : decode cL_itemBy 29 = .ok (.ishr, 1) := by decide +kernel
theorem dL_itemBy_30 : decode cL_itemBy 30 = .ok (.iconst 3, 1) := by decide +kernel
theorem dL_itemBy_31 : decode cL_itemBy 31 = .ok (.invokestatic 229, 3) := by decide +kernel
theorem dL_itemBy_34 : decode cL_itemBy 34 = .ok (.iadd, 1) := by decide +kernel
theorem dL_itemBy_35 : decode cL_itemBy 35 = .ok (.goto 9, 3) := by decide +kernel
theorem dL_itemBy_38 : decode cL_itemBy 38 = .ok (.iload_n 0, 1) := by decide +kernel
theorem dL_itemBy_39 : decode cL_itemBy 39 = .ok (.iconst 3, 1) := by decide +kernel
theorem dL_itemBy_40 : decode cL_itemBy 40 = .ok (.ishr, 1) := by decide +kernel
theorem dL_itemBy_41 : decode cL_itemBy 41 = .ok (.invokestatic 276, 3) := by decide +kernel
theorem dL_itemBy_44 : decode cL_itemBy 44 = .ok (.ireturn, 1) := by decide +kernel
theorem dL_signBy_0 : decode cL_signBy 0 = .ok (.iload_n 0, 1) := by decide +kernel
theorem dL_signBy_1 : decode cL_signBy 1 = .ok (.bipush 8, 2) := by decide +kernel
theorem dL_signBy_3 : decode cL_signBy 3 = .ok (.invokestatic 229, 3) := by decide +kernel
theorem dL_signBy_6 : decode cL_signBy 6 = .ok (.istore_n 1, 1) := by decide +kernel
theorem dL_signBy_7 : decode cL_signBy 7 = .ok (.iload_n 1, 1) := by decide +kernel
theorem dL_signBy_8 : decode cL_signBy 8 = .ok (.iconst 3, 1) := by decide +kernel
theorem dL_signBy_9 : decode cL_signBy 9 = .ok (.if_icmp .ge 16, 3) := by decide +kernel
theorem dL_signBy_12 : decode cL_signBy 12 = .ok (.bipush 10, 2) := by decide +kernel
theorem dL_signBy_14 : decode cL_signBy 14 = .ok (.iload_n 0, 1) := by decide +kernel
theorem dL_signBy_15 : decode cL_signBy 15 = .ok (.iconst 3, 1) := by decide +kernel
theorem dL_signBy_16 : decode cL_signBy 16 = .ok (.ishr, 1) := by decide +kernel
theorem dL_signBy_17 : decode cL_signBy 17 = .ok (.iconst 3, 1) := by decide +kernel
theorem dL_signBy_18 : decode cL_signBy 18 = .ok (.invokestatic 229, 3) := by decide +kernel
theorem dL_signBy_21 : decode cL_signBy 21 = .ok (.iadd, 1) := by decide +kernel
theorem dL_signBy_22 : decode cL_signBy 22 = .ok (.goto 108, 3) := by decide +kernel
theorem dL_signBy_25 : decode cL_signBy 25 = .ok (.iload_n 1, 1) := by decide +kernel
theorem dL_signBy_26 : decode cL_signBy 26 = .ok (.iconst 3, 1) := by decide +kernel
theorem dL_signBy_27 : decode cL_signBy 27 = .ok (.if_icmp .ne 16, 3) := by decide +kernel
theorem dL_signBy_30 : decode cL_signBy 30 = .ok (.bipush 20, 2) := by decide +kernel
theorem dL_signBy_32 : decode cL_signBy 32 = .ok (.iload_n 0, 1) := by decide +kernel
theorem dL_signBy_33 : decode cL_signBy 33 = .ok (.iconst 3, 1) := by decide +kernel
theorem dL_signBy_34 : decode cL_signBy 34 = .ok (.ishr, 1) := by decide +kernel
theorem dL_signBy_35 : decode cL_signBy 35 = .ok (.iconst 3, 1) := by decide +kernel
theorem dL_signBy_36 : decode cL_signBy 36 = .ok (.invokestatic 229, 3) := by decide +kernel
theorem dL_signBy_39 : decode cL_signBy 39 = .ok (.iadd, 1) := by decide +kernel
theorem dL_signBy_40 : decode cL_signBy 40 = .ok (.goto 90, 3) := by decide +kernel
theorem dL_signBy_43 : decode cL_signBy 43 = .ok (.iload_n 1, 1) := by decide +kernel
theorem dL_signBy_44 : decode cL_signBy 44 = .ok (.iconst 4, 1) := by decide +kernel
theorem dL_signBy_45 : decode cL_signBy 45 = .ok (.if_icmp .ne 16, 3) := by decide +kernel
theorem dL_signBy_48 : decode cL_signBy 48 = .ok (.bipush 30, 2) := by decide +kernel
theorem dL_signBy_50 : decode cL_signBy 50 = .ok (.iload_n 0, 1) := by decide +kernel
theorem dL_signBy_51 : decode cL_signBy 51 = .ok (.iconst 3, 1) := by decide +kernel
theorem dL_signBy_52 : decode cL_signBy 52 = .ok (.ishr, 1) := by decide +kernel
theorem dL_signBy_53 : decode cL_signBy 53 = .ok (.iconst 3, 1) := by decide +kernel
theorem dL_signBy_54 : decode cL_signBy 54 = .ok (.invokestatic 229, 3) := by decide +kernel
theorem dL_signBy_57 : decode cL_signBy 57 = .ok (.iadd, 1) := by decide +kernel
theorem dL_signBy_58 : decode cL_signBy 58 = .ok (.goto 72, 3) := by decide +kernel
theorem dL_signBy_61 : decode cL_signBy 61 = .ok (.iload_n 1, 1) := by decide +kernel
theorem dL_signBy_62 : decode cL_signBy 62 = .ok (.iconst 5, 1) := by decide +kernel
theorem dL_signBy_63 : decode cL_signBy 63 = .ok (.if_icmp .ne 16, 3) := by decide +kernel
theorem dL_signBy_66 : decode cL_signBy 66 = .ok (.bipush 38, 2) := by decide +kernel
theorem dL_signBy_68 : decode cL_signBy 68 = .ok (.iload_n 0, 1) := by decide +kernel
theorem dL_signBy_69 : decode cL_signBy 69 = .ok (.iconst 3, 1) := by decide +kernel
theorem dL_signBy_70 : decode cL_signBy 70 = .ok (.ishr, 1) := by decide +kernel
theorem dL_signBy_71 : decode cL_signBy 71 = .ok (.iconst 4, 1) := by decide +kernel
theorem dL_signBy_72 : decode cL_signBy 72 = .ok (.invokestatic 229, 3) := by decide +kernel
theorem dL_signBy_75 : decode cL_signBy 75 = .ok (.iadd, 1) := by decide +kernel
theorem dL_signBy_76 : decode cL_signBy 76 = .ok (.goto 54, 3) := by decide +kernel
theorem dL_signBy_79 : decode cL_signBy 79 = .ok (.iload_n 1, 1) := by decide +kernel
theorem dL_signBy_80 : decode cL_signBy 80 = .ok (.bipush 6, 2) := by decide +kernel
theorem dL_signBy_82 : decode cL_signBy 82 = .ok (.if_icmp .ne 13, 3) := by decide +kernel
theorem dL_signBy_85 : decode cL_signBy 85 = .ok (.iload_n 0, 1) := by decide +kernel
theorem dL_signBy_86 : decode cL_signBy 86 = .ok (.iconst 3, 1) := by decide +kernel
theorem dL_signBy_87 : decode cL_signBy 87 = .ok (.ishr, 1) := by decide +kernel
theorem dL_signBy_88 : decode cL_signBy 88 = .ok (.iconst 4, 1) := by decide +kernel
theorem dL_signBy_89 : decode cL_signBy 89 = .ok (.invokestatic 229, 3) := by decide +kernel
theorem dL_signBy_92 : decode cL_signBy 92 = .ok (.goto 38, 3) := by decide +kernel
theorem dL_signBy_95 : decode cL_signBy 95 = .ok (.iload_n 0, 1) := by decide +kernel
theorem dL_signBy_96 : decode cL_signBy 96 = .ok (.iconst 4, 1) := by decide +kernel
theorem dL_signBy_97 : decode cL_signBy 97 = .ok (.ishr, 1) := by decide +kernel
theorem dL_signBy_98 : decode cL_signBy 98 = .ok (.iconst 2, 1) := by decide +kernel
theorem dL_signBy_99 : decode cL_signBy 99 = .ok (.invokestatic 229, 3) := by decide +kernel
theorem dL_signBy_102 : decode cL_signBy 102 = .ok (.ifCond .ne 17, 3) := by decide +kernel
theorem dL_signBy_105 : decode cL_signBy 105 = .ok (.bipush 10, 2) := by decide +kernel
theorem dL_signBy_107 : decode cL_signBy 107 = .ok (.iload_n 0, 1) := by decide +kernel
theorem dL_signBy_108 : decode cL_signBy 108 = .ok (.iconst 3, 1) := by decide +kernel
theorem dL_signBy_109 : decode cL_signBy 109 = .ok (.ishr, 1) := by decide +kernel
theorem dL_signBy_110 : decode cL_signBy 110 = .ok (.bipush 14, 2) := by decide +kernel
theorem dL_signBy_112 : decode cL_signBy 112 = .ok (.invokestatic 229, 3) := by decide +kernel
theorem dL_signBy_115 : decode cL_signBy 115 = .ok (.iadd, 1) := by decide +kernel
theorem dL_signBy_116 : decode cL_signBy 116 = .ok (.goto 14, 3) := by decide +kernel
theorem dL_signBy_119 : decode cL_signBy 119 = .ok (.bipush 30, 2) := by decide +kernel
theorem dL_signBy_121 : decode cL_signBy 121 = .ok (.iload_n 0, 1) := by decide +kernel
theorem dL_signBy_122 : decode cL_signBy 122 = .ok (.iconst 3, 1) := by decide +kernel
theorem dL_signBy_123 : decode cL_signBy 123 = .ok (.ishr, 1) := by decide +kernel
theorem dL_signBy_124 : decode cL_signBy 124 = .ok (.bipush 15, 2) := by decide +kernel
theorem dL_signBy_126 : decode cL_signBy 126 = .ok (.invokestatic 229, 3) := by decide +kernel
theorem dL_signBy_129 : decode cL_signBy 129 = .ok (.iadd, 1) := by decide +kernel
theorem dL_signBy_130 : decode cL_signBy 130 = .ok (.ireturn, 1) := by decide +kernel
theorem dL_ruled_0 : decode cL_ruled 0 = .ok (.aload 6, 2) := by decide +kernel
theorem dL_ruled_2 : decode cL_ruled 2 = .ok (.iconst 3, 1) := by decide +kernel
theorem dL_ruled_3 : decode cL_ruled 3 = .ok (.aload 6, 2) := by decide +kernel
theorem dL_ruled_5 : decode cL_ruled 5 = .ok (.iconst 0, 1) := by decide +kernel
theorem dL_ruled_6 : decode cL_ruled 6 = .ok (.iaload, 1) := by decide +kernel
theorem dL_ruled_7 : decode cL_ruled 7 = .ok (.iadd, 1) := by decide +kernel
theorem dL_ruled_8 : decode cL_ruled 8 = .ok (.iaload, 1) := by decide +kernel
theorem dL_ruled_9 : decode cL_ruled 9 = .ok (.istore 7, 2) := by decide +kernel
theorem dL_ruled_11 : decode cL_ruled 11 = .ok (.iload 7, 2) := by decide +kernel
theorem dL_ruled_13 : decode cL_ruled 13 = .ok (.ifCond .ne 37, 3) := by decide +kernel
theorem dL_ruled_16 : decode cL_ruled 16 = .ok (.aload_n 0, 1) := by decide +kernel
theorem dL_ruled_17 : decode cL_ruled 17 = .ok (.iconst 0, 1) := by decide +kernel
theorem dL_ruled_18 : decode cL_ruled 18 = .ok (.iconst 0, 1) := by decide +kernel
theorem dL_ruled_19 : decode cL_ruled 19 = .ok (.iconst 0, 1) := by decide +kernel
theorem dL_ruled_20 : decode cL_ruled 20 = .ok (.iconst 0, 1) := by decide +kernel
theorem dL_ruled_21 : decode cL_ruled 21 = .ok (.iconst 0, 1) := by decide +kernel
theorem dL_ruled_22 : decode cL_ruled 22 = .ok (.iconst 0, 1) := by decide +kernel
theorem dL_ruled_23 : decode cL_ruled 23 = .ok (.iconst 0, 1) := by decide +kernel
theorem dL_ruled_24 : decode cL_ruled 24 = .ok (.invokestatic 279, 3) := by decide +kernel
theorem dL_ruled_27 : decode cL_ruled 27 = .ok (.sipush (-7100), 3) := by decide +kernel
theorem dL_ruled_30 : decode cL_ruled 30 = .ok (.if_icmp .ne 18, 3) := by decide +kernel
theorem dL_ruled_33 : decode cL_ruled 33 = .ok (.aload_n 0, 1) := by decide +kernel
theorem dL_ruled_34 : decode cL_ruled 34 = .ok (.iconst 0, 1) := by decide +kernel
theorem dL_ruled_35 : decode cL_ruled 35 = .ok (.invokestatic 282, 3) := by decide +kernel
theorem dL_ruled_38 : decode cL_ruled 38 = .ok (.sipush (-7100), 3) := by decide +kernel
theorem dL_ruled_41 : decode cL_ruled 41 = .ok (.if_icmp .ne 7, 3) := by decide +kernel
theorem dL_ruled_44 : decode cL_ruled 44 = .ok (.iconst 1, 1) := by decide +kernel
theorem dL_ruled_45 : decode cL_ruled 45 = .ok (.goto 4, 3) := by decide +kernel
theorem dL_ruled_48 : decode cL_ruled 48 = .ok (.iconst 0, 1) := by decide +kernel
theorem dL_ruled_49 : decode cL_ruled 49 = .ok (.ireturn, 1) := by decide +kernel
theorem dL_ruled_50 : decode cL_ruled 50 = .ok (.iload_n 1, 1) := by decide +kernel
theorem dL_ruled_51 : decode cL_ruled 51 = .ok (.iload 7, 2) := by decide +kernel
theorem dL_ruled_53 : decode cL_ruled 53 = .ok (.invokestatic 229, 3) := by decide +kernel
theorem dL_ruled_56 : decode cL_ruled 56 = .ok (.istore 8, 2) := by decide +kernel
theorem dL_ruled_58 : decode cL_ruled 58 = .ok (.bipush 8, 2) := by decide +kernel
theorem dL_ruled_60 : decode cL_ruled 60 = .ok (.aload 6, 2) := by decide +kernel
theorem dL_ruled_62 : decode cL_ruled 62 = .ok (.iconst 0, 1) := by decide +kernel
theorem dL_ruled_63 : decode cL_ruled 63 = .ok (.iaload, 1) := by decide +kernel
theorem dL_ruled_64 : decode cL_ruled 64 = .ok (.imul, 1) := by decide +kernel
theorem dL_ruled_65 : decode cL_ruled 65 = .ok (.iload 8, 2) := by decide +kernel
theorem dL_ruled_67 : decode cL_ruled 67 = .ok (.iadd, 1) := by decide +kernel
theorem dL_ruled_68 : decode cL_ruled 68 = .ok (.istore 9, 2) := by decide +kernel
theorem dL_ruled_70 : decode cL_ruled 70 = .ok (.aload_n 3, 1) := by decide +kernel
theorem dL_ruled_71 : decode cL_ruled 71 = .ok (.iload 9, 2) := by decide +kernel
theorem dL_ruled_73 : decode cL_ruled 73 = .ok (.iaload, 1) := by decide +kernel
theorem dL_ruled_74 : decode cL_ruled 74 = .ok (.bipush 15, 2) := by decide +kernel
theorem dL_ruled_76 : decode cL_ruled 76 = .ok (.iand, 1) := by decide +kernel
theorem dL_ruled_77 : decode cL_ruled 77 = .ok (.istore 10, 2) := by decide +kernel
theorem dL_ruled_79 : decode cL_ruled 79 = .ok (.iload_n 1, 1) := by decide +kernel
theorem dL_ruled_80 : decode cL_ruled 80 = .ok (.iconst 4, 1) := by decide +kernel
theorem dL_ruled_81 : decode cL_ruled 81 = .ok (.ishr, 1) := by decide +kernel
theorem dL_ruled_82 : decode cL_ruled 82 = .ok (.iload 10, 2) := by decide +kernel
theorem dL_ruled_84 : decode cL_ruled 84 = .ok (.iconst 4, 1) := by decide +kernel
theorem dL_ruled_85 : decode cL_ruled 85 = .ok (.if_icmp .eq 9, 3) := by decide +kernel
theorem dL_ruled_88 : decode cL_ruled 88 = .ok (.iload 10, 2) := by decide +kernel
theorem dL_ruled_90 : decode cL_ruled 90 = .ok (.iconst 5, 1) := by decide +kernel
theorem dL_ruled_91 : decode cL_ruled 91 = .ok (.if_icmp .ne 7, 3) := by decide +kernel
theorem dL_ruled_94 : decode cL_ruled 94 = .ok (.iconst 1, 1) := by decide +kernel
theorem dL_ruled_95 : decode cL_ruled 95 = .ok (.goto 4, 3) := by decide +kernel
theorem dL_ruled_98 : decode cL_ruled 98 = .ok (.iconst 0, 1) := by decide +kernel
theorem dL_ruled_99 : decode cL_ruled 99 = .ok (.invokestatic 284, 3) := by decide +kernel
theorem dL_ruled_102 : decode cL_ruled 102 = .ok (.istore 11, 2) := by decide +kernel
theorem dL_ruled_104 : decode cL_ruled 104 = .ok (.iload 10, 2) := by decide +kernel
theorem dL_ruled_106 : decode cL_ruled 106 = .ok (.iconst 3, 1) := by decide +kernel
theorem dL_ruled_107 : decode cL_ruled 107 = .ok (.if_icmp .ge 10, 3) := by decide +kernel
theorem dL_ruled_110 : decode cL_ruled 110 = .ok (.iload_n 2, 1) := by decide +kernel
theorem dL_ruled_111 : decode cL_ruled 111 = .ok (.invokestatic 288, 3) := by decide +kernel
theorem dL_ruled_114 : decode cL_ruled 114 = .ok (.goto 84, 3) := by decide +kernel
theorem dL_ruled_117 : decode cL_ruled 117 = .ok (.iload 10, 2) := by decide +kernel
theorem dL_ruled_119 : decode cL_ruled 119 = .ok (.bipush 7, 2) := by decide +kernel
theorem dL_ruled_121 : decode cL_ruled 121 = .ok (.if_icmp .ge 11, 3) := by decide +kernel
theorem dL_ruled_124 : decode cL_ruled 124 = .ok (.iload_n 2, 1) := by decide +kernel
theorem dL_ruled_125 : decode cL_ruled 125 = .ok (.iconst 0, 1) := by decide +kernel
theorem dL_ruled_126 : decode cL_ruled 126 = .ok (.invokestatic 284, 3) := by decide +kernel
theorem dL_ruled_129 : decode cL_ruled 129 = .ok (.goto 69, 3) := by decide +kernel
theorem dL_ruled_132 : decode cL_ruled 132 = .ok (.iload 10, 2) := by decide +kernel
theorem dL_ruled_134 : decode cL_ruled 134 = .ok (.bipush 7, 2) := by decide +kernel
theorem dL_ruled_136 : decode cL_ruled 136 = .ok (.if_icmp .ne 28, 3) := by decide +kernel
theorem dL_ruled_139 : decode cL_ruled 139 = .ok (.iload_n 2, 1) := by decide +kernel
theorem dL_ruled_140 : decode cL_ruled 140 = .ok (.bipush 6, 2) := by decide +kernel
theorem dL_ruled_142 : decode cL_ruled 142 = .ok (.iand, 1) := by decide +kernel
theorem dL_ruled_143 : decode cL_ruled 143 = .ok (.ifCond .ne 8, 3) := by decide +kernel
theorem dL_ruled_146 : decode cL_ruled 146 = .ok (.bipush (-100), 2) := by decide +kernel
theorem dL_ruled_148 : decode cL_ruled 148 = .ok (.goto 50, 3) := by decide +kernel
theorem dL_ruled_151 : decode cL_ruled 151 = .ok (.iload_n 2, 1) := by decide +kernel
theorem dL_ruled_152 : decode cL_ruled 152 = .ok (.iconst 3, 1) := by decide +kernel
theorem dL_ruled_153 : decode cL_ruled 153 = .ok (.ishr, 1) := by decide +kernel
theorem dL_ruled_154 : decode cL_ruled 154 = .ok (.bipush 9, 2) := by decide +kernel
theorem dL_ruled_156 : decode cL_ruled 156 = .ok (.invokestatic 229, 3) := by decide +kernel
theorem dL_ruled_159 : decode cL_ruled 159 = .ok (.iconst 4, 1) := by decide +kernel
theorem dL_ruled_160 : decode cL_ruled 160 = .ok (.isub, 1) := by decide +kernel
theorem dL_ruled_161 : decode cL_ruled 161 = .ok (.goto 37, 3) := by decide +kernel
theorem dL_ruled_164 : decode cL_ruled 164 = .ok (.iload 10, 2) := by decide +kernel
theorem dL_ruled_166 : decode cL_ruled 166 = .ok (.bipush 8, 2) := by decide +kernel
theorem dL_ruled_168 : decode cL_ruled 168 = .ok (.if_icmp .ne 25, 3) := by decide +kernel
theorem dL_ruled_171 : decode cL_ruled 171 = .ok (.iload_n 2, 1) := by decide +kernel
theorem dL_ruled_172 : decode cL_ruled 172 = .ok (.bipush 6, 2) := by decide +kernel
theorem dL_ruled_174 : decode cL_ruled 174 = .ok (.iand, 1) := by decide +kernel
theorem dL_ruled_175 : decode cL_ruled 175 = .ok (.ifCond .ne 13, 3) := by decide +kernel
theorem dL_ruled_178 : decode cL_ruled 178 = .ok (.iload_n 2, 1) := by decide +kernel
theorem dL_ruled_179 : decode cL_ruled 179 = .ok (.iconst 3, 1) := by decide +kernel
theorem dL_ruled_180 : decode cL_ruled 180 = .ok (.ishr, 1) := by decide +kernel
theorem dL_ruled_181 : decode cL_ruled 181 = .ok (.iconst 3, 1) := by decide +kernel
theorem dL_ruled_182 : decode cL_ruled 182 = .ok (.invokestatic 229, 3) := by decide +kernel
theorem dL_ruled_185 : decode cL_ruled 185 = .ok (.goto 13, 3) := by decide +kernel
theorem dL_ruled_188 : decode cL_ruled 188 = .ok (.bipush (-100), 2) := by decide +kernel
theorem dL_ruled_190 : decode cL_ruled 190 = .ok (.goto 8, 3) := by decide +kernel
theorem dL_ruled_193 : decode cL_ruled 193 = .ok (.iload_n 2, 1) := by decide +kernel
theorem dL_ruled_194 : decode cL_ruled 194 = .ok (.iconst 2, 1) := by decide +kernel
theorem dL_ruled_195 : decode cL_ruled 195 = .ok (.invokestatic 229, 3) := by decide +kernel
theorem dL_ruled_198 : decode cL_ruled 198 = .ok (.istore 12, 2) := by decide +kernel
theorem dL_ruled_200 : decode cL_ruled 200 = .ok (.iload 10, 2) := by decide +kernel
theorem dL_ruled_202 : decode cL_ruled 202 = .ok (.ifCond .ne 7, 3) := by decide +kernel
theorem dL_ruled_205 : decode cL_ruled 205 = .ok (.iconst 0, 1) := by decide +kernel
theorem dL_ruled_206 : decode cL_ruled 206 = .ok (.goto 87, 3) := by decide +kernel
theorem dL_ruled_209 : decode cL_ruled 209 = .ok (.iload 10, 2) := by decide +kernel
theorem dL_ruled_211 : decode cL_ruled 211 = .ok (.iconst 3, 1) := by decide +kernel
theorem dL_ruled_212 : decode cL_ruled 212 = .ok (.if_icmp .ge 13, 3) := by decide +kernel
theorem dL_ruled_215 : decode cL_ruled 215 = .ok (.iload_n 2, 1) := by decide +kernel
theorem dL_ruled_216 : decode cL_ruled 216 = .ok (.bipush 9, 2) := by decide +kernel
theorem dL_ruled_218 : decode cL_ruled 218 = .ok (.ishr, 1) := by decide +kernel
theorem dL_ruled_219 : decode cL_ruled 219 = .ok (.invokestatic 288, 3) := by decide +kernel
theorem dL_ruled_222 : decode cL_ruled 222 = .ok (.goto 71, 3) := by decide +kernel
theorem dL_ruled_225 : decode cL_ruled 225 = .ok (.iload 10, 2) := by decide +kernel
theorem dL_ruled_227 : decode cL_ruled 227 = .ok (.bipush 6, 2) := by decide +kernel
theorem dL_ruled_229 : decode cL_ruled 229 = .ok (.if_icmp .ge 14, 3) := by decide +kernel
theorem dL_ruled_232 : decode cL_ruled 232 = .ok (.iload_n 2, 1) := by decide +kernel
theorem dL_ruled_233 : decode cL_ruled 233 = .ok (.bipush 9, 2) := by decide +kernel
theorem dL_ruled_235 : decode cL_ruled 235 = .ok (.ishr, 1) := by decide +kernel
theorem dL_ruled_236 : decode cL_ruled 236 = .ok (.iconst 1, 1) := by decide +kernel
theorem dL_ruled_237 : decode cL_ruled 237 = .ok (.invokestatic 284, 3) := by decide +kernel
theorem dL_ruled_240 : decode cL_ruled 240 = .ok (.goto 53, 3) := by decide +kernel
theorem dL_ruled_243 : decode cL_ruled 243 = .ok (.iload 10, 2) := by decide +kernel
theorem dL_ruled_245 : decode cL_ruled 245 = .ok (.bipush 7, 2) := by decide +kernel
theorem dL_ruled_247 : decode cL_ruled 247 = .ok (.if_icmp .ne 16, 3) := by decide +kernel
theorem dL_ruled_250 : decode cL_ruled 250 = .ok (.iload_n 2, 1) := by decide +kernel
theorem dL_ruled_251 : decode cL_ruled 251 = .ok (.sipush 1536, 3) := by decide +kernel
theorem dL_ruled_254 : decode cL_ruled 254 = .ok (.iand, 1) := by decide +kernel
theorem dL_ruled_255 : decode cL_ruled 255 = .ok (.ifCond .ne 8, 3) := by decide +kernel
theorem dL_ruled_258 : decode cL_ruled 258 = .ok (.bipush (-100), 2) := by decide +kernel
theorem dL_ruled_260 : decode cL_ruled 260 = .ok (.goto 33, 3) := by decide +kernel
theorem dL_ruled_263 : decode cL_ruled 263 = .ok (.iload 10, 2) := by decide +kernel
theorem dL_ruled_265 : decode cL_ruled 265 = .ok (.bipush 8, 2) := by decide +kernel
theorem dL_ruled_267 : decode cL_ruled 267 = .ok (.if_icmp .ne 14, 3) := by decide +kernel
theorem dL_ruled_270 : decode cL_ruled 270 = .ok (.iload_n 2, 1) := by decide +kernel
theorem dL_ruled_271 : decode cL_ruled 271 = .ok (.bipush 9, 2) := by decide +kernel
theorem dL_ruled_273 : decode cL_ruled 273 = .ok (.ishr, 1) := by decide +kernel
theorem dL_ruled_274 : decode cL_ruled 274 = .ok (.iconst 2, 1) := by decide +kernel
theorem dL_ruled_275 : decode cL_ruled 275 = .ok (.invokestatic 229, 3) := by decide +kernel
theorem dL_ruled_278 : decode cL_ruled 278 = .ok (.goto 15, 3) := by decide +kernel
theorem dL_ruled_281 : decode cL_ruled 281 = .ok (.iload_n 2, 1) := by decide +kernel
theorem dL_ruled_282 : decode cL_ruled 282 = .ok (.bipush 9, 2) := by decide +kernel
theorem dL_ruled_284 : decode cL_ruled 284 = .ok (.ishr, 1) := by decide +kernel
theorem dL_ruled_285 : decode cL_ruled 285 = .ok (.bipush 21, 2) := by decide +kernel
theorem dL_ruled_287 : decode cL_ruled 287 = .ok (.invokestatic 229, 3) := by decide +kernel
theorem dL_ruled_290 : decode cL_ruled 290 = .ok (.bipush 10, 2) := by decide +kernel
theorem dL_ruled_292 : decode cL_ruled 292 = .ok (.isub, 1) := by decide +kernel
theorem dL_ruled_293 : decode cL_ruled 293 = .ok (.istore 13, 2) := by decide +kernel
theorem dL_ruled_295 : decode cL_ruled 295 = .ok (.iload 10, 2) := by decide +kernel
theorem dL_ruled_297 : decode cL_ruled 297 = .ok (.iconst 1, 1) := by decide +kernel
theorem dL_ruled_298 : decode cL_ruled 298 = .ok (.if_icmp .ne 26, 3) := by decide +kernel
theorem dL_ruled_301 : decode cL_ruled 301 = .ok (.iload_n 2, 1) := by decide +kernel
theorem dL_ruled_302 : decode cL_ruled 302 = .ok (.ldc_w 291, 3) := by decide +kernel
theorem dL_ruled_305 : decode cL_ruled 305 = .ok (.iand, 1) := by decide +kernel
theorem dL_ruled_306 : decode cL_ruled 306 = .ok (.ifCond .ne 13, 3) := by decide +kernel
theorem dL_ruled_309 : decode cL_ruled 309 = .ok (.iload_n 2, 1) := by decide +kernel
theorem dL_ruled_310 : decode cL_ruled 310 = .ok (.bipush 18, 2) := by decide +kernel
theorem dL_ruled_312 : decode cL_ruled 312 = .ok (.ishr, 1) := by decide +kernel
theorem dL_ruled_313 : decode cL_ruled 313 = .ok (.invokestatic 288, 3) := by decide +kernel
theorem dL_ruled_316 : decode cL_ruled 316 = .ok (.goto 75, 3) := by decide +kernel
theorem dL_ruled_319 : decode cL_ruled 319 = .ok (.bipush (-100), 2) := by decide +kernel
theorem dL_ruled_321 : decode cL_ruled 321 = .ok (.goto 70, 3) := by decide +kernel
theorem dL_ruled_324 : decode cL_ruled 324 = .ok (.iload 10, 2) := by decide +kernel
theorem dL_ruled_326 : decode cL_ruled 326 = .ok (.iconst 2, 1) := by decide +kernel
theorem dL_ruled_327 : decode cL_ruled 327 = .ok (.if_icmp .eq 15, 3) := by decide +kernel
theorem dL_ruled_330 : decode cL_ruled 330 = .ok (.iload 10, 2) := by decide +kernel
theorem dL_ruled_332 : decode cL_ruled 332 = .ok (.iconst 3, 1) := by decide +kernel
theorem dL_ruled_333 : decode cL_ruled 333 = .ok (.if_icmp .eq 9, 3) := by decide +kernel
theorem dL_ruled_336 : decode cL_ruled 336 = .ok (.iload 10, 2) := by decide +kernel
theorem dL_ruled_338 : decode cL_ruled 338 = .ok (.iconst 5, 1) := by decide +kernel
theorem dL_ruled_339 : decode cL_ruled 339 = .ok (.if_icmp .ne 13, 3) := by decide +kernel
theorem dL_ruled_342 : decode cL_ruled 342 = .ok (.iload_n 2, 1) := by decide +kernel
theorem dL_ruled_343 : decode cL_ruled 343 = .ok (.bipush 17, 2) := by decide +kernel
theorem dL_ruled_345 : decode cL_ruled 345 = .ok (.ishr, 1) := by decide +kernel
theorem dL_ruled_346 : decode cL_ruled 346 = .ok (.invokestatic 288, 3) := by decide +kernel
theorem dL_ruled_349 : decode cL_ruled 349 = .ok (.goto 42, 3) := by decide +kernel
theorem dL_ruled_352 : decode cL_ruled 352 = .ok (.iload 10, 2) := by decide +kernel
theorem dL_ruled_354 : decode cL_ruled 354 = .ok (.iconst 4, 1) := by decide +kernel
theorem dL_ruled_355 : decode cL_ruled 355 = .ok (.if_icmp .ne 14, 3) := by decide +kernel
theorem dL_ruled_358 : decode cL_ruled 358 = .ok (.iload_n 2, 1) := by decide +kernel
theorem dL_ruled_359 : decode cL_ruled 359 = .ok (.bipush 17, 2) := by decide +kernel
theorem dL_ruled_361 : decode cL_ruled 361 = .ok (.ishr, 1) := by decide +kernel
theorem dL_ruled_362 : decode cL_ruled 362 = .ok (.iconst 1, 1) := by decide +kernel
theorem dL_ruled_363 : decode cL_ruled 363 = .ok (.invokestatic 284, 3) := by decide +kernel
theorem dL_ruled_366 : decode cL_ruled 366 = .ok (.goto 25, 3) := by decide +kernel
theorem dL_ruled_369 : decode cL_ruled 369 = .ok (.iload 10, 2) := by decide +kernel
theorem dL_ruled_371 : decode cL_ruled 371 = .ok (.bipush 7, 2) := by decide +kernel
theorem dL_ruled_373 : decode cL_ruled 373 = .ok (.if_icmp .le 17, 3) := by decide +kernel
theorem dL_ruled_376 : decode cL_ruled 376 = .ok (.iload_n 2, 1) := by decide +kernel
theorem dL_ruled_377 : decode cL_ruled 377 = .ok (.bipush 17, 2) := by decide +kernel
theorem dL_ruled_379 : decode cL_ruled 379 = .ok (.ishr, 1) := by decide +kernel
theorem dL_ruled_380 : decode cL_ruled 380 = .ok (.bipush 9, 2) := by decide +kernel
theorem dL_ruled_382 : decode cL_ruled 382 = .ok (.invokestatic 229, 3) := by decide +kernel
theorem dL_ruled_385 : decode cL_ruled 385 = .ok (.iconst 4, 1) := by decide +kernel
theorem dL_ruled_386 : decode cL_ruled 386 = .ok (.isub, 1) := by decide +kernel
theorem dL_ruled_387 : decode cL_ruled 387 = .ok (.goto 4, 3) := by decide +kernel
theorem dL_ruled_390 : decode cL_ruled 390 = .ok (.iconst 0, 1) := by decide +kernel
theorem dL_ruled_391 : decode cL_ruled 391 = .ok (.istore 14, 2) := by decide +kernel
theorem dL_ruled_393 : decode cL_ruled 393 = .ok (.iload 10, 2) := by decide +kernel
theorem dL_ruled_395 : decode cL_ruled 395 = .ok (.iconst 4, 1) := by decide +kernel
theorem dL_ruled_396 : decode cL_ruled 396 = .ok (.if_icmp .ne 21, 3) := by decide +kernel
theorem dL_ruled_399 : decode cL_ruled 399 = .ok (.iload 13, 2) := by decide +kernel
theorem dL_ruled_401 : decode cL_ruled 401 = .ok (.bipush (-100), 2) := by decide +kernel
theorem dL_ruled_403 : decode cL_ruled 403 = .ok (.if_icmp .eq 14, 3) := by decide +kernel
theorem dL_ruled_406 : decode cL_ruled 406 = .ok (.iload_n 1, 1) := by decide +kernel
theorem dL_ruled_407 : decode cL_ruled 407 = .ok (.bipush 16, 2) := by decide +kernel
theorem dL_ruled_409 : decode cL_ruled 409 = .ok (.ishr, 1) := by decide +kernel
theorem dL_ruled_410 : decode cL_ruled 410 = .ok (.iconst 2, 1) := by decide +kernel
theorem dL_ruled_411 : decode cL_ruled 411 = .ok (.invokestatic 229, 3) := by decide +kernel
theorem dL_ruled_414 : decode cL_ruled 414 = .ok (.goto 25, 3) := by decide +kernel
theorem dL_ruled_417 : decode cL_ruled 417 = .ok (.iload 10, 2) := by decide +kernel
theorem dL_ruled_419 : decode cL_ruled 419 = .ok (.bipush 8, 2) := by decide +kernel
theorem dL_ruled_421 : decode cL_ruled 421 = .ok (.if_icmp .ne 17, 3) := by decide +kernel
theorem dL_ruled_424 : decode cL_ruled 424 = .ok (.iload_n 1, 1) := by decide +kernel
theorem dL_ruled_425 : decode cL_ruled 425 = .ok (.bipush 16, 2) := by decide +kernel
theorem dL_ruled_427 : decode cL_ruled 427 = .ok (.ishr, 1) := by decide +kernel
theorem dL_ruled_428 : decode cL_ruled 428 = .ok (.bipush 9, 2) := by decide +kernel
theorem dL_ruled_430 : decode cL_ruled 430 = .ok (.invokestatic 229, 3) := by decide +kernel
theorem dL_ruled_433 : decode cL_ruled 433 = .ok (.iconst 4, 1) := by decide +kernel
theorem dL_ruled_434 : decode cL_ruled 434 = .ok (.isub, 1) := by decide +kernel
theorem dL_ruled_435 : decode cL_ruled 435 = .ok (.goto 4, 3) := by decide +kernel
theorem dL_ruled_438 : decode cL_ruled 438 = .ok (.iconst 0, 1) := by decide +kernel
theorem dL_ruled_439 : decode cL_ruled 439 = .ok (.istore 15, 2) := by decide +kernel
theorem dL_ruled_441 : decode cL_ruled 441 = .ok (.iload 10, 2) := by decide +kernel
theorem dL_ruled_443 : decode cL_ruled 443 = .ok (.iconst 4, 1) := by decide +kernel
theorem dL_ruled_444 : decode cL_ruled 444 = .ok (.if_icmp .ne 15, 3) := by decide +kernel
theorem dL_ruled_447 : decode cL_ruled 447 = .ok (.iload_n 1, 1) := by decide +kernel
theorem dL_ruled_448 : decode cL_ruled 448 = .ok (.bipush 20, 2) := by decide +kernel
theorem dL_ruled_450 : decode cL_ruled 450 = .ok (.ishr, 1) := by decide +kernel
theorem dL_ruled_451 : decode cL_ruled 451 = .ok (.bipush 6, 2) := by decide +kernel
theorem dL_ruled_453 : decode cL_ruled 453 = .ok (.invokestatic 229, 3) := by decide +kernel
theorem dL_ruled_456 : decode cL_ruled 456 = .ok (.goto 4, 3) := by decide +kernel
theorem dL_ruled_459 : decode cL_ruled 459 = .ok (.iconst 0, 1) := by decide +kernel
theorem dL_ruled_460 : decode cL_ruled 460 = .ok (.istore 16, 2) := by decide +kernel
theorem dL_ruled_462 : decode cL_ruled 462 = .ok (.aload_n 0, 1) := by decide +kernel
theorem dL_ruled_463 : decode cL_ruled 463 = .ok (.iload 7, 2) := by decide +kernel
theorem dL_ruled_465 : decode cL_ruled 465 = .ok (.iconst 0, 1) := by decide +kernel
theorem dL_ruled_466 : decode cL_ruled 466 = .ok (.iconst 0, 1) := by decide +kernel
theorem dL_ruled_467 : decode cL_ruled 467 = .ok (.iconst 0, 1) := by decide +kernel
theorem dL_ruled_468 : decode cL_ruled 468 = .ok (.iconst 0, 1) := by decide +kernel
theorem dL_ruled_469 : decode cL_ruled 469 = .ok (.iconst 0, 1) := by decide +kernel
theorem dL_ruled_470 : decode cL_ruled 470 = .ok (.iconst 0, 1) := by decide +kernel
theorem dL_ruled_471 : decode cL_ruled 471 = .ok (.invokestatic 279, 3) := by decide +kernel
theorem dL_ruled_474 : decode cL_ruled 474 = .ok (.sipush (-7100), 3) := by decide +kernel
theorem dL_ruled_477 : decode cL_ruled 477 = .ok (.if_icmp .ne 121, 3) := by decide +kernel
theorem dL_ruled_480 : decode cL_ruled 480 = .ok (.aload_n 0, 1) := by decide +kernel
theorem dL_ruled_481 : decode cL_ruled 481 = .ok (.iload 8, 2) := by decide +kernel
theorem dL_ruled_483 : decode cL_ruled 483 = .ok (.sipush 256, 3) := by decide +kernel
theorem dL_ruled_486 : decode cL_ruled 486 = .ok (.iconst 0, 1) := by decide +kernel
theorem dL_ruled_487 : decode cL_ruled 487 = .ok (.iconst 0, 1) := by decide +kernel
theorem dL_ruled_488 : decode cL_ruled 488 = .ok (.iconst 0, 1) := by decide +kernel
theorem dL_ruled_489 : decode cL_ruled 489 = .ok (.iconst 0, 1) := by decide +kernel
theorem dL_ruled_490 : decode cL_ruled 490 = .ok (.iconst 0, 1) := by decide +kernel
theorem dL_ruled_491 : decode cL_ruled 491 = .ok (.invokestatic 279, 3) := by decide +kernel
theorem dL_ruled_494 : decode cL_ruled 494 = .ok (.sipush (-7200), 3) := by decide +kernel
theorem dL_ruled_497 : decode cL_ruled 497 = .ok (.if_icmp .ne 101, 3) := by decide +kernel
theorem dL_ruled_500 : decode cL_ruled 500 = .ok (.aload_n 0, 1) := by decide +kernel
theorem dL_ruled_501 : decode cL_ruled 501 = .ok (.iload 8, 2) := by decide +kernel
theorem dL_ruled_503 : decode cL_ruled 503 = .ok (.sipush 306, 3) := by decide +kernel
theorem dL_ruled_506 : decode cL_ruled 506 = .ok (.iload 12, 2) := by decide +kernel
theorem dL_ruled_508 : decode cL_ruled 508 = .ok (.iload 13, 2) := by decide +kernel
theorem dL_ruled_510 : decode cL_ruled 510 = .ok (.iload 14, 2) := by decide +kernel
theorem dL_ruled_512 : decode cL_ruled 512 = .ok (.iload 15, 2) := by decide +kernel
theorem dL_ruled_514 : decode cL_ruled 514 = .ok (.iload 16, 2) := by decide +kernel
theorem dL_ruled_516 : decode cL_ruled 516 = .ok (.invokestatic 279, 3) := by decide +kernel
theorem dL_ruled_519 : decode cL_ruled 519 = .ok (.sipush (-7200), 3) := by decide +kernel
theorem dL_ruled_522 : decode cL_ruled 522 = .ok (.if_icmp .ne 76, 3) := by decide +kernel
theorem dL_ruled_525 : decode cL_ruled 525 = .ok (.aload_n 0, 1) := by decide +kernel
theorem dL_ruled_526 : decode cL_ruled 526 = .ok (.iload 8, 2) := by decide +kernel
theorem dL_ruled_528 : decode cL_ruled 528 = .ok (.iload 11, 2) := by decide +kernel
theorem dL_ruled_530 : decode cL_ruled 530 = .ok (.iload 12, 2) := by decide +kernel
theorem dL_ruled_532 : decode cL_ruled 532 = .ok (.iload 13, 2) := by decide +kernel
theorem dL_ruled_534 : decode cL_ruled 534 = .ok (.iload 14, 2) := by decide +kernel
theorem dL_ruled_536 : decode cL_ruled 536 = .ok (.iload 15, 2) := by decide +kernel
theorem dL_ruled_538 : decode cL_ruled 538 = .ok (.bipush 12, 2) := by decide +kernel
theorem dL_ruled_540 : decode cL_ruled 540 = .ok (.invokestatic 279, 3) := by decide +kernel
theorem dL_ruled_543 : decode cL_ruled 543 = .ok (.sipush (-7200), 3) := by decide +kernel
theorem dL_ruled_546 : decode cL_ruled 546 = .ok (.if_icmp .ne 52, 3) := by decide +kernel
theorem dL_ruled_549 : decode cL_ruled 549 = .ok (.aload_n 0, 1) := by decide +kernel
theorem dL_ruled_550 : decode cL_ruled 550 = .ok (.iload 8, 2) := by decide +kernel
theorem dL_ruled_552 : decode cL_ruled 552 = .ok (.iload 11, 2) := by decide +kernel
theorem dL_ruled_554 : decode cL_ruled 554 = .ok (.sipush 999, 3) := by decide +kernel
theorem dL_ruled_557 : decode cL_ruled 557 = .ok (.iload 13, 2) := by decide +kernel
theorem dL_ruled_559 : decode cL_ruled 559 = .ok (.iload 14, 2) := by decide +kernel
theorem dL_ruled_561 : decode cL_ruled 561 = .ok (.iload 15, 2) := by decide +kernel
theorem dL_ruled_563 : decode cL_ruled 563 = .ok (.iload 16, 2) := by decide +kernel
theorem dL_ruled_565 : decode cL_ruled 565 = .ok (.invokestatic 279, 3) := by decide +kernel
theorem dL_ruled_568 : decode cL_ruled 568 = .ok (.sipush (-7200), 3) := by decide +kernel
theorem dL_ruled_571 : decode cL_ruled 571 = .ok (.if_icmp .ne 27, 3) := by decide +kernel
theorem dL_ruled_574 : decode cL_ruled 574 = .ok (.aload_n 0, 1) := by decide +kernel
theorem dL_ruled_575 : decode cL_ruled 575 = .ok (.iload 8, 2) := by decide +kernel
theorem dL_ruled_577 : decode cL_ruled 577 = .ok (.iload 11, 2) := by decide +kernel
theorem dL_ruled_579 : decode cL_ruled 579 = .ok (.iload 12, 2) := by decide +kernel
theorem dL_ruled_581 : decode cL_ruled 581 = .ok (.iload 13, 2) := by decide +kernel
theorem dL_ruled_583 : decode cL_ruled 583 = .ok (.iload 14, 2) := by decide +kernel
theorem dL_ruled_585 : decode cL_ruled 585 = .ok (.bipush 51, 2) := by decide +kernel
theorem dL_ruled_587 : decode cL_ruled 587 = .ok (.iload 16, 2) := by decide +kernel
theorem dL_ruled_589 : decode cL_ruled 589 = .ok (.invokestatic 279, 3) := by decide +kernel
theorem dL_ruled_592 : decode cL_ruled 592 = .ok (.sipush (-7200), 3) := by decide +kernel
theorem dL_ruled_595 : decode cL_ruled 595 = .ok (.if_icmp .eq 5, 3) := by decide +kernel
theorem dL_ruled_598 : decode cL_ruled 598 = .ok (.iconst 0, 1) := by decide +kernel
theorem dL_ruled_599 : decode cL_ruled 599 = .ok (.ireturn, 1) := by decide +kernel
theorem dL_ruled_600 : decode cL_ruled 600 = .ok (.aload_n 3, 1) := by decide +kernel
theorem dL_ruled_601 : decode cL_ruled 601 = .ok (.iload 9, 2) := by decide +kernel
theorem dL_ruled_603 : decode cL_ruled 603 = .ok (.iaload, 1) := by decide +kernel
theorem dL_ruled_604 : decode cL_ruled 604 = .ok (.bipush 13, 2) := by decide +kernel
theorem dL_ruled_606 : decode cL_ruled 606 = .ok (.ishr, 1) := by decide +kernel
theorem dL_ruled_607 : decode cL_ruled 607 = .ok (.istore 17, 2) := by decide +kernel
theorem dL_ruled_609 : decode cL_ruled 609 = .ok (.iload 17, 2) := by decide +kernel
theorem dL_ruled_611 : decode cL_ruled 611 = .ok (.iconst 4, 1) := by decide +kernel
theorem dL_ruled_612 : decode cL_ruled 612 = .ok (.if_icmp .ne 24, 3) := by decide +kernel
theorem dL_ruled_615 : decode cL_ruled 615 = .ok (.aload_n 0, 1) := by decide +kernel
theorem dL_ruled_616 : decode cL_ruled 616 = .ok (.aload 6, 2) := by decide +kernel
theorem dL_ruled_618 : decode cL_ruled 618 = .ok (.iconst 0, 1) := by decide +kernel
theorem dL_ruled_619 : decode cL_ruled 619 = .ok (.iaload, 1) := by decide +kernel
theorem dL_ruled_620 : decode cL_ruled 620 = .ok (.invokevirtual 8, 3) := by decide +kernel
theorem dL_ruled_623 : decode cL_ruled 623 = .ok (.aload 6, 2) := by decide +kernel
theorem dL_ruled_625 : decode cL_ruled 625 = .ok (.iconst 0, 1) := by decide +kernel
theorem dL_ruled_626 : decode cL_ruled 626 = .ok (.iaload, 1) := by decide +kernel
theorem dL_ruled_627 : decode cL_ruled 627 = .ok (.if_icmp .ne 7, 3) := by decide +kernel
theorem dL_ruled_630 : decode cL_ruled 630 = .ok (.iconst 1, 1) := by decide +kernel
theorem dL_ruled_631 : decode cL_ruled 631 = .ok (.goto 4, 3) := by decide +kernel
theorem dL_ruled_634 : decode cL_ruled 634 = .ok (.iconst 0, 1) := by decide +kernel
theorem dL_ruled_635 : decode cL_ruled 635 = .ok (.ireturn, 1) := by decide +kernel
theorem dL_ruled_636 : decode cL_ruled 636 = .ok (.lconst 0, 1) := by decide +kernel
theorem dL_ruled_637 : decode cL_ruled 637 = .ok (.lstore 18, 2) := by decide +kernel
theorem dL_ruled_639 : decode cL_ruled 639 = .ok (.lload 18, 2) := by decide +kernel
theorem dL_ruled_641 : decode cL_ruled 641 = .ok (.iload 11, 2) := by decide +kernel
theorem dL_ruled_643 : decode cL_ruled 643 = .ok (.i2l, 1) := by decide +kernel
theorem dL_ruled_644 : decode cL_ruled 644 = .ok (.ldc2_w 292, 3) := by decide +kernel
theorem dL_ruled_647 : decode cL_ruled 647 = .ok (.ladd, 1) := by decide +kernel
theorem dL_ruled_648 : decode cL_ruled 648 = .ok (.iload 12, 2) := by decide +kernel
theorem dL_ruled_650 : decode cL_ruled 650 = .ok (.i2l, 1) := by decide +kernel
theorem dL_ruled_651 : decode cL_ruled 651 = .ok (.ldc2_w 292, 3) := by decide +kernel
theorem dL_ruled_654 : decode cL_ruled 654 = .ok (.ladd, 1) := by decide +kernel
theorem dL_ruled_655 : decode cL_ruled 655 = .ok (.bipush 10, 2) := by decide +kernel
theorem dL_ruled_657 : decode cL_ruled 657 = .ok (.lshl, 1) := by decide +kernel
theorem dL_ruled_658 : decode cL_ruled 658 = .ok (.lor, 1) := by decide +kernel
theorem dL_ruled_659 : decode cL_ruled 659 = .ok (.iload 13, 2) := by decide +kernel
theorem dL_ruled_661 : decode cL_ruled 661 = .ok (.i2l, 1) := by decide +kernel
theorem dL_ruled_662 : decode cL_ruled 662 = .ok (.ldc2_w 292, 3) := by decide +kernel
theorem dL_ruled_665 : decode cL_ruled 665 = .ok (.ladd, 1) := by decide +kernel
theorem dL_ruled_666 : decode cL_ruled 666 = .ok (.bipush 20, 2) := by decide +kernel
theorem dL_ruled_668 : decode cL_ruled 668 = .ok (.lshl, 1) := by decide +kernel
theorem dL_ruled_669 : decode cL_ruled 669 = .ok (.lor, 1) := by decide +kernel
theorem dL_ruled_670 : decode cL_ruled 670 = .ok (.iload 14, 2) := by decide +kernel
theorem dL_ruled_672 : decode cL_ruled 672 = .ok (.i2l, 1) := by decide +kernel
theorem dL_ruled_673 : decode cL_ruled 673 = .ok (.ldc2_w 292, 3) := by decide +kernel
theorem dL_ruled_676 : decode cL_ruled 676 = .ok (.ladd, 1) := by decide +kernel
theorem dL_ruled_677 : decode cL_ruled 677 = .ok (.bipush 30, 2) := by decide +kernel
theorem dL_ruled_679 : decode cL_ruled 679 = .ok (.lshl, 1) := by decide +kernel
theorem dL_ruled_680 : decode cL_ruled 680 = .ok (.lor, 1) := by decide +kernel
theorem dL_ruled_681 : decode cL_ruled 681 = .ok (.iload 15, 2) := by decide +kernel
theorem dL_ruled_683 : decode cL_ruled 683 = .ok (.i2l, 1) := by decide +kernel
theorem dL_ruled_684 : decode cL_ruled 684 = .ok (.ldc2_w 292, 3) := by decide +kernel
theorem dL_ruled_687 : decode cL_ruled 687 = .ok (.ladd, 1) := by decide +kernel
theorem dL_ruled_688 : decode cL_ruled 688 = .ok (.bipush 40, 2) := by decide +kernel
theorem dL_ruled_690 : decode cL_ruled 690 = .ok (.lshl, 1) := by decide +kernel
theorem dL_ruled_691 : decode cL_ruled 691 = .ok (.lor, 1) := by decide +kernel
theorem dL_ruled_692 : decode cL_ruled 692 = .ok (.iload 16, 2) := by decide +kernel
theorem dL_ruled_694 : decode cL_ruled 694 = .ok (.i2l, 1) := by decide +kernel
theorem dL_ruled_695 : decode cL_ruled 695 = .ok (.ldc2_w 292, 3) := by decide +kernel
theorem dL_ruled_698 : decode cL_ruled 698 = .ok (.ladd, 1) := by decide +kernel
theorem dL_ruled_699 : decode cL_ruled 699 = .ok (.bipush 50, 2) := by decide +kernel
theorem dL_ruled_701 : decode cL_ruled 701 = .ok (.lshl, 1) := by decide +kernel
theorem dL_ruled_702 : decode cL_ruled 702 = .ok (.lor, 1) := by decide +kernel
theorem dL_ruled_703 : decode cL_ruled 703 = .ok (.lor, 1) := by decide +kernel
theorem dL_ruled_704 : decode cL_ruled 704 = .ok (.lstore 18, 2) := by decide +kernel
theorem dL_ruled_706 : decode cL_ruled 706 = .ok (.aload 4, 2) := by decide +kernel
theorem dL_ruled_708 : decode cL_ruled 708 = .ok (.iconst 4, 1) := by decide +kernel
