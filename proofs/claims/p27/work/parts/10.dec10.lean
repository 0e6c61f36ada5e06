theorem dL_ruled_709 : decode cL_ruled 709 = .ok (.iload 9, 2) := by decide +kernel
theorem dL_ruled_711 : decode cL_ruled 711 = .ok (.imul, 1) := by decide +kernel
theorem dL_ruled_712 : decode cL_ruled 712 = .ok (.iload 17, 2) := by decide +kernel
theorem dL_ruled_714 : decode cL_ruled 714 = .ok (.iadd, 1) := by decide +kernel
theorem dL_ruled_715 : decode cL_ruled 715 = .ok (.lload 18, 2) := by decide +kernel
theorem dL_ruled_717 : decode cL_ruled 717 = .ok (.lastore, 1) := by decide +kernel
theorem dL_ruled_718 : decode cL_ruled 718 = .ok (.aload_n 3, 1) := by decide +kernel
theorem dL_ruled_719 : decode cL_ruled 719 = .ok (.iload 9, 2) := by decide +kernel
theorem dL_ruled_721 : decode cL_ruled 721 = .ok (.dup2, 1) := by decide +kernel
theorem dL_ruled_722 : decode cL_ruled 722 = .ok (.iaload, 1) := by decide +kernel
theorem dL_ruled_723 : decode cL_ruled 723 = .ok (.sipush 8192, 3) := by decide +kernel
theorem dL_ruled_726 : decode cL_ruled 726 = .ok (.iadd, 1) := by decide +kernel
theorem dL_ruled_727 : decode cL_ruled 727 = .ok (.iastore, 1) := by decide +kernel
theorem dL_ruled_728 : decode cL_ruled 728 = .ok (.aload_n 0, 1) := by decide +kernel
theorem dL_ruled_729 : decode cL_ruled 729 = .ok (.iload 8, 2) := by decide +kernel
theorem dL_ruled_731 : decode cL_ruled 731 = .ok (.iload 11, 2) := by decide +kernel
theorem dL_ruled_733 : decode cL_ruled 733 = .ok (.iload 12, 2) := by decide +kernel
theorem dL_ruled_735 : decode cL_ruled 735 = .ok (.iload 13, 2) := by decide +kernel
theorem dL_ruled_737 : decode cL_ruled 737 = .ok (.iload 14, 2) := by decide +kernel
theorem dL_ruled_739 : decode cL_ruled 739 = .ok (.iload 15, 2) := by decide +kernel
theorem dL_ruled_741 : decode cL_ruled 741 = .ok (.iload 16, 2) := by decide +kernel
theorem dL_ruled_743 : decode cL_ruled 743 = .ok (.invokestatic 279, 3) := by decide +kernel
theorem dL_ruled_746 : decode cL_ruled 746 = .ok (.iload 17, 2) := by decide +kernel
theorem dL_ruled_748 : decode cL_ruled 748 = .ok (.iconst 1, 1) := by decide +kernel
theorem dL_ruled_749 : decode cL_ruled 749 = .ok (.iadd, 1) := by decide +kernel
theorem dL_ruled_750 : decode cL_ruled 750 = .ok (.if_icmp .ne 40, 3) := by decide +kernel
theorem dL_ruled_753 : decode cL_ruled 753 = .ok (.aload_n 0, 1) := by decide +kernel
theorem dL_ruled_754 : decode cL_ruled 754 = .ok (.iload 8, 2) := by decide +kernel
theorem dL_ruled_756 : decode cL_ruled 756 = .ok (.invokestatic 282, 3) := by decide +kernel
theorem dL_ruled_759 : decode cL_ruled 759 = .ok (.aload_n 3, 1) := by decide +kernel
theorem dL_ruled_760 : decode cL_ruled 760 = .ok (.aload 4, 2) := by decide +kernel
theorem dL_ruled_762 : decode cL_ruled 762 = .ok (.aload 5, 2) := by decide +kernel
theorem dL_ruled_764 : decode cL_ruled 764 = .ok (.aload 6, 2) := by decide +kernel
theorem dL_ruled_766 : decode cL_ruled 766 = .ok (.iload 8, 2) := by decide +kernel
theorem dL_ruled_768 : decode cL_ruled 768 = .ok (.invokestatic 294, 3) := by decide +kernel
theorem dL_ruled_771 : decode cL_ruled 771 = .ok (.if_icmp .ne 19, 3) := by decide +kernel
theorem dL_ruled_774 : decode cL_ruled 774 = .ok (.aload_n 0, 1) := by decide +kernel
theorem dL_ruled_775 : decode cL_ruled 775 = .ok (.iload 7, 2) := by decide +kernel
theorem dL_ruled_777 : decode cL_ruled 777 = .ok (.invokestatic 282, 3) := by decide +kernel
theorem dL_ruled_780 : decode cL_ruled 780 = .ok (.sipush (-7100), 3) := by decide +kernel
theorem dL_ruled_783 : decode cL_ruled 783 = .ok (.if_icmp .ne 7, 3) := by decide +kernel
theorem dL_ruled_786 : decode cL_ruled 786 = .ok (.iconst 1, 1) := by decide +kernel
theorem dL_ruled_787 : decode cL_ruled 787 = .ok (.goto 4, 3) := by decide +kernel
theorem dL_ruled_790 : decode cL_ruled 790 = .ok (.iconst 0, 1) := by decide +kernel
theorem dL_ruled_791 : decode cL_ruled 791 = .ok (.ireturn, 1) := by decide +kernel
theorem dL_faces_0 : decode cL_faces 0 = .ok (.iload_n 2, 1) := by decide +kernel
theorem dL_faces_1 : decode cL_faces 1 = .ok (.bipush 64, 2) := by decide +kernel
theorem dL_faces_3 : decode cL_faces 3 = .ok (.invokestatic 229, 3) := by decide +kernel
theorem dL_faces_6 : decode cL_faces 6 = .ok (.istore 7, 2) := by decide +kernel
theorem dL_faces_8 : decode cL_faces 8 = .ok (.iload 7, 2) := by decide +kernel
theorem dL_faces_10 : decode cL_faces 10 = .ok (.bipush 45, 2) := by decide +kernel
theorem dL_faces_12 : decode cL_faces 12 = .ok (.if_icmp .ge 8, 3) := by decide +kernel
theorem dL_faces_15 : decode cL_faces 15 = .ok (.iload 7, 2) := by decide +kernel
theorem dL_faces_17 : decode cL_faces 17 = .ok (.goto 8, 3) := by decide +kernel
theorem dL_faces_20 : decode cL_faces 20 = .ok (.iload 7, 2) := by decide +kernel
theorem dL_faces_22 : decode cL_faces 22 = .ok (.bipush 19, 2) := by decide +kernel
theorem dL_faces_24 : decode cL_faces 24 = .ok (.iadd, 1) := by decide +kernel
theorem dL_faces_25 : decode cL_faces 25 = .ok (.istore 8, 2) := by decide +kernel
theorem dL_faces_27 : decode cL_faces 27 = .ok (.bipush 13, 2) := by decide +kernel
theorem dL_faces_29 : decode cL_faces 29 = .ok (.aload 6, 2) := by decide +kernel
theorem dL_faces_31 : decode cL_faces 31 = .ok (.iconst 0, 1) := by decide +kernel
theorem dL_faces_32 : decode cL_faces 32 = .ok (.iaload, 1) := by decide +kernel
theorem dL_faces_33 : decode cL_faces 33 = .ok (.imul, 1) := by decide +kernel
theorem dL_faces_34 : decode cL_faces 34 = .ok (.istore 9, 2) := by decide +kernel
theorem dL_faces_36 : decode cL_faces 36 = .ok (.iload_n 1, 1) := by decide +kernel
theorem dL_faces_37 : decode cL_faces 37 = .ok (.ifCond .ne 59, 3) := by decide +kernel
theorem dL_faces_40 : decode cL_faces 40 = .ok (.aload 6, 2) := by decide +kernel
theorem dL_faces_42 : decode cL_faces 42 = .ok (.iconst 0, 1) := by decide +kernel
theorem dL_faces_43 : decode cL_faces 43 = .ok (.iaload, 1) := by decide +kernel
theorem dL_faces_44 : decode cL_faces 44 = .ok (.istore 10, 2) := by decide +kernel
theorem dL_faces_46 : decode cL_faces 46 = .ok (.aload 6, 2) := by decide +kernel
theorem dL_faces_48 : decode cL_faces 48 = .ok (.iconst 0, 1) := by decide +kernel
theorem dL_faces_49 : decode cL_faces 49 = .ok (.iload_n 2, 1) := by decide +kernel
theorem dL_faces_50 : decode cL_faces 50 = .ok (.iconst 2, 1) := by decide +kernel
theorem dL_faces_51 : decode cL_faces 51 = .ok (.invokestatic 229, 3) := by decide +kernel
theorem dL_faces_54 : decode cL_faces 54 = .ok (.iastore, 1) := by decide +kernel
theorem dL_faces_55 : decode cL_faces 55 = .ok (.aload_n 0, 1) := by decide +kernel
theorem dL_faces_56 : decode cL_faces 56 = .ok (.iconst 2, 1) := by decide +kernel
theorem dL_faces_57 : decode cL_faces 57 = .ok (.invokestatic 298, 3) := by decide +kernel
theorem dL_faces_60 : decode cL_faces 60 = .ok (.sipush (-7100), 3) := by decide +kernel
theorem dL_faces_63 : decode cL_faces 63 = .ok (.if_icmp .ne 31, 3) := by decide +kernel
theorem dL_faces_66 : decode cL_faces 66 = .ok (.aload_n 0, 1) := by decide +kernel
theorem dL_faces_67 : decode cL_faces 67 = .ok (.iconst (-1), 1) := by decide +kernel
theorem dL_faces_68 : decode cL_faces 68 = .ok (.invokestatic 298, 3) := by decide +kernel
theorem dL_faces_71 : decode cL_faces 71 = .ok (.sipush (-7100), 3) := by decide +kernel
theorem dL_faces_74 : decode cL_faces 74 = .ok (.if_icmp .ne 20, 3) := by decide +kernel
theorem dL_faces_77 : decode cL_faces 77 = .ok (.aload_n 0, 1) := by decide +kernel
theorem dL_faces_78 : decode cL_faces 78 = .ok (.aload 6, 2) := by decide +kernel
theorem dL_faces_80 : decode cL_faces 80 = .ok (.iconst 0, 1) := by decide +kernel
theorem dL_faces_81 : decode cL_faces 81 = .ok (.iaload, 1) := by decide +kernel
theorem dL_faces_82 : decode cL_faces 82 = .ok (.invokestatic 298, 3) := by decide +kernel
theorem dL_faces_85 : decode cL_faces 85 = .ok (.iload 10, 2) := by decide +kernel
theorem dL_faces_87 : decode cL_faces 87 = .ok (.if_icmp .ne 7, 3) := by decide +kernel
theorem dL_faces_90 : decode cL_faces 90 = .ok (.iconst 1, 1) := by decide +kernel
theorem dL_faces_91 : decode cL_faces 91 = .ok (.goto 4, 3) := by decide +kernel
theorem dL_faces_94 : decode cL_faces 94 = .ok (.iconst 0, 1) := by decide +kernel
theorem dL_faces_95 : decode cL_faces 95 = .ok (.ireturn, 1) := by decide +kernel
theorem dL_faces_96 : decode cL_faces 96 = .ok (.iload_n 1, 1) := by decide +kernel
theorem dL_faces_97 : decode cL_faces 97 = .ok (.iconst 1, 1) := by decide +kernel
theorem dL_faces_98 : decode cL_faces 98 = .ok (.if_icmp .ne 145, 3) := by decide +kernel
theorem dL_faces_101 : decode cL_faces 101 = .ok (.iload_n 3, 1) := by decide +kernel
theorem dL_faces_102 : decode cL_faces 102 = .ok (.bipush 6, 2) := by decide +kernel
theorem dL_faces_104 : decode cL_faces 104 = .ok (.iand, 1) := by decide +kernel
theorem dL_faces_105 : decode cL_faces 105 = .ok (.ifCond .ne 8, 3) := by decide +kernel
theorem dL_faces_108 : decode cL_faces 108 = .ok (.bipush (-100), 2) := by decide +kernel
theorem dL_faces_110 : decode cL_faces 110 = .ok (.goto 10, 3) := by decide +kernel
theorem dL_faces_113 : decode cL_faces 113 = .ok (.iload_n 3, 1) := by decide +kernel
theorem dL_faces_114 : decode cL_faces 114 = .ok (.iconst 3, 1) := by decide +kernel
theorem dL_faces_115 : decode cL_faces 115 = .ok (.ishr, 1) := by decide +kernel
theorem dL_faces_116 : decode cL_faces 116 = .ok (.iconst 4, 1) := by decide +kernel
theorem dL_faces_117 : decode cL_faces 117 = .ok (.invokestatic 229, 3) := by decide +kernel
theorem dL_faces_120 : decode cL_faces 120 = .ok (.istore 10, 2) := by decide +kernel
theorem dL_faces_122 : decode cL_faces 122 = .ok (.aload 5, 2) := by decide +kernel
theorem dL_faces_124 : decode cL_faces 124 = .ok (.iload 7, 2) := by decide +kernel
theorem dL_faces_126 : decode cL_faces 126 = .ok (.iaload, 1) := by decide +kernel
theorem dL_faces_127 : decode cL_faces 127 = .ok (.iload 9, 2) := by decide +kernel
theorem dL_faces_129 : decode cL_faces 129 = .ok (.ishr, 1) := by decide +kernel
theorem dL_faces_130 : decode cL_faces 130 = .ok (.bipush 7, 2) := by decide +kernel
theorem dL_faces_132 : decode cL_faces 132 = .ok (.iand, 1) := by decide +kernel
theorem dL_faces_133 : decode cL_faces 133 = .ok (.iconst 1, 1) := by decide +kernel
theorem dL_faces_134 : decode cL_faces 134 = .ok (.isub, 1) := by decide +kernel
theorem dL_faces_135 : decode cL_faces 135 = .ok (.istore 11, 2) := by decide +kernel
theorem dL_faces_137 : decode cL_faces 137 = .ok (.aload 5, 2) := by decide +kernel
theorem dL_faces_139 : decode cL_faces 139 = .ok (.iload 7, 2) := by decide +kernel
theorem dL_faces_141 : decode cL_faces 141 = .ok (.aload 5, 2) := by decide +kernel
theorem dL_faces_143 : decode cL_faces 143 = .ok (.iload 7, 2) := by decide +kernel
theorem dL_faces_145 : decode cL_faces 145 = .ok (.iaload, 1) := by decide +kernel
theorem dL_faces_146 : decode cL_faces 146 = .ok (.bipush 7, 2) := by decide +kernel
theorem dL_faces_148 : decode cL_faces 148 = .ok (.iload 9, 2) := by decide +kernel
theorem dL_faces_150 : decode cL_faces 150 = .ok (.ishl, 1) := by decide +kernel
theorem dL_faces_151 : decode cL_faces 151 = .ok (.iconst (-1), 1) := by decide +kernel
theorem dL_faces_152 : decode cL_faces 152 = .ok (.ixor, 1) := by decide +kernel
theorem dL_faces_153 : decode cL_faces 153 = .ok (.iand, 1) := by decide +kernel
theorem dL_faces_154 : decode cL_faces 154 = .ok (.iload 10, 2) := by decide +kernel
theorem dL_faces_156 : decode cL_faces 156 = .ok (.bipush (-100), 2) := by decide +kernel
theorem dL_faces_158 : decode cL_faces 158 = .ok (.if_icmp .ne 7, 3) := by decide +kernel
theorem dL_faces_161 : decode cL_faces 161 = .ok (.iconst 0, 1) := by decide +kernel
theorem dL_faces_162 : decode cL_faces 162 = .ok (.goto 7, 3) := by decide +kernel
theorem dL_faces_165 : decode cL_faces 165 = .ok (.iload 10, 2) := by decide +kernel
theorem dL_faces_167 : decode cL_faces 167 = .ok (.iconst 1, 1) := by decide +kernel
theorem dL_faces_168 : decode cL_faces 168 = .ok (.iadd, 1) := by decide +kernel
theorem dL_faces_169 : decode cL_faces 169 = .ok (.iload 9, 2) := by decide +kernel
theorem dL_faces_171 : decode cL_faces 171 = .ok (.ishl, 1) := by decide +kernel
theorem dL_faces_172 : decode cL_faces 172 = .ok (.ior, 1) := by decide +kernel
theorem dL_faces_173 : decode cL_faces 173 = .ok (.iastore, 1) := by decide +kernel
theorem dL_faces_174 : decode cL_faces 174 = .ok (.aload_n 0, 1) := by decide +kernel
theorem dL_faces_175 : decode cL_faces 175 = .ok (.sipush 256, 3) := by decide +kernel
theorem dL_faces_178 : decode cL_faces 178 = .ok (.iconst 4, 1) := by decide +kernel
theorem dL_faces_179 : decode cL_faces 179 = .ok (.invokestatic 300, 3) := by decide +kernel
theorem dL_faces_182 : decode cL_faces 182 = .ok (.sipush (-7100), 3) := by decide +kernel
theorem dL_faces_185 : decode cL_faces 185 = .ok (.if_icmp .ne 56, 3) := by decide +kernel
theorem dL_faces_188 : decode cL_faces 188 = .ok (.aload_n 0, 1) := by decide +kernel
theorem dL_faces_189 : decode cL_faces 189 = .ok (.iload 8, 2) := by decide +kernel
theorem dL_faces_191 : decode cL_faces 191 = .ok (.iconst 4, 1) := by decide +kernel
theorem dL_faces_192 : decode cL_faces 192 = .ok (.invokestatic 300, 3) := by decide +kernel
theorem dL_faces_195 : decode cL_faces 195 = .ok (.sipush (-7200), 3) := by decide +kernel
theorem dL_faces_198 : decode cL_faces 198 = .ok (.if_icmp .ne 43, 3) := by decide +kernel
theorem dL_faces_201 : decode cL_faces 201 = .ok (.aload_n 0, 1) := by decide +kernel
theorem dL_faces_202 : decode cL_faces 202 = .ok (.iload 8, 2) := by decide +kernel
theorem dL_faces_204 : decode cL_faces 204 = .ok (.iconst (-1), 1) := by decide +kernel
theorem dL_faces_205 : decode cL_faces 205 = .ok (.invokestatic 300, 3) := by decide +kernel
theorem dL_faces_208 : decode cL_faces 208 = .ok (.sipush (-7200), 3) := by decide +kernel
theorem dL_faces_211 : decode cL_faces 211 = .ok (.if_icmp .ne 30, 3) := by decide +kernel
theorem dL_faces_214 : decode cL_faces 214 = .ok (.aload_n 0, 1) := by decide +kernel
theorem dL_faces_215 : decode cL_faces 215 = .ok (.iload 8, 2) := by decide +kernel
theorem dL_faces_217 : decode cL_faces 217 = .ok (.iload 10, 2) := by decide +kernel
theorem dL_faces_219 : decode cL_faces 219 = .ok (.invokestatic 300, 3) := by decide +kernel
theorem dL_faces_222 : decode cL_faces 222 = .ok (.iload 11, 2) := by decide +kernel
theorem dL_faces_224 : decode cL_faces 224 = .ok (.ifCond .ge 8, 3) := by decide +kernel
theorem dL_faces_227 : decode cL_faces 227 = .ok (.bipush (-100), 2) := by decide +kernel
theorem dL_faces_229 : decode cL_faces 229 = .ok (.goto 5, 3) := by decide +kernel
theorem dL_faces_232 : decode cL_faces 232 = .ok (.iload 11, 2) := by decide +kernel
theorem dL_faces_234 : decode cL_faces 234 = .ok (.if_icmp .ne 7, 3) := by decide +kernel
theorem dL_faces_237 : decode cL_faces 237 = .ok (.iconst 1, 1) := by decide +kernel
theorem dL_faces_238 : decode cL_faces 238 = .ok (.goto 4, 3) := by decide +kernel
theorem dL_faces_241 : decode cL_faces 241 = .ok (.iconst 0, 1) := by decide +kernel
theorem dL_faces_242 : decode cL_faces 242 = .ok (.ireturn, 1) := by decide +kernel
theorem dL_faces_243 : decode cL_faces 243 = .ok (.iload_n 1, 1) := by decide +kernel
theorem dL_faces_244 : decode cL_faces 244 = .ok (.iconst 2, 1) := by decide +kernel
theorem dL_faces_245 : decode cL_faces 245 = .ok (.if_icmp .ne 98, 3) := by decide +kernel
theorem dL_faces_248 : decode cL_faces 248 = .ok (.iload_n 3, 1) := by decide +kernel
theorem dL_faces_249 : decode cL_faces 249 = .ok (.iconst 3, 1) := by decide +kernel
theorem dL_faces_250 : decode cL_faces 250 = .ok (.invokestatic 229, 3) := by decide +kernel
theorem dL_faces_253 : decode cL_faces 253 = .ok (.istore 10, 2) := by decide +kernel
theorem dL_faces_255 : decode cL_faces 255 = .ok (.aload 5, 2) := by decide +kernel
theorem dL_faces_257 : decode cL_faces 257 = .ok (.iload 7, 2) := by decide +kernel
theorem dL_faces_259 : decode cL_faces 259 = .ok (.iaload, 1) := by decide +kernel
theorem dL_faces_260 : decode cL_faces 260 = .ok (.iload 9, 2) := by decide +kernel
theorem dL_faces_262 : decode cL_faces 262 = .ok (.iconst 3, 1) := by decide +kernel
theorem dL_faces_263 : decode cL_faces 263 = .ok (.iadd, 1) := by decide +kernel
theorem dL_faces_264 : decode cL_faces 264 = .ok (.ishr, 1) := by decide +kernel
theorem dL_faces_265 : decode cL_faces 265 = .ok (.bipush 7, 2) := by decide +kernel
theorem dL_faces_267 : decode cL_faces 267 = .ok (.iand, 1) := by decide +kernel
theorem dL_faces_268 : decode cL_faces 268 = .ok (.istore 11, 2) := by decide +kernel
theorem dL_faces_270 : decode cL_faces 270 = .ok (.aload 5, 2) := by decide +kernel
theorem dL_faces_272 : decode cL_faces 272 = .ok (.iload 7, 2) := by decide +kernel
theorem dL_faces_274 : decode cL_faces 274 = .ok (.aload 5, 2) := by decide +kernel
theorem dL_faces_276 : decode cL_faces 276 = .ok (.iload 7, 2) := by decide +kernel
theorem dL_faces_278 : decode cL_faces 278 = .ok (.iaload, 1) := by decide +kernel
theorem dL_faces_279 : decode cL_faces 279 = .ok (.bipush 7, 2) := by decide +kernel
theorem dL_faces_281 : decode cL_faces 281 = .ok (.iload 9, 2) := by decide +kernel
theorem dL_faces_283 : decode cL_faces 283 = .ok (.iconst 3, 1) := by decide +kernel
theorem dL_faces_284 : decode cL_faces 284 = .ok (.iadd, 1) := by decide +kernel
theorem dL_faces_285 : decode cL_faces 285 = .ok (.ishl, 1) := by decide +kernel
theorem dL_faces_286 : decode cL_faces 286 = .ok (.iconst (-1), 1) := by decide +kernel
theorem dL_faces_287 : decode cL_faces 287 = .ok (.ixor, 1) := by decide +kernel
theorem dL_faces_288 : decode cL_faces 288 = .ok (.iand, 1) := by decide +kernel
theorem dL_faces_289 : decode cL_faces 289 = .ok (.iload 10, 2) := by decide +kernel
theorem dL_faces_291 : decode cL_faces 291 = .ok (.iload 9, 2) := by decide +kernel
theorem dL_faces_293 : decode cL_faces 293 = .ok (.iconst 3, 1) := by decide +kernel
theorem dL_faces_294 : decode cL_faces 294 = .ok (.iadd, 1) := by decide +kernel
theorem dL_faces_295 : decode cL_faces 295 = .ok (.ishl, 1) := by decide +kernel
theorem dL_faces_296 : decode cL_faces 296 = .ok (.ior, 1) := by decide +kernel
theorem dL_faces_297 : decode cL_faces 297 = .ok (.iastore, 1) := by decide +kernel
theorem dL_faces_298 : decode cL_faces 298 = .ok (.aload_n 0, 1) := by decide +kernel
theorem dL_faces_299 : decode cL_faces 299 = .ok (.iconst (-1), 1) := by decide +kernel
theorem dL_faces_300 : decode cL_faces 300 = .ok (.iconst 0, 1) := by decide +kernel
theorem dL_faces_301 : decode cL_faces 301 = .ok (.invokestatic 302, 3) := by decide +kernel
theorem dL_faces_304 : decode cL_faces 304 = .ok (.sipush (-7100), 3) := by decide +kernel
theorem dL_faces_307 : decode cL_faces 307 = .ok (.if_icmp .ne 34, 3) := by decide +kernel
theorem dL_faces_310 : decode cL_faces 310 = .ok (.aload_n 0, 1) := by decide +kernel
theorem dL_faces_311 : decode cL_faces 311 = .ok (.iload 8, 2) := by decide +kernel
theorem dL_faces_313 : decode cL_faces 313 = .ok (.bipush 6, 2) := by decide +kernel
theorem dL_faces_315 : decode cL_faces 315 = .ok (.invokestatic 302, 3) := by decide +kernel
theorem dL_faces_318 : decode cL_faces 318 = .ok (.sipush (-7100), 3) := by decide +kernel
theorem dL_faces_321 : decode cL_faces 321 = .ok (.if_icmp .ne 20, 3) := by decide +kernel
theorem dL_faces_324 : decode cL_faces 324 = .ok (.aload_n 0, 1) := by decide +kernel
theorem dL_faces_325 : decode cL_faces 325 = .ok (.iload 8, 2) := by decide +kernel
theorem dL_faces_327 : decode cL_faces 327 = .ok (.iload 10, 2) := by decide +kernel
theorem dL_faces_329 : decode cL_faces 329 = .ok (.invokestatic 302, 3) := by decide +kernel
theorem dL_faces_332 : decode cL_faces 332 = .ok (.iload 11, 2) := by decide +kernel
theorem dL_faces_334 : decode cL_faces 334 = .ok (.if_icmp .ne 7, 3) := by decide +kernel
theorem dL_faces_337 : decode cL_faces 337 = .ok (.iconst 1, 1) := by decide +kernel
theorem dL_faces_338 : decode cL_faces 338 = .ok (.goto 4, 3) := by decide +kernel
theorem dL_faces_341 : decode cL_faces 341 = .ok (.iconst 0, 1) := by decide +kernel
theorem dL_faces_342 : decode cL_faces 342 = .ok (.ireturn, 1) := by decide +kernel
theorem dL_faces_343 : decode cL_faces 343 = .ok (.iload_n 3, 1) := by decide +kernel
theorem dL_faces_344 : decode cL_faces 344 = .ok (.bipush 30, 2) := by decide +kernel
theorem dL_faces_346 : decode cL_faces 346 = .ok (.invokestatic 229, 3) := by decide +kernel
theorem dL_faces_349 : decode cL_faces 349 = .ok (.istore 10, 2) := by decide +kernel
theorem dL_faces_351 : decode cL_faces 351 = .ok (.aload 5, 2) := by decide +kernel
theorem dL_faces_353 : decode cL_faces 353 = .ok (.iload 7, 2) := by decide +kernel
theorem dL_faces_355 : decode cL_faces 355 = .ok (.iaload, 1) := by decide +kernel
theorem dL_faces_356 : decode cL_faces 356 = .ok (.iload 9, 2) := by decide +kernel
theorem dL_faces_358 : decode cL_faces 358 = .ok (.bipush 6, 2) := by decide +kernel
theorem dL_faces_360 : decode cL_faces 360 = .ok (.iadd, 1) := by decide +kernel
theorem dL_faces_361 : decode cL_faces 361 = .ok (.ishr, 1) := by decide +kernel
theorem dL_faces_362 : decode cL_faces 362 = .ok (.bipush 127, 2) := by decide +kernel
theorem dL_faces_364 : decode cL_faces 364 = .ok (.iand, 1) := by decide +kernel
theorem dL_faces_365 : decode cL_faces 365 = .ok (.istore 11, 2) := by decide +kernel
theorem dL_faces_367 : decode cL_faces 367 = .ok (.aload 5, 2) := by decide +kernel
theorem dL_faces_369 : decode cL_faces 369 = .ok (.iload 7, 2) := by decide +kernel
theorem dL_faces_371 : decode cL_faces 371 = .ok (.aload 5, 2) := by decide +kernel
theorem dL_faces_373 : decode cL_faces 373 = .ok (.iload 7, 2) := by decide +kernel
theorem dL_faces_375 : decode cL_faces 375 = .ok (.iaload, 1) := by decide +kernel
theorem dL_faces_376 : decode cL_faces 376 = .ok (.bipush 127, 2) := by decide +kernel
theorem dL_faces_378 : decode cL_faces 378 = .ok (.iload 9, 2) := by decide +kernel
theorem dL_faces_380 : decode cL_faces 380 = .ok (.bipush 6, 2) := by decide +kernel
theorem dL_faces_382 : decode cL_faces 382 = .ok (.iadd, 1) := by decide +kernel
theorem dL_faces_383 : decode cL_faces 383 = .ok (.ishl, 1) := by decide +kernel
theorem dL_faces_384 : decode cL_faces 384 = .ok (.iconst (-1), 1) := by decide +kernel
theorem dL_faces_385 : decode cL_faces 385 = .ok (.ixor, 1) := by decide +kernel
theorem dL_faces_386 : decode cL_faces 386 = .ok (.iand, 1) := by decide +kernel
theorem dL_faces_387 : decode cL_faces 387 = .ok (.iload 10, 2) := by decide +kernel
theorem dL_faces_389 : decode cL_faces 389 = .ok (.iload 9, 2) := by decide +kernel
theorem dL_faces_391 : decode cL_faces 391 = .ok (.bipush 6, 2) := by decide +kernel
theorem dL_faces_393 : decode cL_faces 393 = .ok (.iadd, 1) := by decide +kernel
theorem dL_faces_394 : decode cL_faces 394 = .ok (.ishl, 1) := by decide +kernel
theorem dL_faces_395 : decode cL_faces 395 = .ok (.ior, 1) := by decide +kernel
theorem dL_faces_396 : decode cL_faces 396 = .ok (.iastore, 1) := by decide +kernel
theorem dL_faces_397 : decode cL_faces 397 = .ok (.aload_n 0, 1) := by decide +kernel
theorem dL_faces_398 : decode cL_faces 398 = .ok (.sipush 256, 3) := by decide +kernel
theorem dL_faces_401 : decode cL_faces 401 = .ok (.iconst 0, 1) := by decide +kernel
theorem dL_faces_402 : decode cL_faces 402 = .ok (.invokestatic 304, 3) := by decide +kernel
theorem dL_faces_405 : decode cL_faces 405 = .ok (.sipush (-7100), 3) := by decide +kernel
theorem dL_faces_408 : decode cL_faces 408 = .ok (.if_icmp .ne 47, 3) := by decide +kernel
theorem dL_faces_411 : decode cL_faces 411 = .ok (.aload_n 0, 1) := by decide +kernel
theorem dL_faces_412 : decode cL_faces 412 = .ok (.iload 8, 2) := by decide +kernel
theorem dL_faces_414 : decode cL_faces 414 = .ok (.bipush 101, 2) := by decide +kernel
theorem dL_faces_416 : decode cL_faces 416 = .ok (.invokestatic 304, 3) := by decide +kernel
theorem dL_faces_419 : decode cL_faces 419 = .ok (.sipush (-7200), 3) := by decide +kernel
theorem dL_faces_422 : decode cL_faces 422 = .ok (.if_icmp .ne 33, 3) := by decide +kernel
theorem dL_faces_425 : decode cL_faces 425 = .ok (.aload_n 0, 1) := by decide +kernel
theorem dL_faces_426 : decode cL_faces 426 = .ok (.iload 8, 2) := by decide +kernel
theorem dL_faces_428 : decode cL_faces 428 = .ok (.iconst (-1), 1) := by decide +kernel
theorem dL_faces_429 : decode cL_faces 429 = .ok (.invokestatic 304, 3) := by decide +kernel
theorem dL_faces_432 : decode cL_faces 432 = .ok (.sipush (-7200), 3) := by decide +kernel
theorem dL_faces_435 : decode cL_faces 435 = .ok (.if_icmp .ne 20, 3) := by decide +kernel
theorem dL_faces_438 : decode cL_faces 438 = .ok (.aload_n 0, 1) := by decide +kernel
theorem dL_faces_439 : decode cL_faces 439 = .ok (.iload 8, 2) := by decide +kernel
theorem dL_faces_441 : decode cL_faces 441 = .ok (.iload 10, 2) := by decide +kernel
theorem dL_faces_443 : decode cL_faces 443 = .ok (.invokestatic 304, 3) := by decide +kernel
theorem dL_faces_446 : decode cL_faces 446 = .ok (.iload 11, 2) := by decide +kernel
theorem dL_faces_448 : decode cL_faces 448 = .ok (.if_icmp .ne 7, 3) := by decide +kernel
theorem dL_faces_451 : decode cL_faces 451 = .ok (.iconst 1, 1) := by decide +kernel
theorem dL_faces_452 : decode cL_faces 452 = .ok (.goto 4, 3) := by decide +kernel
theorem dL_faces_455 : decode cL_faces 455 = .ok (.iconst 0, 1) := by decide +kernel
theorem dL_faces_456 : decode cL_faces 456 = .ok (.ireturn, 1) := by decide +kernel
theorem dL_law_0 : decode cL_law 0 = .ok (.new 9, 3) := by decide +kernel
theorem dL_law_3 : decode cL_law 3 = .ok (.dup, 1) := by decide +kernel
theorem dL_law_4 : decode cL_law 4 = .ok (.invokespecial 306, 3) := by decide +kernel
theorem dL_law_7 : decode cL_law 7 = .ok (.astore_n 1, 1) := by decide +kernel
theorem dL_law_8 : decode cL_law 8 = .ok (.bipush 16, 2) := by decide +kernel
theorem dL_law_10 : decode cL_law 10 = .ok (.newarray .int, 2) := by decide +kernel
theorem dL_law_12 : decode cL_law 12 = .ok (.astore_n 2, 1) := by decide +kernel
theorem dL_law_13 : decode cL_law 13 = .ok (.bipush 16, 2) := by decide +kernel
theorem dL_law_15 : decode cL_law 15 = .ok (.newarray .int, 2) := by decide +kernel
theorem dL_law_17 : decode cL_law 17 = .ok (.astore_n 3, 1) := by decide +kernel
theorem dL_law_18 : decode cL_law 18 = .ok (.bipush 64, 2) := by decide +kernel
theorem dL_law_20 : decode cL_law 20 = .ok (.newarray .long, 2) := by decide +kernel
theorem dL_law_22 : decode cL_law 22 = .ok (.astore 4, 2) := by decide +kernel
theorem dL_law_24 : decode cL_law 24 = .ok (.bipush 64, 2) := by decide +kernel
theorem dL_law_26 : decode cL_law 26 = .ok (.newarray .int, 2) := by decide +kernel
theorem dL_law_28 : decode cL_law 28 = .ok (.astore 5, 2) := by decide +kernel
theorem dL_law_30 : decode cL_law 30 = .ok (.bipush 12, 2) := by decide +kernel
theorem dL_law_32 : decode cL_law 32 = .ok (.newarray .int, 2) := by decide +kernel
theorem dL_law_34 : decode cL_law 34 = .ok (.astore 6, 2) := by decide +kernel
theorem dL_law_36 : decode cL_law 36 = .ok (.bipush 64, 2) := by decide +kernel
theorem dL_law_38 : decode cL_law 38 = .ok (.newarray .int, 2) := by decide +kernel
theorem dL_law_40 : decode cL_law 40 = .ok (.astore 7, 2) := by decide +kernel
theorem dL_law_42 : decode cL_law 42 = .ok (.bipush 64, 2) := by decide +kernel
theorem dL_law_44 : decode cL_law 44 = .ok (.newarray .int, 2) := by decide +kernel
theorem dL_law_46 : decode cL_law 46 = .ok (.astore 8, 2) := by decide +kernel
theorem dL_law_48 : decode cL_law 48 = .ok (.bipush 64, 2) := by decide +kernel
theorem dL_law_50 : decode cL_law 50 = .ok (.newarray .int, 2) := by decide +kernel
theorem dL_law_52 : decode cL_law 52 = .ok (.astore 9, 2) := by decide +kernel
theorem dL_law_54 : decode cL_law 54 = .ok (.bipush 64, 2) := by decide +kernel
theorem dL_law_56 : decode cL_law 56 = .ok (.newarray .int, 2) := by decide +kernel
theorem dL_law_58 : decode cL_law 58 = .ok (.astore 10, 2) := by decide +kernel
theorem dL_law_60 : decode cL_law 60 = .ok (.bipush 64, 2) := by decide +kernel
theorem dL_law_62 : decode cL_law 62 = .ok (.newarray .int, 2) := by decide +kernel
theorem dL_law_64 : decode cL_law 64 = .ok (.astore 11, 2) := by decide +kernel
theorem dL_law_66 : decode cL_law 66 = .ok (.bipush 62, 2) := by decide +kernel
theorem dL_law_68 : decode cL_law 68 = .ok (.newarray .int, 2) := by decide +kernel
theorem dL_law_70 : decode cL_law 70 = .ok (.astore 12, 2) := by decide +kernel
theorem dL_law_72 : decode cL_law 72 = .ok (.lconst 0, 1) := by decide +kernel
theorem dL_law_73 : decode cL_law 73 = .ok (.lstore 13, 2) := by decide +kernel
theorem dL_law_75 : decode cL_law 75 = .ok (.aload 6, 2) := by decide +kernel
theorem dL_law_77 : decode cL_law 77 = .ok (.iconst 2, 1) := by decide +kernel
theorem dL_law_78 : decode cL_law 78 = .ok (.iconst 1, 1) := by decide +kernel
theorem dL_law_79 : decode cL_law 79 = .ok (.iastore, 1) := by decide +kernel
theorem dL_law_80 : decode cL_law 80 = .ok (.iconst 0, 1) := by decide +kernel
theorem dL_law_81 : decode cL_law 81 = .ok (.istore 15, 2) := by decide +kernel
theorem dL_law_83 : decode cL_law 83 = .ok (.iload 15, 2) := by decide +kernel
theorem dL_law_85 : decode cL_law 85 = .ok (.bipush 64, 2) := by decide +kernel
theorem dL_law_87 : decode cL_law 87 = .ok (.if_icmp .ge 115, 3) := by decide +kernel
theorem dL_law_90 : decode cL_law 90 = .ok (.iload 15, 2) := by decide +kernel
theorem dL_law_92 : decode cL_law 92 = .ok (.bipush 45, 2) := by decide +kernel
theorem dL_law_94 : decode cL_law 94 = .ok (.if_icmp .ge 8, 3) := by decide +kernel
theorem dL_law_97 : decode cL_law 97 = .ok (.iload 15, 2) := by decide +kernel
theorem dL_law_99 : decode cL_law 99 = .ok (.goto 8, 3) := by decide +kernel
theorem dL_law_102 : decode cL_law 102 = .ok (.iload 15, 2) := by decide +kernel
theorem dL_law_104 : decode cL_law 104 = .ok (.bipush 19, 2) := by decide +kernel
theorem dL_law_106 : decode cL_law 106 = .ok (.iadd, 1) := by decide +kernel
theorem dL_law_107 : decode cL_law 107 = .ok (.istore 16, 2) := by decide +kernel
theorem dL_law_109 : decode cL_law 109 = .ok (.iload 16, 2) := by decide +kernel
theorem dL_law_111 : decode cL_law 111 = .ok (.bipush 20, 2) := by decide +kernel
theorem dL_law_113 : decode cL_law 113 = .ok (.if_icmp .le 10, 3) := by decide +kernel
theorem dL_law_116 : decode cL_law 116 = .ok (.iload 16, 2) := by decide +kernel
theorem dL_law_118 : decode cL_law 118 = .ok (.bipush 24, 2) := by decide +kernel
theorem dL_law_120 : decode cL_law 120 = .ok (.if_icmp .lt 17, 3) := by decide +kernel
theorem dL_law_123 : decode cL_law 123 = .ok (.iload 16, 2) := by decide +kernel
theorem dL_law_125 : decode cL_law 125 = .ok (.bipush 44, 2) := by decide +kernel
theorem dL_law_127 : decode cL_law 127 = .ok (.if_icmp .eq 10, 3) := by decide +kernel
theorem dL_law_130 : decode cL_law 130 = .ok (.iload 16, 2) := by decide +kernel
theorem dL_law_132 : decode cL_law 132 = .ok (.bipush 65, 2) := by decide +kernel
theorem dL_law_134 : decode cL_law 134 = .ok (.if_icmp .ne 7, 3) := by decide +kernel
theorem dL_law_137 : decode cL_law 137 = .ok (.iconst 1, 1) := by decide +kernel
theorem dL_law_138 : decode cL_law 138 = .ok (.goto 4, 3) := by decide +kernel
theorem dL_law_141 : decode cL_law 141 = .ok (.iconst 0, 1) := by decide +kernel
theorem dL_law_142 : decode cL_law 142 = .ok (.istore 17, 2) := by decide +kernel
theorem dL_law_144 : decode cL_law 144 = .ok (.iload 17, 2) := by decide +kernel
theorem dL_law_146 : decode cL_law 146 = .ok (.ifCond .eq 7, 3) := by decide +kernel
theorem dL_law_149 : decode cL_law 149 = .ok (.iconst 1, 1) := by decide +kernel
theorem dL_law_150 : decode cL_law 150 = .ok (.goto 4, 3) := by decide +kernel
theorem dL_law_153 : decode cL_law 153 = .ok (.iconst 0, 1) := by decide +kernel
theorem dL_law_154 : decode cL_law 154 = .ok (.bipush 64, 2) := by decide +kernel
theorem dL_law_156 : decode cL_law 156 = .ok (.iload 17, 2) := by decide +kernel
theorem dL_law_158 : decode cL_law 158 = .ok (.ifCond .ne 15, 3) := by decide +kernel
theorem dL_law_161 : decode cL_law 161 = .ok (.iload 16, 2) := by decide +kernel
theorem dL_law_163 : decode cL_law 163 = .ok (.iconst 2, 1) := by decide +kernel
theorem dL_law_164 : decode cL_law 164 = .ok (.if_icmp .eq 9, 3) := by decide +kernel
theorem dL_law_167 : decode cL_law 167 = .ok (.iload 16, 2) := by decide +kernel
theorem dL_law_169 : decode cL_law 169 = .ok (.iconst 3, 1) := by decide +kernel
theorem dL_law_170 : decode cL_law 170 = .ok (.if_icmp .ne 7, 3) := by decide +kernel
theorem dL_law_173 : decode cL_law 173 = .ok (.iconst 0, 1) := by decide +kernel
theorem dL_law_174 : decode cL_law 174 = .ok (.goto 5, 3) := by decide +kernel
theorem dL_law_177 : decode cL_law 177 = .ok (.bipush 10, 2) := by decide +kernel
theorem dL_law_179 : decode cL_law 179 = .ok (.imul, 1) := by decide +kernel
theorem dL_law_180 : decode cL_law 180 = .ok (.iadd, 1) := by decide +kernel
theorem dL_law_181 : decode cL_law 181 = .ok (.istore 18, 2) := by decide +kernel
theorem dL_law_183 : decode cL_law 183 = .ok (.aload 5, 2) := by decide +kernel
theorem dL_law_185 : decode cL_law 185 = .ok (.iload 15, 2) := by decide +kernel
theorem dL_law_187 : decode cL_law 187 = .ok (.iload 18, 2) := by decide +kernel
theorem dL_law_189 : decode cL_law 189 = .ok (.iload 18, 2) := by decide +kernel
theorem dL_law_191 : decode cL_law 191 = .ok (.bipush 13, 2) := by decide +kernel
theorem dL_law_193 : decode cL_law 193 = .ok (.ishl, 1) := by decide +kernel
theorem dL_law_194 : decode cL_law 194 = .ok (.iadd, 1) := by decide +kernel
theorem dL_law_195 : decode cL_law 195 = .ok (.iastore, 1) := by decide +kernel
theorem dL_law_196 : decode cL_law 196 = .ok (.iinc 15 1, 3) := by decide +kernel
theorem dL_law_199 : decode cL_law 199 = .ok (.goto (-116), 3) := by decide +kernel
theorem dL_law_202 : decode cL_law 202 = .ok (.iconst 0, 1) := by decide +kernel
theorem dL_law_203 : decode cL_law 203 = .ok (.istore 15, 2) := by decide +kernel
theorem dL_law_205 : decode cL_law 205 = .ok (.iload 15, 2) := by decide +kernel
theorem dL_law_207 : decode cL_law 207 = .ok (.bipush 110, 2) := by decide +kernel
theorem dL_law_209 : decode cL_law 209 = .ok (.if_icmp .ge 1109, 3) := by decide +kernel
theorem dL_law_212 : decode cL_law 212 = .ok (.iload 15, 2) := by decide +kernel
theorem dL_law_214 : decode cL_law 214 = .ok (.bipush 12, 2) := by decide +kernel
theorem dL_law_216 : decode cL_law 216 = .ok (.if_icmp .ge 13, 3) := by decide +kernel
theorem dL_law_219 : decode cL_law 219 = .ok (.iload 15, 2) := by decide +kernel
theorem dL_law_221 : decode cL_law 221 = .ok (.iconst 2, 1) := by decide +kernel
theorem dL_law_222 : decode cL_law 222 = .ok (.irem, 1) := by decide +kernel
theorem dL_law_223 : decode cL_law 223 = .ok (.bipush 6, 2) := by decide +kernel
theorem dL_law_225 : decode cL_law 225 = .ok (.imul, 1) := by decide +kernel
theorem dL_law_226 : decode cL_law 226 = .ok (.goto 16, 3) := by decide +kernel
theorem dL_law_229 : decode cL_law 229 = .ok (.aload_n 0, 1) := by decide +kernel
theorem dL_law_230 : decode cL_law 230 = .ok (.iconst 3, 1) := by decide +kernel
theorem dL_law_231 : decode cL_law 231 = .ok (.iload 15, 2) := by decide +kernel
theorem dL_law_233 : decode cL_law 233 = .ok (.imul, 1) := by decide +kernel
theorem dL_law_234 : decode cL_law 234 = .ok (.invokestatic 307, 3) := by decide +kernel
theorem dL_law_237 : decode cL_law 237 = .ok (.bipush 30, 2) := by decide +kernel
theorem dL_law_239 : decode cL_law 239 = .ok (.invokestatic 229, 3) := by decide +kernel
theorem dL_law_242 : decode cL_law 242 = .ok (.istore 16, 2) := by decide +kernel
theorem dL_law_244 : decode cL_law 244 = .ok (.aload_n 0, 1) := by decide +kernel
theorem dL_law_245 : decode cL_law 245 = .ok (.iconst 3, 1) := by decide +kernel
theorem dL_law_246 : decode cL_law 246 = .ok (.iload 15, 2) := by decide +kernel
theorem dL_law_248 : decode cL_law 248 = .ok (.imul, 1) := by decide +kernel
theorem dL_law_249 : decode cL_law 249 = .ok (.iconst 1, 1) := by decide +kernel
theorem dL_law_250 : decode cL_law 250 = .ok (.iadd, 1) := by decide +kernel
theorem dL_law_251 : decode cL_law 251 = .ok (.invokestatic 307, 3) := by decide +kernel
theorem dL_law_254 : decode cL_law 254 = .ok (.istore 17, 2) := by decide +kernel
theorem dL_law_256 : decode cL_law 256 = .ok (.aload_n 0, 1) := by decide +kernel
theorem dL_law_257 : decode cL_law 257 = .ok (.iconst 3, 1) := by decide +kernel
theorem dL_law_258 : decode cL_law 258 = .ok (.iload 15, 2) := by decide +kernel
theorem dL_law_260 : decode cL_law 260 = .ok (.imul, 1) := by decide +kernel
theorem dL_law_261 : decode cL_law 261 = .ok (.iconst 2, 1) := by decide +kernel
theorem dL_law_262 : decode cL_law 262 = .ok (.iadd, 1) := by decide +kernel
theorem dL_law_263 : decode cL_law 263 = .ok (.invokestatic 307, 3) := by decide +kernel
theorem dL_law_266 : decode cL_law 266 = .ok (.istore 18, 2) := by decide +kernel
theorem dL_law_268 : decode cL_law 268 = .ok (.iconst 1, 1) := by decide +kernel
theorem dL_law_269 : decode cL_law 269 = .ok (.istore 19, 2) := by decide +kernel
theorem dL_law_271 : decode cL_law 271 = .ok (.iload 16, 2) := by decide +kernel
theorem dL_law_273 : decode cL_law 273 = .ok (.bipush 6, 2) := by decide +kernel
theorem dL_law_275 : decode cL_law 275 = .ok (.if_icmp .ge 308, 3) := by decide +kernel
theorem dL_law_278 : decode cL_law 278 = .ok (.iload 17, 2) := by decide +kernel
theorem dL_law_280 : decode cL_law 280 = .ok (.bipush 10, 2) := by decide +kernel
theorem dL_law_282 : decode cL_law 282 = .ok (.invokestatic 229, 3) := by decide +kernel
theorem dL_law_285 : decode cL_law 285 = .ok (.istore 20, 2) := by decide +kernel
theorem dL_law_287 : decode cL_law 287 = .ok (.iload 17, 2) := by decide +kernel
theorem dL_law_289 : decode cL_law 289 = .ok (.bipush 96, 2) := by decide +kernel
theorem dL_law_291 : decode cL_law 291 = .ok (.iand, 1) := by decide +kernel
theorem dL_law_292 : decode cL_law 292 = .ok (.ifCond .le 7, 3) := by decide +kernel
theorem dL_law_295 : decode cL_law 295 = .ok (.iconst 0, 1) := by decide +kernel
theorem dL_law_296 : decode cL_law 296 = .ok (.goto 13, 3) := by decide +kernel
theorem dL_law_299 : decode cL_law 299 = .ok (.iload 17, 2) := by decide +kernel
theorem dL_law_301 : decode cL_law 301 = .ok (.bipush 7, 2) := by decide +kernel
theorem dL_law_303 : decode cL_law 303 = .ok (.ishr, 1) := by decide +kernel
theorem dL_law_304 : decode cL_law 304 = .ok (.bipush 7, 2) := by decide +kernel
theorem dL_law_306 : decode cL_law 306 = .ok (.invokestatic 229, 3) := by decide +kernel
theorem dL_law_309 : decode cL_law 309 = .ok (.istore 21, 2) := by decide +kernel
theorem dL_law_311 : decode cL_law 311 = .ok (.iload 18, 2) := by decide +kernel
theorem dL_law_313 : decode cL_law 313 = .ok (.bipush 6, 2) := by decide +kernel
theorem dL_law_315 : decode cL_law 315 = .ok (.iand, 1) := by decide +kernel
theorem dL_law_316 : decode cL_law 316 = .ok (.ifCond .le 14, 3) := by decide +kernel
theorem dL_law_319 : decode cL_law 319 = .ok (.iload 18, 2) := by decide +kernel
theorem dL_law_321 : decode cL_law 321 = .ok (.iconst 3, 1) := by decide +kernel
theorem dL_law_322 : decode cL_law 322 = .ok (.ishr, 1) := by decide +kernel
theorem dL_law_323 : decode cL_law 323 = .ok (.iconst 2, 1) := by decide +kernel
theorem dL_law_324 : decode cL_law 324 = .ok (.invokestatic 229, 3) := by decide +kernel
theorem dL_law_327 : decode cL_law 327 = .ok (.goto 12, 3) := by decide +kernel
theorem dL_law_330 : decode cL_law 330 = .ok (.iload 18, 2) := by decide +kernel
theorem dL_law_332 : decode cL_law 332 = .ok (.iconst 3, 1) := by decide +kernel
theorem dL_law_333 : decode cL_law 333 = .ok (.ishr, 1) := by decide +kernel
theorem dL_law_334 : decode cL_law 334 = .ok (.bipush 6, 2) := by decide +kernel
theorem dL_law_336 : decode cL_law 336 = .ok (.invokestatic 229, 3) := by decide +kernel
theorem dL_law_339 : decode cL_law 339 = .ok (.istore 22, 2) := by decide +kernel
theorem dL_law_341 : decode cL_law 341 = .ok (.iload 18, 2) := by decide +kernel
theorem dL_law_343 : decode cL_law 343 = .ok (.bipush 7, 2) := by decide +kernel
theorem dL_law_345 : decode cL_law 345 = .ok (.ishr, 1) := by decide +kernel
theorem dL_law_346 : decode cL_law 346 = .ok (.iconst 2, 1) := by decide +kernel
theorem dL_law_347 : decode cL_law 347 = .ok (.invokestatic 229, 3) := by decide +kernel
theorem dL_law_350 : decode cL_law 350 = .ok (.istore 23, 2) := by decide +kernel
theorem dL_law_352 : decode cL_law 352 = .ok (.iload 18, 2) := by decide +kernel
theorem dL_law_354 : decode cL_law 354 = .ok (.sipush 768, 3) := by decide +kernel
theorem dL_law_357 : decode cL_law 357 = .ok (.iand, 1) := by decide +kernel
theorem dL_law_358 : decode cL_law 358 = .ok (.ifCond .ne 15, 3) := by decide +kernel
theorem dL_law_361 : decode cL_law 361 = .ok (.iload 18, 2) := by decide +kernel
theorem dL_law_363 : decode cL_law 363 = .ok (.bipush 10, 2) := by decide +kernel
theorem dL_law_365 : decode cL_law 365 = .ok (.ishr, 1) := by decide +kernel
theorem dL_law_366 : decode cL_law 366 = .ok (.iconst 3, 1) := by decide +kernel
theorem dL_law_367 : decode cL_law 367 = .ok (.invokestatic 229, 3) := by decide +kernel
theorem dL_law_370 : decode cL_law 370 = .ok (.goto 4, 3) := by decide +kernel
theorem dL_law_373 : decode cL_law 373 = .ok (.iconst 0, 1) := by decide +kernel
theorem dL_law_374 : decode cL_law 374 = .ok (.istore 24, 2) := by decide +kernel
theorem dL_law_376 : decode cL_law 376 = .ok (.aload_n 1, 1) := by decide +kernel
theorem dL_law_377 : decode cL_law 377 = .ok (.bipush 10, 2) := by decide +kernel
theorem dL_law_379 : decode cL_law 379 = .ok (.iconst 0, 1) := by decide +kernel
theorem dL_law_380 : decode cL_law 380 = .ok (.iconst 0, 1) := by decide +kernel
theorem dL_law_381 : decode cL_law 381 = .ok (.iconst 0, 1) := by decide +kernel
theorem dL_law_382 : decode cL_law 382 = .ok (.iconst 0, 1) := by decide +kernel
theorem dL_law_383 : decode cL_law 383 = .ok (.invokestatic 310, 3) := by decide +kernel
theorem dL_law_386 : decode cL_law 386 = .ok (.sipush (-7100), 3) := by decide +kernel
theorem dL_law_389 : decode cL_law 389 = .ok (.if_icmp .ne 75, 3) := by decide +kernel
theorem dL_law_392 : decode cL_law 392 = .ok (.aload_n 1, 1) := by decide +kernel
theorem dL_law_393 : decode cL_law 393 = .ok (.iconst 0, 1) := by decide +kernel
theorem dL_law_394 : decode cL_law 394 = .ok (.bipush 7, 2) := by decide +kernel
theorem dL_law_396 : decode cL_law 396 = .ok (.iconst 2, 1) := by decide +kernel
theorem dL_law_397 : decode cL_law 397 = .ok (.iconst 0, 1) := by decide +kernel
theorem dL_law_398 : decode cL_law 398 = .ok (.iconst 0, 1) := by decide +kernel
theorem dL_law_399 : decode cL_law 399 = .ok (.invokestatic 310, 3) := by decide +kernel
theorem dL_law_402 : decode cL_law 402 = .ok (.sipush (-7100), 3) := by decide +kernel
theorem dL_law_405 : decode cL_law 405 = .ok (.if_icmp .ne 59, 3) := by decide +kernel
theorem dL_law_408 : decode cL_law 408 = .ok (.aload_n 1, 1) := by decide +kernel
theorem dL_law_409 : decode cL_law 409 = .ok (.iload 20, 2) := by decide +kernel
theorem dL_law_411 : decode cL_law 411 = .ok (.iload 21, 2) := by decide +kernel
theorem dL_law_413 : decode cL_law 413 = .ok (.iconst 2, 1) := by decide +kernel
theorem dL_law_414 : decode cL_law 414 = .ok (.iconst 0, 1) := by decide +kernel
theorem dL_law_415 : decode cL_law 415 = .ok (.iconst 0, 1) := by decide +kernel
theorem dL_law_416 : decode cL_law 416 = .ok (.invokestatic 310, 3) := by decide +kernel
theorem dL_law_419 : decode cL_law 419 = .ok (.sipush (-7200), 3) := by decide +kernel
theorem dL_law_422 : decode cL_law 422 = .ok (.if_icmp .ne 42, 3) := by decide +kernel
theorem dL_law_425 : decode cL_law 425 = .ok (.aload_n 1, 1) := by decide +kernel
theorem dL_law_426 : decode cL_law 426 = .ok (.iload 20, 2) := by decide +kernel
theorem dL_law_428 : decode cL_law 428 = .ok (.iload 21, 2) := by decide +kernel
theorem dL_law_430 : decode cL_law 430 = .ok (.iconst 0, 1) := by decide +kernel
theorem dL_law_431 : decode cL_law 431 = .ok (.iconst 3, 1) := by decide +kernel
theorem dL_law_432 : decode cL_law 432 = .ok (.iconst 0, 1) := by decide +kernel
theorem dL_law_433 : decode cL_law 433 = .ok (.invokestatic 310, 3) := by decide +kernel
theorem dL_law_436 : decode cL_law 436 = .ok (.sipush (-7200), 3) := by decide +kernel
theorem dL_law_439 : decode cL_law 439 = .ok (.if_icmp .ne 25, 3) := by decide +kernel
theorem dL_law_442 : decode cL_law 442 = .ok (.aload_n 1, 1) := by decide +kernel
theorem dL_law_443 : decode cL_law 443 = .ok (.iload 20, 2) := by decide +kernel
theorem dL_law_445 : decode cL_law 445 = .ok (.iload 21, 2) := by decide +kernel
theorem dL_law_447 : decode cL_law 447 = .ok (.iconst 0, 1) := by decide +kernel
theorem dL_law_448 : decode cL_law 448 = .ok (.iconst 0, 1) := by decide +kernel
theorem dL_law_449 : decode cL_law 449 = .ok (.bipush 6, 2) := by decide +kernel
theorem dL_law_451 : decode cL_law 451 = .ok (.invokestatic 310, 3) := by decide +kernel
theorem dL_law_454 : decode cL_law 454 = .ok (.sipush (-7200), 3) := by decide +kernel
theorem dL_law_457 : decode cL_law 457 = .ok (.if_icmp .ne 7, 3) := by decide +kernel
theorem dL_law_460 : decode cL_law 460 = .ok (.iconst 1, 1) := by decide +kernel
theorem dL_law_461 : decode cL_law 461 = .ok (.goto 4, 3) := by decide +kernel
theorem dL_law_464 : decode cL_law 464 = .ok (.iconst 0, 1) := by decide +kernel
theorem dL_law_465 : decode cL_law 465 = .ok (.istore 19, 2) := by decide +kernel
theorem dL_law_467 : decode cL_law 467 = .ok (.aload 6, 2) := by decide +kernel
theorem dL_law_469 : decode cL_law 469 = .ok (.iconst 3, 1) := by decide +kernel
theorem dL_law_470 : decode cL_law 470 = .ok (.aload 6, 2) := by decide +kernel
theorem dL_law_472 : decode cL_law 472 = .ok (.iconst 0, 1) := by decide +kernel
theorem dL_law_473 : decode cL_law 473 = .ok (.iaload, 1) := by decide +kernel
theorem dL_law_474 : decode cL_law 474 = .ok (.iadd, 1) := by decide +kernel
theorem dL_law_475 : decode cL_law 475 = .ok (.iaload, 1) := by decide +kernel
theorem dL_law_476 : decode cL_law 476 = .ok (.bipush 8, 2) := by decide +kernel
theorem dL_law_478 : decode cL_law 478 = .ok (.if_icmp .ge 102, 3) := by decide +kernel
theorem dL_law_481 : decode cL_law 481 = .ok (.aload_n 3, 1) := by decide +kernel
theorem dL_law_482 : decode cL_law 482 = .ok (.bipush 8, 2) := by decide +kernel
theorem dL_law_484 : decode cL_law 484 = .ok (.aload 6, 2) := by decide +kernel
theorem dL_law_486 : decode cL_law 486 = .ok (.iconst 0, 1) := by decide +kernel
theorem dL_law_487 : decode cL_law 487 = .ok (.iaload, 1) := by decide +kernel
theorem dL_law_488 : decode cL_law 488 = .ok (.imul, 1) := by decide +kernel
theorem dL_law_489 : decode cL_law 489 = .ok (.aload 6, 2) := by decide +kernel
theorem dL_law_491 : decode cL_law 491 = .ok (.iconst 3, 1) := by decide +kernel
theorem dL_law_492 : decode cL_law 492 = .ok (.aload 6, 2) := by decide +kernel
theorem dL_law_494 : decode cL_law 494 = .ok (.iconst 0, 1) := by decide +kernel
theorem dL_law_495 : decode cL_law 495 = .ok (.iaload, 1) := by decide +kernel
theorem dL_law_496 : decode cL_law 496 = .ok (.iadd, 1) := by decide +kernel
theorem dL_law_497 : decode cL_law 497 = .ok (.iaload, 1) := by decide +kernel
theorem dL_law_498 : decode cL_law 498 = .ok (.iadd, 1) := by decide +kernel
theorem dL_law_499 : decode cL_law 499 = .ok (.iload 20, 2) := by decide +kernel
theorem dL_law_501 : decode cL_law 501 = .ok (.bipush 16, 2) := by decide +kernel
theorem dL_law_503 : decode cL_law 503 = .ok (.iload 21, 2) := by decide +kernel
theorem dL_law_505 : decode cL_law 505 = .ok (.imul, 1) := by decide +kernel
theorem dL_law_506 : decode cL_law 506 = .ok (.iadd, 1) := by decide +kernel
theorem dL_law_507 : decode cL_law 507 = .ok (.sipush 128, 3) := by decide +kernel
theorem dL_law_510 : decode cL_law 510 = .ok (.iload 23, 2) := by decide +kernel
theorem dL_law_512 : decode cL_law 512 = .ok (.imul, 1) := by decide +kernel
theorem dL_law_513 : decode cL_law 513 = .ok (.iadd, 1) := by decide +kernel
theorem dL_law_514 : decode cL_law 514 = .ok (.sipush 256, 3) := by decide +kernel
theorem dL_law_517 : decode cL_law 517 = .ok (.iload 24, 2) := by decide +kernel
theorem dL_law_519 : decode cL_law 519 = .ok (.imul, 1) := by decide +kernel
theorem dL_law_520 : decode cL_law 520 = .ok (.iadd, 1) := by decide +kernel
theorem dL_law_521 : decode cL_law 521 = .ok (.sipush 1024, 3) := by decide +kernel
theorem dL_law_524 : decode cL_law 524 = .ok (.iload 22, 2) := by decide +kernel
theorem dL_law_526 : decode cL_law 526 = .ok (.imul, 1) := by decide +kernel
theorem dL_law_527 : decode cL_law 527 = .ok (.iadd, 1) := by decide +kernel
theorem dL_law_528 : decode cL_law 528 = .ok (.iastore, 1) := by decide +kernel
theorem dL_law_529 : decode cL_law 529 = .ok (.aload 6, 2) := by decide +kernel
theorem dL_law_531 : decode cL_law 531 = .ok (.iconst 3, 1) := by decide +kernel
theorem dL_law_532 : decode cL_law 532 = .ok (.aload 6, 2) := by decide +kernel
theorem dL_law_534 : decode cL_law 534 = .ok (.iconst 0, 1) := by decide +kernel
theorem dL_law_535 : decode cL_law 535 = .ok (.iaload, 1) := by decide +kernel
theorem dL_law_536 : decode cL_law 536 = .ok (.iadd, 1) := by decide +kernel
theorem dL_law_537 : decode cL_law 537 = .ok (.dup2, 1) := by decide +kernel
theorem dL_law_538 : decode cL_law 538 = .ok (.iaload, 1) := by decide +kernel
theorem dL_law_539 : decode cL_law 539 = .ok (.iconst 1, 1) := by decide +kernel
theorem dL_law_540 : decode cL_law 540 = .ok (.iadd, 1) := by decide +kernel
theorem dL_law_541 : decode cL_law 541 = .ok (.iastore, 1) := by decide +kernel
theorem dL_law_542 : decode cL_law 542 = .ok (.iload 19, 2) := by decide +kernel
theorem dL_law_544 : decode cL_law 544 = .ok (.aload_n 1, 1) := by decide +kernel
theorem dL_law_545 : decode cL_law 545 = .ok (.iload 20, 2) := by decide +kernel
theorem dL_law_547 : decode cL_law 547 = .ok (.iload 21, 2) := by decide +kernel
theorem dL_law_549 : decode cL_law 549 = .ok (.iload 23, 2) := by decide +kernel
theorem dL_law_551 : decode cL_law 551 = .ok (.iload 24, 2) := by decide +kernel
theorem dL_law_553 : decode cL_law 553 = .ok (.iload 22, 2) := by decide +kernel
theorem dL_law_555 : decode cL_law 555 = .ok (.invokestatic 310, 3) := by decide +kernel
theorem dL_law_558 : decode cL_law 558 = .ok (.aload 6, 2) := by decide +kernel
theorem dL_law_560 : decode cL_law 560 = .ok (.iconst 3, 1) := by decide +kernel
theorem dL_law_561 : decode cL_law 561 = .ok (.aload 6, 2) := by decide +kernel
theorem dL_law_563 : decode cL_law 563 = .ok (.iconst 0, 1) := by decide +kernel
theorem dL_law_564 : decode cL_law 564 = .ok (.iaload, 1) := by decide +kernel
theorem dL_law_565 : decode cL_law 565 = .ok (.iadd, 1) := by decide +kernel
theorem dL_law_566 : decode cL_law 566 = .ok (.iaload, 1) := by decide +kernel
theorem dL_law_567 : decode cL_law 567 = .ok (.iconst 1, 1) := by decide +kernel
theorem dL_law_568 : decode cL_law 568 = .ok (.isub, 1) := by decide +kernel
theorem dL_law_569 : decode cL_law 569 = .ok (.if_icmp .ne 7, 3) := by decide +kernel
theorem dL_law_572 : decode cL_law 572 = .ok (.iconst 1, 1) := by decide +kernel
theorem dL_law_573 : decode cL_law 573 = .ok (.goto 4, 3) := by decide +kernel
theorem dL_law_576 : decode cL_law 576 = .ok (.iconst 0, 1) := by decide +kernel
theorem dL_law_577 : decode cL_law 577 = .ok (.iand, 1) := by decide +kernel
theorem dL_law_578 : decode cL_law 578 = .ok (.istore 19, 2) := by decide +kernel
theorem dL_law_580 : decode cL_law 580 = .ok (.goto 680, 3) := by decide +kernel
theorem dL_law_583 : decode cL_law 583 = .ok (.iload 16, 2) := by decide +kernel
theorem dL_law_585 : decode cL_law 585 = .ok (.bipush 15, 2) := by decide +kernel
theorem dL_law_587 : decode cL_law 587 = .ok (.if_icmp .ge 23, 3) := by decide +kernel
theorem dL_law_590 : decode cL_law 590 = .ok (.aload_n 1, 1) := by decide +kernel
theorem dL_law_591 : decode cL_law 591 = .ok (.iload 17, 2) := by decide +kernel
theorem dL_law_593 : decode cL_law 593 = .ok (.iload 18, 2) := by decide +kernel
theorem dL_law_595 : decode cL_law 595 = .ok (.aload_n 3, 1) := by decide +kernel
theorem dL_law_596 : decode cL_law 596 = .ok (.aload 4, 2) := by decide +kernel
theorem dL_law_598 : decode cL_law 598 = .ok (.aload 5, 2) := by decide +kernel
theorem dL_law_600 : decode cL_law 600 = .ok (.aload 6, 2) := by decide +kernel
theorem dL_law_602 : decode cL_law 602 = .ok (.invokestatic 313, 3) := by decide +kernel
theorem dL_law_605 : decode cL_law 605 = .ok (.istore 19, 2) := by decide +kernel
theorem dL_law_607 : decode cL_law 607 = .ok (.goto 653, 3) := by decide +kernel
theorem dL_law_610 : decode cL_law 610 = .ok (.iload 16, 2) := by decide +kernel
theorem dL_law_612 : decode cL_law 612 = .ok (.bipush 19, 2) := by decide +kernel
theorem dL_law_614 : decode cL_law 614 = .ok (.if_icmp .ge 26, 3) := by decide +kernel
theorem dL_law_617 : decode cL_law 617 = .ok (.aload_n 1, 1) := by decide +kernel
theorem dL_law_618 : decode cL_law 618 = .ok (.iload 16, 2) := by decide +kernel
theorem dL_law_620 : decode cL_law 620 = .ok (.bipush 15, 2) := by decide +kernel
theorem dL_law_622 : decode cL_law 622 = .ok (.isub, 1) := by decide +kernel
theorem dL_law_623 : decode cL_law 623 = .ok (.iload 17, 2) := by decide +kernel
theorem dL_law_625 : decode cL_law 625 = .ok (.iload 18, 2) := by decide +kernel
theorem dL_law_627 : decode cL_law 627 = .ok (.aload_n 3, 1) := by decide +kernel
theorem dL_law_628 : decode cL_law 628 = .ok (.aload 5, 2) := by decide +kernel
theorem dL_law_630 : decode cL_law 630 = .ok (.aload 6, 2) := by decide +kernel
theorem dL_law_632 : decode cL_law 632 = .ok (.invokestatic 317, 3) := by decide +kernel
theorem dL_law_635 : decode cL_law 635 = .ok (.istore 19, 2) := by decide +kernel
theorem dL_law_637 : decode cL_law 637 = .ok (.goto 623, 3) := by decide +kernel
theorem dL_law_640 : decode cL_law 640 = .ok (.iload 16, 2) := by decide +kernel
theorem dL_law_642 : decode cL_law 642 = .ok (.bipush 19, 2) := by decide +kernel
theorem dL_law_644 : decode cL_law 644 = .ok (.if_icmp .ne 81, 3) := by decide +kernel
theorem dL_law_647 : decode cL_law 647 = .ok (.iload 17, 2) := by decide +kernel
theorem dL_law_649 : decode cL_law 649 = .ok (.invokestatic 276, 3) := by decide +kernel
theorem dL_law_652 : decode cL_law 652 = .ok (.istore 20, 2) := by decide +kernel
theorem dL_law_654 : decode cL_law 654 = .ok (.lload 13, 2) := by decide +kernel
theorem dL_law_656 : decode cL_law 656 = .ok (.lconst 1, 1) := by decide +kernel
theorem dL_law_657 : decode cL_law 657 = .ok (.iload 20, 2) := by decide +kernel
theorem dL_law_659 : decode cL_law 659 = .ok (.lshl, 1) := by decide +kernel
theorem dL_law_660 : decode cL_law 660 = .ok (.lxor, 1) := by decide +kernel
theorem dL_law_661 : decode cL_law 661 = .ok (.lstore 13, 2) := by decide +kernel
theorem dL_law_663 : decode cL_law 663 = .ok (.aload_n 1, 1) := by decide +kernel
theorem dL_law_664 : decode cL_law 664 = .ok (.bipush 24, 2) := by decide +kernel
theorem dL_law_666 : decode cL_law 666 = .ok (.invokestatic 321, 3) := by decide +kernel
theorem dL_law_669 : decode cL_law 669 = .ok (.sipush (-7200), 3) := by decide +kernel
theorem dL_law_672 : decode cL_law 672 = .ok (.if_icmp .ne 47, 3) := by decide +kernel
theorem dL_law_675 : decode cL_law 675 = .ok (.aload_n 1, 1) := by decide +kernel
theorem dL_law_676 : decode cL_law 676 = .ok (.bipush 45, 2) := by decide +kernel
theorem dL_law_678 : decode cL_law 678 = .ok (.invokestatic 321, 3) := by decide +kernel
theorem dL_law_681 : decode cL_law 681 = .ok (.sipush (-7200), 3) := by decide +kernel
theorem dL_law_684 : decode cL_law 684 = .ok (.if_icmp .ne 35, 3) := by decide +kernel
theorem dL_law_687 : decode cL_law 687 = .ok (.aload_n 1, 1) := by decide +kernel
theorem dL_law_688 : decode cL_law 688 = .ok (.iconst (-1), 1) := by decide +kernel
theorem dL_law_689 : decode cL_law 689 = .ok (.invokestatic 321, 3) := by decide +kernel
theorem dL_law_692 : decode cL_law 692 = .ok (.sipush (-7200), 3) := by decide +kernel
theorem dL_law_695 : decode cL_law 695 = .ok (.if_icmp .ne 24, 3) := by decide +kernel
theorem dL_law_698 : decode cL_law 698 = .ok (.aload_n 1, 1) := by decide +kernel
theorem dL_law_699 : decode cL_law 699 = .ok (.iload 20, 2) := by decide +kernel
theorem dL_law_701 : decode cL_law 701 = .ok (.invokestatic 321, 3) := by decide +kernel
theorem dL_law_704 : decode cL_law 704 = .ok (.lload 13, 2) := by decide +kernel
theorem dL_law_706 : decode cL_law 706 = .ok (.iload 20, 2) := by decide +kernel
theorem dL_law_708 : decode cL_law 708 = .ok (.lshr, 1) := by decide +kernel
theorem dL_law_709 : decode cL_law 709 = .ok (.lconst 1, 1) := by decide +kernel
theorem dL_law_710 : decode cL_law 710 = .ok (.land, 1) := by decide +kernel
theorem dL_law_711 : decode cL_law 711 = .ok (.l2i, 1) := by decide +kernel
theorem dL_law_712 : decode cL_law 712 = .ok (.if_icmp .ne 7, 3) := by decide +kernel
theorem dL_law_715 : decode cL_law 715 = .ok (.iconst 1, 1) := by decide +kernel
theorem dL_law_716 : decode cL_law 716 = .ok (.goto 4, 3) := by decide +kernel
theorem dL_law_719 : decode cL_law 719 = .ok (.iconst 0, 1) := by decide +kernel
theorem dL_law_720 : decode cL_law 720 = .ok (.istore 19, 2) := by decide +kernel
theorem dL_law_722 : decode cL_law 722 = .ok (.goto 538, 3) := by decide +kernel
theorem dL_law_725 : decode cL_law 725 = .ok (.iload 16, 2) := by decide +kernel
theorem dL_law_727 : decode cL_law 727 = .ok (.bipush 20, 2) := by decide +kernel
theorem dL_law_729 : decode cL_law 729 = .ok (.if_icmp .ne 66, 3) := by decide +kernel
theorem dL_law_732 : decode cL_law 732 = .ok (.aload 6, 2) := by decide +kernel
theorem dL_law_734 : decode cL_law 734 = .ok (.iconst 2, 1) := by decide +kernel
theorem dL_law_735 : decode cL_law 735 = .ok (.iaload, 1) := by decide +kernel
theorem dL_law_736 : decode cL_law 736 = .ok (.istore 20, 2) := by decide +kernel
theorem dL_law_738 : decode cL_law 738 = .ok (.aload 6, 2) := by decide +kernel
theorem dL_law_740 : decode cL_law 740 = .ok (.iconst 2, 1) := by decide +kernel
theorem dL_law_741 : decode cL_law 741 = .ok (.iconst 1, 1) := by decide +kernel
theorem dL_law_742 : decode cL_law 742 = .ok (.iload 17, 2) := by decide +kernel
theorem dL_law_744 : decode cL_law 744 = .ok (.iconst 2, 1) := by decide +kernel
theorem dL_law_745 : decode cL_law 745 = .ok (.invokestatic 229, 3) := by decide +kernel
theorem dL_law_748 : decode cL_law 748 = .ok (.iadd, 1) := by decide +kernel
theorem dL_law_749 : decode cL_law 749 = .ok (.iastore, 1) := by decide +kernel
theorem dL_law_750 : decode cL_law 750 = .ok (.aload_n 1, 1) := by decide +kernel
theorem dL_law_751 : decode cL_law 751 = .ok (.iconst 0, 1) := by decide +kernel
theorem dL_law_752 : decode cL_law 752 = .ok (.invokestatic 323, 3) := by decide +kernel
theorem dL_law_755 : decode cL_law 755 = .ok (.sipush (-7200), 3) := by decide +kernel
theorem dL_law_758 : decode cL_law 758 = .ok (.if_icmp .ne 31, 3) := by decide +kernel
theorem dL_law_761 : decode cL_law 761 = .ok (.aload_n 1, 1) := by decide +kernel
theorem dL_law_762 : decode cL_law 762 = .ok (.iconst 3, 1) := by decide +kernel
theorem dL_law_763 : decode cL_law 763 = .ok (.invokestatic 323, 3) := by decide +kernel
theorem dL_law_766 : decode cL_law 766 = .ok (.sipush (-7200), 3) := by decide +kernel
theorem dL_law_769 : decode cL_law 769 = .ok (.if_icmp .ne 20, 3) := by decide +kernel
theorem dL_law_772 : decode cL_law 772 = .ok (.aload_n 1, 1) := by decide +kernel
theorem dL_law_773 : decode cL_law 773 = .ok (.aload 6, 2) := by decide +kernel
theorem dL_law_775 : decode cL_law 775 = .ok (.iconst 2, 1) := by decide +kernel
theorem dL_law_776 : decode cL_law 776 = .ok (.iaload, 1) := by decide +kernel
theorem dL_law_777 : decode cL_law 777 = .ok (.invokestatic 323, 3) := by decide +kernel
theorem dL_law_780 : decode cL_law 780 = .ok (.iload 20, 2) := by decide +kernel
theorem dL_law_782 : decode cL_law 782 = .ok (.if_icmp .ne 7, 3) := by decide +kernel
theorem dL_law_785 : decode cL_law 785 = .ok (.iconst 1, 1) := by decide +kernel
theorem dL_law_786 : decode cL_law 786 = .ok (.goto 4, 3) := by decide +kernel
theorem dL_law_789 : decode cL_law 789 = .ok (.iconst 0, 1) := by decide +kernel
theorem dL_law_790 : decode cL_law 790 = .ok (.istore 19, 2) := by decide +kernel
theorem dL_law_792 : decode cL_law 792 = .ok (.goto 468, 3) := by decide +kernel
theorem dL_law_795 : decode cL_law 795 = .ok (.iload 16, 2) := by decide +kernel
theorem dL_law_797 : decode cL_law 797 = .ok (.bipush 23, 2) := by decide +kernel
theorem dL_law_799 : decode cL_law 799 = .ok (.if_icmp .ge 186, 3) := by decide +kernel
theorem dL_law_802 : decode cL_law 802 = .ok (.aload 6, 2) := by decide +kernel
theorem dL_law_804 : decode cL_law 804 = .ok (.iconst 1, 1) := by decide +kernel
theorem dL_law_805 : decode cL_law 805 = .ok (.iaload, 1) := by decide +kernel
theorem dL_law_806 : decode cL_law 806 = .ok (.ifCond .le 179, 3) := by decide +kernel
theorem dL_law_809 : decode cL_law 809 = .ok (.iload 17, 2) := by decide +kernel
theorem dL_law_811 : decode cL_law 811 = .ok (.aload 6, 2) := by decide +kernel
theorem dL_law_813 : decode cL_law 813 = .ok (.iconst 1, 1) := by decide +kernel
theorem dL_law_814 : decode cL_law 814 = .ok (.iaload, 1) := by decide +kernel
theorem dL_law_815 : decode cL_law 815 = .ok (.invokestatic 229, 3) := by decide +kernel
theorem dL_law_818 : decode cL_law 818 = .ok (.istore 20, 2) := by decide +kernel
theorem dL_law_820 : decode cL_law 820 = .ok (.iload 20, 2) := by decide +kernel
theorem dL_law_822 : decode cL_law 822 = .ok (.iload 17, 2) := by decide +kernel
theorem dL_law_824 : decode cL_law 824 = .ok (.iconst 5, 1) := by decide +kernel
theorem dL_law_825 : decode cL_law 825 = .ok (.ishr, 1) := by decide +kernel
theorem dL_law_826 : decode cL_law 826 = .ok (.aload 6, 2) := by decide +kernel
theorem dL_law_828 : decode cL_law 828 = .ok (.iconst 1, 1) := by decide +kernel
theorem dL_law_829 : decode cL_law 829 = .ok (.iaload, 1) := by decide +kernel
theorem dL_law_830 : decode cL_law 830 = .ok (.iload 20, 2) := by decide +kernel
theorem dL_law_832 : decode cL_law 832 = .ok (.isub, 1) := by decide +kernel
theorem dL_law_833 : decode cL_law 833 = .ok (.invokestatic 229, 3) := by decide +kernel
theorem dL_law_836 : decode cL_law 836 = .ok (.iadd, 1) := by decide +kernel
theorem dL_law_837 : decode cL_law 837 = .ok (.istore 21, 2) := by decide +kernel
theorem dL_law_839 : decode cL_law 839 = .ok (.iload 18, 2) := by decide +kernel
theorem dL_law_841 : decode cL_law 841 = .ok (.iconst 4, 1) := by decide +kernel
theorem dL_law_842 : decode cL_law 842 = .ok (.invokestatic 229, 3) := by decide +kernel
theorem dL_law_845 : decode cL_law 845 = .ok (.istore 22, 2) := by decide +kernel
theorem dL_law_847 : decode cL_law 847 = .ok (.iconst 0, 1) := by decide +kernel
theorem dL_law_848 : decode cL_law 848 = .ok (.istore 23, 2) := by decide +kernel
theorem dL_law_850 : decode cL_law 850 = .ok (.iload 20, 2) := by decide +kernel
theorem dL_law_852 : decode cL_law 852 = .ok (.istore 24, 2) := by decide +kernel
theorem dL_law_854 : decode cL_law 854 = .ok (.iload 24, 2) := by decide +kernel
theorem dL_law_856 : decode cL_law 856 = .ok (.iload 21, 2) := by decide +kernel
theorem dL_law_858 : decode cL_law 858 = .ok (.if_icmp .gt 48, 3) := by decide +kernel
theorem dL_law_861 : decode cL_law 861 = .ok (.iload 23, 2) := by decide +kernel
theorem dL_law_863 : decode cL_law 863 = .ok (.aload_n 2, 1) := by decide +kernel
theorem dL_law_864 : decode cL_law 864 = .ok (.iload 24, 2) := by decide +kernel
theorem dL_law_866 : decode cL_law 866 = .ok (.iaload, 1) := by decide +kernel
theorem dL_law_867 : decode cL_law 867 = .ok (.bipush 6, 2) := by decide +kernel
theorem dL_law_869 : decode cL_law 869 = .ok (.ishr, 1) := by decide +kernel
theorem dL_law_870 : decode cL_law 870 = .ok (.iload 22, 2) := by decide +kernel
theorem dL_law_872 : decode cL_law 872 = .ok (.if_icmp .ne 7, 3) := by decide +kernel
theorem dL_law_875 : decode cL_law 875 = .ok (.iconst 0, 1) := by decide +kernel
theorem dL_law_876 : decode cL_law 876 = .ok (.goto 4, 3) := by decide +kernel
theorem dL_law_879 : decode cL_law 879 = .ok (.iconst 1, 1) := by decide +kernel
theorem dL_law_880 : decode cL_law 880 = .ok (.iadd, 1) := by decide +kernel
theorem dL_law_881 : decode cL_law 881 = .ok (.istore 23, 2) := by decide +kernel
theorem dL_law_883 : decode cL_law 883 = .ok (.aload_n 2, 1) := by decide +kernel
theorem dL_law_884 : decode cL_law 884 = .ok (.iload 24, 2) := by decide +kernel
theorem dL_law_886 : decode cL_law 886 = .ok (.aload_n 2, 1) := by decide +kernel
theorem dL_law_887 : decode cL_law 887 = .ok (.iload 24, 2) := by decide +kernel
theorem dL_law_889 : decode cL_law 889 = .ok (.iaload, 1) := by decide +kernel
theorem dL_law_890 : decode cL_law 890 = .ok (.bipush 63, 2) := by decide +kernel
theorem dL_law_892 : decode cL_law 892 = .ok (.iand, 1) := by decide +kernel
theorem dL_law_893 : decode cL_law 893 = .ok (.iload 22, 2) := by decide +kernel
theorem dL_law_895 : decode cL_law 895 = .ok (.bipush 6, 2) := by decide +kernel
theorem dL_law_897 : decode cL_law 897 = .ok (.ishl, 1) := by decide +kernel
theorem dL_law_898 : decode cL_law 898 = .ok (.ior, 1) := by decide +kernel
theorem dL_law_899 : decode cL_law 899 = .ok (.iastore, 1) := by decide +kernel
theorem dL_law_900 : decode cL_law 900 = .ok (.iinc 24 1, 3) := by decide +kernel
theorem dL_law_903 : decode cL_law 903 = .ok (.goto (-49), 3) := by decide +kernel
theorem dL_law_906 : decode cL_law 906 = .ok (.aload_n 1, 1) := by decide +kernel
theorem dL_law_907 : decode cL_law 907 = .ok (.iload 20, 2) := by decide +kernel
theorem dL_law_909 : decode cL_law 909 = .ok (.iload 21, 2) := by decide +kernel
theorem dL_law_911 : decode cL_law 911 = .ok (.iconst 4, 1) := by decide +kernel
theorem dL_law_912 : decode cL_law 912 = .ok (.invokestatic 325, 3) := by decide +kernel
theorem dL_law_915 : decode cL_law 915 = .ok (.sipush (-7200), 3) := by decide +kernel
theorem dL_law_918 : decode cL_law 918 = .ok (.if_icmp .ne 61, 3) := by decide +kernel
theorem dL_law_921 : decode cL_law 921 = .ok (.aload_n 1, 1) := by decide +kernel
theorem dL_law_922 : decode cL_law 922 = .ok (.iload 20, 2) := by decide +kernel
theorem dL_law_924 : decode cL_law 924 = .ok (.aload 6, 2) := by decide +kernel
theorem dL_law_926 : decode cL_law 926 = .ok (.iconst 1, 1) := by decide +kernel
theorem dL_law_927 : decode cL_law 927 = .ok (.iaload, 1) := by decide +kernel
theorem dL_law_928 : decode cL_law 928 = .ok (.iconst 0, 1) := by decide +kernel
theorem dL_law_929 : decode cL_law 929 = .ok (.invokestatic 325, 3) := by decide +kernel
theorem dL_law_932 : decode cL_law 932 = .ok (.sipush (-7100), 3) := by decide +kernel
theorem dL_law_935 : decode cL_law 935 = .ok (.if_icmp .ne 44, 3) := by decide +kernel
theorem dL_law_938 : decode cL_law 938 = .ok (.iload 20, 2) := by decide +kernel
theorem dL_law_940 : decode cL_law 940 = .ok (.ifCond .eq 20, 3) := by decide +kernel
theorem dL_law_943 : decode cL_law 943 = .ok (.aload_n 1, 1) := by decide +kernel
theorem dL_law_944 : decode cL_law 944 = .ok (.iload 20, 2) := by decide +kernel
theorem dL_law_946 : decode cL_law 946 = .ok (.iload 20, 2) := by decide +kernel
theorem dL_law_948 : decode cL_law 948 = .ok (.iconst 1, 1) := by decide +kernel
theorem dL_law_949 : decode cL_law 949 = .ok (.isub, 1) := by decide +kernel
theorem dL_law_950 : decode cL_law 950 = .ok (.iconst 4, 1) := by decide +kernel
theorem dL_law_951 : decode cL_law 951 = .ok (.invokestatic 325, 3) := by decide +kernel
theorem dL_law_954 : decode cL_law 954 = .ok (.sipush (-7100), 3) := by decide +kernel
theorem dL_law_957 : decode cL_law 957 = .ok (.if_icmp .ne 22, 3) := by decide +kernel
theorem dL_law_960 : decode cL_law 960 = .ok (.aload_n 1, 1) := by decide +kernel
theorem dL_law_961 : decode cL_law 961 = .ok (.iload 20, 2) := by decide +kernel
theorem dL_law_963 : decode cL_law 963 = .ok (.iload 21, 2) := by decide +kernel
theorem dL_law_965 : decode cL_law 965 = .ok (.iload 22, 2) := by decide +kernel
theorem dL_law_967 : decode cL_law 967 = .ok (.invokestatic 325, 3) := by decide +kernel
theorem dL_law_970 : decode cL_law 970 = .ok (.iload 23, 2) := by decide +kernel
theorem dL_law_972 : decode cL_law 972 = .ok (.if_icmp .ne 7, 3) := by decide +kernel
theorem dL_law_975 : decode cL_law 975 = .ok (.iconst 1, 1) := by decide +kernel
theorem dL_law_976 : decode cL_law 976 = .ok (.goto 4, 3) := by decide +kernel
theorem dL_law_979 : decode cL_law 979 = .ok (.iconst 0, 1) := by decide +kernel
theorem dL_law_980 : decode cL_law 980 = .ok (.istore 19, 2) := by decide +kernel
theorem dL_law_982 : decode cL_law 982 = .ok (.goto 278, 3) := by decide +kernel
theorem dL_law_985 : decode cL_law 985 = .ok (.iload 16, 2) := by decide +kernel
theorem dL_law_987 : decode cL_law 987 = .ok (.bipush 23, 2) := by decide +kernel
theorem dL_law_989 : decode cL_law 989 = .ok (.if_icmp .ne 10, 3) := by decide +kernel
theorem dL_law_992 : decode cL_law 992 = .ok (.aload 6, 2) := by decide +kernel
theorem dL_law_994 : decode cL_law 994 = .ok (.iconst 1, 1) := by decide +kernel
theorem dL_law_995 : decode cL_law 995 = .ok (.iaload, 1) := by decide +kernel
theorem dL_law_996 : decode cL_law 996 = .ok (.ifCond .gt 12, 3) := by decide +kernel
theorem dL_law_999 : decode cL_law 999 = .ok (.aload 6, 2) := by decide +kernel
theorem dL_law_1001 : decode cL_law 1001 = .ok (.iconst 1, 1) := by decide +kernel
theorem dL_law_1002 : decode cL_law 1002 = .ok (.iaload, 1) := by decide +kernel
theorem dL_law_1003 : decode cL_law 1003 = .ok (.bipush 10, 2) := by decide +kernel
theorem dL_law_1005 : decode cL_law 1005 = .ok (.if_icmp .ne 108, 3) := by decide +kernel
theorem dL_law_1008 : decode cL_law 1008 = .ok (.iload 17, 2) := by decide +kernel
theorem dL_law_1010 : decode cL_law 1010 = .ok (.aload 6, 2) := by decide +kernel
theorem dL_law_1012 : decode cL_law 1012 = .ok (.iconst 1, 1) := by decide +kernel
theorem dL_law_1013 : decode cL_law 1013 = .ok (.iaload, 1) := by decide +kernel
theorem dL_law_1014 : decode cL_law 1014 = .ok (.invokestatic 229, 3) := by decide +kernel
theorem dL_law_1017 : decode cL_law 1017 = .ok (.istore 20, 2) := by decide +kernel
theorem dL_law_1019 : decode cL_law 1019 = .ok (.aload_n 2, 1) := by decide +kernel
theorem dL_law_1020 : decode cL_law 1020 = .ok (.iload 20, 2) := by decide +kernel
theorem dL_law_1022 : decode cL_law 1022 = .ok (.iaload, 1) := by decide +kernel
theorem dL_law_1023 : decode cL_law 1023 = .ok (.bipush 63, 2) := by decide +kernel
theorem dL_law_1025 : decode cL_law 1025 = .ok (.iand, 1) := by decide +kernel
theorem dL_law_1026 : decode cL_law 1026 = .ok (.istore 21, 2) := by decide +kernel
theorem dL_law_1028 : decode cL_law 1028 = .ok (.aload 6, 2) := by decide +kernel
theorem dL_law_1030 : decode cL_law 1030 = .ok (.iconst 1, 1) := by decide +kernel
theorem dL_law_1031 : decode cL_law 1031 = .ok (.dup2, 1) := by decide +kernel
theorem dL_law_1032 : decode cL_law 1032 = .ok (.iaload, 1) := by decide +kernel
theorem dL_law_1033 : decode cL_law 1033 = .ok (.iconst 1, 1) := by decide +kernel
theorem dL_law_1034 : decode cL_law 1034 = .ok (.isub, 1) := by decide +kernel
theorem dL_law_1035 : decode cL_law 1035 = .ok (.iastore, 1) := by decide +kernel
theorem dL_law_1036 : decode cL_law 1036 = .ok (.iload 20, 2) := by decide +kernel
theorem dL_law_1038 : decode cL_law 1038 = .ok (.istore 22, 2) := by decide +kernel
theorem dL_law_1040 : decode cL_law 1040 = .ok (.iload 22, 2) := by decide +kernel
theorem dL_law_1042 : decode cL_law 1042 = .ok (.aload 6, 2) := by decide +kernel
theorem dL_law_1044 : decode cL_law 1044 = .ok (.iconst 1, 1) := by decide +kernel
theorem dL_law_1045 : decode cL_law 1045 = .ok (.iaload, 1) := by decide +kernel
theorem dL_law_1046 : decode cL_law 1046 = .ok (.if_icmp .ge 19, 3) := by decide +kernel
theorem dL_law_1049 : decode cL_law 1049 = .ok (.aload_n 2, 1) := by decide +kernel
theorem dL_law_1050 : decode cL_law 1050 = .ok (.iload 22, 2) := by decide +kernel
theorem dL_law_1052 : decode cL_law 1052 = .ok (.aload_n 2, 1) := by decide +kernel
theorem dL_law_1053 : decode cL_law 1053 = .ok (.iload 22, 2) := by decide +kernel
theorem dL_law_1055 : decode cL_law 1055 = .ok (.iconst 1, 1) := by decide +kernel
theorem dL_law_1056 : decode cL_law 1056 = .ok (.iadd, 1) := by decide +kernel
theorem dL_law_1057 : decode cL_law 1057 = .ok (.iaload, 1) := by decide +kernel
theorem dL_law_1058 : decode cL_law 1058 = .ok (.iastore, 1) := by decide +kernel
theorem dL_law_1059 : decode cL_law 1059 = .ok (.iinc 22 1, 3) := by decide +kernel
theorem dL_law_1062 : decode cL_law 1062 = .ok (.goto (-22), 3) := by decide +kernel
theorem dL_law_1065 : decode cL_law 1065 = .ok (.aload_n 1, 1) := by decide +kernel
theorem dL_law_1066 : decode cL_law 1066 = .ok (.aload 6, 2) := by decide +kernel
theorem dL_law_1068 : decode cL_law 1068 = .ok (.iconst 1, 1) := by decide +kernel
theorem dL_law_1069 : decode cL_law 1069 = .ok (.iaload, 1) := by decide +kernel
theorem dL_law_1070 : decode cL_law 1070 = .ok (.iconst 1, 1) := by decide +kernel
theorem dL_law_1071 : decode cL_law 1071 = .ok (.iadd, 1) := by decide +kernel
theorem dL_law_1072 : decode cL_law 1072 = .ok (.invokestatic 328, 3) := by decide +kernel
theorem dL_law_1075 : decode cL_law 1075 = .ok (.sipush (-7100), 3) := by decide +kernel
theorem dL_law_1078 : decode cL_law 1078 = .ok (.if_icmp .ne 29, 3) := by decide +kernel
theorem dL_law_1081 : decode cL_law 1081 = .ok (.aload_n 1, 1) := by decide +kernel
theorem dL_law_1082 : decode cL_law 1082 = .ok (.iconst (-1), 1) := by decide +kernel
theorem dL_law_1083 : decode cL_law 1083 = .ok (.invokestatic 328, 3) := by decide +kernel
theorem dL_law_1086 : decode cL_law 1086 = .ok (.sipush (-7100), 3) := by decide +kernel
theorem dL_law_1089 : decode cL_law 1089 = .ok (.if_icmp .ne 18, 3) := by decide +kernel
theorem dL_law_1092 : decode cL_law 1092 = .ok (.aload_n 1, 1) := by decide +kernel
theorem dL_law_1093 : decode cL_law 1093 = .ok (.iload 20, 2) := by decide +kernel
theorem dL_law_1095 : decode cL_law 1095 = .ok (.invokestatic 328, 3) := by decide +kernel
theorem dL_law_1098 : decode cL_law 1098 = .ok (.iload 21, 2) := by decide +kernel
theorem dL_law_1100 : decode cL_law 1100 = .ok (.if_icmp .ne 7, 3) := by decide +kernel
theorem dL_law_1103 : decode cL_law 1103 = .ok (.iconst 1, 1) := by decide +kernel
theorem dL_law_1104 : decode cL_law 1104 = .ok (.goto 4, 3) := by decide +kernel
theorem dL_law_1107 : decode cL_law 1107 = .ok (.iconst 0, 1) := by decide +kernel
theorem dL_law_1108 : decode cL_law 1108 = .ok (.istore 19, 2) := by decide +kernel
theorem dL_law_1110 : decode cL_law 1110 = .ok (.goto 150, 3) := by decide +kernel
theorem dL_law_1113 : decode cL_law 1113 = .ok (.iload 17, 2) := by decide +kernel
theorem dL_law_1115 : decode cL_law 1115 = .ok (.aload 6, 2) := by decide +kernel
theorem dL_law_1117 : decode cL_law 1117 = .ok (.iconst 1, 1) := by decide +kernel
theorem dL_law_1118 : decode cL_law 1118 = .ok (.iaload, 1) := by decide +kernel
theorem dL_law_1119 : decode cL_law 1119 = .ok (.iconst 1, 1) := by decide +kernel
theorem dL_law_1120 : decode cL_law 1120 = .ok (.iadd, 1) := by decide +kernel
theorem dL_law_1121 : decode cL_law 1121 = .ok (.invokestatic 229, 3) := by decide +kernel
theorem dL_law_1124 : decode cL_law 1124 = .ok (.istore 20, 2) := by decide +kernel
theorem dL_law_1126 : decode cL_law 1126 = .ok (.iload 18, 2) := by decide +kernel
theorem dL_law_1128 : decode cL_law 1128 = .ok (.invokestatic 276, 3) := by decide +kernel
theorem dL_law_1131 : decode cL_law 1131 = .ok (.istore 21, 2) := by decide +kernel
theorem dL_law_1133 : decode cL_law 1133 = .ok (.aload_n 1, 1) := by decide +kernel
theorem dL_law_1134 : decode cL_law 1134 = .ok (.aload 6, 2) := by decide +kernel
theorem dL_law_1136 : decode cL_law 1136 = .ok (.iconst 1, 1) := by decide +kernel
theorem dL_law_1137 : decode cL_law 1137 = .ok (.iaload, 1) := by decide +kernel
theorem dL_law_1138 : decode cL_law 1138 = .ok (.iconst 1, 1) := by decide +kernel
theorem dL_law_1139 : decode cL_law 1139 = .ok (.iadd, 1) := by decide +kernel
theorem dL_law_1140 : decode cL_law 1140 = .ok (.bipush 24, 2) := by decide +kernel
theorem dL_law_1142 : decode cL_law 1142 = .ok (.invokestatic 330, 3) := by decide +kernel
theorem dL_law_1145 : decode cL_law 1145 = .ok (.sipush (-7100), 3) := by decide +kernel
theorem dL_law_1148 : decode cL_law 1148 = .ok (.if_icmp .ne 45, 3) := by decide +kernel
theorem dL_law_1151 : decode cL_law 1151 = .ok (.aload_n 1, 1) := by decide +kernel
theorem dL_law_1152 : decode cL_law 1152 = .ok (.iload 20, 2) := by decide +kernel
theorem dL_law_1154 : decode cL_law 1154 = .ok (.bipush 24, 2) := by decide +kernel
theorem dL_law_1156 : decode cL_law 1156 = .ok (.invokestatic 330, 3) := by decide +kernel
theorem dL_law_1159 : decode cL_law 1159 = .ok (.sipush (-7200), 3) := by decide +kernel
theorem dL_law_1162 : decode cL_law 1162 = .ok (.if_icmp .ne 31, 3) := by decide +kernel
theorem dL_law_1165 : decode cL_law 1165 = .ok (.aload_n 1, 1) := by decide +kernel
theorem dL_law_1166 : decode cL_law 1166 = .ok (.iload 20, 2) := by decide +kernel
theorem dL_law_1168 : decode cL_law 1168 = .ok (.bipush 29, 2) := by decide +kernel
theorem dL_law_1170 : decode cL_law 1170 = .ok (.invokestatic 330, 3) := by decide +kernel
theorem dL_law_1173 : decode cL_law 1173 = .ok (.sipush (-7200), 3) := by decide +kernel
theorem dL_law_1176 : decode cL_law 1176 = .ok (.if_icmp .ne 17, 3) := by decide +kernel
theorem dL_law_1179 : decode cL_law 1179 = .ok (.aload_n 1, 1) := by decide +kernel
theorem dL_law_1180 : decode cL_law 1180 = .ok (.iload 20, 2) := by decide +kernel
theorem dL_law_1182 : decode cL_law 1182 = .ok (.bipush 45, 2) := by decide +kernel
theorem dL_law_1184 : decode cL_law 1184 = .ok (.invokestatic 330, 3) := by decide +kernel
theorem dL_law_1187 : decode cL_law 1187 = .ok (.sipush (-7200), 3) := by decide +kernel
theorem dL_law_1190 : decode cL_law 1190 = .ok (.if_icmp .eq 5, 3) := by decide +kernel
theorem dL_law_1193 : decode cL_law 1193 = .ok (.iconst 0, 1) := by decide +kernel
theorem dL_law_1194 : decode cL_law 1194 = .ok (.ireturn, 1) := by decide +kernel
theorem dL_law_1195 : decode cL_law 1195 = .ok (.aload 6, 2) := by decide +kernel
theorem dL_law_1197 : decode cL_law 1197 = .ok (.iconst 1, 1) := by decide +kernel
theorem dL_law_1198 : decode cL_law 1198 = .ok (.iaload, 1) := by decide +kernel
theorem dL_law_1199 : decode cL_law 1199 = .ok (.istore 22, 2) := by decide +kernel
theorem dL_law_1201 : decode cL_law 1201 = .ok (.iload 22, 2) := by decide +kernel
theorem dL_law_1203 : decode cL_law 1203 = .ok (.iload 20, 2) := by decide +kernel
theorem dL_law_1205 : decode cL_law 1205 = .ok (.if_icmp .le 19, 3) := by decide +kernel
theorem dL_law_1208 : decode cL_law 1208 = .ok (.aload_n 2, 1) := by decide +kernel
theorem dL_law_1209 : decode cL_law 1209 = .ok (.iload 22, 2) := by decide +kernel
theorem dL_law_1211 : decode cL_law 1211 = .ok (.aload_n 2, 1) := by decide +kernel
theorem dL_law_1212 : decode cL_law 1212 = .ok (.iload 22, 2) := by decide +kernel
theorem dL_law_1214 : decode cL_law 1214 = .ok (.iconst 1, 1) := by decide +kernel
theorem dL_law_1215 : decode cL_law 1215 = .ok (.isub, 1) := by decide +kernel
theorem dL_law_1216 : decode cL_law 1216 = .ok (.iaload, 1) := by decide +kernel
theorem dL_law_1217 : decode cL_law 1217 = .ok (.iastore, 1) := by decide +kernel
theorem dL_law_1218 : decode cL_law 1218 = .ok (.iinc 22 (-1), 3) := by decide +kernel
theorem dL_law_1221 : decode cL_law 1221 = .ok (.goto (-20), 3) := by decide +kernel
theorem dL_law_1224 : decode cL_law 1224 = .ok (.aload_n 2, 1) := by decide +kernel
theorem dL_law_1225 : decode cL_law 1225 = .ok (.iload 20, 2) := by decide +kernel
theorem dL_law_1227 : decode cL_law 1227 = .ok (.iload 21, 2) := by decide +kernel
theorem dL_law_1229 : decode cL_law 1229 = .ok (.iastore, 1) := by decide +kernel
theorem dL_law_1230 : decode cL_law 1230 = .ok (.aload 6, 2) := by decide +kernel
theorem dL_law_1232 : decode cL_law 1232 = .ok (.iconst 1, 1) := by decide +kernel
theorem dL_law_1233 : decode cL_law 1233 = .ok (.dup2, 1) := by decide +kernel
theorem dL_law_1234 : decode cL_law 1234 = .ok (.iaload, 1) := by decide +kernel
theorem dL_law_1235 : decode cL_law 1235 = .ok (.iconst 1, 1) := by decide +kernel
theorem dL_law_1236 : decode cL_law 1236 = .ok (.iadd, 1) := by decide +kernel
theorem dL_law_1237 : decode cL_law 1237 = .ok (.iastore, 1) := by decide +kernel
theorem dL_law_1238 : decode cL_law 1238 = .ok (.aload_n 1, 1) := by decide +kernel
theorem dL_law_1239 : decode cL_law 1239 = .ok (.iload 20, 2) := by decide +kernel
theorem dL_law_1241 : decode cL_law 1241 = .ok (.iload 21, 2) := by decide +kernel
theorem dL_law_1243 : decode cL_law 1243 = .ok (.invokestatic 330, 3) := by decide +kernel
theorem dL_law_1246 : decode cL_law 1246 = .ok (.aload 6, 2) := by decide +kernel
theorem dL_law_1248 : decode cL_law 1248 = .ok (.iconst 1, 1) := by decide +kernel
theorem dL_law_1249 : decode cL_law 1249 = .ok (.iaload, 1) := by decide +kernel
theorem dL_law_1250 : decode cL_law 1250 = .ok (.if_icmp .ne 7, 3) := by decide +kernel
theorem dL_law_1253 : decode cL_law 1253 = .ok (.iconst 1, 1) := by decide +kernel
theorem dL_law_1254 : decode cL_law 1254 = .ok (.goto 4, 3) := by decide +kernel
theorem dL_law_1257 : decode cL_law 1257 = .ok (.iconst 0, 1) := by decide +kernel
theorem dL_law_1258 : decode cL_law 1258 = .ok (.istore 19, 2) := by decide +kernel
theorem dL_law_1260 : decode cL_law 1260 = .ok (.iload 19, 2) := by decide +kernel
theorem dL_law_1262 : decode cL_law 1262 = .ok (.ifCond .eq 37, 3) := by decide +kernel
theorem dL_law_1265 : decode cL_law 1265 = .ok (.aload_n 1, 1) := by decide +kernel
theorem dL_law_1266 : decode cL_law 1266 = .ok (.iload 18, 2) := by decide +kernel
theorem dL_law_1268 : decode cL_law 1268 = .ok (.iload 17, 2) := by decide +kernel
theorem dL_law_1270 : decode cL_law 1270 = .ok (.ixor, 1) := by decide +kernel
theorem dL_law_1271 : decode cL_law 1271 = .ok (.aload_n 2, 1) := by decide +kernel
theorem dL_law_1272 : decode cL_law 1272 = .ok (.aload_n 3, 1) := by decide +kernel
theorem dL_law_1273 : decode cL_law 1273 = .ok (.aload 4, 2) := by decide +kernel
theorem dL_law_1275 : decode cL_law 1275 = .ok (.aload 5, 2) := by decide +kernel
theorem dL_law_1277 : decode cL_law 1277 = .ok (.aload 6, 2) := by decide +kernel
theorem dL_law_1279 : decode cL_law 1279 = .ok (.lload 13, 2) := by decide +kernel
theorem dL_law_1281 : decode cL_law 1281 = .ok (.aload 7, 2) := by decide +kernel
theorem dL_law_1283 : decode cL_law 1283 = .ok (.aload 8, 2) := by decide +kernel
theorem dL_law_1285 : decode cL_law 1285 = .ok (.aload 9, 2) := by decide +kernel
theorem dL_law_1287 : decode cL_law 1287 = .ok (.aload 10, 2) := by decide +kernel
theorem dL_law_1289 : decode cL_law 1289 = .ok (.aload 11, 2) := by decide +kernel
theorem dL_law_1291 : decode cL_law 1291 = .ok (.aload 12, 2) := by decide +kernel
theorem dL_law_1293 : decode cL_law 1293 = .ok (.invokestatic 332, 3) := by decide +kernel
