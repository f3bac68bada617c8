theorem dL_isRowSo_219 : decode cL_isRowSo 219 = .ok (.iload_n 1, 1) := by decide +kernel
theorem dL_isRowSo_220 : decode cL_isRowSo 220 = .ok (.iload 4, 2) := by decide +kernel
theorem dL_isRowSo_222 : decode cL_isRowSo 222 = .ok (.invokevirtual 77, 3) := by decide +kernel
theorem dL_isRowSo_225 : decode cL_isRowSo 225 = .ok (.iadd, 1) := by decide +kernel
theorem dL_isRowSo_226 : decode cL_isRowSo 226 = .ok (.bipush 12, 2) := by decide +kernel
theorem dL_isRowSo_228 : decode cL_isRowSo 228 = .ok (.irem, 1) := by decide +kernel
theorem dL_isRowSo_229 : decode cL_isRowSo 229 = .ok (.aload_n 0, 1) := by decide +kernel
theorem dL_isRowSo_230 : decode cL_isRowSo 230 = .ok (.iload_n 1, 1) := by decide +kernel
theorem dL_isRowSo_231 : decode cL_isRowSo 231 = .ok (.iload 4, 2) := by decide +kernel
theorem dL_isRowSo_233 : decode cL_isRowSo 233 = .ok (.iconst 1, 1) := by decide +kernel
theorem dL_isRowSo_234 : decode cL_isRowSo 234 = .ok (.iadd, 1) := by decide +kernel
theorem dL_isRowSo_235 : decode cL_isRowSo 235 = .ok (.invokevirtual 68, 3) := by decide +kernel
theorem dL_isRowSo_238 : decode cL_isRowSo 238 = .ok (.if_icmp .ne 7, 3) := by decide +kernel
theorem dL_isRowSo_241 : decode cL_isRowSo 241 = .ok (.iconst 1, 1) := by decide +kernel
theorem dL_isRowSo_242 : decode cL_isRowSo 242 = .ok (.goto 4, 3) := by decide +kernel
theorem dL_isRowSo_245 : decode cL_isRowSo 245 = .ok (.iconst 0, 1) := by decide +kernel
theorem dL_isRowSo_246 : decode cL_isRowSo 246 = .ok (.istore 8, 2) := by decide +kernel
theorem dL_isRowSo_248 : decode cL_isRowSo 248 = .ok (.iload 8, 2) := by decide +kernel
theorem dL_isRowSo_250 : decode cL_isRowSo 250 = .ok (.ifCond .eq 17, 3) := by decide +kernel
theorem dL_isRowSo_253 : decode cL_isRowSo 253 = .ok (.aload_n 0, 1) := by decide +kernel
theorem dL_isRowSo_254 : decode cL_isRowSo 254 = .ok (.iload_n 1, 1) := by decide +kernel
theorem dL_isRowSo_255 : decode cL_isRowSo 255 = .ok (.iconst 0, 1) := by decide +kernel
theorem dL_isRowSo_256 : decode cL_isRowSo 256 = .ok (.iload 4, 2) := by decide +kernel
theorem dL_isRowSo_258 : decode cL_isRowSo 258 = .ok (.iconst 1, 1) := by decide +kernel
theorem dL_isRowSo_259 : decode cL_isRowSo 259 = .ok (.iadd, 1) := by decide +kernel
theorem dL_isRowSo_260 : decode cL_isRowSo 260 = .ok (.invokevirtual 80, 3) := by decide +kernel
theorem dL_isRowSo_263 : decode cL_isRowSo 263 = .ok (.iload_n 3, 1) := by decide +kernel
theorem dL_isRowSo_264 : decode cL_isRowSo 264 = .ok (.if_icmp .eq 5, 3) := by decide +kernel
theorem dL_isRowSo_267 : decode cL_isRowSo 267 = .ok (.iconst 0, 1) := by decide +kernel
theorem dL_isRowSo_268 : decode cL_isRowSo 268 = .ok (.ireturn, 1) := by decide +kernel
theorem dL_isRowSo_269 : decode cL_isRowSo 269 = .ok (.iinc 4 1, 3) := by decide +kernel
theorem dL_isRowSo_272 : decode cL_isRowSo 272 = .ok (.goto (-267), 3) := by decide +kernel
theorem dL_isRowSo_275 : decode cL_isRowSo 275 = .ok (.aload_n 0, 1) := by decide +kernel
theorem dL_isRowSo_276 : decode cL_isRowSo 276 = .ok (.iload_n 1, 1) := by decide +kernel
theorem dL_isRowSo_277 : decode cL_isRowSo 277 = .ok (.invokevirtual 83, 3) := by decide +kernel
theorem dL_isRowSo_280 : decode cL_isRowSo 280 = .ok (.istore 4, 2) := by decide +kernel
theorem dL_isRowSo_282 : decode cL_isRowSo 282 = .ok (.iload_n 3, 1) := by decide +kernel
theorem dL_isRowSo_283 : decode cL_isRowSo 283 = .ok (.sipush 4095, 3) := by decide +kernel
theorem dL_isRowSo_286 : decode cL_isRowSo 286 = .ok (.if_icmp .ne 59, 3) := by decide +kernel
theorem dL_isRowSo_289 : decode cL_isRowSo 289 = .ok (.iload 4, 2) := by decide +kernel
theorem dL_isRowSo_291 : decode cL_isRowSo 291 = .ok (.bipush 48, 2) := by decide +kernel
theorem dL_isRowSo_293 : decode cL_isRowSo 293 = .ok (.if_icmp .eq 10, 3) := by decide +kernel
theorem dL_isRowSo_296 : decode cL_isRowSo 296 = .ok (.iload 4, 2) := by decide +kernel
theorem dL_isRowSo_298 : decode cL_isRowSo 298 = .ok (.bipush 24, 2) := by decide +kernel
theorem dL_isRowSo_300 : decode cL_isRowSo 300 = .ok (.if_icmp .ne 45, 3) := by decide +kernel
theorem dL_isRowSo_303 : decode cL_isRowSo 303 = .ok (.aload_n 0, 1) := by decide +kernel
theorem dL_isRowSo_304 : decode cL_isRowSo 304 = .ok (.iload_n 1, 1) := by decide +kernel
theorem dL_isRowSo_305 : decode cL_isRowSo 305 = .ok (.iconst 1, 1) := by decide +kernel
theorem dL_isRowSo_306 : decode cL_isRowSo 306 = .ok (.invokevirtual 86, 3) := by decide +kernel
theorem dL_isRowSo_309 : decode cL_isRowSo 309 = .ok (.ifCond .eq 36, 3) := by decide +kernel
theorem dL_isRowSo_312 : decode cL_isRowSo 312 = .ok (.aload_n 0, 1) := by decide +kernel
theorem dL_isRowSo_313 : decode cL_isRowSo 313 = .ok (.iload_n 1, 1) := by decide +kernel
theorem dL_isRowSo_314 : decode cL_isRowSo 314 = .ok (.bipush 12, 2) := by decide +kernel
theorem dL_isRowSo_316 : decode cL_isRowSo 316 = .ok (.invokevirtual 86, 3) := by decide +kernel
theorem dL_isRowSo_319 : decode cL_isRowSo 319 = .ok (.ifCond .eq 26, 3) := by decide +kernel
theorem dL_isRowSo_322 : decode cL_isRowSo 322 = .ok (.aload_n 0, 1) := by decide +kernel
theorem dL_isRowSo_323 : decode cL_isRowSo 323 = .ok (.iload_n 1, 1) := by decide +kernel
theorem dL_isRowSo_324 : decode cL_isRowSo 324 = .ok (.invokevirtual 90, 3) := by decide +kernel
theorem dL_isRowSo_327 : decode cL_isRowSo 327 = .ok (.aload_n 0, 1) := by decide +kernel
theorem dL_isRowSo_328 : decode cL_isRowSo 328 = .ok (.iload_n 1, 1) := by decide +kernel
theorem dL_isRowSo_329 : decode cL_isRowSo 329 = .ok (.iconst 0, 1) := by decide +kernel
theorem dL_isRowSo_330 : decode cL_isRowSo 330 = .ok (.invokevirtual 68, 3) := by decide +kernel
theorem dL_isRowSo_333 : decode cL_isRowSo 333 = .ok (.lshr, 1) := by decide +kernel
theorem dL_isRowSo_334 : decode cL_isRowSo 334 = .ok (.lconst 1, 1) := by decide +kernel
theorem dL_isRowSo_335 : decode cL_isRowSo 335 = .ok (.land, 1) := by decide +kernel
theorem dL_isRowSo_336 : decode cL_isRowSo 336 = .ok (.lconst 0, 1) := by decide +kernel
theorem dL_isRowSo_337 : decode cL_isRowSo 337 = .ok (.lcmp, 1) := by decide +kernel
theorem dL_isRowSo_338 : decode cL_isRowSo 338 = .ok (.ifCond .ne 7, 3) := by decide +kernel
theorem dL_isRowSo_341 : decode cL_isRowSo 341 = .ok (.iconst 1, 1) := by decide +kernel
theorem dL_isRowSo_342 : decode cL_isRowSo 342 = .ok (.goto 4, 3) := by decide +kernel
theorem dL_isRowSo_345 : decode cL_isRowSo 345 = .ok (.iconst 0, 1) := by decide +kernel
theorem dL_isRowSo_346 : decode cL_isRowSo 346 = .ok (.ireturn, 1) := by decide +kernel
theorem dL_isSetSo_0 : decode cL_isSetSo 0 = .ok (.iload_n 1, 1) := by decide +kernel
theorem dL_isSetSo_1 : decode cL_isSetSo 1 = .ok (.iconst 1, 1) := by decide +kernel
theorem dL_isSetSo_2 : decode cL_isSetSo 2 = .ok (.ishl, 1) := by decide +kernel
theorem dL_isSetSo_3 : decode cL_isSetSo 3 = .ok (.iload_n 1, 1) := by decide +kernel
theorem dL_isSetSo_4 : decode cL_isSetSo 4 = .ok (.bipush 11, 2) := by decide +kernel
theorem dL_isSetSo_6 : decode cL_isSetSo 6 = .ok (.ishr, 1) := by decide +kernel
theorem dL_isSetSo_7 : decode cL_isSetSo 7 = .ok (.ior, 1) := by decide +kernel
theorem dL_isSetSo_8 : decode cL_isSetSo 8 = .ok (.sipush 4095, 3) := by decide +kernel
theorem dL_isSetSo_11 : decode cL_isSetSo 11 = .ok (.iand, 1) := by decide +kernel
theorem dL_isSetSo_12 : decode cL_isSetSo 12 = .ok (.istore_n 2, 1) := by decide +kernel
theorem dL_isSetSo_13 : decode cL_isSetSo 13 = .ok (.iconst 0, 1) := by decide +kernel
theorem dL_isSetSo_14 : decode cL_isSetSo 14 = .ok (.istore_n 3, 1) := by decide +kernel
theorem dL_isSetSo_15 : decode cL_isSetSo 15 = .ok (.iconst 0, 1) := by decide +kernel
theorem dL_isSetSo_16 : decode cL_isSetSo 16 = .ok (.istore 4, 2) := by decide +kernel
theorem dL_isSetSo_18 : decode cL_isSetSo 18 = .ok (.iconst 0, 1) := by decide +kernel
theorem dL_isSetSo_19 : decode cL_isSetSo 19 = .ok (.istore 5, 2) := by decide +kernel
theorem dL_isSetSo_21 : decode cL_isSetSo 21 = .ok (.iload 5, 2) := by decide +kernel
theorem dL_isSetSo_23 : decode cL_isSetSo 23 = .ok (.bipush 12, 2) := by decide +kernel
theorem dL_isSetSo_25 : decode cL_isSetSo 25 = .ok (.if_icmp .ge 18, 3) := by decide +kernel
theorem dL_isSetSo_28 : decode cL_isSetSo 28 = .ok (.iload_n 3, 1) := by decide +kernel
theorem dL_isSetSo_29 : decode cL_isSetSo 29 = .ok (.iload_n 1, 1) := by decide +kernel
theorem dL_isSetSo_30 : decode cL_isSetSo 30 = .ok (.iload 5, 2) := by decide +kernel
theorem dL_isSetSo_32 : decode cL_isSetSo 32 = .ok (.ishr, 1) := by decide +kernel
theorem dL_isSetSo_33 : decode cL_isSetSo 33 = .ok (.iconst 1, 1) := by decide +kernel
theorem dL_isSetSo_34 : decode cL_isSetSo 34 = .ok (.iand, 1) := by decide +kernel
theorem dL_isSetSo_35 : decode cL_isSetSo 35 = .ok (.iadd, 1) := by decide +kernel
theorem dL_isSetSo_36 : decode cL_isSetSo 36 = .ok (.istore_n 3, 1) := by decide +kernel
theorem dL_isSetSo_37 : decode cL_isSetSo 37 = .ok (.iinc 5 1, 3) := by decide +kernel
theorem dL_isSetSo_40 : decode cL_isSetSo 40 = .ok (.goto (-19), 3) := by decide +kernel
theorem dL_isSetSo_43 : decode cL_isSetSo 43 = .ok (.iconst 1, 1) := by decide +kernel
theorem dL_isSetSo_44 : decode cL_isSetSo 44 = .ok (.istore 5, 2) := by decide +kernel
theorem dL_isSetSo_46 : decode cL_isSetSo 46 = .ok (.iload 5, 2) := by decide +kernel
theorem dL_isSetSo_48 : decode cL_isSetSo 48 = .ok (.bipush 6, 2) := by decide +kernel
theorem dL_isSetSo_50 : decode cL_isSetSo 50 = .ok (.if_icmp .gt 69, 3) := by decide +kernel
theorem dL_isSetSo_53 : decode cL_isSetSo 53 = .ok (.iload 4, 2) := by decide +kernel
theorem dL_isSetSo_55 : decode cL_isSetSo 55 = .ok (.aload_n 0, 1) := by decide +kernel
theorem dL_isSetSo_56 : decode cL_isSetSo 56 = .ok (.iload_n 1, 1) := by decide +kernel
theorem dL_isSetSo_57 : decode cL_isSetSo 57 = .ok (.iload 5, 2) := by decide +kernel
theorem dL_isSetSo_59 : decode cL_isSetSo 59 = .ok (.invokevirtual 93, 3) := by decide +kernel
theorem dL_isSetSo_62 : decode cL_isSetSo 62 = .ok (.iadd, 1) := by decide +kernel
theorem dL_isSetSo_63 : decode cL_isSetSo 63 = .ok (.istore 4, 2) := by decide +kernel
theorem dL_isSetSo_65 : decode cL_isSetSo 65 = .ok (.bipush 12, 2) := by decide +kernel
theorem dL_isSetSo_67 : decode cL_isSetSo 67 = .ok (.iconst 2, 1) := by decide +kernel
theorem dL_isSetSo_68 : decode cL_isSetSo 68 = .ok (.iload_n 3, 1) := by decide +kernel
theorem dL_isSetSo_69 : decode cL_isSetSo 69 = .ok (.imul, 1) := by decide +kernel
theorem dL_isSetSo_70 : decode cL_isSetSo 70 = .ok (.isub, 1) := by decide +kernel
theorem dL_isSetSo_71 : decode cL_isSetSo 71 = .ok (.istore 6, 2) := by decide +kernel
theorem dL_isSetSo_73 : decode cL_isSetSo 73 = .ok (.aload_n 0, 1) := by decide +kernel
theorem dL_isSetSo_74 : decode cL_isSetSo 74 = .ok (.sipush 4095, 3) := by decide +kernel
theorem dL_isSetSo_77 : decode cL_isSetSo 77 = .ok (.iload_n 1, 1) := by decide +kernel
theorem dL_isSetSo_78 : decode cL_isSetSo 78 = .ok (.isub, 1) := by decide +kernel
theorem dL_isSetSo_79 : decode cL_isSetSo 79 = .ok (.iload 5, 2) := by decide +kernel
theorem dL_isSetSo_81 : decode cL_isSetSo 81 = .ok (.invokevirtual 93, 3) := by decide +kernel
theorem dL_isSetSo_84 : decode cL_isSetSo 84 = .ok (.aload_n 0, 1) := by decide +kernel
theorem dL_isSetSo_85 : decode cL_isSetSo 85 = .ok (.iload_n 1, 1) := by decide +kernel
theorem dL_isSetSo_86 : decode cL_isSetSo 86 = .ok (.iload 5, 2) := by decide +kernel
theorem dL_isSetSo_88 : decode cL_isSetSo 88 = .ok (.invokevirtual 93, 3) := by decide +kernel
theorem dL_isSetSo_91 : decode cL_isSetSo 91 = .ok (.isub, 1) := by decide +kernel
theorem dL_isSetSo_92 : decode cL_isSetSo 92 = .ok (.iload 5, 2) := by decide +kernel
theorem dL_isSetSo_94 : decode cL_isSetSo 94 = .ok (.bipush 6, 2) := by decide +kernel
theorem dL_isSetSo_96 : decode cL_isSetSo 96 = .ok (.if_icmp .ne 10, 3) := by decide +kernel
theorem dL_isSetSo_99 : decode cL_isSetSo 99 = .ok (.iload 6, 2) := by decide +kernel
theorem dL_isSetSo_101 : decode cL_isSetSo 101 = .ok (.iconst 2, 1) := by decide +kernel
theorem dL_isSetSo_102 : decode cL_isSetSo 102 = .ok (.idiv, 1) := by decide +kernel
theorem dL_isSetSo_103 : decode cL_isSetSo 103 = .ok (.goto 5, 3) := by decide +kernel
theorem dL_isSetSo_106 : decode cL_isSetSo 106 = .ok (.iload 6, 2) := by decide +kernel
theorem dL_isSetSo_108 : decode cL_isSetSo 108 = .ok (.if_icmp .eq 5, 3) := by decide +kernel
theorem dL_isSetSo_111 : decode cL_isSetSo 111 = .ok (.iconst 0, 1) := by decide +kernel
theorem dL_isSetSo_112 : decode cL_isSetSo 112 = .ok (.ireturn, 1) := by decide +kernel
theorem dL_isSetSo_113 : decode cL_isSetSo 113 = .ok (.iinc 5 1, 3) := by decide +kernel
theorem dL_isSetSo_116 : decode cL_isSetSo 116 = .ok (.goto (-70), 3) := by decide +kernel
theorem dL_isSetSo_119 : decode cL_isSetSo 119 = .ok (.iload 4, 2) := by decide +kernel
theorem dL_isSetSo_121 : decode cL_isSetSo 121 = .ok (.iload_n 3, 1) := by decide +kernel
theorem dL_isSetSo_122 : decode cL_isSetSo 122 = .ok (.iload_n 3, 1) := by decide +kernel
theorem dL_isSetSo_123 : decode cL_isSetSo 123 = .ok (.iconst 1, 1) := by decide +kernel
theorem dL_isSetSo_124 : decode cL_isSetSo 124 = .ok (.isub, 1) := by decide +kernel
theorem dL_isSetSo_125 : decode cL_isSetSo 125 = .ok (.imul, 1) := by decide +kernel
theorem dL_isSetSo_126 : decode cL_isSetSo 126 = .ok (.iconst 2, 1) := by decide +kernel
theorem dL_isSetSo_127 : decode cL_isSetSo 127 = .ok (.idiv, 1) := by decide +kernel
theorem dL_isSetSo_128 : decode cL_isSetSo 128 = .ok (.if_icmp .ne 46, 3) := by decide +kernel
theorem dL_isSetSo_131 : decode cL_isSetSo 131 = .ok (.aload_n 0, 1) := by decide +kernel
theorem dL_isSetSo_132 : decode cL_isSetSo 132 = .ok (.iload_n 1, 1) := by decide +kernel
theorem dL_isSetSo_133 : decode cL_isSetSo 133 = .ok (.invokevirtual 96, 3) := by decide +kernel
theorem dL_isSetSo_136 : decode cL_isSetSo 136 = .ok (.aload_n 0, 1) := by decide +kernel
theorem dL_isSetSo_137 : decode cL_isSetSo 137 = .ok (.iload_n 2, 1) := by decide +kernel
theorem dL_isSetSo_138 : decode cL_isSetSo 138 = .ok (.invokevirtual 96, 3) := by decide +kernel
theorem dL_isSetSo_141 : decode cL_isSetSo 141 = .ok (.if_icmp .ne 33, 3) := by decide +kernel
theorem dL_isSetSo_144 : decode cL_isSetSo 144 = .ok (.aload_n 0, 1) := by decide +kernel
theorem dL_isSetSo_145 : decode cL_isSetSo 145 = .ok (.iload_n 1, 1) := by decide +kernel
theorem dL_isSetSo_146 : decode cL_isSetSo 146 = .ok (.invokevirtual 96, 3) := by decide +kernel
theorem dL_isSetSo_149 : decode cL_isSetSo 149 = .ok (.iload_n 1, 1) := by decide +kernel
theorem dL_isSetSo_150 : decode cL_isSetSo 150 = .ok (.if_icmp .gt 24, 3) := by decide +kernel
theorem dL_isSetSo_153 : decode cL_isSetSo 153 = .ok (.aload_n 0, 1) := by decide +kernel
theorem dL_isSetSo_154 : decode cL_isSetSo 154 = .ok (.aload_n 0, 1) := by decide +kernel
theorem dL_isSetSo_155 : decode cL_isSetSo 155 = .ok (.iload_n 1, 1) := by decide +kernel
theorem dL_isSetSo_156 : decode cL_isSetSo 156 = .ok (.invokevirtual 96, 3) := by decide +kernel
theorem dL_isSetSo_159 : decode cL_isSetSo 159 = .ok (.invokevirtual 96, 3) := by decide +kernel
theorem dL_isSetSo_162 : decode cL_isSetSo 162 = .ok (.aload_n 0, 1) := by decide +kernel
theorem dL_isSetSo_163 : decode cL_isSetSo 163 = .ok (.iload_n 1, 1) := by decide +kernel
theorem dL_isSetSo_164 : decode cL_isSetSo 164 = .ok (.invokevirtual 96, 3) := by decide +kernel
theorem dL_isSetSo_167 : decode cL_isSetSo 167 = .ok (.if_icmp .ne 7, 3) := by decide +kernel
theorem dL_isSetSo_170 : decode cL_isSetSo 170 = .ok (.iconst 1, 1) := by decide +kernel
theorem dL_isSetSo_171 : decode cL_isSetSo 171 = .ok (.goto 4, 3) := by decide +kernel
theorem dL_isSetSo_174 : decode cL_isSetSo 174 = .ok (.iconst 0, 1) := by decide +kernel
theorem dL_isSetSo_175 : decode cL_isSetSo 175 = .ok (.ireturn, 1) := by decide +kernel
theorem dL_areKeptSo_0 : decode cL_areKeptSo 0 = .ok (.aload_n 0, 1) := by decide +kernel
theorem dL_areKeptSo_1 : decode cL_areKeptSo 1 = .ok (.iload_n 1, 1) := by decide +kernel
theorem dL_areKeptSo_2 : decode cL_areKeptSo 2 = .ok (.iload_n 2, 1) := by decide +kernel
theorem dL_areKeptSo_3 : decode cL_areKeptSo 3 = .ok (.bipush 12, 2) := by decide +kernel
theorem dL_areKeptSo_5 : decode cL_areKeptSo 5 = .ok (.idiv, 1) := by decide +kernel
theorem dL_areKeptSo_6 : decode cL_areKeptSo 6 = .ok (.iload_n 2, 1) := by decide +kernel
theorem dL_areKeptSo_7 : decode cL_areKeptSo 7 = .ok (.bipush 12, 2) := by decide +kernel
theorem dL_areKeptSo_9 : decode cL_areKeptSo 9 = .ok (.irem, 1) := by decide +kernel
theorem dL_areKeptSo_10 : decode cL_areKeptSo 10 = .ok (.iload 4, 2) := by decide +kernel
theorem dL_areKeptSo_12 : decode cL_areKeptSo 12 = .ok (.invokevirtual 99, 3) := by decide +kernel
theorem dL_areKeptSo_15 : decode cL_areKeptSo 15 = .ok (.istore 5, 2) := by decide +kernel
theorem dL_areKeptSo_17 : decode cL_areKeptSo 17 = .ok (.aload_n 0, 1) := by decide +kernel
theorem dL_areKeptSo_18 : decode cL_areKeptSo 18 = .ok (.iload_n 1, 1) := by decide +kernel
theorem dL_areKeptSo_19 : decode cL_areKeptSo 19 = .ok (.iload_n 2, 1) := by decide +kernel
theorem dL_areKeptSo_20 : decode cL_areKeptSo 20 = .ok (.bipush 12, 2) := by decide +kernel
theorem dL_areKeptSo_22 : decode cL_areKeptSo 22 = .ok (.idiv, 1) := by decide +kernel
theorem dL_areKeptSo_23 : decode cL_areKeptSo 23 = .ok (.iload_n 2, 1) := by decide +kernel
theorem dL_areKeptSo_24 : decode cL_areKeptSo 24 = .ok (.bipush 12, 2) := by decide +kernel
theorem dL_areKeptSo_26 : decode cL_areKeptSo 26 = .ok (.irem, 1) := by decide +kernel
theorem dL_areKeptSo_27 : decode cL_areKeptSo 27 = .ok (.invokevirtual 102, 3) := by decide +kernel
theorem dL_areKeptSo_30 : decode cL_areKeptSo 30 = .ok (.istore 6, 2) := by decide +kernel
theorem dL_areKeptSo_32 : decode cL_areKeptSo 32 = .ok (.iload 5, 2) := by decide +kernel
theorem dL_areKeptSo_34 : decode cL_areKeptSo 34 = .ok (.ifCond .lt 81, 3) := by decide +kernel
theorem dL_areKeptSo_37 : decode cL_areKeptSo 37 = .ok (.iload 5, 2) := by decide +kernel
theorem dL_areKeptSo_39 : decode cL_areKeptSo 39 = .ok (.bipush 13, 2) := by decide +kernel
theorem dL_areKeptSo_41 : decode cL_areKeptSo 41 = .ok (.iload 4, 2) := by decide +kernel
theorem dL_areKeptSo_43 : decode cL_areKeptSo 43 = .ok (.isub, 1) := by decide +kernel
theorem dL_areKeptSo_44 : decode cL_areKeptSo 44 = .ok (.if_icmp .gt 71, 3) := by decide +kernel
theorem dL_areKeptSo_47 : decode cL_areKeptSo 47 = .ok (.iload 6, 2) := by decide +kernel
theorem dL_areKeptSo_49 : decode cL_areKeptSo 49 = .ok (.iconst 1, 1) := by decide +kernel
theorem dL_areKeptSo_50 : decode cL_areKeptSo 50 = .ok (.if_icmp .lt 65, 3) := by decide +kernel
theorem dL_areKeptSo_53 : decode cL_areKeptSo 53 = .ok (.iload 6, 2) := by decide +kernel
theorem dL_areKeptSo_55 : decode cL_areKeptSo 55 = .ok (.bipush 12, 2) := by decide +kernel
theorem dL_areKeptSo_57 : decode cL_areKeptSo 57 = .ok (.if_icmp .gt 58, 3) := by decide +kernel
theorem dL_areKeptSo_60 : decode cL_areKeptSo 60 = .ok (.iload 6, 2) := by decide +kernel
theorem dL_areKeptSo_62 : decode cL_areKeptSo 62 = .ok (.iload 4, 2) := by decide +kernel
theorem dL_areKeptSo_64 : decode cL_areKeptSo 64 = .ok (.if_icmp .lt 9, 3) := by decide +kernel
theorem dL_areKeptSo_67 : decode cL_areKeptSo 67 = .ok (.iload 5, 2) := by decide +kernel
theorem dL_areKeptSo_69 : decode cL_areKeptSo 69 = .ok (.iconst 1, 1) := by decide +kernel
theorem dL_areKeptSo_70 : decode cL_areKeptSo 70 = .ok (.if_icmp .lt 45, 3) := by decide +kernel
theorem dL_areKeptSo_73 : decode cL_areKeptSo 73 = .ok (.aload_n 0, 1) := by decide +kernel
theorem dL_areKeptSo_74 : decode cL_areKeptSo 74 = .ok (.iload_n 1, 1) := by decide +kernel
theorem dL_areKeptSo_75 : decode cL_areKeptSo 75 = .ok (.iload_n 2, 1) := by decide +kernel
theorem dL_areKeptSo_76 : decode cL_areKeptSo 76 = .ok (.bipush 12, 2) := by decide +kernel
theorem dL_areKeptSo_78 : decode cL_areKeptSo 78 = .ok (.idiv, 1) := by decide +kernel
theorem dL_areKeptSo_79 : decode cL_areKeptSo 79 = .ok (.iload_n 2, 1) := by decide +kernel
theorem dL_areKeptSo_80 : decode cL_areKeptSo 80 = .ok (.bipush 12, 2) := by decide +kernel
theorem dL_areKeptSo_82 : decode cL_areKeptSo 82 = .ok (.irem, 1) := by decide +kernel
theorem dL_areKeptSo_83 : decode cL_areKeptSo 83 = .ok (.iconst 1, 1) := by decide +kernel
theorem dL_areKeptSo_84 : decode cL_areKeptSo 84 = .ok (.invokevirtual 99, 3) := by decide +kernel
theorem dL_areKeptSo_87 : decode cL_areKeptSo 87 = .ok (.bipush 12, 2) := by decide +kernel
theorem dL_areKeptSo_89 : decode cL_areKeptSo 89 = .ok (.if_icmp .ne 26, 3) := by decide +kernel
theorem dL_areKeptSo_92 : decode cL_areKeptSo 92 = .ok (.aload_n 0, 1) := by decide +kernel
theorem dL_areKeptSo_93 : decode cL_areKeptSo 93 = .ok (.iload_n 1, 1) := by decide +kernel
theorem dL_areKeptSo_94 : decode cL_areKeptSo 94 = .ok (.iload_n 2, 1) := by decide +kernel
theorem dL_areKeptSo_95 : decode cL_areKeptSo 95 = .ok (.bipush 12, 2) := by decide +kernel
theorem dL_areKeptSo_97 : decode cL_areKeptSo 97 = .ok (.idiv, 1) := by decide +kernel
theorem dL_areKeptSo_98 : decode cL_areKeptSo 98 = .ok (.iload_n 2, 1) := by decide +kernel
theorem dL_areKeptSo_99 : decode cL_areKeptSo 99 = .ok (.bipush 12, 2) := by decide +kernel
theorem dL_areKeptSo_101 : decode cL_areKeptSo 101 = .ok (.irem, 1) := by decide +kernel
theorem dL_areKeptSo_102 : decode cL_areKeptSo 102 = .ok (.bipush 12, 2) := by decide +kernel
theorem dL_areKeptSo_104 : decode cL_areKeptSo 104 = .ok (.invokevirtual 99, 3) := by decide +kernel
theorem dL_areKeptSo_107 : decode cL_areKeptSo 107 = .ok (.iconst 1, 1) := by decide +kernel
theorem dL_areKeptSo_108 : decode cL_areKeptSo 108 = .ok (.if_icmp .ne 7, 3) := by decide +kernel
theorem dL_areKeptSo_111 : decode cL_areKeptSo 111 = .ok (.iconst 1, 1) := by decide +kernel
theorem dL_areKeptSo_112 : decode cL_areKeptSo 112 = .ok (.goto 4, 3) := by decide +kernel
theorem dL_areKeptSo_115 : decode cL_areKeptSo 115 = .ok (.iconst 0, 1) := by decide +kernel
theorem dL_areKeptSo_116 : decode cL_areKeptSo 116 = .ok (.istore 7, 2) := by decide +kernel
theorem dL_areKeptSo_118 : decode cL_areKeptSo 118 = .ok (.aload_n 0, 1) := by decide +kernel
theorem dL_areKeptSo_119 : decode cL_areKeptSo 119 = .ok (.iload_n 1, 1) := by decide +kernel
theorem dL_areKeptSo_120 : decode cL_areKeptSo 120 = .ok (.iconst 2, 1) := by decide +kernel
theorem dL_areKeptSo_121 : decode cL_areKeptSo 121 = .ok (.iload 4, 2) := by decide +kernel
theorem dL_areKeptSo_123 : decode cL_areKeptSo 123 = .ok (.bipush 10, 2) := by decide +kernel
theorem dL_areKeptSo_125 : decode cL_areKeptSo 125 = .ok (.irem, 1) := by decide +kernel
theorem dL_areKeptSo_126 : decode cL_areKeptSo 126 = .ok (.iadd, 1) := by decide +kernel
theorem dL_areKeptSo_127 : decode cL_areKeptSo 127 = .ok (.invokevirtual 105, 3) := by decide +kernel
theorem dL_areKeptSo_130 : decode cL_areKeptSo 130 = .ok (.istore 8, 2) := by decide +kernel
theorem dL_areKeptSo_132 : decode cL_areKeptSo 132 = .ok (.iload 7, 2) := by decide +kernel
theorem dL_areKeptSo_134 : decode cL_areKeptSo 134 = .ok (.ifCond .eq 73, 3) := by decide +kernel
theorem dL_areKeptSo_137 : decode cL_areKeptSo 137 = .ok (.iload 8, 2) := by decide +kernel
theorem dL_areKeptSo_139 : decode cL_areKeptSo 139 = .ok (.aload_n 0, 1) := by decide +kernel
theorem dL_areKeptSo_140 : decode cL_areKeptSo 140 = .ok (.iload_n 1, 1) := by decide +kernel
theorem dL_areKeptSo_141 : decode cL_areKeptSo 141 = .ok (.iconst 0, 1) := by decide +kernel
theorem dL_areKeptSo_142 : decode cL_areKeptSo 142 = .ok (.invokevirtual 68, 3) := by decide +kernel
theorem dL_areKeptSo_145 : decode cL_areKeptSo 145 = .ok (.if_icmp .eq 62, 3) := by decide +kernel
theorem dL_areKeptSo_148 : decode cL_areKeptSo 148 = .ok (.iload_n 2, 1) := by decide +kernel
theorem dL_areKeptSo_149 : decode cL_areKeptSo 149 = .ok (.aload_n 0, 1) := by decide +kernel
theorem dL_areKeptSo_150 : decode cL_areKeptSo 150 = .ok (.iload_n 1, 1) := by decide +kernel
theorem dL_areKeptSo_151 : decode cL_areKeptSo 151 = .ok (.iconst 0, 1) := by decide +kernel
theorem dL_areKeptSo_152 : decode cL_areKeptSo 152 = .ok (.invokevirtual 68, 3) := by decide +kernel
theorem dL_areKeptSo_155 : decode cL_areKeptSo 155 = .ok (.if_icmp .eq 48, 3) := by decide +kernel
theorem dL_areKeptSo_158 : decode cL_areKeptSo 158 = .ok (.aload_n 0, 1) := by decide +kernel
theorem dL_areKeptSo_159 : decode cL_areKeptSo 159 = .ok (.iload_n 1, 1) := by decide +kernel
theorem dL_areKeptSo_160 : decode cL_areKeptSo 160 = .ok (.iload 8, 2) := by decide +kernel
theorem dL_areKeptSo_162 : decode cL_areKeptSo 162 = .ok (.bipush 12, 2) := by decide +kernel
theorem dL_areKeptSo_164 : decode cL_areKeptSo 164 = .ok (.idiv, 1) := by decide +kernel
theorem dL_areKeptSo_165 : decode cL_areKeptSo 165 = .ok (.iload 8, 2) := by decide +kernel
theorem dL_areKeptSo_167 : decode cL_areKeptSo 167 = .ok (.bipush 12, 2) := by decide +kernel
theorem dL_areKeptSo_169 : decode cL_areKeptSo 169 = .ok (.irem, 1) := by decide +kernel
theorem dL_areKeptSo_170 : decode cL_areKeptSo 170 = .ok (.iconst 2, 1) := by decide +kernel
theorem dL_areKeptSo_171 : decode cL_areKeptSo 171 = .ok (.iload 4, 2) := by decide +kernel
theorem dL_areKeptSo_173 : decode cL_areKeptSo 173 = .ok (.bipush 10, 2) := by decide +kernel
theorem dL_areKeptSo_175 : decode cL_areKeptSo 175 = .ok (.irem, 1) := by decide +kernel
theorem dL_areKeptSo_176 : decode cL_areKeptSo 176 = .ok (.iadd, 1) := by decide +kernel
theorem dL_areKeptSo_177 : decode cL_areKeptSo 177 = .ok (.invokevirtual 99, 3) := by decide +kernel
theorem dL_areKeptSo_180 : decode cL_areKeptSo 180 = .ok (.aload_n 0, 1) := by decide +kernel
theorem dL_areKeptSo_181 : decode cL_areKeptSo 181 = .ok (.iload_n 1, 1) := by decide +kernel
theorem dL_areKeptSo_182 : decode cL_areKeptSo 182 = .ok (.iload_n 2, 1) := by decide +kernel
theorem dL_areKeptSo_183 : decode cL_areKeptSo 183 = .ok (.bipush 12, 2) := by decide +kernel
theorem dL_areKeptSo_185 : decode cL_areKeptSo 185 = .ok (.idiv, 1) := by decide +kernel
theorem dL_areKeptSo_186 : decode cL_areKeptSo 186 = .ok (.iload_n 2, 1) := by decide +kernel
theorem dL_areKeptSo_187 : decode cL_areKeptSo 187 = .ok (.bipush 12, 2) := by decide +kernel
theorem dL_areKeptSo_189 : decode cL_areKeptSo 189 = .ok (.irem, 1) := by decide +kernel
theorem dL_areKeptSo_190 : decode cL_areKeptSo 190 = .ok (.iconst 2, 1) := by decide +kernel
theorem dL_areKeptSo_191 : decode cL_areKeptSo 191 = .ok (.iload 4, 2) := by decide +kernel
theorem dL_areKeptSo_193 : decode cL_areKeptSo 193 = .ok (.bipush 10, 2) := by decide +kernel
theorem dL_areKeptSo_195 : decode cL_areKeptSo 195 = .ok (.irem, 1) := by decide +kernel
theorem dL_areKeptSo_196 : decode cL_areKeptSo 196 = .ok (.iadd, 1) := by decide +kernel
theorem dL_areKeptSo_197 : decode cL_areKeptSo 197 = .ok (.invokevirtual 99, 3) := by decide +kernel
theorem dL_areKeptSo_200 : decode cL_areKeptSo 200 = .ok (.if_icmp .lt 7, 3) := by decide +kernel
theorem dL_areKeptSo_203 : decode cL_areKeptSo 203 = .ok (.iconst 1, 1) := by decide +kernel
theorem dL_areKeptSo_204 : decode cL_areKeptSo 204 = .ok (.goto 4, 3) := by decide +kernel
theorem dL_areKeptSo_207 : decode cL_areKeptSo 207 = .ok (.iconst 0, 1) := by decide +kernel
theorem dL_areKeptSo_208 : decode cL_areKeptSo 208 = .ok (.istore 7, 2) := by decide +kernel
theorem dL_areKeptSo_210 : decode cL_areKeptSo 210 = .ok (.aload_n 0, 1) := by decide +kernel
theorem dL_areKeptSo_211 : decode cL_areKeptSo 211 = .ok (.iload_n 2, 1) := by decide +kernel
theorem dL_areKeptSo_212 : decode cL_areKeptSo 212 = .ok (.iload_n 3, 1) := by decide +kernel
theorem dL_areKeptSo_213 : decode cL_areKeptSo 213 = .ok (.invokevirtual 108, 3) := by decide +kernel
theorem dL_areKeptSo_216 : decode cL_areKeptSo 216 = .ok (.istore 9, 2) := by decide +kernel
theorem dL_areKeptSo_218 : decode cL_areKeptSo 218 = .ok (.iload 7, 2) := by decide +kernel
theorem dL_areKeptSo_220 : decode cL_areKeptSo 220 = .ok (.ifCond .eq 26, 3) := by decide +kernel
theorem dL_areKeptSo_223 : decode cL_areKeptSo 223 = .ok (.iload 9, 2) := by decide +kernel
theorem dL_areKeptSo_225 : decode cL_areKeptSo 225 = .ok (.iconst 1, 1) := by decide +kernel
theorem dL_areKeptSo_226 : decode cL_areKeptSo 226 = .ok (.iand, 1) := by decide +kernel
theorem dL_areKeptSo_227 : decode cL_areKeptSo 227 = .ok (.iconst 1, 1) := by decide +kernel
theorem dL_areKeptSo_228 : decode cL_areKeptSo 228 = .ok (.if_icmp .ne 18, 3) := by decide +kernel
theorem dL_areKeptSo_231 : decode cL_areKeptSo 231 = .ok (.iload 9, 2) := by decide +kernel
theorem dL_areKeptSo_233 : decode cL_areKeptSo 233 = .ok (.bipush 12, 2) := by decide +kernel
theorem dL_areKeptSo_235 : decode cL_areKeptSo 235 = .ok (.ishr, 1) := by decide +kernel
theorem dL_areKeptSo_236 : decode cL_areKeptSo 236 = .ok (.iconst 1, 1) := by decide +kernel
theorem dL_areKeptSo_237 : decode cL_areKeptSo 237 = .ok (.iand, 1) := by decide +kernel
theorem dL_areKeptSo_238 : decode cL_areKeptSo 238 = .ok (.iconst 1, 1) := by decide +kernel
theorem dL_areKeptSo_239 : decode cL_areKeptSo 239 = .ok (.if_icmp .ne 7, 3) := by decide +kernel
theorem dL_areKeptSo_242 : decode cL_areKeptSo 242 = .ok (.iconst 1, 1) := by decide +kernel
theorem dL_areKeptSo_243 : decode cL_areKeptSo 243 = .ok (.goto 4, 3) := by decide +kernel
theorem dL_areKeptSo_246 : decode cL_areKeptSo 246 = .ok (.iconst 0, 1) := by decide +kernel
theorem dL_areKeptSo_247 : decode cL_areKeptSo 247 = .ok (.istore 7, 2) := by decide +kernel
theorem dL_areKeptSo_249 : decode cL_areKeptSo 249 = .ok (.aload_n 0, 1) := by decide +kernel
theorem dL_areKeptSo_250 : decode cL_areKeptSo 250 = .ok (.iload_n 1, 1) := by decide +kernel
theorem dL_areKeptSo_251 : decode cL_areKeptSo 251 = .ok (.invokevirtual 64, 3) := by decide +kernel
theorem dL_areKeptSo_254 : decode cL_areKeptSo 254 = .ok (.lstore 10, 2) := by decide +kernel
theorem dL_areKeptSo_256 : decode cL_areKeptSo 256 = .ok (.aload_n 0, 1) := by decide +kernel
theorem dL_areKeptSo_257 : decode cL_areKeptSo 257 = .ok (.iload_n 1, 1) := by decide +kernel
theorem dL_areKeptSo_258 : decode cL_areKeptSo 258 = .ok (.iload_n 2, 1) := by decide +kernel
theorem dL_areKeptSo_259 : decode cL_areKeptSo 259 = .ok (.invokevirtual 111, 3) := by decide +kernel
theorem dL_areKeptSo_262 : decode cL_areKeptSo 262 = .ok (.istore 12, 2) := by decide +kernel
theorem dL_areKeptSo_264 : decode cL_areKeptSo 264 = .ok (.iload 7, 2) := by decide +kernel
theorem dL_areKeptSo_266 : decode cL_areKeptSo 266 = .ok (.ifCond .eq 33, 3) := by decide +kernel
theorem dL_areKeptSo_269 : decode cL_areKeptSo 269 = .ok (.iload 12, 2) := by decide +kernel
theorem dL_areKeptSo_271 : decode cL_areKeptSo 271 = .ok (.ifCond .lt 14, 3) := by decide +kernel
theorem dL_areKeptSo_274 : decode cL_areKeptSo 274 = .ok (.lload 10, 2) := by decide +kernel
theorem dL_areKeptSo_276 : decode cL_areKeptSo 276 = .ok (.iload_n 2, 1) := by decide +kernel
theorem dL_areKeptSo_277 : decode cL_areKeptSo 277 = .ok (.lshr, 1) := by decide +kernel
theorem dL_areKeptSo_278 : decode cL_areKeptSo 278 = .ok (.lconst 1, 1) := by decide +kernel
theorem dL_areKeptSo_279 : decode cL_areKeptSo 279 = .ok (.land, 1) := by decide +kernel
theorem dL_areKeptSo_280 : decode cL_areKeptSo 280 = .ok (.lconst 1, 1) := by decide +kernel
theorem dL_areKeptSo_281 : decode cL_areKeptSo 281 = .ok (.lcmp, 1) := by decide +kernel
theorem dL_areKeptSo_282 : decode cL_areKeptSo 282 = .ok (.ifCond .ne 17, 3) := by decide +kernel
theorem dL_areKeptSo_285 : decode cL_areKeptSo 285 = .ok (.lload 10, 2) := by decide +kernel
theorem dL_areKeptSo_287 : decode cL_areKeptSo 287 = .ok (.bipush 48, 2) := by decide +kernel
theorem dL_areKeptSo_289 : decode cL_areKeptSo 289 = .ok (.lshr, 1) := by decide +kernel
theorem dL_areKeptSo_290 : decode cL_areKeptSo 290 = .ok (.lconst 0, 1) := by decide +kernel
theorem dL_areKeptSo_291 : decode cL_areKeptSo 291 = .ok (.lcmp, 1) := by decide +kernel
theorem dL_areKeptSo_292 : decode cL_areKeptSo 292 = .ok (.ifCond .ne 7, 3) := by decide +kernel
theorem dL_areKeptSo_295 : decode cL_areKeptSo 295 = .ok (.iconst 1, 1) := by decide +kernel
theorem dL_areKeptSo_296 : decode cL_areKeptSo 296 = .ok (.goto 4, 3) := by decide +kernel
theorem dL_areKeptSo_299 : decode cL_areKeptSo 299 = .ok (.iconst 0, 1) := by decide +kernel
theorem dL_areKeptSo_300 : decode cL_areKeptSo 300 = .ok (.ireturn, 1) := by decide +kernel
