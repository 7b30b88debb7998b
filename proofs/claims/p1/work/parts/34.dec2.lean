theorem dX11_init_0 : decode cX11_init 0 = .ok (.aload_n 0, 1) := by decide +kernel
theorem dX11_init_1 : decode cX11_init 1 = .ok (.invokespecial 5, 3) := by decide +kernel
theorem dX11_init_4 : decode cX11_init 4 = .ok (.aload_n 0, 1) := by decide +kernel
theorem dX11_init_5 : decode cX11_init 5 = .ok (.bipush 46, 2) := by decide +kernel
theorem dX11_init_7 : decode cX11_init 7 = .ok (.newarray .int, 2) := by decide +kernel
theorem dX11_init_9 : decode cX11_init 9 = .ok (.putfield 11, 3) := by decide +kernel
theorem dX11_init_12 : decode cX11_init 12 = .ok (.aload_n 0, 1) := by decide +kernel
theorem dX11_init_13 : decode cX11_init 13 = .ok (.bipush 46, 2) := by decide +kernel
theorem dX11_init_15 : decode cX11_init 15 = .ok (.newarray .int, 2) := by decide +kernel
theorem dX11_init_17 : decode cX11_init 17 = .ok (.putfield 15, 3) := by decide +kernel
theorem dX11_init_20 : decode cX11_init 20 = .ok (.aload_n 0, 1) := by decide +kernel
theorem dX11_init_21 : decode cX11_init 21 = .ok (.bipush 81, 2) := by decide +kernel
theorem dX11_init_23 : decode cX11_init 23 = .ok (.newarray .int, 2) := by decide +kernel
theorem dX11_init_25 : decode cX11_init 25 = .ok (.putfield 18, 3) := by decide +kernel
theorem dX11_init_28 : decode cX11_init 28 = .ok (.aload_n 0, 1) := by decide +kernel
theorem dX11_init_29 : decode cX11_init 29 = .ok (.bipush 8, 2) := by decide +kernel
theorem dX11_init_31 : decode cX11_init 31 = .ok (.newarray .int, 2) := by decide +kernel
theorem dX11_init_33 : decode cX11_init 33 = .ok (.putfield 21, 3) := by decide +kernel
theorem dX11_init_36 : decode cX11_init 36 = .ok (.aload_n 0, 1) := by decide +kernel
theorem dX11_init_37 : decode cX11_init 37 = .ok (.bipush 40, 2) := by decide +kernel
theorem dX11_init_39 : decode cX11_init 39 = .ok (.newarray .int, 2) := by decide +kernel
theorem dX11_init_41 : decode cX11_init 41 = .ok (.putfield 24, 3) := by decide +kernel
theorem dX11_init_44 : decode cX11_init 44 = .ok (.aload_n 0, 1) := by decide +kernel
theorem dX11_init_45 : decode cX11_init 45 = .ok (.iconst (-1), 1) := by decide +kernel
theorem dX11_init_46 : decode cX11_init 46 = .ok (.putfield 27, 3) := by decide +kernel
theorem dX11_init_49 : decode cX11_init 49 = .ok (.aload_n 0, 1) := by decide +kernel
theorem dX11_init_50 : decode cX11_init 50 = .ok (.bipush 40, 2) := by decide +kernel
theorem dX11_init_52 : decode cX11_init 52 = .ok (.newarray .int, 2) := by decide +kernel
theorem dX11_init_54 : decode cX11_init 54 = .ok (.putfield 31, 3) := by decide +kernel
theorem dX11_init_57 : decode cX11_init 57 = .ok (.aload_n 0, 1) := by decide +kernel
theorem dX11_init_58 : decode cX11_init 58 = .ok (.iconst (-1), 1) := by decide +kernel
theorem dX11_init_59 : decode cX11_init 59 = .ok (.putfield 34, 3) := by decide +kernel
theorem dX11_init_62 : decode cX11_init 62 = .ok (.aload_n 0, 1) := by decide +kernel
theorem dX11_init_63 : decode cX11_init 63 = .ok (.bipush 6, 2) := by decide +kernel
theorem dX11_init_65 : decode cX11_init 65 = .ok (.newarray .int, 2) := by decide +kernel
theorem dX11_init_67 : decode cX11_init 67 = .ok (.dup, 1) := by decide +kernel
theorem dX11_init_68 : decode cX11_init 68 = .ok (.iconst 0, 1) := by decide +kernel
theorem dX11_init_69 : decode cX11_init 69 = .ok (.iconst (-1), 1) := by decide +kernel
theorem dX11_init_70 : decode cX11_init 70 = .ok (.iastore, 1) := by decide +kernel
theorem dX11_init_71 : decode cX11_init 71 = .ok (.dup, 1) := by decide +kernel
theorem dX11_init_72 : decode cX11_init 72 = .ok (.iconst 1, 1) := by decide +kernel
theorem dX11_init_73 : decode cX11_init 73 = .ok (.iconst (-1), 1) := by decide +kernel
theorem dX11_init_74 : decode cX11_init 74 = .ok (.iastore, 1) := by decide +kernel
theorem dX11_init_75 : decode cX11_init 75 = .ok (.dup, 1) := by decide +kernel
theorem dX11_init_76 : decode cX11_init 76 = .ok (.iconst 2, 1) := by decide +kernel
theorem dX11_init_77 : decode cX11_init 77 = .ok (.iconst (-1), 1) := by decide +kernel
theorem dX11_init_78 : decode cX11_init 78 = .ok (.iastore, 1) := by decide +kernel
theorem dX11_init_79 : decode cX11_init 79 = .ok (.dup, 1) := by decide +kernel
theorem dX11_init_80 : decode cX11_init 80 = .ok (.iconst 3, 1) := by decide +kernel
theorem dX11_init_81 : decode cX11_init 81 = .ok (.iconst (-1), 1) := by decide +kernel
theorem dX11_init_82 : decode cX11_init 82 = .ok (.iastore, 1) := by decide +kernel
theorem dX11_init_83 : decode cX11_init 83 = .ok (.dup, 1) := by decide +kernel
theorem dX11_init_84 : decode cX11_init 84 = .ok (.iconst 4, 1) := by decide +kernel
theorem dX11_init_85 : decode cX11_init 85 = .ok (.iconst (-1), 1) := by decide +kernel
theorem dX11_init_86 : decode cX11_init 86 = .ok (.iastore, 1) := by decide +kernel
theorem dX11_init_87 : decode cX11_init 87 = .ok (.dup, 1) := by decide +kernel
theorem dX11_init_88 : decode cX11_init 88 = .ok (.iconst 5, 1) := by decide +kernel
theorem dX11_init_89 : decode cX11_init 89 = .ok (.iconst (-1), 1) := by decide +kernel
theorem dX11_init_90 : decode cX11_init 90 = .ok (.iastore, 1) := by decide +kernel
theorem dX11_init_91 : decode cX11_init 91 = .ok (.putfield 37, 3) := by decide +kernel
theorem dX11_init_94 : decode cX11_init 94 = .ok (.aload_n 0, 1) := by decide +kernel
theorem dX11_init_95 : decode cX11_init 95 = .ok (.sipush 1200, 3) := by decide +kernel
theorem dX11_init_98 : decode cX11_init 98 = .ok (.newarray .int, 2) := by decide +kernel
theorem dX11_init_100 : decode cX11_init 100 = .ok (.putfield 40, 3) := by decide +kernel
theorem dX11_init_103 : decode cX11_init 103 = .ok (.aload_n 0, 1) := by decide +kernel
theorem dX11_init_104 : decode cX11_init 104 = .ok (.iconst (-1), 1) := by decide +kernel
theorem dX11_init_105 : decode cX11_init 105 = .ok (.putfield 43, 3) := by decide +kernel
theorem dX11_init_108 : decode cX11_init 108 = .ok (.aload_n 0, 1) := by decide +kernel
theorem dX11_init_109 : decode cX11_init 109 = .ok (.iconst 3, 1) := by decide +kernel
theorem dX11_init_110 : decode cX11_init 110 = .ok (.newarray .int, 2) := by decide +kernel
theorem dX11_init_112 : decode cX11_init 112 = .ok (.dup, 1) := by decide +kernel
theorem dX11_init_113 : decode cX11_init 113 = .ok (.iconst 0, 1) := by decide +kernel
theorem dX11_init_114 : decode cX11_init 114 = .ok (.iconst 1, 1) := by decide +kernel
theorem dX11_init_115 : decode cX11_init 115 = .ok (.iastore, 1) := by decide +kernel
theorem dX11_init_116 : decode cX11_init 116 = .ok (.dup, 1) := by decide +kernel
theorem dX11_init_117 : decode cX11_init 117 = .ok (.iconst 1, 1) := by decide +kernel
theorem dX11_init_118 : decode cX11_init 118 = .ok (.iconst 1, 1) := by decide +kernel
theorem dX11_init_119 : decode cX11_init 119 = .ok (.iastore, 1) := by decide +kernel
theorem dX11_init_120 : decode cX11_init 120 = .ok (.dup, 1) := by decide +kernel
theorem dX11_init_121 : decode cX11_init 121 = .ok (.iconst 2, 1) := by decide +kernel
theorem dX11_init_122 : decode cX11_init 122 = .ok (.iconst 1, 1) := by decide +kernel
theorem dX11_init_123 : decode cX11_init 123 = .ok (.iastore, 1) := by decide +kernel
theorem dX11_init_124 : decode cX11_init 124 = .ok (.putfield 46, 3) := by decide +kernel
theorem dX11_init_127 : decode cX11_init 127 = .ok (.aload_n 0, 1) := by decide +kernel
theorem dX11_init_128 : decode cX11_init 128 = .ok (.bipush 8, 2) := by decide +kernel
theorem dX11_init_130 : decode cX11_init 130 = .ok (.newarray .int, 2) := by decide +kernel
theorem dX11_init_132 : decode cX11_init 132 = .ok (.putfield 49, 3) := by decide +kernel
theorem dX11_init_135 : decode cX11_init 135 = .ok (.aload_n 0, 1) := by decide +kernel
theorem dX11_init_136 : decode cX11_init 136 = .ok (.bipush 40, 2) := by decide +kernel
theorem dX11_init_138 : decode cX11_init 138 = .ok (.newarray .int, 2) := by decide +kernel
theorem dX11_init_140 : decode cX11_init 140 = .ok (.putfield 52, 3) := by decide +kernel
theorem dX11_init_143 : decode cX11_init 143 = .ok (.aload_n 0, 1) := by decide +kernel
theorem dX11_init_144 : decode cX11_init 144 = .ok (.bipush 6, 2) := by decide +kernel
theorem dX11_init_146 : decode cX11_init 146 = .ok (.newarray .int, 2) := by decide +kernel
theorem dX11_init_148 : decode cX11_init 148 = .ok (.putfield 55, 3) := by decide +kernel
theorem dX11_init_151 : decode cX11_init 151 = .ok (.aload_n 0, 1) := by decide +kernel
theorem dX11_init_152 : decode cX11_init 152 = .ok (.sipush 1200, 3) := by decide +kernel
theorem dX11_init_155 : decode cX11_init 155 = .ok (.newarray .int, 2) := by decide +kernel
theorem dX11_init_157 : decode cX11_init 157 = .ok (.putfield 58, 3) := by decide +kernel
theorem dX11_init_160 : decode cX11_init 160 = .ok (.aload_n 0, 1) := by decide +kernel
theorem dX11_init_161 : decode cX11_init 161 = .ok (.iconst 3, 1) := by decide +kernel
theorem dX11_init_162 : decode cX11_init 162 = .ok (.newarray .int, 2) := by decide +kernel
theorem dX11_init_164 : decode cX11_init 164 = .ok (.putfield 61, 3) := by decide +kernel
theorem dX11_init_167 : decode cX11_init 167 = .ok (.aload_n 0, 1) := by decide +kernel
theorem dX11_init_168 : decode cX11_init 168 = .ok (.sipush 168, 3) := by decide +kernel
theorem dX11_init_171 : decode cX11_init 171 = .ok (.newarray .int, 2) := by decide +kernel
theorem dX11_init_173 : decode cX11_init 173 = .ok (.putfield 64, 3) := by decide +kernel
theorem dX11_init_176 : decode cX11_init 176 = .ok (.aload_n 0, 1) := by decide +kernel
theorem dX11_init_177 : decode cX11_init 177 = .ok (.sipush 336, 3) := by decide +kernel
theorem dX11_init_180 : decode cX11_init 180 = .ok (.newarray .int, 2) := by decide +kernel
theorem dX11_init_182 : decode cX11_init 182 = .ok (.putfield 67, 3) := by decide +kernel
theorem dX11_init_185 : decode cX11_init 185 = .ok (.aload_n 0, 1) := by decide +kernel
theorem dX11_init_186 : decode cX11_init 186 = .ok (.sipush 336, 3) := by decide +kernel
theorem dX11_init_189 : decode cX11_init 189 = .ok (.newarray .int, 2) := by decide +kernel
theorem dX11_init_191 : decode cX11_init 191 = .ok (.putfield 70, 3) := by decide +kernel
theorem dX11_init_194 : decode cX11_init 194 = .ok (.aload_n 0, 1) := by decide +kernel
theorem dX11_init_195 : decode cX11_init 195 = .ok (.sipush 336, 3) := by decide +kernel
theorem dX11_init_198 : decode cX11_init 198 = .ok (.newarray .int, 2) := by decide +kernel
theorem dX11_init_200 : decode cX11_init 200 = .ok (.putfield 73, 3) := by decide +kernel
theorem dX11_init_203 : decode cX11_init 203 = .ok (.aload_n 0, 1) := by decide +kernel
theorem dX11_init_204 : decode cX11_init 204 = .ok (.sipush 169, 3) := by decide +kernel
theorem dX11_init_207 : decode cX11_init 207 = .ok (.newarray .int, 2) := by decide +kernel
theorem dX11_init_209 : decode cX11_init 209 = .ok (.putfield 76, 3) := by decide +kernel
theorem dX11_init_212 : decode cX11_init 212 = .ok (.aload_n 0, 1) := by decide +kernel
theorem dX11_init_213 : decode cX11_init 213 = .ok (.sipush 28224, 3) := by decide +kernel
theorem dX11_init_216 : decode cX11_init 216 = .ok (.newarray .int, 2) := by decide +kernel
theorem dX11_init_218 : decode cX11_init 218 = .ok (.putfield 79, 3) := by decide +kernel
theorem dX11_init_221 : decode cX11_init 221 = .ok (.aload_n 0, 1) := by decide +kernel
theorem dX11_init_222 : decode cX11_init 222 = .ok (.sipush 168, 3) := by decide +kernel
theorem dX11_init_225 : decode cX11_init 225 = .ok (.newarray .boolean, 2) := by decide +kernel
theorem dX11_init_227 : decode cX11_init 227 = .ok (.putfield 82, 3) := by decide +kernel
theorem dX11_init_230 : decode cX11_init 230 = .ok (.aload_n 0, 1) := by decide +kernel
theorem dX11_init_231 : decode cX11_init 231 = .ok (.sipush 168, 3) := by decide +kernel
theorem dX11_init_234 : decode cX11_init 234 = .ok (.newarray .int, 2) := by decide +kernel
theorem dX11_init_236 : decode cX11_init 236 = .ok (.putfield 86, 3) := by decide +kernel
theorem dX11_init_239 : decode cX11_init 239 = .ok (.aload_n 0, 1) := by decide +kernel
theorem dX11_init_240 : decode cX11_init 240 = .ok (.bipush 64, 2) := by decide +kernel
theorem dX11_init_242 : decode cX11_init 242 = .ok (.newarray .int, 2) := by decide +kernel
theorem dX11_init_244 : decode cX11_init 244 = .ok (.putfield 89, 3) := by decide +kernel
theorem dX11_init_247 : decode cX11_init 247 = .ok (.aload_n 0, 1) := by decide +kernel
theorem dX11_init_248 : decode cX11_init 248 = .ok (.bipush 64, 2) := by decide +kernel
theorem dX11_init_250 : decode cX11_init 250 = .ok (.newarray .int, 2) := by decide +kernel
theorem dX11_init_252 : decode cX11_init 252 = .ok (.putfield 92, 3) := by decide +kernel
theorem dX11_init_255 : decode cX11_init 255 = .ok (.aload_n 0, 1) := by decide +kernel
theorem dX11_init_256 : decode cX11_init 256 = .ok (.bipush 64, 2) := by decide +kernel
theorem dX11_init_258 : decode cX11_init 258 = .ok (.newarray .int, 2) := by decide +kernel
theorem dX11_init_260 : decode cX11_init 260 = .ok (.putfield 95, 3) := by decide +kernel
theorem dX11_init_263 : decode cX11_init 263 = .ok (.aload_n 0, 1) := by decide +kernel
theorem dX11_init_264 : decode cX11_init 264 = .ok (.bipush 64, 2) := by decide +kernel
theorem dX11_init_266 : decode cX11_init 266 = .ok (.newarray .int, 2) := by decide +kernel
theorem dX11_init_268 : decode cX11_init 268 = .ok (.putfield 98, 3) := by decide +kernel
theorem dX11_init_271 : decode cX11_init 271 = .ok (.aload_n 0, 1) := by decide +kernel
theorem dX11_init_272 : decode cX11_init 272 = .ok (.ldc 101, 2) := by decide +kernel
theorem dX11_init_274 : decode cX11_init 274 = .ok (.newarray .boolean, 2) := by decide +kernel
theorem dX11_init_276 : decode cX11_init 276 = .ok (.putfield 102, 3) := by decide +kernel
theorem dX11_init_279 : decode cX11_init 279 = .ok (.aload_n 0, 1) := by decide +kernel
theorem dX11_init_280 : decode cX11_init 280 = .ok (.sipush 200, 3) := by decide +kernel
theorem dX11_init_283 : decode cX11_init 283 = .ok (.newarray .int, 2) := by decide +kernel
theorem dX11_init_285 : decode cX11_init 285 = .ok (.putfield 105, 3) := by decide +kernel
theorem dX11_init_288 : decode cX11_init 288 = .ok (.aload_n 0, 1) := by decide +kernel
theorem dX11_init_289 : decode cX11_init 289 = .ok (.bipush 46, 2) := by decide +kernel
theorem dX11_init_291 : decode cX11_init 291 = .ok (.newarray .boolean, 2) := by decide +kernel
theorem dX11_init_293 : decode cX11_init 293 = .ok (.putfield 108, 3) := by decide +kernel
theorem dX11_init_296 : decode cX11_init 296 = .ok (.aload_n 0, 1) := by decide +kernel
theorem dX11_init_297 : decode cX11_init 297 = .ok (.sipush 200, 3) := by decide +kernel
theorem dX11_init_300 : decode cX11_init 300 = .ok (.newarray .long, 2) := by decide +kernel
theorem dX11_init_302 : decode cX11_init 302 = .ok (.putfield 111, 3) := by decide +kernel
theorem dX11_init_305 : decode cX11_init 305 = .ok (.iconst 0, 1) := by decide +kernel
theorem dX11_init_306 : decode cX11_init 306 = .ok (.istore_n 1, 1) := by decide +kernel
theorem dX11_init_307 : decode cX11_init 307 = .ok (.iconst 0, 1) := by decide +kernel
theorem dX11_init_308 : decode cX11_init 308 = .ok (.istore_n 2, 1) := by decide +kernel
theorem dX11_init_309 : decode cX11_init 309 = .ok (.iload_n 2, 1) := by decide +kernel
theorem dX11_init_310 : decode cX11_init 310 = .ok (.bipush 8, 2) := by decide +kernel
theorem dX11_init_312 : decode cX11_init 312 = .ok (.if_icmp .gt 52, 3) := by decide +kernel
theorem dX11_init_315 : decode cX11_init 315 = .ok (.iload_n 2, 1) := by decide +kernel
theorem dX11_init_316 : decode cX11_init 316 = .ok (.istore_n 3, 1) := by decide +kernel
theorem dX11_init_317 : decode cX11_init 317 = .ok (.iload_n 3, 1) := by decide +kernel
theorem dX11_init_318 : decode cX11_init 318 = .ok (.bipush 8, 2) := by decide +kernel
theorem dX11_init_320 : decode cX11_init 320 = .ok (.if_icmp .gt 38, 3) := by decide +kernel
theorem dX11_init_323 : decode cX11_init 323 = .ok (.iinc 1 1, 3) := by decide +kernel
theorem dX11_init_326 : decode cX11_init 326 = .ok (.aload_n 0, 1) := by decide +kernel
theorem dX11_init_327 : decode cX11_init 327 = .ok (.getfield 11, 3) := by decide +kernel
theorem dX11_init_330 : decode cX11_init 330 = .ok (.iload_n 1, 1) := by decide +kernel
theorem dX11_init_331 : decode cX11_init 331 = .ok (.iload_n 2, 1) := by decide +kernel
theorem dX11_init_332 : decode cX11_init 332 = .ok (.iastore, 1) := by decide +kernel
theorem dX11_init_333 : decode cX11_init 333 = .ok (.aload_n 0, 1) := by decide +kernel
theorem dX11_init_334 : decode cX11_init 334 = .ok (.getfield 15, 3) := by decide +kernel
theorem dX11_init_337 : decode cX11_init 337 = .ok (.iload_n 1, 1) := by decide +kernel
theorem dX11_init_338 : decode cX11_init 338 = .ok (.iload_n 3, 1) := by decide +kernel
theorem dX11_init_339 : decode cX11_init 339 = .ok (.iastore, 1) := by decide +kernel
theorem dX11_init_340 : decode cX11_init 340 = .ok (.aload_n 0, 1) := by decide +kernel
theorem dX11_init_341 : decode cX11_init 341 = .ok (.getfield 18, 3) := by decide +kernel
theorem dX11_init_344 : decode cX11_init 344 = .ok (.bipush 9, 2) := by decide +kernel
theorem dX11_init_346 : decode cX11_init 346 = .ok (.iload_n 2, 1) := by decide +kernel
theorem dX11_init_347 : decode cX11_init 347 = .ok (.imul, 1) := by decide +kernel
theorem dX11_init_348 : decode cX11_init 348 = .ok (.iload_n 3, 1) := by decide +kernel
theorem dX11_init_349 : decode cX11_init 349 = .ok (.iadd, 1) := by decide +kernel
theorem dX11_init_350 : decode cX11_init 350 = .ok (.iload_n 1, 1) := by decide +kernel
theorem dX11_init_351 : decode cX11_init 351 = .ok (.iastore, 1) := by decide +kernel
theorem dX11_init_352 : decode cX11_init 352 = .ok (.iinc 3 1, 3) := by decide +kernel
theorem dX11_init_355 : decode cX11_init 355 = .ok (.goto (-38), 3) := by decide +kernel
theorem dX11_init_358 : decode cX11_init 358 = .ok (.iinc 2 1, 3) := by decide +kernel
theorem dX11_init_361 : decode cX11_init 361 = .ok (.goto (-52), 3) := by decide +kernel
theorem dX11_init_364 : decode cX11_init 364 = .ok (.return_, 1) := by decide +kernel
theorem dL_appendLetter_0 : decode cL_appendLetter 0 = .ok (.aload_n 2, 1) := by decide +kernel
theorem dL_appendLetter_1 : decode cL_appendLetter 1 = .ok (.iconst 0, 1) := by decide +kernel
theorem dL_appendLetter_2 : decode cL_appendLetter 2 = .ok (.aload_n 0, 1) := by decide +kernel
theorem dL_appendLetter_3 : decode cL_appendLetter 3 = .ok (.iload_n 1, 1) := by decide +kernel
theorem dL_appendLetter_4 : decode cL_appendLetter 4 = .ok (.invokevirtual 7, 3) := by decide +kernel
theorem dL_appendLetter_7 : decode cL_appendLetter 7 = .ok (.i2l, 1) := by decide +kernel
theorem dL_appendLetter_8 : decode cL_appendLetter 8 = .ok (.lastore, 1) := by decide +kernel
theorem dL_appendLetter_9 : decode cL_appendLetter 9 = .ok (.goto 9, 3) := by decide +kernel
theorem dL_appendLetter_12 : decode cL_appendLetter 12 = .ok (.astore_n 3, 1) := by decide +kernel
theorem dL_appendLetter_13 : decode cL_appendLetter 13 = .ok (.iconst 1, 1) := by decide +kernel
theorem dL_appendLetter_14 : decode cL_appendLetter 14 = .ok (.ireturn, 1) := by decide +kernel
theorem dL_appendLetter_18 : decode cL_appendLetter 18 = .ok (.iconst 0, 1) := by decide +kernel
theorem dL_appendLetter_19 : decode cL_appendLetter 19 = .ok (.ireturn, 1) := by decide +kernel
theorem dL_letter_0 : decode cL_letter 0 = .ok (.aload_n 2, 1) := by decide +kernel
theorem dL_letter_1 : decode cL_letter 1 = .ok (.iconst 0, 1) := by decide +kernel
theorem dL_letter_2 : decode cL_letter 2 = .ok (.aload_n 0, 1) := by decide +kernel
theorem dL_letter_3 : decode cL_letter 3 = .ok (.iload_n 1, 1) := by decide +kernel
theorem dL_letter_4 : decode cL_letter 4 = .ok (.invokevirtual 17, 3) := by decide +kernel
theorem dL_letter_12 : decode cL_letter 12 = .ok (.astore_n 3, 1) := by decide +kernel
theorem dL_letter_13 : decode cL_letter 13 = .ok (.iconst 1, 1) := by decide +kernel
theorem dL_letter_14 : decode cL_letter 14 = .ok (.ireturn, 1) := by decide +kernel
theorem dL_appendCharacter_0 : decode cL_appendCharacter 0 = .ok (.aload_n 2, 1) := by decide +kernel
theorem dL_appendCharacter_1 : decode cL_appendCharacter 1 = .ok (.iconst 0, 1) := by decide +kernel
theorem dL_appendCharacter_2 : decode cL_appendCharacter 2 = .ok (.aload_n 0, 1) := by decide +kernel
theorem dL_appendCharacter_3 : decode cL_appendCharacter 3 = .ok (.iload_n 1, 1) := by decide +kernel
theorem dL_appendCharacter_4 : decode cL_appendCharacter 4 = .ok (.invokevirtual 22, 3) := by decide +kernel
theorem dL_appendCharacter_7 : decode cL_appendCharacter 7 = .ok (.i2l, 1) := by decide +kernel
theorem dL_appendCharacter_8 : decode cL_appendCharacter 8 = .ok (.lastore, 1) := by decide +kernel
theorem dL_appendCharacter_9 : decode cL_appendCharacter 9 = .ok (.goto 9, 3) := by decide +kernel
theorem dL_appendCharacter_12 : decode cL_appendCharacter 12 = .ok (.astore_n 3, 1) := by decide +kernel
theorem dL_appendCharacter_13 : decode cL_appendCharacter 13 = .ok (.iconst 1, 1) := by decide +kernel
theorem dL_appendCharacter_14 : decode cL_appendCharacter 14 = .ok (.ireturn, 1) := by decide +kernel
theorem dL_appendCharacter_18 : decode cL_appendCharacter 18 = .ok (.iconst 0, 1) := by decide +kernel
theorem dL_appendCharacter_19 : decode cL_appendCharacter 19 = .ok (.ireturn, 1) := by decide +kernel
theorem dL_parse_0 : decode cL_parse 0 = .ok (.aload_n 1, 1) := by decide +kernel
theorem dL_parse_1 : decode cL_parse 1 = .ok (.iconst 0, 1) := by decide +kernel
theorem dL_parse_2 : decode cL_parse 2 = .ok (.aload_n 0, 1) := by decide +kernel
theorem dL_parse_3 : decode cL_parse 3 = .ok (.invokevirtual 25, 3) := by decide +kernel
theorem dL_parse_6 : decode cL_parse 6 = .ok (.i2l, 1) := by decide +kernel
theorem dL_parse_7 : decode cL_parse 7 = .ok (.lastore, 1) := by decide +kernel
theorem dL_parse_8 : decode cL_parse 8 = .ok (.goto 6, 3) := by decide +kernel
theorem dL_parse_14 : decode cL_parse 14 = .ok (.iconst 0, 1) := by decide +kernel
theorem dL_parse_15 : decode cL_parse 15 = .ok (.ireturn, 1) := by decide +kernel
theorem dL_formulaVariables_0 : decode cL_formulaVariables 0 = .ok (.aload_n 1, 1) := by decide +kernel
theorem dL_formulaVariables_1 : decode cL_formulaVariables 1 = .ok (.iconst 0, 1) := by decide +kernel
theorem dL_formulaVariables_2 : decode cL_formulaVariables 2 = .ok (.aload_n 0, 1) := by decide +kernel
theorem dL_formulaVariables_3 : decode cL_formulaVariables 3 = .ok (.invokevirtual 29, 3) := by decide +kernel
theorem dL_formulaVariables_11 : decode cL_formulaVariables 11 = .ok (.astore_n 2, 1) := by decide +kernel
theorem dL_formulaVariables_12 : decode cL_formulaVariables 12 = .ok (.iconst 1, 1) := by decide +kernel
theorem dL_formulaVariables_13 : decode cL_formulaVariables 13 = .ok (.ireturn, 1) := by decide +kernel
theorem dL_formulaKind_0 : decode cL_formulaKind 0 = .ok (.aload_n 1, 1) := by decide +kernel
theorem dL_formulaKind_1 : decode cL_formulaKind 1 = .ok (.iconst 0, 1) := by decide +kernel
theorem dL_formulaKind_2 : decode cL_formulaKind 2 = .ok (.aload_n 0, 1) := by decide +kernel
theorem dL_formulaKind_3 : decode cL_formulaKind 3 = .ok (.invokevirtual 32, 3) := by decide +kernel
theorem dL_formulaKind_11 : decode cL_formulaKind 11 = .ok (.astore_n 2, 1) := by decide +kernel
theorem dL_formulaKind_12 : decode cL_formulaKind 12 = .ok (.iconst 1, 1) := by decide +kernel
theorem dL_formulaKind_13 : decode cL_formulaKind 13 = .ok (.ireturn, 1) := by decide +kernel
theorem dL_extract_0 : decode cL_extract 0 = .ok (.aload_n 2, 1) := by decide +kernel
theorem dL_extract_1 : decode cL_extract 1 = .ok (.iconst 0, 1) := by decide +kernel
theorem dL_extract_2 : decode cL_extract 2 = .ok (.aload_n 0, 1) := by decide +kernel
theorem dL_extract_3 : decode cL_extract 3 = .ok (.iload_n 1, 1) := by decide +kernel
theorem dL_extract_4 : decode cL_extract 4 = .ok (.invokevirtual 35, 3) := by decide +kernel
theorem dL_extract_12 : decode cL_extract 12 = .ok (.astore_n 3, 1) := by decide +kernel
theorem dL_extract_13 : decode cL_extract 13 = .ok (.iconst 1, 1) := by decide +kernel
theorem dL_extract_14 : decode cL_extract 14 = .ok (.ireturn, 1) := by decide +kernel
theorem dL_extract_15 : decode cL_extract 15 = .ok (.astore_n 3, 1) := by decide +kernel
theorem dL_extract_16 : decode cL_extract 16 = .ok (.iconst 2, 1) := by decide +kernel
theorem dL_extract_17 : decode cL_extract 17 = .ok (.ireturn, 1) := by decide +kernel
theorem dL_size_0 : decode cL_size 0 = .ok (.aload_n 2, 1) := by decide +kernel
theorem dL_size_1 : decode cL_size 1 = .ok (.iconst 0, 1) := by decide +kernel
theorem dL_size_2 : decode cL_size 2 = .ok (.aload_n 0, 1) := by decide +kernel
theorem dL_size_3 : decode cL_size 3 = .ok (.iload_n 1, 1) := by decide +kernel
theorem dL_size_4 : decode cL_size 4 = .ok (.invokevirtual 38, 3) := by decide +kernel
theorem dL_size_12 : decode cL_size 12 = .ok (.astore_n 3, 1) := by decide +kernel
theorem dL_size_13 : decode cL_size 13 = .ok (.iconst 1, 1) := by decide +kernel
theorem dL_size_14 : decode cL_size 14 = .ok (.ireturn, 1) := by decide +kernel
theorem dL_size_15 : decode cL_size 15 = .ok (.astore_n 3, 1) := by decide +kernel
theorem dL_size_16 : decode cL_size 16 = .ok (.iconst 2, 1) := by decide +kernel
theorem dL_size_17 : decode cL_size 17 = .ok (.ireturn, 1) := by decide +kernel
theorem dL_start_0 : decode cL_start 0 = .ok (.aload 4, 2) := by decide +kernel
theorem dL_start_2 : decode cL_start 2 = .ok (.iconst 0, 1) := by decide +kernel
theorem dL_start_3 : decode cL_start 3 = .ok (.aload_n 0, 1) := by decide +kernel
theorem dL_start_4 : decode cL_start 4 = .ok (.iload_n 1, 1) := by decide +kernel
theorem dL_start_5 : decode cL_start 5 = .ok (.iload_n 2, 1) := by decide +kernel
theorem dL_start_6 : decode cL_start 6 = .ok (.iload_n 3, 1) := by decide +kernel
theorem dL_start_7 : decode cL_start 7 = .ok (.invokevirtual 41, 3) := by decide +kernel
theorem dL_start_15 : decode cL_start 15 = .ok (.astore 5, 2) := by decide +kernel
theorem dL_start_17 : decode cL_start 17 = .ok (.iconst 1, 1) := by decide +kernel
theorem dL_start_18 : decode cL_start 18 = .ok (.ireturn, 1) := by decide +kernel
theorem dL_start_19 : decode cL_start 19 = .ok (.astore 5, 2) := by decide +kernel
theorem dL_start_21 : decode cL_start 21 = .ok (.iconst 2, 1) := by decide +kernel
theorem dL_start_22 : decode cL_start 22 = .ok (.ireturn, 1) := by decide +kernel
theorem dL_end_0 : decode cL_end 0 = .ok (.aload 4, 2) := by decide +kernel
theorem dL_end_2 : decode cL_end 2 = .ok (.iconst 0, 1) := by decide +kernel
theorem dL_end_3 : decode cL_end 3 = .ok (.aload_n 0, 1) := by decide +kernel
theorem dL_end_4 : decode cL_end 4 = .ok (.iload_n 1, 1) := by decide +kernel
theorem dL_end_5 : decode cL_end 5 = .ok (.iload_n 2, 1) := by decide +kernel
theorem dL_end_6 : decode cL_end 6 = .ok (.iload_n 3, 1) := by decide +kernel
theorem dL_end_7 : decode cL_end 7 = .ok (.invokevirtual 45, 3) := by decide +kernel
theorem dL_end_15 : decode cL_end 15 = .ok (.astore 5, 2) := by decide +kernel
theorem dL_end_17 : decode cL_end 17 = .ok (.iconst 1, 1) := by decide +kernel
theorem dL_end_18 : decode cL_end 18 = .ok (.ireturn, 1) := by decide +kernel
theorem dL_end_19 : decode cL_end 19 = .ok (.astore 5, 2) := by decide +kernel
theorem dL_end_21 : decode cL_end 21 = .ok (.iconst 2, 1) := by decide +kernel
theorem dL_end_22 : decode cL_end 22 = .ok (.ireturn, 1) := by decide +kernel
theorem dL_domain_0 : decode cL_domain 0 = .ok (.aload_n 2, 1) := by decide +kernel
theorem dL_domain_1 : decode cL_domain 1 = .ok (.iconst 0, 1) := by decide +kernel
theorem dL_domain_2 : decode cL_domain 2 = .ok (.aload_n 0, 1) := by decide +kernel
theorem dL_domain_3 : decode cL_domain 3 = .ok (.iload_n 1, 1) := by decide +kernel
theorem dL_domain_4 : decode cL_domain 4 = .ok (.invokevirtual 48, 3) := by decide +kernel
theorem dL_domain_12 : decode cL_domain 12 = .ok (.astore_n 3, 1) := by decide +kernel
theorem dL_domain_13 : decode cL_domain 13 = .ok (.iconst 1, 1) := by decide +kernel
theorem dL_domain_14 : decode cL_domain 14 = .ok (.ireturn, 1) := by decide +kernel
theorem dL_domain_15 : decode cL_domain 15 = .ok (.astore_n 3, 1) := by decide +kernel
theorem dL_domain_16 : decode cL_domain 16 = .ok (.iconst 2, 1) := by decide +kernel
theorem dL_domain_17 : decode cL_domain 17 = .ok (.ireturn, 1) := by decide +kernel
theorem dL_clear_0 : decode cL_clear 0 = .ok (.aload_n 2, 1) := by decide +kernel
theorem dL_clear_1 : decode cL_clear 1 = .ok (.iconst 0, 1) := by decide +kernel
theorem dL_clear_2 : decode cL_clear 2 = .ok (.aload_n 0, 1) := by decide +kernel
theorem dL_clear_3 : decode cL_clear 3 = .ok (.iload_n 1, 1) := by decide +kernel
theorem dL_clear_4 : decode cL_clear 4 = .ok (.invokevirtual 51, 3) := by decide +kernel
theorem dL_clear_7 : decode cL_clear 7 = .ok (.i2l, 1) := by decide +kernel
theorem dL_clear_8 : decode cL_clear 8 = .ok (.lastore, 1) := by decide +kernel
theorem dL_clear_9 : decode cL_clear 9 = .ok (.goto 6, 3) := by decide +kernel
theorem dL_clear_12 : decode cL_clear 12 = .ok (.astore_n 3, 1) := by decide +kernel
theorem dL_clear_13 : decode cL_clear 13 = .ok (.iconst 1, 1) := by decide +kernel
theorem dL_clear_14 : decode cL_clear 14 = .ok (.ireturn, 1) := by decide +kernel
theorem dL_clear_15 : decode cL_clear 15 = .ok (.iconst 0, 1) := by decide +kernel
theorem dL_clear_16 : decode cL_clear 16 = .ok (.ireturn, 1) := by decide +kernel
theorem dL_union_0 : decode cL_union 0 = .ok (.aload 4, 2) := by decide +kernel
theorem dL_union_2 : decode cL_union 2 = .ok (.iconst 0, 1) := by decide +kernel
theorem dL_union_3 : decode cL_union 3 = .ok (.aload_n 0, 1) := by decide +kernel
theorem dL_union_4 : decode cL_union 4 = .ok (.iload_n 1, 1) := by decide +kernel
theorem dL_union_5 : decode cL_union 5 = .ok (.iload_n 2, 1) := by decide +kernel
theorem dL_union_6 : decode cL_union 6 = .ok (.iload_n 3, 1) := by decide +kernel
theorem dL_union_7 : decode cL_union 7 = .ok (.invokevirtual 54, 3) := by decide +kernel
theorem dL_union_15 : decode cL_union 15 = .ok (.astore 5, 2) := by decide +kernel
theorem dL_union_17 : decode cL_union 17 = .ok (.iconst 1, 1) := by decide +kernel
theorem dL_union_18 : decode cL_union 18 = .ok (.ireturn, 1) := by decide +kernel
theorem dL_union_19 : decode cL_union 19 = .ok (.astore 5, 2) := by decide +kernel
theorem dL_union_21 : decode cL_union 21 = .ok (.iconst 2, 1) := by decide +kernel
theorem dL_union_22 : decode cL_union 22 = .ok (.ireturn, 1) := by decide +kernel
theorem dL_join_0 : decode cL_join 0 = .ok (.aload 4, 2) := by decide +kernel
theorem dL_join_2 : decode cL_join 2 = .ok (.iconst 0, 1) := by decide +kernel
theorem dL_join_3 : decode cL_join 3 = .ok (.aload_n 0, 1) := by decide +kernel
theorem dL_join_4 : decode cL_join 4 = .ok (.iload_n 1, 1) := by decide +kernel
theorem dL_join_5 : decode cL_join 5 = .ok (.iload_n 2, 1) := by decide +kernel
theorem dL_join_6 : decode cL_join 6 = .ok (.iload_n 3, 1) := by decide +kernel
theorem dL_join_7 : decode cL_join 7 = .ok (.invokevirtual 57, 3) := by decide +kernel
theorem dL_join_15 : decode cL_join 15 = .ok (.astore 5, 2) := by decide +kernel
theorem dL_join_17 : decode cL_join 17 = .ok (.iconst 1, 1) := by decide +kernel
theorem dL_join_18 : decode cL_join 18 = .ok (.ireturn, 1) := by decide +kernel
theorem dL_join_19 : decode cL_join 19 = .ok (.astore 5, 2) := by decide +kernel
theorem dL_join_21 : decode cL_join 21 = .ok (.iconst 2, 1) := by decide +kernel
theorem dL_join_22 : decode cL_join 22 = .ok (.ireturn, 1) := by decide +kernel
theorem dL_minus_0 : decode cL_minus 0 = .ok (.aload 4, 2) := by decide +kernel
theorem dL_minus_2 : decode cL_minus 2 = .ok (.iconst 0, 1) := by decide +kernel
theorem dL_minus_3 : decode cL_minus 3 = .ok (.aload_n 0, 1) := by decide +kernel
theorem dL_minus_4 : decode cL_minus 4 = .ok (.iload_n 1, 1) := by decide +kernel
theorem dL_minus_5 : decode cL_minus 5 = .ok (.iload_n 2, 1) := by decide +kernel
theorem dL_minus_6 : decode cL_minus 6 = .ok (.iload_n 3, 1) := by decide +kernel
theorem dL_minus_7 : decode cL_minus 7 = .ok (.invokevirtual 60, 3) := by decide +kernel
theorem dL_minus_15 : decode cL_minus 15 = .ok (.astore 5, 2) := by decide +kernel
theorem dL_minus_17 : decode cL_minus 17 = .ok (.iconst 1, 1) := by decide +kernel
theorem dL_minus_18 : decode cL_minus 18 = .ok (.ireturn, 1) := by decide +kernel
theorem dL_minus_19 : decode cL_minus 19 = .ok (.astore 5, 2) := by decide +kernel
theorem dL_minus_21 : decode cL_minus 21 = .ok (.iconst 2, 1) := by decide +kernel
theorem dL_minus_22 : decode cL_minus 22 = .ok (.ireturn, 1) := by decide +kernel
theorem dL_antijoin_0 : decode cL_antijoin 0 = .ok (.aload 4, 2) := by decide +kernel
theorem dL_antijoin_2 : decode cL_antijoin 2 = .ok (.iconst 0, 1) := by decide +kernel
theorem dL_antijoin_3 : decode cL_antijoin 3 = .ok (.aload_n 0, 1) := by decide +kernel
theorem dL_antijoin_4 : decode cL_antijoin 4 = .ok (.iload_n 1, 1) := by decide +kernel
theorem dL_antijoin_5 : decode cL_antijoin 5 = .ok (.iload_n 2, 1) := by decide +kernel
theorem dL_antijoin_6 : decode cL_antijoin 6 = .ok (.iload_n 3, 1) := by decide +kernel
theorem dL_antijoin_7 : decode cL_antijoin 7 = .ok (.invokevirtual 63, 3) := by decide +kernel
theorem dL_antijoin_15 : decode cL_antijoin 15 = .ok (.astore 5, 2) := by decide +kernel
theorem dL_antijoin_17 : decode cL_antijoin 17 = .ok (.iconst 1, 1) := by decide +kernel
theorem dL_antijoin_18 : decode cL_antijoin 18 = .ok (.ireturn, 1) := by decide +kernel
theorem dL_antijoin_19 : decode cL_antijoin 19 = .ok (.astore 5, 2) := by decide +kernel
theorem dL_antijoin_21 : decode cL_antijoin 21 = .ok (.iconst 2, 1) := by decide +kernel
theorem dL_antijoin_22 : decode cL_antijoin 22 = .ok (.ireturn, 1) := by decide +kernel
theorem dL_project_0 : decode cL_project 0 = .ok (.aload 4, 2) := by decide +kernel
theorem dL_project_2 : decode cL_project 2 = .ok (.iconst 0, 1) := by decide +kernel
theorem dL_project_3 : decode cL_project 3 = .ok (.aload_n 0, 1) := by decide +kernel
theorem dL_project_4 : decode cL_project 4 = .ok (.iload_n 1, 1) := by decide +kernel
theorem dL_project_5 : decode cL_project 5 = .ok (.iload_n 2, 1) := by decide +kernel
theorem dL_project_6 : decode cL_project 6 = .ok (.iload_n 3, 1) := by decide +kernel
theorem dL_project_7 : decode cL_project 7 = .ok (.invokevirtual 66, 3) := by decide +kernel
theorem dL_project_15 : decode cL_project 15 = .ok (.astore 5, 2) := by decide +kernel
theorem dL_project_17 : decode cL_project 17 = .ok (.iconst 1, 1) := by decide +kernel
theorem dL_project_18 : decode cL_project 18 = .ok (.ireturn, 1) := by decide +kernel
theorem dL_project_19 : decode cL_project 19 = .ok (.astore 5, 2) := by decide +kernel
theorem dL_project_21 : decode cL_project 21 = .ok (.iconst 2, 1) := by decide +kernel
theorem dL_project_22 : decode cL_project 22 = .ok (.ireturn, 1) := by decide +kernel
theorem dL_project_23 : decode cL_project 23 = .ok (.astore 5, 2) := by decide +kernel
theorem dL_project_25 : decode cL_project 25 = .ok (.iconst 3, 1) := by decide +kernel
theorem dL_project_26 : decode cL_project 26 = .ok (.ireturn, 1) := by decide +kernel
theorem dL_exchange_0 : decode cL_exchange 0 = .ok (.aload 5, 2) := by decide +kernel
theorem dL_exchange_2 : decode cL_exchange 2 = .ok (.iconst 0, 1) := by decide +kernel
theorem dL_exchange_3 : decode cL_exchange 3 = .ok (.aload_n 0, 1) := by decide +kernel
theorem dL_exchange_4 : decode cL_exchange 4 = .ok (.iload_n 1, 1) := by decide +kernel
theorem dL_exchange_5 : decode cL_exchange 5 = .ok (.iload_n 2, 1) := by decide +kernel
theorem dL_exchange_6 : decode cL_exchange 6 = .ok (.iload_n 3, 1) := by decide +kernel
theorem dL_exchange_7 : decode cL_exchange 7 = .ok (.iload 4, 2) := by decide +kernel
theorem dL_exchange_9 : decode cL_exchange 9 = .ok (.invokevirtual 69, 3) := by decide +kernel
theorem dL_exchange_17 : decode cL_exchange 17 = .ok (.astore 6, 2) := by decide +kernel
theorem dL_exchange_19 : decode cL_exchange 19 = .ok (.iconst 1, 1) := by decide +kernel
theorem dL_exchange_20 : decode cL_exchange 20 = .ok (.ireturn, 1) := by decide +kernel
theorem dL_exchange_21 : decode cL_exchange 21 = .ok (.astore 6, 2) := by decide +kernel
theorem dL_exchange_23 : decode cL_exchange 23 = .ok (.iconst 2, 1) := by decide +kernel
theorem dL_exchange_24 : decode cL_exchange 24 = .ok (.ireturn, 1) := by decide +kernel
theorem dL_selectEqual_0 : decode cL_selectEqual 0 = .ok (.aload 5, 2) := by decide +kernel
theorem dL_selectEqual_2 : decode cL_selectEqual 2 = .ok (.iconst 0, 1) := by decide +kernel
theorem dL_selectEqual_3 : decode cL_selectEqual 3 = .ok (.aload_n 0, 1) := by decide +kernel
theorem dL_selectEqual_4 : decode cL_selectEqual 4 = .ok (.iload_n 1, 1) := by decide +kernel
theorem dL_selectEqual_5 : decode cL_selectEqual 5 = .ok (.iload_n 2, 1) := by decide +kernel
theorem dL_selectEqual_6 : decode cL_selectEqual 6 = .ok (.iload_n 3, 1) := by decide +kernel
theorem dL_selectEqual_7 : decode cL_selectEqual 7 = .ok (.iload 4, 2) := by decide +kernel
theorem dL_selectEqual_9 : decode cL_selectEqual 9 = .ok (.invokevirtual 73, 3) := by decide +kernel
theorem dL_selectEqual_17 : decode cL_selectEqual 17 = .ok (.astore 6, 2) := by decide +kernel
theorem dL_selectEqual_19 : decode cL_selectEqual 19 = .ok (.iconst 1, 1) := by decide +kernel
theorem dL_selectEqual_20 : decode cL_selectEqual 20 = .ok (.ireturn, 1) := by decide +kernel
theorem dL_selectEqual_21 : decode cL_selectEqual 21 = .ok (.astore 6, 2) := by decide +kernel
theorem dL_selectEqual_23 : decode cL_selectEqual 23 = .ok (.iconst 2, 1) := by decide +kernel
theorem dL_selectEqual_24 : decode cL_selectEqual 24 = .ok (.ireturn, 1) := by decide +kernel
theorem dL_selectLength_0 : decode cL_selectLength 0 = .ok (.aload 6, 2) := by decide +kernel
theorem dL_selectLength_2 : decode cL_selectLength 2 = .ok (.iconst 0, 1) := by decide +kernel
theorem dL_selectLength_3 : decode cL_selectLength 3 = .ok (.aload_n 0, 1) := by decide +kernel
theorem dL_selectLength_4 : decode cL_selectLength 4 = .ok (.iload_n 1, 1) := by decide +kernel
theorem dL_selectLength_5 : decode cL_selectLength 5 = .ok (.iload_n 2, 1) := by decide +kernel
theorem dL_selectLength_6 : decode cL_selectLength 6 = .ok (.iload_n 3, 1) := by decide +kernel
theorem dL_selectLength_7 : decode cL_selectLength 7 = .ok (.iload 4, 2) := by decide +kernel
theorem dL_selectLength_9 : decode cL_selectLength 9 = .ok (.iload 5, 2) := by decide +kernel
theorem dL_selectLength_11 : decode cL_selectLength 11 = .ok (.invokevirtual 76, 3) := by decide +kernel
theorem dL_selectLength_19 : decode cL_selectLength 19 = .ok (.astore 7, 2) := by decide +kernel
theorem dL_selectLength_21 : decode cL_selectLength 21 = .ok (.iconst 1, 1) := by decide +kernel
theorem dL_selectLength_22 : decode cL_selectLength 22 = .ok (.ireturn, 1) := by decide +kernel
theorem dL_selectLength_23 : decode cL_selectLength 23 = .ok (.astore 7, 2) := by decide +kernel
theorem dL_selectLength_25 : decode cL_selectLength 25 = .ok (.iconst 2, 1) := by decide +kernel
theorem dL_selectLength_26 : decode cL_selectLength 26 = .ok (.ireturn, 1) := by decide +kernel
theorem dL_selectRelation_0 : decode cL_selectRelation 0 = .ok (.aload 6, 2) := by decide +kernel
theorem dL_selectRelation_2 : decode cL_selectRelation 2 = .ok (.iconst 0, 1) := by decide +kernel
theorem dL_selectRelation_3 : decode cL_selectRelation 3 = .ok (.aload_n 0, 1) := by decide +kernel
theorem dL_selectRelation_4 : decode cL_selectRelation 4 = .ok (.iload_n 1, 1) := by decide +kernel
theorem dL_selectRelation_5 : decode cL_selectRelation 5 = .ok (.iload_n 2, 1) := by decide +kernel
theorem dL_selectRelation_6 : decode cL_selectRelation 6 = .ok (.iload_n 3, 1) := by decide +kernel
theorem dL_selectRelation_7 : decode cL_selectRelation 7 = .ok (.iload 4, 2) := by decide +kernel
theorem dL_selectRelation_9 : decode cL_selectRelation 9 = .ok (.iload 5, 2) := by decide +kernel
theorem dL_selectRelation_11 : decode cL_selectRelation 11 = .ok (.invokevirtual 80, 3) := by decide +kernel
theorem dL_selectRelation_19 : decode cL_selectRelation 19 = .ok (.astore 7, 2) := by decide +kernel
theorem dL_selectRelation_21 : decode cL_selectRelation 21 = .ok (.iconst 1, 1) := by decide +kernel
theorem dL_selectRelation_22 : decode cL_selectRelation 22 = .ok (.ireturn, 1) := by decide +kernel
theorem dL_selectRelation_23 : decode cL_selectRelation 23 = .ok (.astore 7, 2) := by decide +kernel
theorem dL_selectRelation_25 : decode cL_selectRelation 25 = .ok (.iconst 2, 1) := by decide +kernel
theorem dL_selectRelation_26 : decode cL_selectRelation 26 = .ok (.ireturn, 1) := by decide +kernel
theorem dL_selectRelation_27 : decode cL_selectRelation 27 = .ok (.astore 7, 2) := by decide +kernel
theorem dL_selectRelation_29 : decode cL_selectRelation 29 = .ok (.iconst 3, 1) := by decide +kernel
theorem dL_selectRelation_30 : decode cL_selectRelation 30 = .ok (.ireturn, 1) := by decide +kernel
theorem dL_contained_0 : decode cL_contained 0 = .ok (.aload_n 3, 1) := by decide +kernel
theorem dL_contained_1 : decode cL_contained 1 = .ok (.iconst 0, 1) := by decide +kernel
theorem dL_contained_2 : decode cL_contained 2 = .ok (.aload_n 0, 1) := by decide +kernel
theorem dL_contained_3 : decode cL_contained 3 = .ok (.iload_n 1, 1) := by decide +kernel
theorem dL_contained_4 : decode cL_contained 4 = .ok (.iload_n 2, 1) := by decide +kernel
theorem dL_contained_5 : decode cL_contained 5 = .ok (.invokevirtual 83, 3) := by decide +kernel
theorem dL_contained_20 : decode cL_contained 20 = .ok (.astore 4, 2) := by decide +kernel
theorem dL_contained_22 : decode cL_contained 22 = .ok (.iconst 1, 1) := by decide +kernel
theorem dL_contained_23 : decode cL_contained 23 = .ok (.ireturn, 1) := by decide +kernel
theorem dL_contained_24 : decode cL_contained 24 = .ok (.astore 4, 2) := by decide +kernel
theorem dL_contained_26 : decode cL_contained 26 = .ok (.iconst 2, 1) := by decide +kernel
theorem dL_contained_27 : decode cL_contained 27 = .ok (.ireturn, 1) := by decide +kernel
theorem dL_disjoint_0 : decode cL_disjoint 0 = .ok (.aload_n 2, 1) := by decide +kernel
theorem dL_disjoint_1 : decode cL_disjoint 1 = .ok (.iconst 0, 1) := by decide +kernel
theorem dL_disjoint_2 : decode cL_disjoint 2 = .ok (.aload_n 0, 1) := by decide +kernel
theorem dL_disjoint_3 : decode cL_disjoint 3 = .ok (.iload_n 1, 1) := by decide +kernel
theorem dL_disjoint_4 : decode cL_disjoint 4 = .ok (.invokevirtual 87, 3) := by decide +kernel
theorem dL_disjoint_19 : decode cL_disjoint 19 = .ok (.astore_n 3, 1) := by decide +kernel
theorem dL_disjoint_20 : decode cL_disjoint 20 = .ok (.iconst 1, 1) := by decide +kernel
theorem dL_disjoint_21 : decode cL_disjoint 21 = .ok (.ireturn, 1) := by decide +kernel
theorem dL_disjoint_22 : decode cL_disjoint 22 = .ok (.astore_n 3, 1) := by decide +kernel
theorem dL_disjoint_23 : decode cL_disjoint 23 = .ok (.iconst 2, 1) := by decide +kernel
theorem dL_disjoint_24 : decode cL_disjoint 24 = .ok (.ireturn, 1) := by decide +kernel
theorem dL_extractSplit_0 : decode cL_extractSplit 0 = .ok (.aload_n 3, 1) := by decide +kernel
theorem dL_extractSplit_1 : decode cL_extractSplit 1 = .ok (.iconst 0, 1) := by decide +kernel
theorem dL_extractSplit_2 : decode cL_extractSplit 2 = .ok (.aload_n 0, 1) := by decide +kernel
theorem dL_extractSplit_3 : decode cL_extractSplit 3 = .ok (.iload_n 1, 1) := by decide +kernel
theorem dL_extractSplit_4 : decode cL_extractSplit 4 = .ok (.iload_n 2, 1) := by decide +kernel
theorem dL_extractSplit_5 : decode cL_extractSplit 5 = .ok (.invokevirtual 91, 3) := by decide +kernel
theorem dL_extractSplit_13 : decode cL_extractSplit 13 = .ok (.astore 4, 2) := by decide +kernel
theorem dL_extractSplit_15 : decode cL_extractSplit 15 = .ok (.iconst 1, 1) := by decide +kernel
theorem dL_extractSplit_16 : decode cL_extractSplit 16 = .ok (.ireturn, 1) := by decide +kernel
theorem dL_extractSplit_17 : decode cL_extractSplit 17 = .ok (.astore 4, 2) := by decide +kernel
theorem dL_extractSplit_19 : decode cL_extractSplit 19 = .ok (.iconst 2, 1) := by decide +kernel
theorem dL_extractSplit_20 : decode cL_extractSplit 20 = .ok (.ireturn, 1) := by decide +kernel
theorem dL_splitCorrect_0 : decode cL_splitCorrect 0 = .ok (.aload_n 2, 1) := by decide +kernel
theorem dL_splitCorrect_1 : decode cL_splitCorrect 1 = .ok (.iconst 0, 1) := by decide +kernel
theorem dL_splitCorrect_2 : decode cL_splitCorrect 2 = .ok (.aload_n 0, 1) := by decide +kernel
theorem dL_splitCorrect_3 : decode cL_splitCorrect 3 = .ok (.iload_n 1, 1) := by decide +kernel
theorem dL_splitCorrect_4 : decode cL_splitCorrect 4 = .ok (.invokevirtual 95, 3) := by decide +kernel
theorem dL_splitCorrect_19 : decode cL_splitCorrect 19 = .ok (.astore_n 3, 1) := by decide +kernel
theorem dL_splitCorrect_20 : decode cL_splitCorrect 20 = .ok (.iconst 1, 1) := by decide +kernel
theorem dL_splitCorrect_21 : decode cL_splitCorrect 21 = .ok (.ireturn, 1) := by decide +kernel
theorem dL_splitCorrect_22 : decode cL_splitCorrect 22 = .ok (.astore_n 3, 1) := by decide +kernel
theorem dL_splitCorrect_23 : decode cL_splitCorrect 23 = .ok (.iconst 2, 1) := by decide +kernel
theorem dL_splitCorrect_24 : decode cL_splitCorrect 24 = .ok (.ireturn, 1) := by decide +kernel
theorem dL_openCursor_0 : decode cL_openCursor 0 = .ok (.aload_n 2, 1) := by decide +kernel
theorem dL_openCursor_1 : decode cL_openCursor 1 = .ok (.iconst 0, 1) := by decide +kernel
theorem dL_openCursor_2 : decode cL_openCursor 2 = .ok (.aload_n 0, 1) := by decide +kernel
theorem dL_openCursor_3 : decode cL_openCursor 3 = .ok (.iload_n 1, 1) := by decide +kernel
theorem dL_openCursor_4 : decode cL_openCursor 4 = .ok (.invokevirtual 98, 3) := by decide +kernel
theorem dL_openCursor_12 : decode cL_openCursor 12 = .ok (.astore_n 3, 1) := by decide +kernel
theorem dL_openCursor_13 : decode cL_openCursor 13 = .ok (.iconst 1, 1) := by decide +kernel
theorem dL_openCursor_14 : decode cL_openCursor 14 = .ok (.ireturn, 1) := by decide +kernel
theorem dL_openCursor_15 : decode cL_openCursor 15 = .ok (.astore_n 3, 1) := by decide +kernel
theorem dL_openCursor_16 : decode cL_openCursor 16 = .ok (.iconst 2, 1) := by decide +kernel
theorem dL_openCursor_17 : decode cL_openCursor 17 = .ok (.ireturn, 1) := by decide +kernel
theorem dL_cursorRow_0 : decode cL_cursorRow 0 = .ok (.aload_n 1, 1) := by decide +kernel
theorem dL_cursorRow_1 : decode cL_cursorRow 1 = .ok (.iconst 0, 1) := by decide +kernel
theorem dL_cursorRow_2 : decode cL_cursorRow 2 = .ok (.aload_n 0, 1) := by decide +kernel
theorem dL_cursorRow_3 : decode cL_cursorRow 3 = .ok (.invokevirtual 101, 3) := by decide +kernel
theorem dL_cursorRow_11 : decode cL_cursorRow 11 = .ok (.astore_n 2, 1) := by decide +kernel
theorem dL_cursorRow_12 : decode cL_cursorRow 12 = .ok (.iconst 1, 1) := by decide +kernel
theorem dL_cursorRow_13 : decode cL_cursorRow 13 = .ok (.ireturn, 1) := by decide +kernel
theorem dL_advance_0 : decode cL_advance 0 = .ok (.aload_n 2, 1) := by decide +kernel
theorem dL_advance_1 : decode cL_advance 1 = .ok (.iconst 0, 1) := by decide +kernel
theorem dL_advance_2 : decode cL_advance 2 = .ok (.aload_n 0, 1) := by decide +kernel
theorem dL_advance_3 : decode cL_advance 3 = .ok (.iload_n 1, 1) := by decide +kernel
theorem dL_advance_4 : decode cL_advance 4 = .ok (.invokevirtual 104, 3) := by decide +kernel
theorem dL_advance_12 : decode cL_advance 12 = .ok (.astore_n 3, 1) := by decide +kernel
theorem dL_advance_13 : decode cL_advance 13 = .ok (.iconst 1, 1) := by decide +kernel
theorem dL_advance_14 : decode cL_advance 14 = .ok (.ireturn, 1) := by decide +kernel
theorem dL_advance_15 : decode cL_advance 15 = .ok (.astore_n 3, 1) := by decide +kernel
theorem dL_advance_16 : decode cL_advance 16 = .ok (.iconst 2, 1) := by decide +kernel
theorem dL_advance_17 : decode cL_advance 17 = .ok (.ireturn, 1) := by decide +kernel
theorem dL_skipTo_0 : decode cL_skipTo 0 = .ok (.aload_n 2, 1) := by decide +kernel
theorem dL_skipTo_1 : decode cL_skipTo 1 = .ok (.iconst 0, 1) := by decide +kernel
theorem dL_skipTo_2 : decode cL_skipTo 2 = .ok (.aload_n 0, 1) := by decide +kernel
theorem dL_skipTo_3 : decode cL_skipTo 3 = .ok (.iload_n 1, 1) := by decide +kernel
theorem dL_skipTo_4 : decode cL_skipTo 4 = .ok (.invokevirtual 107, 3) := by decide +kernel
theorem dL_skipTo_12 : decode cL_skipTo 12 = .ok (.astore_n 3, 1) := by decide +kernel
theorem dL_skipTo_13 : decode cL_skipTo 13 = .ok (.iconst 1, 1) := by decide +kernel
theorem dL_skipTo_14 : decode cL_skipTo 14 = .ok (.ireturn, 1) := by decide +kernel
theorem dL_setWeight_0 : decode cL_setWeight 0 = .ok (.aload_n 3, 1) := by decide +kernel
theorem dL_setWeight_1 : decode cL_setWeight 1 = .ok (.iconst 0, 1) := by decide +kernel
theorem dL_setWeight_2 : decode cL_setWeight 2 = .ok (.aload_n 0, 1) := by decide +kernel
theorem dL_setWeight_3 : decode cL_setWeight 3 = .ok (.iload_n 1, 1) := by decide +kernel
theorem dL_setWeight_4 : decode cL_setWeight 4 = .ok (.iload_n 2, 1) := by decide +kernel
theorem dL_setWeight_5 : decode cL_setWeight 5 = .ok (.invokevirtual 110, 3) := by decide +kernel
theorem dL_setWeight_8 : decode cL_setWeight 8 = .ok (.i2l, 1) := by decide +kernel
theorem dL_setWeight_9 : decode cL_setWeight 9 = .ok (.lastore, 1) := by decide +kernel
theorem dL_setWeight_10 : decode cL_setWeight 10 = .ok (.goto 7, 3) := by decide +kernel
theorem dL_setWeight_13 : decode cL_setWeight 13 = .ok (.astore 4, 2) := by decide +kernel
theorem dL_setWeight_15 : decode cL_setWeight 15 = .ok (.iconst 1, 1) := by decide +kernel
theorem dL_setWeight_16 : decode cL_setWeight 16 = .ok (.ireturn, 1) := by decide +kernel
theorem dL_setWeight_17 : decode cL_setWeight 17 = .ok (.iconst 0, 1) := by decide +kernel
theorem dL_setWeight_18 : decode cL_setWeight 18 = .ok (.ireturn, 1) := by decide +kernel
theorem dL_score_0 : decode cL_score 0 = .ok (.aload_n 3, 1) := by decide +kernel
theorem dL_score_1 : decode cL_score 1 = .ok (.iconst 0, 1) := by decide +kernel
theorem dL_score_2 : decode cL_score 2 = .ok (.aload_n 0, 1) := by decide +kernel
theorem dL_score_3 : decode cL_score 3 = .ok (.iload_n 1, 1) := by decide +kernel
theorem dL_score_4 : decode cL_score 4 = .ok (.iload_n 2, 1) := by decide +kernel
theorem dL_score_5 : decode cL_score 5 = .ok (.invokevirtual 113, 3) := by decide +kernel
theorem dL_score_13 : decode cL_score 13 = .ok (.astore 4, 2) := by decide +kernel
theorem dL_score_15 : decode cL_score 15 = .ok (.iconst 1, 1) := by decide +kernel
theorem dL_score_16 : decode cL_score 16 = .ok (.ireturn, 1) := by decide +kernel
theorem dL_score_17 : decode cL_score 17 = .ok (.astore 4, 2) := by decide +kernel
theorem dL_score_19 : decode cL_score 19 = .ok (.iconst 2, 1) := by decide +kernel
theorem dL_score_20 : decode cL_score 20 = .ok (.ireturn, 1) := by decide +kernel
theorem dL_classes_0 : decode cL_classes 0 = .ok (.aload_n 2, 1) := by decide +kernel
theorem dL_classes_1 : decode cL_classes 1 = .ok (.iconst 0, 1) := by decide +kernel
theorem dL_classes_2 : decode cL_classes 2 = .ok (.aload_n 0, 1) := by decide +kernel
theorem dL_classes_3 : decode cL_classes 3 = .ok (.iload_n 1, 1) := by decide +kernel
theorem dL_classes_4 : decode cL_classes 4 = .ok (.invokevirtual 118, 3) := by decide +kernel
theorem dL_classes_12 : decode cL_classes 12 = .ok (.astore_n 3, 1) := by decide +kernel
theorem dL_classes_13 : decode cL_classes 13 = .ok (.iconst 1, 1) := by decide +kernel
theorem dL_classes_14 : decode cL_classes 14 = .ok (.ireturn, 1) := by decide +kernel
theorem dL_classes_15 : decode cL_classes 15 = .ok (.astore_n 3, 1) := by decide +kernel
theorem dL_classes_16 : decode cL_classes 16 = .ok (.iconst 2, 1) := by decide +kernel
theorem dL_classes_17 : decode cL_classes 17 = .ok (.ireturn, 1) := by decide +kernel
theorem dL_rank_0 : decode cL_rank 0 = .ok (.aload_n 3, 1) := by decide +kernel
theorem dL_rank_1 : decode cL_rank 1 = .ok (.iconst 0, 1) := by decide +kernel
theorem dL_rank_2 : decode cL_rank 2 = .ok (.aload_n 0, 1) := by decide +kernel
theorem dL_rank_3 : decode cL_rank 3 = .ok (.iload_n 1, 1) := by decide +kernel
theorem dL_rank_4 : decode cL_rank 4 = .ok (.iload_n 2, 1) := by decide +kernel
theorem dL_rank_5 : decode cL_rank 5 = .ok (.invokevirtual 121, 3) := by decide +kernel
theorem dL_rank_13 : decode cL_rank 13 = .ok (.astore 4, 2) := by decide +kernel
theorem dL_rank_15 : decode cL_rank 15 = .ok (.iconst 1, 1) := by decide +kernel
theorem dL_rank_16 : decode cL_rank 16 = .ok (.ireturn, 1) := by decide +kernel
theorem dL_rank_17 : decode cL_rank 17 = .ok (.astore 4, 2) := by decide +kernel
theorem dL_rank_19 : decode cL_rank 19 = .ok (.iconst 2, 1) := by decide +kernel
theorem dL_rank_20 : decode cL_rank 20 = .ok (.ireturn, 1) := by decide +kernel
theorem dL_best_0 : decode cL_best 0 = .ok (.aload_n 3, 1) := by decide +kernel
theorem dL_best_1 : decode cL_best 1 = .ok (.iconst 0, 1) := by decide +kernel
theorem dL_best_2 : decode cL_best 2 = .ok (.aload_n 0, 1) := by decide +kernel
theorem dL_best_3 : decode cL_best 3 = .ok (.iload_n 1, 1) := by decide +kernel
theorem dL_best_4 : decode cL_best 4 = .ok (.iload_n 2, 1) := by decide +kernel
theorem dL_best_5 : decode cL_best 5 = .ok (.invokevirtual 124, 3) := by decide +kernel
theorem dL_best_13 : decode cL_best 13 = .ok (.astore 4, 2) := by decide +kernel
theorem dL_best_15 : decode cL_best 15 = .ok (.iconst 1, 1) := by decide +kernel
theorem dL_best_16 : decode cL_best 16 = .ok (.ireturn, 1) := by decide +kernel
theorem dL_best_17 : decode cL_best 17 = .ok (.astore 4, 2) := by decide +kernel
theorem dL_best_19 : decode cL_best 19 = .ok (.iconst 2, 1) := by decide +kernel
theorem dL_best_20 : decode cL_best 20 = .ok (.ireturn, 1) := by decide +kernel
theorem dL_total_0 : decode cL_total 0 = .ok (.aload_n 2, 1) := by decide +kernel
theorem dL_total_1 : decode cL_total 1 = .ok (.iconst 0, 1) := by decide +kernel
theorem dL_total_2 : decode cL_total 2 = .ok (.aload_n 0, 1) := by decide +kernel
theorem dL_total_3 : decode cL_total 3 = .ok (.iload_n 1, 1) := by decide +kernel
theorem dL_total_4 : decode cL_total 4 = .ok (.invokevirtual 127, 3) := by decide +kernel
theorem dL_total_12 : decode cL_total 12 = .ok (.astore_n 3, 1) := by decide +kernel
theorem dL_total_13 : decode cL_total 13 = .ok (.iconst 1, 1) := by decide +kernel
theorem dL_total_14 : decode cL_total 14 = .ok (.ireturn, 1) := by decide +kernel
theorem dL_total_15 : decode cL_total 15 = .ok (.astore_n 3, 1) := by decide +kernel
theorem dL_total_16 : decode cL_total 16 = .ok (.iconst 2, 1) := by decide +kernel
theorem dL_total_17 : decode cL_total 17 = .ok (.ireturn, 1) := by decide +kernel
theorem dL_restore_0 : decode cL_restore 0 = .ok (.aload_n 1, 1) := by decide +kernel
theorem dL_restore_1 : decode cL_restore 1 = .ok (.iconst 0, 1) := by decide +kernel
theorem dL_restore_2 : decode cL_restore 2 = .ok (.aload_n 0, 1) := by decide +kernel
theorem dL_restore_3 : decode cL_restore 3 = .ok (.invokevirtual 130, 3) := by decide +kernel
theorem dL_restore_11 : decode cL_restore 11 = .ok (.astore_n 2, 1) := by decide +kernel
theorem dL_restore_12 : decode cL_restore 12 = .ok (.iconst 1, 1) := by decide +kernel
theorem dL_restore_13 : decode cL_restore 13 = .ok (.ireturn, 1) := by decide +kernel
set_option maxHeartbeats 4000000 in
set_option maxRecDepth 100000 in
/-- one turn of the inner loop of the reference's constructor: three rows get a number each; what they hold doesn't matter here -/
theorem mi_body {p : Program} {l : Launch} {e : Env} {Rm : Room} {s : State} {m : MethodId} {args : Array Value} {below : List Frame} {meth : Method} {c : Code} {Q : State → Prop} {D : va_G} {cI cJ cZ : ClassId} {A : Nat → Prop} {cells slots : Nat}
    (hx : p.tables.exec = Jvm.exec) (hb : c.code = cX11_init) {Ts : List Cond} (hts : ∀ w ∈ Ts, w.before args s = true) (hown : s.vm.findClass RX11 = some m.cls) (hK : va_K D vwCl (xT cI cJ cZ) s)
    (i_X11 : ∀ w ∈ wsX110, w ∈ Ts) (w1 : (Cond.fieldLink RX11 11 "DocumentSpannerModel" "starts" "[I").before args s = true) (w2 : (Cond.fieldLink RX11 15 "DocumentSpannerModel" "ends" "[I").before args s = true) (w3 : (Cond.fieldLink RX11 18 "DocumentSpannerModel" "spanOf" "[I").before args s = true)
    {m0 qa qb qc : Nat} {fs : List Value} (f1 : fs[1]? = some (.ref qa)) (f2 : fs[2]? = some (.ref qb)) (f3 : fs[3]? = some (.ref qc)) {R0 : va_W} {fa fb fc : Nat → Int32} {H : Heap} {locs : List Loc} {ls : Array Slot}
    (hP : va_P D vwCl ((m0, .inr (10, fs)) :: (qa, .inl (cI, 46, .inl fa)) :: (qb, .inl (cI, 46, .inl fb)) :: (qc, .inl (cI, 81, .inl fc)) :: R0) H)
    (hD : va_D A ((m0, .inr (10, fs)) :: (qa, .inl (cI, 46, .inl fa)) :: (qb, .inl (cI, 46, .inl fb)) :: (qc, .inl (cI, 81, .inl fc)) :: R0)) (hS : va_S A s.heap H locs)
    (sp sp' i j j' ix : Int32) (h1 : sp + Int32.ofInt 1 = sp') (h2 : j + Int32.ofInt 1 = j') (h3 : 9 * i + j = ix) (h4 : vp_in sp' 46) (h5 : vp_in ix 81) (h6 : ¬ (8 : Int32) < j)
    (hl : lv_has ls 4 [(0, .ref m0), (1, .int sp), (2, .int i), (3, .int j)])
    (kk : ∀ (ls : Array Slot) (H : Heap) (locs : List Loc) (fa fb fc : Nat → Int32), lv_has ls 4 [(0, .ref m0), (1, .int sp'), (2, .int i), (3, .int j')] →
      va_P D vwCl ((m0, .inr (10, fs)) :: (qa, .inl (cI, 46, .inl fa)) :: (qb, .inl (cI, 46, .inl fb)) :: (qc, .inl (cI, 81, .inl fc)) :: R0) H →
      va_D A ((m0, .inr (10, fs)) :: (qa, .inl (cI, 46, .inl fa)) :: (qb, .inl (cI, 46, .inl fb)) :: (qc, .inl (cI, 81, .inl fc)) :: R0) → va_S A s.heap H locs →
      W p l e Rm s m args below meth c H locs cells slots Q (F0 m 317 ls [])) :
    W p l e Rm s m args below meth c H locs cells slots Q (F0 m 317 ls []) := by
  refine lv_iload_n hx hb dX11_init_317 rfl (lv_at hl 3 rfl) ?_
  refine lv_bipush (v := 8) hx hb dX11_init_318 (by decide) ?_
  refine lv_icmp_gt (tgt := 358) hx hb dX11_init_320 (by decide) (fun h => absurd h h6) (fun _ => ?_)
  refine lv_iinc (v := sp') (lv' := [(1, .int sp'), (0, .ref m0), (2, .int i), (3, .int j)]) hx hb dX11_init_323 hl (k := 1) rfl h1 (by decide) rfl (fun ls hl => ?_)
  refine lv_aload_n hx hb dX11_init_326 rfl (lv_at hl 1 rfl) ?_
  refine va_get (D := D) (ci := 10) (v := .ref qa) (C := RX11) (T := TX11) (N := 48) hx hb hts i_X11 hown hK hP 0 rfl rfl 1 (by decide) w1 (fun _ h9 => h9) f1 dX11_init_327 ?_
  refine lv_iload_n hx hb dX11_init_330 rfl (lv_at hl 0 rfl) ?_
  refine lv_iload_n hx hb dX11_init_331 rfl (lv_at hl 2 rfl) ?_
  refine va_iast hx hb hK hP hD hS 1 0 rfl rfl (i := sp') (x := i) h4 dX11_init_332 (fun H1 locs hP hD hS => ?_)
  have hP : va_P D vwCl ((m0, .inr (10, fs)) :: (qa, .inl (cI, 46, .inl (upd fa sp'.toNatClampNeg i))) :: (qb, .inl (cI, 46, .inl fb)) :: (qc, .inl (cI, 81, .inl fc)) :: R0) H1 := hP
  have hD : va_D A ((m0, .inr (10, fs)) :: (qa, .inl (cI, 46, .inl (upd fa sp'.toNatClampNeg i))) :: (qb, .inl (cI, 46, .inl fb)) :: (qc, .inl (cI, 81, .inl fc)) :: R0) := hD
  refine lv_aload_n hx hb dX11_init_333 rfl (lv_at hl 1 rfl) ?_
  refine va_get (D := D) (ci := 10) (v := .ref qb) (C := RX11) (T := TX11) (N := 48) hx hb hts i_X11 hown hK hP 0 rfl rfl 2 (by decide) w2 (fun _ h9 => h9) f2 dX11_init_334 ?_
  refine lv_iload_n hx hb dX11_init_337 rfl (lv_at hl 0 rfl) ?_
  refine lv_iload_n hx hb dX11_init_338 rfl (lv_at hl 3 rfl) ?_
  refine va_iast hx hb hK hP hD hS 2 0 rfl rfl (i := sp') (x := j) h4 dX11_init_339 (fun H2 locs hP hD hS => ?_)
  have hP : va_P D vwCl ((m0, .inr (10, fs)) :: (qa, .inl (cI, 46, .inl (upd fa sp'.toNatClampNeg i))) :: (qb, .inl (cI, 46, .inl (upd fb sp'.toNatClampNeg j))) :: (qc, .inl (cI, 81, .inl fc)) :: R0) H2 := hP
  have hD : va_D A ((m0, .inr (10, fs)) :: (qa, .inl (cI, 46, .inl (upd fa sp'.toNatClampNeg i))) :: (qb, .inl (cI, 46, .inl (upd fb sp'.toNatClampNeg j))) :: (qc, .inl (cI, 81, .inl fc)) :: R0) := hD
  refine lv_aload_n hx hb dX11_init_340 rfl (lv_at hl 1 rfl) ?_
  refine va_get (D := D) (ci := 10) (v := .ref qc) (C := RX11) (T := TX11) (N := 48) hx hb hts i_X11 hown hK hP 0 rfl rfl 3 (by decide) w3 (fun _ h9 => h9) f3 dX11_init_341 ?_
  refine lv_bipush (v := 9) hx hb dX11_init_344 (by decide) ?_
  refine lv_iload_n hx hb dX11_init_346 rfl (lv_at hl 2 rfl) ?_
  refine lv_imul hx hb dX11_init_347 ?_
  refine lv_iload_n hx hb dX11_init_348 rfl (lv_at hl 3 rfl) ?_
  refine lv_iadd hx hb dX11_init_349 ?_
  rw [h3]
  refine lv_iload_n hx hb dX11_init_350 rfl (lv_at hl 0 rfl) ?_
  refine va_iast hx hb hK hP hD hS 3 0 rfl rfl (i := ix) (x := sp') h5 dX11_init_351 (fun H3 locs hP hD hS => ?_)
  refine lv_iinc (v := j') (lv' := [(3, .int j'), (1, .int sp'), (0, .ref m0), (2, .int i)]) hx hb dX11_init_352 hl (k := 3) rfl h2 (by decide) rfl (fun ls hl => ?_)
  refine lv_goto (tgt := 317) hx hb dX11_init_355 (by decide) ?_
  exact kk ls H3 locs _ _ _ (lv_sub hl [2, 1, 3, 0] rfl) hP hD hS
