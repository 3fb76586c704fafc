theorem dX9_init_0 : decode cX9_init 0 = .ok (.aload_n 0, 1) := by decide +kernel
theorem dX9_init_1 : decode cX9_init 1 = .ok (.invokespecial 1, 3) := by decide +kernel
theorem dX9_init_4 : decode cX9_init 4 = .ok (.aload_n 0, 1) := by decide +kernel
theorem dX9_init_5 : decode cX9_init 5 = .ok (.bipush 9, 2) := by decide +kernel
theorem dX9_init_7 : decode cX9_init 7 = .ok (.anewarray 7, 3) := by decide +kernel
theorem dX9_init_10 : decode cX9_init 10 = .ok (.dup, 1) := by decide +kernel
theorem dX9_init_11 : decode cX9_init 11 = .ok (.iconst 0, 1) := by decide +kernel
theorem dX9_init_12 : decode cX9_init 12 = .ok (.ldc 9, 2) := by decide +kernel
theorem dX9_init_14 : decode cX9_init 14 = .ok (.aastore, 1) := by decide +kernel
theorem dX9_init_15 : decode cX9_init 15 = .ok (.dup, 1) := by decide +kernel
theorem dX9_init_16 : decode cX9_init 16 = .ok (.iconst 1, 1) := by decide +kernel
theorem dX9_init_17 : decode cX9_init 17 = .ok (.ldc 11, 2) := by decide +kernel
theorem dX9_init_19 : decode cX9_init 19 = .ok (.aastore, 1) := by decide +kernel
theorem dX9_init_20 : decode cX9_init 20 = .ok (.dup, 1) := by decide +kernel
theorem dX9_init_21 : decode cX9_init 21 = .ok (.iconst 2, 1) := by decide +kernel
theorem dX9_init_22 : decode cX9_init 22 = .ok (.ldc 13, 2) := by decide +kernel
theorem dX9_init_24 : decode cX9_init 24 = .ok (.aastore, 1) := by decide +kernel
theorem dX9_init_25 : decode cX9_init 25 = .ok (.dup, 1) := by decide +kernel
theorem dX9_init_26 : decode cX9_init 26 = .ok (.iconst 3, 1) := by decide +kernel
theorem dX9_init_27 : decode cX9_init 27 = .ok (.ldc 15, 2) := by decide +kernel
theorem dX9_init_29 : decode cX9_init 29 = .ok (.aastore, 1) := by decide +kernel
theorem dX9_init_30 : decode cX9_init 30 = .ok (.dup, 1) := by decide +kernel
theorem dX9_init_31 : decode cX9_init 31 = .ok (.iconst 4, 1) := by decide +kernel
theorem dX9_init_32 : decode cX9_init 32 = .ok (.ldc 17, 2) := by decide +kernel
theorem dX9_init_34 : decode cX9_init 34 = .ok (.aastore, 1) := by decide +kernel
theorem dX9_init_35 : decode cX9_init 35 = .ok (.dup, 1) := by decide +kernel
theorem dX9_init_36 : decode cX9_init 36 = .ok (.iconst 5, 1) := by decide +kernel
theorem dX9_init_37 : decode cX9_init 37 = .ok (.ldc 19, 2) := by decide +kernel
theorem dX9_init_39 : decode cX9_init 39 = .ok (.aastore, 1) := by decide +kernel
theorem dX9_init_40 : decode cX9_init 40 = .ok (.dup, 1) := by decide +kernel
theorem dX9_init_41 : decode cX9_init 41 = .ok (.bipush 6, 2) := by decide +kernel
theorem dX9_init_43 : decode cX9_init 43 = .ok (.ldc 21, 2) := by decide +kernel
theorem dX9_init_45 : decode cX9_init 45 = .ok (.aastore, 1) := by decide +kernel
theorem dX9_init_46 : decode cX9_init 46 = .ok (.dup, 1) := by decide +kernel
theorem dX9_init_47 : decode cX9_init 47 = .ok (.bipush 7, 2) := by decide +kernel
theorem dX9_init_49 : decode cX9_init 49 = .ok (.ldc 23, 2) := by decide +kernel
theorem dX9_init_51 : decode cX9_init 51 = .ok (.aastore, 1) := by decide +kernel
theorem dX9_init_52 : decode cX9_init 52 = .ok (.dup, 1) := by decide +kernel
theorem dX9_init_53 : decode cX9_init 53 = .ok (.bipush 8, 2) := by decide +kernel
theorem dX9_init_55 : decode cX9_init 55 = .ok (.ldc 25, 2) := by decide +kernel
theorem dX9_init_57 : decode cX9_init 57 = .ok (.aastore, 1) := by decide +kernel
theorem dX9_init_58 : decode cX9_init 58 = .ok (.putfield 27, 3) := by decide +kernel
theorem dX9_init_61 : decode cX9_init 61 = .ok (.aload_n 0, 1) := by decide +kernel
theorem dX9_init_62 : decode cX9_init 62 = .ok (.bipush 12, 2) := by decide +kernel
theorem dX9_init_64 : decode cX9_init 64 = .ok (.anewarray 7, 3) := by decide +kernel
theorem dX9_init_67 : decode cX9_init 67 = .ok (.dup, 1) := by decide +kernel
theorem dX9_init_68 : decode cX9_init 68 = .ok (.iconst 0, 1) := by decide +kernel
theorem dX9_init_69 : decode cX9_init 69 = .ok (.ldc 33, 2) := by decide +kernel
theorem dX9_init_71 : decode cX9_init 71 = .ok (.aastore, 1) := by decide +kernel
theorem dX9_init_72 : decode cX9_init 72 = .ok (.dup, 1) := by decide +kernel
theorem dX9_init_73 : decode cX9_init 73 = .ok (.iconst 1, 1) := by decide +kernel
theorem dX9_init_74 : decode cX9_init 74 = .ok (.ldc 35, 2) := by decide +kernel
theorem dX9_init_76 : decode cX9_init 76 = .ok (.aastore, 1) := by decide +kernel
theorem dX9_init_77 : decode cX9_init 77 = .ok (.dup, 1) := by decide +kernel
theorem dX9_init_78 : decode cX9_init 78 = .ok (.iconst 2, 1) := by decide +kernel
theorem dX9_init_79 : decode cX9_init 79 = .ok (.ldc 37, 2) := by decide +kernel
theorem dX9_init_81 : decode cX9_init 81 = .ok (.aastore, 1) := by decide +kernel
theorem dX9_init_82 : decode cX9_init 82 = .ok (.dup, 1) := by decide +kernel
theorem dX9_init_83 : decode cX9_init 83 = .ok (.iconst 3, 1) := by decide +kernel
theorem dX9_init_84 : decode cX9_init 84 = .ok (.ldc 39, 2) := by decide +kernel
theorem dX9_init_86 : decode cX9_init 86 = .ok (.aastore, 1) := by decide +kernel
theorem dX9_init_87 : decode cX9_init 87 = .ok (.dup, 1) := by decide +kernel
theorem dX9_init_88 : decode cX9_init 88 = .ok (.iconst 4, 1) := by decide +kernel
theorem dX9_init_89 : decode cX9_init 89 = .ok (.ldc 41, 2) := by decide +kernel
theorem dX9_init_91 : decode cX9_init 91 = .ok (.aastore, 1) := by decide +kernel
theorem dX9_init_92 : decode cX9_init 92 = .ok (.dup, 1) := by decide +kernel
theorem dX9_init_93 : decode cX9_init 93 = .ok (.iconst 5, 1) := by decide +kernel
theorem dX9_init_94 : decode cX9_init 94 = .ok (.ldc 43, 2) := by decide +kernel
theorem dX9_init_96 : decode cX9_init 96 = .ok (.aastore, 1) := by decide +kernel
theorem dX9_init_97 : decode cX9_init 97 = .ok (.dup, 1) := by decide +kernel
theorem dX9_init_98 : decode cX9_init 98 = .ok (.bipush 6, 2) := by decide +kernel
theorem dX9_init_100 : decode cX9_init 100 = .ok (.ldc 45, 2) := by decide +kernel
theorem dX9_init_102 : decode cX9_init 102 = .ok (.aastore, 1) := by decide +kernel
theorem dX9_init_103 : decode cX9_init 103 = .ok (.dup, 1) := by decide +kernel
theorem dX9_init_104 : decode cX9_init 104 = .ok (.bipush 7, 2) := by decide +kernel
theorem dX9_init_106 : decode cX9_init 106 = .ok (.ldc 47, 2) := by decide +kernel
theorem dX9_init_108 : decode cX9_init 108 = .ok (.aastore, 1) := by decide +kernel
theorem dX9_init_109 : decode cX9_init 109 = .ok (.dup, 1) := by decide +kernel
theorem dX9_init_110 : decode cX9_init 110 = .ok (.bipush 8, 2) := by decide +kernel
theorem dX9_init_112 : decode cX9_init 112 = .ok (.ldc 49, 2) := by decide +kernel
theorem dX9_init_114 : decode cX9_init 114 = .ok (.aastore, 1) := by decide +kernel
theorem dX9_init_115 : decode cX9_init 115 = .ok (.dup, 1) := by decide +kernel
theorem dX9_init_116 : decode cX9_init 116 = .ok (.bipush 9, 2) := by decide +kernel
theorem dX9_init_118 : decode cX9_init 118 = .ok (.ldc 51, 2) := by decide +kernel
theorem dX9_init_120 : decode cX9_init 120 = .ok (.aastore, 1) := by decide +kernel
theorem dX9_init_121 : decode cX9_init 121 = .ok (.dup, 1) := by decide +kernel
theorem dX9_init_122 : decode cX9_init 122 = .ok (.bipush 10, 2) := by decide +kernel
theorem dX9_init_124 : decode cX9_init 124 = .ok (.ldc 53, 2) := by decide +kernel
theorem dX9_init_126 : decode cX9_init 126 = .ok (.aastore, 1) := by decide +kernel
theorem dX9_init_127 : decode cX9_init 127 = .ok (.dup, 1) := by decide +kernel
theorem dX9_init_128 : decode cX9_init 128 = .ok (.bipush 11, 2) := by decide +kernel
theorem dX9_init_130 : decode cX9_init 130 = .ok (.ldc 55, 2) := by decide +kernel
theorem dX9_init_132 : decode cX9_init 132 = .ok (.aastore, 1) := by decide +kernel
theorem dX9_init_133 : decode cX9_init 133 = .ok (.putfield 57, 3) := by decide +kernel
theorem dX9_init_136 : decode cX9_init 136 = .ok (.aload_n 0, 1) := by decide +kernel
theorem dX9_init_137 : decode cX9_init 137 = .ok (.bipush 8, 2) := by decide +kernel
theorem dX9_init_139 : decode cX9_init 139 = .ok (.newarray .int, 2) := by decide +kernel
theorem dX9_init_141 : decode cX9_init 141 = .ok (.putfield 60, 3) := by decide +kernel
theorem dX9_init_144 : decode cX9_init 144 = .ok (.aload_n 0, 1) := by decide +kernel
theorem dX9_init_145 : decode cX9_init 145 = .ok (.bipush 8, 2) := by decide +kernel
theorem dX9_init_147 : decode cX9_init 147 = .ok (.newarray .int, 2) := by decide +kernel
theorem dX9_init_149 : decode cX9_init 149 = .ok (.putfield 64, 3) := by decide +kernel
theorem dX9_init_152 : decode cX9_init 152 = .ok (.aload_n 0, 1) := by decide +kernel
theorem dX9_init_153 : decode cX9_init 153 = .ok (.bipush 16, 2) := by decide +kernel
theorem dX9_init_155 : decode cX9_init 155 = .ok (.newarray .int, 2) := by decide +kernel
theorem dX9_init_157 : decode cX9_init 157 = .ok (.putfield 67, 3) := by decide +kernel
theorem dX9_init_160 : decode cX9_init 160 = .ok (.aload_n 0, 1) := by decide +kernel
theorem dX9_init_161 : decode cX9_init 161 = .ok (.bipush 8, 2) := by decide +kernel
theorem dX9_init_163 : decode cX9_init 163 = .ok (.newarray .int, 2) := by decide +kernel
theorem dX9_init_165 : decode cX9_init 165 = .ok (.putfield 70, 3) := by decide +kernel
theorem dX9_init_168 : decode cX9_init 168 = .ok (.aload_n 0, 1) := by decide +kernel
theorem dX9_init_169 : decode cX9_init 169 = .ok (.bipush 8, 2) := by decide +kernel
theorem dX9_init_171 : decode cX9_init 171 = .ok (.newarray .int, 2) := by decide +kernel
theorem dX9_init_173 : decode cX9_init 173 = .ok (.putfield 73, 3) := by decide +kernel
theorem dX9_init_176 : decode cX9_init 176 = .ok (.aload_n 0, 1) := by decide +kernel
theorem dX9_init_177 : decode cX9_init 177 = .ok (.bipush 8, 2) := by decide +kernel
theorem dX9_init_179 : decode cX9_init 179 = .ok (.newarray .int, 2) := by decide +kernel
theorem dX9_init_181 : decode cX9_init 181 = .ok (.putfield 76, 3) := by decide +kernel
theorem dX9_init_184 : decode cX9_init 184 = .ok (.aload_n 0, 1) := by decide +kernel
theorem dX9_init_185 : decode cX9_init 185 = .ok (.bipush 8, 2) := by decide +kernel
theorem dX9_init_187 : decode cX9_init 187 = .ok (.newarray .boolean, 2) := by decide +kernel
theorem dX9_init_189 : decode cX9_init 189 = .ok (.putfield 79, 3) := by decide +kernel
theorem dX9_init_192 : decode cX9_init 192 = .ok (.aload_n 0, 1) := by decide +kernel
theorem dX9_init_193 : decode cX9_init 193 = .ok (.bipush 8, 2) := by decide +kernel
theorem dX9_init_195 : decode cX9_init 195 = .ok (.newarray .int, 2) := by decide +kernel
theorem dX9_init_197 : decode cX9_init 197 = .ok (.putfield 83, 3) := by decide +kernel
theorem dX9_init_200 : decode cX9_init 200 = .ok (.aload_n 0, 1) := by decide +kernel
theorem dX9_init_201 : decode cX9_init 201 = .ok (.bipush 8, 2) := by decide +kernel
theorem dX9_init_203 : decode cX9_init 203 = .ok (.newarray .int, 2) := by decide +kernel
theorem dX9_init_205 : decode cX9_init 205 = .ok (.putfield 86, 3) := by decide +kernel
theorem dX9_init_208 : decode cX9_init 208 = .ok (.aload_n 0, 1) := by decide +kernel
theorem dX9_init_209 : decode cX9_init 209 = .ok (.sipush 201, 3) := by decide +kernel
theorem dX9_init_212 : decode cX9_init 212 = .ok (.newarray .long, 2) := by decide +kernel
theorem dX9_init_214 : decode cX9_init 214 = .ok (.putfield 89, 3) := by decide +kernel
theorem dX9_init_217 : decode cX9_init 217 = .ok (.aload_n 0, 1) := by decide +kernel
theorem dX9_init_218 : decode cX9_init 218 = .ok (.sipush 201, 3) := by decide +kernel
theorem dX9_init_221 : decode cX9_init 221 = .ok (.newarray .long, 2) := by decide +kernel
theorem dX9_init_223 : decode cX9_init 223 = .ok (.putfield 93, 3) := by decide +kernel
theorem dX9_init_226 : decode cX9_init 226 = .ok (.aload_n 0, 1) := by decide +kernel
theorem dX9_init_227 : decode cX9_init 227 = .ok (.sipush 200, 3) := by decide +kernel
theorem dX9_init_230 : decode cX9_init 230 = .ok (.newarray .int, 2) := by decide +kernel
theorem dX9_init_232 : decode cX9_init 232 = .ok (.putfield 96, 3) := by decide +kernel
theorem dX9_init_235 : decode cX9_init 235 = .ok (.aload_n 0, 1) := by decide +kernel
theorem dX9_init_236 : decode cX9_init 236 = .ok (.sipush 200, 3) := by decide +kernel
theorem dX9_init_239 : decode cX9_init 239 = .ok (.newarray .int, 2) := by decide +kernel
theorem dX9_init_241 : decode cX9_init 241 = .ok (.putfield 99, 3) := by decide +kernel
theorem dX9_init_244 : decode cX9_init 244 = .ok (.aload_n 0, 1) := by decide +kernel
theorem dX9_init_245 : decode cX9_init 245 = .ok (.bipush 12, 2) := by decide +kernel
theorem dX9_init_247 : decode cX9_init 247 = .ok (.newarray .int, 2) := by decide +kernel
theorem dX9_init_249 : decode cX9_init 249 = .ok (.putfield 102, 3) := by decide +kernel
theorem dX9_init_252 : decode cX9_init 252 = .ok (.aload_n 0, 1) := by decide +kernel
theorem dX9_init_253 : decode cX9_init 253 = .ok (.bipush (-2), 2) := by decide +kernel
theorem dX9_init_255 : decode cX9_init 255 = .ok (.putfield 105, 3) := by decide +kernel
theorem dX9_init_258 : decode cX9_init 258 = .ok (.aload_n 0, 1) := by decide +kernel
theorem dX9_init_259 : decode cX9_init 259 = .ok (.bipush 120, 2) := by decide +kernel
theorem dX9_init_261 : decode cX9_init 261 = .ok (.newarray .int, 2) := by decide +kernel
theorem dX9_init_263 : decode cX9_init 263 = .ok (.putfield 109, 3) := by decide +kernel
theorem dX9_init_266 : decode cX9_init 266 = .ok (.aload_n 0, 1) := by decide +kernel
theorem dX9_init_267 : decode cX9_init 267 = .ok (.bipush 120, 2) := by decide +kernel
theorem dX9_init_269 : decode cX9_init 269 = .ok (.newarray .int, 2) := by decide +kernel
theorem dX9_init_271 : decode cX9_init 271 = .ok (.putfield 112, 3) := by decide +kernel
theorem dX9_init_274 : decode cX9_init 274 = .ok (.aload_n 0, 1) := by decide +kernel
theorem dX9_init_275 : decode cX9_init 275 = .ok (.sipush 251, 3) := by decide +kernel
theorem dX9_init_278 : decode cX9_init 278 = .ok (.newarray .long, 2) := by decide +kernel
theorem dX9_init_280 : decode cX9_init 280 = .ok (.putfield 115, 3) := by decide +kernel
theorem dX9_init_283 : decode cX9_init 283 = .ok (.aload_n 0, 1) := by decide +kernel
theorem dX9_init_284 : decode cX9_init 284 = .ok (.sipush 251, 3) := by decide +kernel
theorem dX9_init_287 : decode cX9_init 287 = .ok (.newarray .int, 2) := by decide +kernel
theorem dX9_init_289 : decode cX9_init 289 = .ok (.putfield 118, 3) := by decide +kernel
theorem dX9_init_292 : decode cX9_init 292 = .ok (.aload_n 0, 1) := by decide +kernel
theorem dX9_init_293 : decode cX9_init 293 = .ok (.sipush 251, 3) := by decide +kernel
theorem dX9_init_296 : decode cX9_init 296 = .ok (.newarray .int, 2) := by decide +kernel
theorem dX9_init_298 : decode cX9_init 298 = .ok (.putfield 121, 3) := by decide +kernel
theorem dX9_init_301 : decode cX9_init 301 = .ok (.aload_n 0, 1) := by decide +kernel
theorem dX9_init_302 : decode cX9_init 302 = .ok (.sipush 251, 3) := by decide +kernel
theorem dX9_init_305 : decode cX9_init 305 = .ok (.newarray .int, 2) := by decide +kernel
theorem dX9_init_307 : decode cX9_init 307 = .ok (.putfield 124, 3) := by decide +kernel
theorem dX9_init_310 : decode cX9_init 310 = .ok (.aload_n 0, 1) := by decide +kernel
theorem dX9_init_311 : decode cX9_init 311 = .ok (.sipush 4000, 3) := by decide +kernel
theorem dX9_init_314 : decode cX9_init 314 = .ok (.newarray .int, 2) := by decide +kernel
theorem dX9_init_316 : decode cX9_init 316 = .ok (.putfield 127, 3) := by decide +kernel
theorem dX9_init_319 : decode cX9_init 319 = .ok (.iconst 0, 1) := by decide +kernel
theorem dX9_init_320 : decode cX9_init 320 = .ok (.istore_n 1, 1) := by decide +kernel
theorem dX9_init_321 : decode cX9_init 321 = .ok (.iload_n 1, 1) := by decide +kernel
theorem dX9_init_322 : decode cX9_init 322 = .ok (.bipush 8, 2) := by decide +kernel
theorem dX9_init_324 : decode cX9_init 324 = .ok (.if_icmp .ge 31, 3) := by decide +kernel
theorem dX9_init_327 : decode cX9_init 327 = .ok (.aload_n 0, 1) := by decide +kernel
theorem dX9_init_328 : decode cX9_init 328 = .ok (.getfield 60, 3) := by decide +kernel
theorem dX9_init_331 : decode cX9_init 331 = .ok (.iload_n 1, 1) := by decide +kernel
theorem dX9_init_332 : decode cX9_init 332 = .ok (.getstatic 130, 3) := by decide +kernel
theorem dX9_init_335 : decode cX9_init 335 = .ok (.iload_n 1, 1) := by decide +kernel
theorem dX9_init_336 : decode cX9_init 336 = .ok (.iaload, 1) := by decide +kernel
theorem dX9_init_337 : decode cX9_init 337 = .ok (.iastore, 1) := by decide +kernel
theorem dX9_init_338 : decode cX9_init 338 = .ok (.aload_n 0, 1) := by decide +kernel
theorem dX9_init_339 : decode cX9_init 339 = .ok (.getfield 64, 3) := by decide +kernel
theorem dX9_init_342 : decode cX9_init 342 = .ok (.iload_n 1, 1) := by decide +kernel
theorem dX9_init_343 : decode cX9_init 343 = .ok (.getstatic 133, 3) := by decide +kernel
theorem dX9_init_346 : decode cX9_init 346 = .ok (.iload_n 1, 1) := by decide +kernel
theorem dX9_init_347 : decode cX9_init 347 = .ok (.iaload, 1) := by decide +kernel
theorem dX9_init_348 : decode cX9_init 348 = .ok (.iastore, 1) := by decide +kernel
theorem dX9_init_349 : decode cX9_init 349 = .ok (.iinc 1 1, 3) := by decide +kernel
theorem dX9_init_352 : decode cX9_init 352 = .ok (.goto (-31), 3) := by decide +kernel
theorem dX9_init_355 : decode cX9_init 355 = .ok (.aload_n 0, 1) := by decide +kernel
theorem dX9_init_356 : decode cX9_init 356 = .ok (.getfield 89, 3) := by decide +kernel
theorem dX9_init_359 : decode cX9_init 359 = .ok (.iconst 0, 1) := by decide +kernel
theorem dX9_init_360 : decode cX9_init 360 = .ok (.aload_n 0, 1) := by decide +kernel
theorem dX9_init_361 : decode cX9_init 361 = .ok (.invokevirtual 136, 3) := by decide +kernel
theorem dX9_init_364 : decode cX9_init 364 = .ok (.lastore, 1) := by decide +kernel
theorem dX9_init_365 : decode cX9_init 365 = .ok (.aload_n 0, 1) := by decide +kernel
theorem dX9_init_366 : decode cX9_init 366 = .ok (.aload_n 0, 1) := by decide +kernel
theorem dX9_init_367 : decode cX9_init 367 = .ok (.getfield 89, 3) := by decide +kernel
theorem dX9_init_370 : decode cX9_init 370 = .ok (.iconst 0, 1) := by decide +kernel
theorem dX9_init_371 : decode cX9_init 371 = .ok (.laload, 1) := by decide +kernel
theorem dX9_init_372 : decode cX9_init 372 = .ok (.invokevirtual 140, 3) := by decide +kernel
theorem dX9_init_375 : decode cX9_init 375 = .ok (.return_, 1) := by decide +kernel
theorem dX9_isIn_0 : decode cX9_isIn 0 = .ok (.iload_n 0, 1) := by decide +kernel
theorem dX9_isIn_1 : decode cX9_isIn 1 = .ok (.iload_n 1, 1) := by decide +kernel
theorem dX9_isIn_2 : decode cX9_isIn 2 = .ok (.if_icmp .lt 12, 3) := by decide +kernel
theorem dX9_isIn_5 : decode cX9_isIn 5 = .ok (.iload_n 0, 1) := by decide +kernel
theorem dX9_isIn_6 : decode cX9_isIn 6 = .ok (.iload_n 2, 1) := by decide +kernel
theorem dX9_isIn_7 : decode cX9_isIn 7 = .ok (.if_icmp .gt 7, 3) := by decide +kernel
theorem dX9_isIn_10 : decode cX9_isIn 10 = .ok (.iconst 1, 1) := by decide +kernel
theorem dX9_isIn_11 : decode cX9_isIn 11 = .ok (.goto 4, 3) := by decide +kernel
theorem dX9_isIn_14 : decode cX9_isIn 14 = .ok (.iconst 0, 1) := by decide +kernel
theorem dX9_isIn_15 : decode cX9_isIn 15 = .ok (.ireturn, 1) := by decide +kernel
theorem dX9_has_0 : decode cX9_has 0 = .ok (.iload_n 0, 1) := by decide +kernel
theorem dX9_has_1 : decode cX9_has 1 = .ok (.iload_n 1, 1) := by decide +kernel
theorem dX9_has_2 : decode cX9_has 2 = .ok (.ishr, 1) := by decide +kernel
theorem dX9_has_3 : decode cX9_has 3 = .ok (.iconst 1, 1) := by decide +kernel
theorem dX9_has_4 : decode cX9_has 4 = .ok (.iand, 1) := by decide +kernel
theorem dX9_has_5 : decode cX9_has 5 = .ok (.iconst 1, 1) := by decide +kernel
theorem dX9_has_6 : decode cX9_has 6 = .ok (.if_icmp .ne 7, 3) := by decide +kernel
theorem dX9_has_9 : decode cX9_has 9 = .ok (.iconst 1, 1) := by decide +kernel
theorem dX9_has_10 : decode cX9_has 10 = .ok (.goto 4, 3) := by decide +kernel
theorem dX9_has_13 : decode cX9_has 13 = .ok (.iconst 0, 1) := by decide +kernel
theorem dX9_has_14 : decode cX9_has 14 = .ok (.ireturn, 1) := by decide +kernel
theorem dX9_code_0 : decode cX9_code 0 = .ok (.lconst 0, 1) := by decide +kernel
theorem dX9_code_1 : decode cX9_code 1 = .ok (.lstore_n 1, 1) := by decide +kernel
theorem dX9_code_2 : decode cX9_code 2 = .ok (.iconst 0, 1) := by decide +kernel
theorem dX9_code_3 : decode cX9_code 3 = .ok (.istore_n 3, 1) := by decide +kernel
theorem dX9_code_4 : decode cX9_code 4 = .ok (.iload_n 3, 1) := by decide +kernel
theorem dX9_code_5 : decode cX9_code 5 = .ok (.bipush 8, 2) := by decide +kernel
theorem dX9_code_7 : decode cX9_code 7 = .ok (.if_icmp .ge 33, 3) := by decide +kernel
theorem dX9_code_10 : decode cX9_code 10 = .ok (.lload_n 1, 1) := by decide +kernel
theorem dX9_code_11 : decode cX9_code 11 = .ok (.iconst 4, 1) := by decide +kernel
theorem dX9_code_12 : decode cX9_code 12 = .ok (.aload_n 0, 1) := by decide +kernel
theorem dX9_code_13 : decode cX9_code 13 = .ok (.getfield 60, 3) := by decide +kernel
theorem dX9_code_16 : decode cX9_code 16 = .ok (.iload_n 3, 1) := by decide +kernel
theorem dX9_code_17 : decode cX9_code 17 = .ok (.iaload, 1) := by decide +kernel
theorem dX9_code_18 : decode cX9_code 18 = .ok (.imul, 1) := by decide +kernel
theorem dX9_code_19 : decode cX9_code 19 = .ok (.aload_n 0, 1) := by decide +kernel
theorem dX9_code_20 : decode cX9_code 20 = .ok (.getfield 64, 3) := by decide +kernel
theorem dX9_code_23 : decode cX9_code 23 = .ok (.iload_n 3, 1) := by decide +kernel
theorem dX9_code_24 : decode cX9_code 24 = .ok (.iaload, 1) := by decide +kernel
theorem dX9_code_25 : decode cX9_code 25 = .ok (.iadd, 1) := by decide +kernel
theorem dX9_code_26 : decode cX9_code 26 = .ok (.i2l, 1) := by decide +kernel
theorem dX9_code_27 : decode cX9_code 27 = .ok (.bipush 6, 2) := by decide +kernel
theorem dX9_code_29 : decode cX9_code 29 = .ok (.iload_n 3, 1) := by decide +kernel
theorem dX9_code_30 : decode cX9_code 30 = .ok (.imul, 1) := by decide +kernel
theorem dX9_code_31 : decode cX9_code 31 = .ok (.lshl, 1) := by decide +kernel
theorem dX9_code_32 : decode cX9_code 32 = .ok (.lor, 1) := by decide +kernel
theorem dX9_code_33 : decode cX9_code 33 = .ok (.lstore_n 1, 1) := by decide +kernel
theorem dX9_code_34 : decode cX9_code 34 = .ok (.iinc 3 1, 3) := by decide +kernel
theorem dX9_code_37 : decode cX9_code 37 = .ok (.goto (-33), 3) := by decide +kernel
theorem dX9_code_40 : decode cX9_code 40 = .ok (.lload_n 1, 1) := by decide +kernel
theorem dX9_code_41 : decode cX9_code 41 = .ok (.lreturn, 1) := by decide +kernel
theorem dX9_looks_0 : decode cX9_looks 0 = .ok (.iconst 0, 1) := by decide +kernel
theorem dX9_looks_1 : decode cX9_looks 1 = .ok (.istore_n 3, 1) := by decide +kernel
theorem dX9_looks_2 : decode cX9_looks 2 = .ok (.iload_n 3, 1) := by decide +kernel
theorem dX9_looks_3 : decode cX9_looks 3 = .ok (.bipush 16, 2) := by decide +kernel
theorem dX9_looks_5 : decode cX9_looks 5 = .ok (.if_icmp .ge 17, 3) := by decide +kernel
theorem dX9_looks_8 : decode cX9_looks 8 = .ok (.aload_n 0, 1) := by decide +kernel
theorem dX9_looks_9 : decode cX9_looks 9 = .ok (.getfield 67, 3) := by decide +kernel
theorem dX9_looks_12 : decode cX9_looks 12 = .ok (.iload_n 3, 1) := by decide +kernel
theorem dX9_looks_13 : decode cX9_looks 13 = .ok (.bipush (-2), 2) := by decide +kernel
theorem dX9_looks_15 : decode cX9_looks 15 = .ok (.iastore, 1) := by decide +kernel
theorem dX9_looks_16 : decode cX9_looks 16 = .ok (.iinc 3 1, 3) := by decide +kernel
theorem dX9_looks_19 : decode cX9_looks 19 = .ok (.goto (-17), 3) := by decide +kernel
theorem dX9_looks_22 : decode cX9_looks 22 = .ok (.iconst 0, 1) := by decide +kernel
theorem dX9_looks_23 : decode cX9_looks 23 = .ok (.istore_n 3, 1) := by decide +kernel
theorem dX9_looks_24 : decode cX9_looks 24 = .ok (.iload_n 3, 1) := by decide +kernel
theorem dX9_looks_25 : decode cX9_looks 25 = .ok (.bipush 8, 2) := by decide +kernel
theorem dX9_looks_27 : decode cX9_looks 27 = .ok (.if_icmp .ge 53, 3) := by decide +kernel
theorem dX9_looks_30 : decode cX9_looks 30 = .ok (.lload_n 1, 1) := by decide +kernel
theorem dX9_looks_31 : decode cX9_looks 31 = .ok (.bipush 6, 2) := by decide +kernel
theorem dX9_looks_33 : decode cX9_looks 33 = .ok (.iload_n 3, 1) := by decide +kernel
theorem dX9_looks_34 : decode cX9_looks 34 = .ok (.imul, 1) := by decide +kernel
theorem dX9_looks_35 : decode cX9_looks 35 = .ok (.lshr, 1) := by decide +kernel
theorem dX9_looks_36 : decode cX9_looks 36 = .ok (.l2i, 1) := by decide +kernel
theorem dX9_looks_37 : decode cX9_looks 37 = .ok (.bipush 63, 2) := by decide +kernel
theorem dX9_looks_39 : decode cX9_looks 39 = .ok (.iand, 1) := by decide +kernel
theorem dX9_looks_40 : decode cX9_looks 40 = .ok (.istore 4, 2) := by decide +kernel
theorem dX9_looks_42 : decode cX9_looks 42 = .ok (.aload_n 0, 1) := by decide +kernel
theorem dX9_looks_43 : decode cX9_looks 43 = .ok (.getfield 60, 3) := by decide +kernel
theorem dX9_looks_46 : decode cX9_looks 46 = .ok (.iload_n 3, 1) := by decide +kernel
theorem dX9_looks_47 : decode cX9_looks 47 = .ok (.iload 4, 2) := by decide +kernel
theorem dX9_looks_49 : decode cX9_looks 49 = .ok (.iconst 4, 1) := by decide +kernel
theorem dX9_looks_50 : decode cX9_looks 50 = .ok (.idiv, 1) := by decide +kernel
theorem dX9_looks_51 : decode cX9_looks 51 = .ok (.iastore, 1) := by decide +kernel
theorem dX9_looks_52 : decode cX9_looks 52 = .ok (.aload_n 0, 1) := by decide +kernel
theorem dX9_looks_53 : decode cX9_looks 53 = .ok (.getfield 64, 3) := by decide +kernel
theorem dX9_looks_56 : decode cX9_looks 56 = .ok (.iload_n 3, 1) := by decide +kernel
theorem dX9_looks_57 : decode cX9_looks 57 = .ok (.iload 4, 2) := by decide +kernel
theorem dX9_looks_59 : decode cX9_looks 59 = .ok (.iconst 4, 1) := by decide +kernel
theorem dX9_looks_60 : decode cX9_looks 60 = .ok (.irem, 1) := by decide +kernel
theorem dX9_looks_61 : decode cX9_looks 61 = .ok (.iastore, 1) := by decide +kernel
theorem dX9_looks_62 : decode cX9_looks 62 = .ok (.aload_n 0, 1) := by decide +kernel
theorem dX9_looks_63 : decode cX9_looks 63 = .ok (.getfield 67, 3) := by decide +kernel
theorem dX9_looks_66 : decode cX9_looks 66 = .ok (.aload_n 0, 1) := by decide +kernel
theorem dX9_looks_67 : decode cX9_looks 67 = .ok (.getfield 60, 3) := by decide +kernel
theorem dX9_looks_70 : decode cX9_looks 70 = .ok (.iload_n 3, 1) := by decide +kernel
theorem dX9_looks_71 : decode cX9_looks 71 = .ok (.iaload, 1) := by decide +kernel
theorem dX9_looks_72 : decode cX9_looks 72 = .ok (.iload_n 3, 1) := by decide +kernel
theorem dX9_looks_73 : decode cX9_looks 73 = .ok (.iastore, 1) := by decide +kernel
theorem dX9_looks_74 : decode cX9_looks 74 = .ok (.iinc 3 1, 3) := by decide +kernel
theorem dX9_looks_77 : decode cX9_looks 77 = .ok (.goto (-53), 3) := by decide +kernel
theorem dX9_looks_80 : decode cX9_looks 80 = .ok (.return_, 1) := by decide +kernel
theorem dX9_looksNow_0 : decode cX9_looksNow 0 = .ok (.aload_n 0, 1) := by decide +kernel
theorem dX9_looksNow_1 : decode cX9_looksNow 1 = .ok (.aload_n 0, 1) := by decide +kernel
theorem dX9_looksNow_2 : decode cX9_looksNow 2 = .ok (.getfield 89, 3) := by decide +kernel
theorem dX9_looksNow_5 : decode cX9_looksNow 5 = .ok (.aload_n 0, 1) := by decide +kernel
theorem dX9_looksNow_6 : decode cX9_looksNow 6 = .ok (.getfield 144, 3) := by decide +kernel
theorem dX9_looksNow_9 : decode cX9_looksNow 9 = .ok (.laload, 1) := by decide +kernel
theorem dX9_looksNow_10 : decode cX9_looksNow 10 = .ok (.invokevirtual 140, 3) := by decide +kernel
theorem dX9_looksNow_13 : decode cX9_looksNow 13 = .ok (.return_, 1) := by decide +kernel
theorem dX9_next_0 : decode cX9_next 0 = .ok (.iload_n 0, 1) := by decide +kernel
theorem dX9_next_1 : decode cX9_next 1 = .ok (.iconst 4, 1) := by decide +kernel
theorem dX9_next_2 : decode cX9_next 2 = .ok (.irem, 1) := by decide +kernel
theorem dX9_next_3 : decode cX9_next 3 = .ok (.iload_n 1, 1) := by decide +kernel
theorem dX9_next_4 : decode cX9_next 4 = .ok (.iconst 1, 1) := by decide +kernel
theorem dX9_next_5 : decode cX9_next 5 = .ok (.if_icmp .ne 7, 3) := by decide +kernel
theorem dX9_next_8 : decode cX9_next 8 = .ok (.iconst 1, 1) := by decide +kernel
theorem dX9_next_9 : decode cX9_next 9 = .ok (.goto 13, 3) := by decide +kernel
theorem dX9_next_12 : decode cX9_next 12 = .ok (.iload_n 1, 1) := by decide +kernel
theorem dX9_next_13 : decode cX9_next 13 = .ok (.iconst 3, 1) := by decide +kernel
theorem dX9_next_14 : decode cX9_next 14 = .ok (.if_icmp .ne 7, 3) := by decide +kernel
theorem dX9_next_17 : decode cX9_next 17 = .ok (.iconst (-1), 1) := by decide +kernel
theorem dX9_next_18 : decode cX9_next 18 = .ok (.goto 4, 3) := by decide +kernel
theorem dX9_next_21 : decode cX9_next 21 = .ok (.iconst 0, 1) := by decide +kernel
theorem dX9_next_22 : decode cX9_next 22 = .ok (.iadd, 1) := by decide +kernel
theorem dX9_next_23 : decode cX9_next 23 = .ok (.istore_n 2, 1) := by decide +kernel
theorem dX9_next_24 : decode cX9_next 24 = .ok (.iload_n 0, 1) := by decide +kernel
theorem dX9_next_25 : decode cX9_next 25 = .ok (.iconst 4, 1) := by decide +kernel
theorem dX9_next_26 : decode cX9_next 26 = .ok (.idiv, 1) := by decide +kernel
theorem dX9_next_27 : decode cX9_next 27 = .ok (.iload_n 1, 1) := by decide +kernel
theorem dX9_next_28 : decode cX9_next 28 = .ok (.ifCond .ne 7, 3) := by decide +kernel
theorem dX9_next_31 : decode cX9_next 31 = .ok (.iconst 1, 1) := by decide +kernel
theorem dX9_next_32 : decode cX9_next 32 = .ok (.goto 13, 3) := by decide +kernel
theorem dX9_next_35 : decode cX9_next 35 = .ok (.iload_n 1, 1) := by decide +kernel
theorem dX9_next_36 : decode cX9_next 36 = .ok (.iconst 2, 1) := by decide +kernel
theorem dX9_next_37 : decode cX9_next 37 = .ok (.if_icmp .ne 7, 3) := by decide +kernel
theorem dX9_next_40 : decode cX9_next 40 = .ok (.iconst (-1), 1) := by decide +kernel
theorem dX9_next_41 : decode cX9_next 41 = .ok (.goto 4, 3) := by decide +kernel
theorem dX9_next_44 : decode cX9_next 44 = .ok (.iconst 0, 1) := by decide +kernel
theorem dX9_next_45 : decode cX9_next 45 = .ok (.iadd, 1) := by decide +kernel
theorem dX9_next_46 : decode cX9_next 46 = .ok (.istore_n 3, 1) := by decide +kernel
theorem dX9_next_47 : decode cX9_next 47 = .ok (.iload_n 2, 1) := by decide +kernel
theorem dX9_next_48 : decode cX9_next 48 = .ok (.iconst 0, 1) := by decide +kernel
theorem dX9_next_49 : decode cX9_next 49 = .ok (.iconst 3, 1) := by decide +kernel
theorem dX9_next_50 : decode cX9_next 50 = .ok (.invokestatic 147, 3) := by decide +kernel
theorem dX9_next_53 : decode cX9_next 53 = .ok (.ifCond .eq 20, 3) := by decide +kernel
theorem dX9_next_56 : decode cX9_next 56 = .ok (.iload_n 3, 1) := by decide +kernel
theorem dX9_next_57 : decode cX9_next 57 = .ok (.iconst 0, 1) := by decide +kernel
theorem dX9_next_58 : decode cX9_next 58 = .ok (.iconst 3, 1) := by decide +kernel
theorem dX9_next_59 : decode cX9_next 59 = .ok (.invokestatic 147, 3) := by decide +kernel
theorem dX9_next_62 : decode cX9_next 62 = .ok (.ifCond .eq 11, 3) := by decide +kernel
theorem dX9_next_65 : decode cX9_next 65 = .ok (.iconst 4, 1) := by decide +kernel
theorem dX9_next_66 : decode cX9_next 66 = .ok (.iload_n 3, 1) := by decide +kernel
theorem dX9_next_67 : decode cX9_next 67 = .ok (.imul, 1) := by decide +kernel
theorem dX9_next_68 : decode cX9_next 68 = .ok (.iload_n 2, 1) := by decide +kernel
theorem dX9_next_69 : decode cX9_next 69 = .ok (.iadd, 1) := by decide +kernel
theorem dX9_next_70 : decode cX9_next 70 = .ok (.goto 5, 3) := by decide +kernel
theorem dX9_next_73 : decode cX9_next 73 = .ok (.bipush (-2), 2) := by decide +kernel
theorem dX9_next_75 : decode cX9_next 75 = .ok (.ireturn, 1) := by decide +kernel
theorem dX9_beside_0 : decode cX9_beside 0 = .ok (.aload_n 0, 1) := by decide +kernel
theorem dX9_beside_1 : decode cX9_beside 1 = .ok (.getfield 60, 3) := by decide +kernel
theorem dX9_beside_4 : decode cX9_beside 4 = .ok (.iload_n 1, 1) := by decide +kernel
theorem dX9_beside_5 : decode cX9_beside 5 = .ok (.iaload, 1) := by decide +kernel
theorem dX9_beside_6 : decode cX9_beside 6 = .ok (.aload_n 0, 1) := by decide +kernel
theorem dX9_beside_7 : decode cX9_beside 7 = .ok (.getfield 64, 3) := by decide +kernel
theorem dX9_beside_10 : decode cX9_beside 10 = .ok (.iload_n 1, 1) := by decide +kernel
theorem dX9_beside_11 : decode cX9_beside 11 = .ok (.iaload, 1) := by decide +kernel
theorem dX9_beside_12 : decode cX9_beside 12 = .ok (.iload_n 2, 1) := by decide +kernel
theorem dX9_beside_13 : decode cX9_beside 13 = .ok (.iadd, 1) := by decide +kernel
theorem dX9_beside_14 : decode cX9_beside 14 = .ok (.iconst 4, 1) := by decide +kernel
theorem dX9_beside_15 : decode cX9_beside 15 = .ok (.irem, 1) := by decide +kernel
theorem dX9_beside_16 : decode cX9_beside 16 = .ok (.invokestatic 151, 3) := by decide +kernel
theorem dX9_beside_19 : decode cX9_beside 19 = .ok (.istore_n 3, 1) := by decide +kernel
theorem dX9_beside_20 : decode cX9_beside 20 = .ok (.iload_n 3, 1) := by decide +kernel
theorem dX9_beside_21 : decode cX9_beside 21 = .ok (.ifCond .ge 8, 3) := by decide +kernel
theorem dX9_beside_24 : decode cX9_beside 24 = .ok (.bipush (-2), 2) := by decide +kernel
theorem dX9_beside_26 : decode cX9_beside 26 = .ok (.goto 9, 3) := by decide +kernel
theorem dX9_beside_29 : decode cX9_beside 29 = .ok (.aload_n 0, 1) := by decide +kernel
theorem dX9_beside_30 : decode cX9_beside 30 = .ok (.getfield 67, 3) := by decide +kernel
theorem dX9_beside_33 : decode cX9_beside 33 = .ok (.iload_n 3, 1) := by decide +kernel
theorem dX9_beside_34 : decode cX9_beside 34 = .ok (.iaload, 1) := by decide +kernel
theorem dX9_beside_35 : decode cX9_beside 35 = .ok (.ireturn, 1) := by decide +kernel
theorem dX9_isMeant_0 : decode cX9_isMeant 0 = .ok (.iload_n 2, 1) := by decide +kernel
theorem dX9_isMeant_1 : decode cX9_isMeant 1 = .ok (.iconst 5, 1) := by decide +kernel
theorem dX9_isMeant_2 : decode cX9_isMeant 2 = .ok (.if_icmp .ge 13, 3) := by decide +kernel
theorem dX9_isMeant_5 : decode cX9_isMeant 5 = .ok (.getstatic 155, 3) := by decide +kernel
theorem dX9_isMeant_8 : decode cX9_isMeant 8 = .ok (.iload_n 2, 1) := by decide +kernel
theorem dX9_isMeant_9 : decode cX9_isMeant 9 = .ok (.iaload, 1) := by decide +kernel
theorem dX9_isMeant_10 : decode cX9_isMeant 10 = .ok (.iload_n 1, 1) := by decide +kernel
theorem dX9_isMeant_11 : decode cX9_isMeant 11 = .ok (.invokestatic 158, 3) := by decide +kernel
theorem dX9_isMeant_14 : decode cX9_isMeant 14 = .ok (.ireturn, 1) := by decide +kernel
theorem dX9_isMeant_15 : decode cX9_isMeant 15 = .ok (.iload_n 2, 1) := by decide +kernel
theorem dX9_isMeant_16 : decode cX9_isMeant 16 = .ok (.bipush 7, 2) := by decide +kernel
theorem dX9_isMeant_18 : decode cX9_isMeant 18 = .ok (.if_icmp .ge 61, 3) := by decide +kernel
theorem dX9_isMeant_21 : decode cX9_isMeant 21 = .ok (.aload_n 0, 1) := by decide +kernel
theorem dX9_isMeant_22 : decode cX9_isMeant 22 = .ok (.getfield 60, 3) := by decide +kernel
theorem dX9_isMeant_25 : decode cX9_isMeant 25 = .ok (.iload_n 1, 1) := by decide +kernel
theorem dX9_isMeant_26 : decode cX9_isMeant 26 = .ok (.iaload, 1) := by decide +kernel
theorem dX9_isMeant_27 : decode cX9_isMeant 27 = .ok (.iconst 4, 1) := by decide +kernel
theorem dX9_isMeant_28 : decode cX9_isMeant 28 = .ok (.irem, 1) := by decide +kernel
theorem dX9_isMeant_29 : decode cX9_isMeant 29 = .ok (.iconst 1, 1) := by decide +kernel
theorem dX9_isMeant_30 : decode cX9_isMeant 30 = .ok (.iconst 2, 1) := by decide +kernel
theorem dX9_isMeant_31 : decode cX9_isMeant 31 = .ok (.invokestatic 147, 3) := by decide +kernel
theorem dX9_isMeant_34 : decode cX9_isMeant 34 = .ok (.ifCond .eq 23, 3) := by decide +kernel
theorem dX9_isMeant_37 : decode cX9_isMeant 37 = .ok (.aload_n 0, 1) := by decide +kernel
theorem dX9_isMeant_38 : decode cX9_isMeant 38 = .ok (.getfield 60, 3) := by decide +kernel
theorem dX9_isMeant_41 : decode cX9_isMeant 41 = .ok (.iload_n 1, 1) := by decide +kernel
theorem dX9_isMeant_42 : decode cX9_isMeant 42 = .ok (.iaload, 1) := by decide +kernel
theorem dX9_isMeant_43 : decode cX9_isMeant 43 = .ok (.iconst 4, 1) := by decide +kernel
theorem dX9_isMeant_44 : decode cX9_isMeant 44 = .ok (.idiv, 1) := by decide +kernel
theorem dX9_isMeant_45 : decode cX9_isMeant 45 = .ok (.iconst 1, 1) := by decide +kernel
theorem dX9_isMeant_46 : decode cX9_isMeant 46 = .ok (.iconst 2, 1) := by decide +kernel
theorem dX9_isMeant_47 : decode cX9_isMeant 47 = .ok (.invokestatic 147, 3) := by decide +kernel
theorem dX9_isMeant_50 : decode cX9_isMeant 50 = .ok (.ifCond .eq 7, 3) := by decide +kernel
theorem dX9_isMeant_53 : decode cX9_isMeant 53 = .ok (.iconst 1, 1) := by decide +kernel
theorem dX9_isMeant_54 : decode cX9_isMeant 54 = .ok (.goto 4, 3) := by decide +kernel
theorem dX9_isMeant_57 : decode cX9_isMeant 57 = .ok (.iconst 0, 1) := by decide +kernel
theorem dX9_isMeant_58 : decode cX9_isMeant 58 = .ok (.istore_n 3, 1) := by decide +kernel
theorem dX9_isMeant_59 : decode cX9_isMeant 59 = .ok (.iload_n 3, 1) := by decide +kernel
theorem dX9_isMeant_60 : decode cX9_isMeant 60 = .ok (.iload_n 2, 1) := by decide +kernel
theorem dX9_isMeant_61 : decode cX9_isMeant 61 = .ok (.iconst 5, 1) := by decide +kernel
theorem dX9_isMeant_62 : decode cX9_isMeant 62 = .ok (.if_icmp .ne 7, 3) := by decide +kernel
theorem dX9_isMeant_65 : decode cX9_isMeant 65 = .ok (.iconst 1, 1) := by decide +kernel
theorem dX9_isMeant_66 : decode cX9_isMeant 66 = .ok (.goto 4, 3) := by decide +kernel
theorem dX9_isMeant_69 : decode cX9_isMeant 69 = .ok (.iconst 0, 1) := by decide +kernel
theorem dX9_isMeant_70 : decode cX9_isMeant 70 = .ok (.if_icmp .ne 7, 3) := by decide +kernel
theorem dX9_isMeant_73 : decode cX9_isMeant 73 = .ok (.iconst 1, 1) := by decide +kernel
theorem dX9_isMeant_74 : decode cX9_isMeant 74 = .ok (.goto 4, 3) := by decide +kernel
theorem dX9_isMeant_77 : decode cX9_isMeant 77 = .ok (.iconst 0, 1) := by decide +kernel
theorem dX9_isMeant_78 : decode cX9_isMeant 78 = .ok (.ireturn, 1) := by decide +kernel
theorem dX9_isMeant_79 : decode cX9_isMeant 79 = .ok (.aload_n 0, 1) := by decide +kernel
theorem dX9_isMeant_80 : decode cX9_isMeant 80 = .ok (.iload_n 1, 1) := by decide +kernel
theorem dX9_isMeant_81 : decode cX9_isMeant 81 = .ok (.iload_n 2, 1) := by decide +kernel
theorem dX9_isMeant_82 : decode cX9_isMeant 82 = .ok (.bipush 7, 2) := by decide +kernel
theorem dX9_isMeant_84 : decode cX9_isMeant 84 = .ok (.if_icmp .ne 7, 3) := by decide +kernel
theorem dX9_isMeant_87 : decode cX9_isMeant 87 = .ok (.iconst 3, 1) := by decide +kernel
theorem dX9_isMeant_88 : decode cX9_isMeant 88 = .ok (.goto 4, 3) := by decide +kernel
theorem dX9_isMeant_91 : decode cX9_isMeant 91 = .ok (.iconst 1, 1) := by decide +kernel
theorem dX9_isMeant_92 : decode cX9_isMeant 92 = .ok (.invokevirtual 162, 3) := by decide +kernel
theorem dX9_isMeant_95 : decode cX9_isMeant 95 = .ok (.istore_n 3, 1) := by decide +kernel
theorem dX9_isMeant_96 : decode cX9_isMeant 96 = .ok (.iload_n 3, 1) := by decide +kernel
theorem dX9_isMeant_97 : decode cX9_isMeant 97 = .ok (.ifCond .lt 22, 3) := by decide +kernel
theorem dX9_isMeant_100 : decode cX9_isMeant 100 = .ok (.aload_n 0, 1) := by decide +kernel
theorem dX9_isMeant_101 : decode cX9_isMeant 101 = .ok (.getfield 64, 3) := by decide +kernel
theorem dX9_isMeant_104 : decode cX9_isMeant 104 = .ok (.iload_n 3, 1) := by decide +kernel
theorem dX9_isMeant_105 : decode cX9_isMeant 105 = .ok (.iaload, 1) := by decide +kernel
theorem dX9_isMeant_106 : decode cX9_isMeant 106 = .ok (.aload_n 0, 1) := by decide +kernel
theorem dX9_isMeant_107 : decode cX9_isMeant 107 = .ok (.getfield 64, 3) := by decide +kernel
theorem dX9_isMeant_110 : decode cX9_isMeant 110 = .ok (.iload_n 1, 1) := by decide +kernel
theorem dX9_isMeant_111 : decode cX9_isMeant 111 = .ok (.iaload, 1) := by decide +kernel
theorem dX9_isMeant_112 : decode cX9_isMeant 112 = .ok (.if_icmp .ne 7, 3) := by decide +kernel
theorem dX9_isMeant_115 : decode cX9_isMeant 115 = .ok (.iconst 1, 1) := by decide +kernel
theorem dX9_isMeant_116 : decode cX9_isMeant 116 = .ok (.goto 4, 3) := by decide +kernel
theorem dX9_isMeant_119 : decode cX9_isMeant 119 = .ok (.iconst 0, 1) := by decide +kernel
theorem dX9_isMeant_120 : decode cX9_isMeant 120 = .ok (.ireturn, 1) := by decide +kernel
theorem dX9_meantBy_0 : decode cX9_meantBy 0 = .ok (.iconst 0, 1) := by decide +kernel
theorem dX9_meantBy_1 : decode cX9_meantBy 1 = .ok (.istore_n 2, 1) := by decide +kernel
theorem dX9_meantBy_2 : decode cX9_meantBy 2 = .ok (.iconst 0, 1) := by decide +kernel
theorem dX9_meantBy_3 : decode cX9_meantBy 3 = .ok (.istore_n 3, 1) := by decide +kernel
theorem dX9_meantBy_4 : decode cX9_meantBy 4 = .ok (.iload_n 3, 1) := by decide +kernel
theorem dX9_meantBy_5 : decode cX9_meantBy 5 = .ok (.bipush 8, 2) := by decide +kernel
theorem dX9_meantBy_7 : decode cX9_meantBy 7 = .ok (.if_icmp .ge 28, 3) := by decide +kernel
theorem dX9_meantBy_10 : decode cX9_meantBy 10 = .ok (.iload_n 2, 1) := by decide +kernel
theorem dX9_meantBy_11 : decode cX9_meantBy 11 = .ok (.aload_n 0, 1) := by decide +kernel
theorem dX9_meantBy_12 : decode cX9_meantBy 12 = .ok (.iload_n 3, 1) := by decide +kernel
theorem dX9_meantBy_13 : decode cX9_meantBy 13 = .ok (.iload_n 1, 1) := by decide +kernel
theorem dX9_meantBy_14 : decode cX9_meantBy 14 = .ok (.invokevirtual 165, 3) := by decide +kernel
theorem dX9_meantBy_17 : decode cX9_meantBy 17 = .ok (.ifCond .eq 9, 3) := by decide +kernel
theorem dX9_meantBy_20 : decode cX9_meantBy 20 = .ok (.iconst 1, 1) := by decide +kernel
theorem dX9_meantBy_21 : decode cX9_meantBy 21 = .ok (.iload_n 3, 1) := by decide +kernel
theorem dX9_meantBy_22 : decode cX9_meantBy 22 = .ok (.ishl, 1) := by decide +kernel
theorem dX9_meantBy_23 : decode cX9_meantBy 23 = .ok (.goto 4, 3) := by decide +kernel
theorem dX9_meantBy_26 : decode cX9_meantBy 26 = .ok (.iconst 0, 1) := by decide +kernel
theorem dX9_meantBy_27 : decode cX9_meantBy 27 = .ok (.ior, 1) := by decide +kernel
theorem dX9_meantBy_28 : decode cX9_meantBy 28 = .ok (.istore_n 2, 1) := by decide +kernel
theorem dX9_meantBy_29 : decode cX9_meantBy 29 = .ok (.iinc 3 1, 3) := by decide +kernel
theorem dX9_meantBy_32 : decode cX9_meantBy 32 = .ok (.goto (-28), 3) := by decide +kernel
theorem dX9_meantBy_35 : decode cX9_meantBy 35 = .ok (.iload_n 2, 1) := by decide +kernel
theorem dX9_meantBy_36 : decode cX9_meantBy 36 = .ok (.ireturn, 1) := by decide +kernel
theorem dX9_turns_0 : decode cX9_turns 0 = .ok (.aload_n 0, 1) := by decide +kernel
theorem dX9_turns_1 : decode cX9_turns 1 = .ok (.getfield 73, 3) := by decide +kernel
theorem dX9_turns_4 : decode cX9_turns 4 = .ok (.iload_n 1, 1) := by decide +kernel
theorem dX9_turns_5 : decode cX9_turns 5 = .ok (.aload_n 0, 1) := by decide +kernel
theorem dX9_turns_6 : decode cX9_turns 6 = .ok (.getfield 64, 3) := by decide +kernel
theorem dX9_turns_9 : decode cX9_turns 9 = .ok (.iload_n 1, 1) := by decide +kernel
theorem dX9_turns_10 : decode cX9_turns 10 = .ok (.iaload, 1) := by decide +kernel
theorem dX9_turns_11 : decode cX9_turns 11 = .ok (.iload_n 2, 1) := by decide +kernel
theorem dX9_turns_12 : decode cX9_turns 12 = .ok (.iadd, 1) := by decide +kernel
theorem dX9_turns_13 : decode cX9_turns 13 = .ok (.iconst 4, 1) := by decide +kernel
theorem dX9_turns_14 : decode cX9_turns 14 = .ok (.irem, 1) := by decide +kernel
theorem dX9_turns_15 : decode cX9_turns 15 = .ok (.iastore, 1) := by decide +kernel
theorem dX9_turns_16 : decode cX9_turns 16 = .ok (.return_, 1) := by decide +kernel
theorem dX9_goesTo_0 : decode cX9_goesTo 0 = .ok (.aload_n 0, 1) := by decide +kernel
theorem dX9_goesTo_1 : decode cX9_goesTo 1 = .ok (.getfield 79, 3) := by decide +kernel
theorem dX9_goesTo_4 : decode cX9_goesTo 4 = .ok (.iload_n 1, 1) := by decide +kernel
theorem dX9_goesTo_5 : decode cX9_goesTo 5 = .ok (.iconst 1, 1) := by decide +kernel
theorem dX9_goesTo_6 : decode cX9_goesTo 6 = .ok (.bastore, 1) := by decide +kernel
theorem dX9_goesTo_7 : decode cX9_goesTo 7 = .ok (.aload_n 0, 1) := by decide +kernel
theorem dX9_goesTo_8 : decode cX9_goesTo 8 = .ok (.getfield 70, 3) := by decide +kernel
theorem dX9_goesTo_11 : decode cX9_goesTo 11 = .ok (.iload_n 1, 1) := by decide +kernel
theorem dX9_goesTo_12 : decode cX9_goesTo 12 = .ok (.iload_n 2, 1) := by decide +kernel
theorem dX9_goesTo_13 : decode cX9_goesTo 13 = .ok (.iastore, 1) := by decide +kernel
theorem dX9_goesTo_14 : decode cX9_goesTo 14 = .ok (.return_, 1) := by decide +kernel
theorem dX9_mayPair_0 : decode cX9_mayPair 0 = .ok (.iload 4, 2) := by decide +kernel
theorem dX9_mayPair_2 : decode cX9_mayPair 2 = .ok (.ifCond .lt 22, 3) := by decide +kernel
theorem dX9_mayPair_5 : decode cX9_mayPair 5 = .ok (.iload_n 2, 1) := by decide +kernel
theorem dX9_mayPair_6 : decode cX9_mayPair 6 = .ok (.iload 4, 2) := by decide +kernel
theorem dX9_mayPair_8 : decode cX9_mayPair 8 = .ok (.invokestatic 158, 3) := by decide +kernel
theorem dX9_mayPair_11 : decode cX9_mayPair 11 = .ok (.ifCond .eq 13, 3) := by decide +kernel
theorem dX9_mayPair_14 : decode cX9_mayPair 14 = .ok (.aload_n 0, 1) := by decide +kernel
theorem dX9_mayPair_15 : decode cX9_mayPair 15 = .ok (.getfield 76, 3) := by decide +kernel
theorem dX9_mayPair_18 : decode cX9_mayPair 18 = .ok (.iload 4, 2) := by decide +kernel
theorem dX9_mayPair_20 : decode cX9_mayPair 20 = .ok (.iaload, 1) := by decide +kernel
theorem dX9_mayPair_21 : decode cX9_mayPair 21 = .ok (.ifCond .lt 5, 3) := by decide +kernel
theorem dX9_mayPair_24 : decode cX9_mayPair 24 = .ok (.iconst 0, 1) := by decide +kernel
theorem dX9_mayPair_25 : decode cX9_mayPair 25 = .ok (.ireturn, 1) := by decide +kernel
theorem dX9_mayPair_26 : decode cX9_mayPair 26 = .ok (.iload_n 1, 1) := by decide +kernel
theorem dX9_mayPair_27 : decode cX9_mayPair 27 = .ok (.bipush 8, 2) := by decide +kernel
theorem dX9_mayPair_29 : decode cX9_mayPair 29 = .ok (.if_icmp .lt 25, 3) := by decide +kernel
theorem dX9_mayPair_32 : decode cX9_mayPair 32 = .ok (.aload_n 0, 1) := by decide +kernel
theorem dX9_mayPair_33 : decode cX9_mayPair 33 = .ok (.getfield 64, 3) := by decide +kernel
theorem dX9_mayPair_36 : decode cX9_mayPair 36 = .ok (.iload 4, 2) := by decide +kernel
theorem dX9_mayPair_38 : decode cX9_mayPair 38 = .ok (.iaload, 1) := by decide +kernel
theorem dX9_mayPair_39 : decode cX9_mayPair 39 = .ok (.aload_n 0, 1) := by decide +kernel
theorem dX9_mayPair_40 : decode cX9_mayPair 40 = .ok (.getfield 64, 3) := by decide +kernel
theorem dX9_mayPair_43 : decode cX9_mayPair 43 = .ok (.iload_n 3, 1) := by decide +kernel
theorem dX9_mayPair_44 : decode cX9_mayPair 44 = .ok (.iaload, 1) := by decide +kernel
theorem dX9_mayPair_45 : decode cX9_mayPair 45 = .ok (.if_icmp .ne 7, 3) := by decide +kernel
theorem dX9_mayPair_48 : decode cX9_mayPair 48 = .ok (.iconst 1, 1) := by decide +kernel
theorem dX9_mayPair_49 : decode cX9_mayPair 49 = .ok (.goto 4, 3) := by decide +kernel
theorem dX9_mayPair_52 : decode cX9_mayPair 52 = .ok (.iconst 0, 1) := by decide +kernel
theorem dX9_mayPair_53 : decode cX9_mayPair 53 = .ok (.ireturn, 1) := by decide +kernel
theorem dX9_mayPair_54 : decode cX9_mayPair 54 = .ok (.aload_n 0, 1) := by decide +kernel
theorem dX9_mayPair_55 : decode cX9_mayPair 55 = .ok (.getfield 64, 3) := by decide +kernel
theorem dX9_mayPair_58 : decode cX9_mayPair 58 = .ok (.iload 4, 2) := by decide +kernel
theorem dX9_mayPair_60 : decode cX9_mayPair 60 = .ok (.iaload, 1) := by decide +kernel
theorem dX9_mayPair_61 : decode cX9_mayPair 61 = .ok (.aload_n 0, 1) := by decide +kernel
theorem dX9_mayPair_62 : decode cX9_mayPair 62 = .ok (.getfield 64, 3) := by decide +kernel
theorem dX9_mayPair_65 : decode cX9_mayPair 65 = .ok (.iload_n 3, 1) := by decide +kernel
theorem dX9_mayPair_66 : decode cX9_mayPair 66 = .ok (.iaload, 1) := by decide +kernel
theorem dX9_mayPair_67 : decode cX9_mayPair 67 = .ok (.iconst 2, 1) := by decide +kernel
theorem dX9_mayPair_68 : decode cX9_mayPair 68 = .ok (.iadd, 1) := by decide +kernel
theorem dX9_mayPair_69 : decode cX9_mayPair 69 = .ok (.iconst 4, 1) := by decide +kernel
theorem dX9_mayPair_70 : decode cX9_mayPair 70 = .ok (.irem, 1) := by decide +kernel
theorem dX9_mayPair_71 : decode cX9_mayPair 71 = .ok (.if_icmp .ne 23, 3) := by decide +kernel
theorem dX9_mayPair_74 : decode cX9_mayPair 74 = .ok (.iload_n 1, 1) := by decide +kernel
theorem dX9_mayPair_75 : decode cX9_mayPair 75 = .ok (.bipush 6, 2) := by decide +kernel
theorem dX9_mayPair_77 : decode cX9_mayPair 77 = .ok (.if_icmp .ne 13, 3) := by decide +kernel
theorem dX9_mayPair_80 : decode cX9_mayPair 80 = .ok (.iload_n 3, 1) := by decide +kernel
theorem dX9_mayPair_81 : decode cX9_mayPair 81 = .ok (.iconst 2, 1) := by decide +kernel
theorem dX9_mayPair_82 : decode cX9_mayPair 82 = .ok (.irem, 1) := by decide +kernel
theorem dX9_mayPair_83 : decode cX9_mayPair 83 = .ok (.iload 4, 2) := by decide +kernel
theorem dX9_mayPair_85 : decode cX9_mayPair 85 = .ok (.iconst 2, 1) := by decide +kernel
theorem dX9_mayPair_86 : decode cX9_mayPair 86 = .ok (.irem, 1) := by decide +kernel
theorem dX9_mayPair_87 : decode cX9_mayPair 87 = .ok (.if_icmp .eq 7, 3) := by decide +kernel
theorem dX9_mayPair_90 : decode cX9_mayPair 90 = .ok (.iconst 1, 1) := by decide +kernel
theorem dX9_mayPair_91 : decode cX9_mayPair 91 = .ok (.goto 4, 3) := by decide +kernel
theorem dX9_mayPair_94 : decode cX9_mayPair 94 = .ok (.iconst 0, 1) := by decide +kernel
theorem dX9_mayPair_95 : decode cX9_mayPair 95 = .ok (.ireturn, 1) := by decide +kernel
theorem dX9_mateOf_0 : decode cX9_mateOf 0 = .ok (.iload_n 1, 1) := by decide +kernel
theorem dX9_mateOf_1 : decode cX9_mateOf 1 = .ok (.bipush 8, 2) := by decide +kernel
theorem dX9_mateOf_3 : decode cX9_mateOf 3 = .ok (.if_icmp .ge 31, 3) := by decide +kernel
theorem dX9_mateOf_6 : decode cX9_mateOf 6 = .ok (.aload_n 0, 1) := by decide +kernel
theorem dX9_mateOf_7 : decode cX9_mateOf 7 = .ok (.iload_n 1, 1) := by decide +kernel
theorem dX9_mateOf_8 : decode cX9_mateOf 8 = .ok (.iload_n 2, 1) := by decide +kernel
theorem dX9_mateOf_9 : decode cX9_mateOf 9 = .ok (.iload_n 3, 1) := by decide +kernel
theorem dX9_mateOf_10 : decode cX9_mateOf 10 = .ok (.aload_n 0, 1) := by decide +kernel
theorem dX9_mateOf_11 : decode cX9_mateOf 11 = .ok (.iload_n 3, 1) := by decide +kernel
theorem dX9_mateOf_12 : decode cX9_mateOf 12 = .ok (.iconst 0, 1) := by decide +kernel
theorem dX9_mateOf_13 : decode cX9_mateOf 13 = .ok (.invokevirtual 162, 3) := by decide +kernel
theorem dX9_mateOf_16 : decode cX9_mateOf 16 = .ok (.invokevirtual 168, 3) := by decide +kernel
theorem dX9_mateOf_19 : decode cX9_mateOf 19 = .ok (.ifCond .eq 12, 3) := by decide +kernel
theorem dX9_mateOf_22 : decode cX9_mateOf 22 = .ok (.aload_n 0, 1) := by decide +kernel
theorem dX9_mateOf_23 : decode cX9_mateOf 23 = .ok (.iload_n 3, 1) := by decide +kernel
theorem dX9_mateOf_24 : decode cX9_mateOf 24 = .ok (.iconst 0, 1) := by decide +kernel
theorem dX9_mateOf_25 : decode cX9_mateOf 25 = .ok (.invokevirtual 162, 3) := by decide +kernel
theorem dX9_mateOf_28 : decode cX9_mateOf 28 = .ok (.goto 5, 3) := by decide +kernel
theorem dX9_mateOf_31 : decode cX9_mateOf 31 = .ok (.bipush (-2), 2) := by decide +kernel
theorem dX9_mateOf_33 : decode cX9_mateOf 33 = .ok (.ireturn, 1) := by decide +kernel
theorem dX9_mateOf_34 : decode cX9_mateOf 34 = .ok (.aload_n 0, 1) := by decide +kernel
theorem dX9_mateOf_35 : decode cX9_mateOf 35 = .ok (.iload_n 1, 1) := by decide +kernel
theorem dX9_mateOf_36 : decode cX9_mateOf 36 = .ok (.iload_n 2, 1) := by decide +kernel
theorem dX9_mateOf_37 : decode cX9_mateOf 37 = .ok (.iload_n 3, 1) := by decide +kernel
theorem dX9_mateOf_38 : decode cX9_mateOf 38 = .ok (.aload_n 0, 1) := by decide +kernel
theorem dX9_mateOf_39 : decode cX9_mateOf 39 = .ok (.iload_n 3, 1) := by decide +kernel
theorem dX9_mateOf_40 : decode cX9_mateOf 40 = .ok (.iconst 1, 1) := by decide +kernel
theorem dX9_mateOf_41 : decode cX9_mateOf 41 = .ok (.invokevirtual 162, 3) := by decide +kernel
theorem dX9_mateOf_44 : decode cX9_mateOf 44 = .ok (.invokevirtual 168, 3) := by decide +kernel
theorem dX9_mateOf_47 : decode cX9_mateOf 47 = .ok (.ifCond .eq 10, 3) := by decide +kernel
theorem dX9_mateOf_50 : decode cX9_mateOf 50 = .ok (.aload_n 0, 1) := by decide +kernel
theorem dX9_mateOf_51 : decode cX9_mateOf 51 = .ok (.iload_n 3, 1) := by decide +kernel
theorem dX9_mateOf_52 : decode cX9_mateOf 52 = .ok (.iconst 1, 1) := by decide +kernel
theorem dX9_mateOf_53 : decode cX9_mateOf 53 = .ok (.invokevirtual 162, 3) := by decide +kernel
theorem dX9_mateOf_56 : decode cX9_mateOf 56 = .ok (.ireturn, 1) := by decide +kernel
theorem dX9_mateOf_57 : decode cX9_mateOf 57 = .ok (.aload_n 0, 1) := by decide +kernel
theorem dX9_mateOf_58 : decode cX9_mateOf 58 = .ok (.iload_n 1, 1) := by decide +kernel
theorem dX9_mateOf_59 : decode cX9_mateOf 59 = .ok (.iload_n 2, 1) := by decide +kernel
theorem dX9_mateOf_60 : decode cX9_mateOf 60 = .ok (.iload_n 3, 1) := by decide +kernel
theorem dX9_mateOf_61 : decode cX9_mateOf 61 = .ok (.aload_n 0, 1) := by decide +kernel
theorem dX9_mateOf_62 : decode cX9_mateOf 62 = .ok (.iload_n 3, 1) := by decide +kernel
theorem dX9_mateOf_63 : decode cX9_mateOf 63 = .ok (.iconst 3, 1) := by decide +kernel
theorem dX9_mateOf_64 : decode cX9_mateOf 64 = .ok (.invokevirtual 162, 3) := by decide +kernel
theorem dX9_mateOf_67 : decode cX9_mateOf 67 = .ok (.invokevirtual 168, 3) := by decide +kernel
theorem dX9_mateOf_70 : decode cX9_mateOf 70 = .ok (.ifCond .eq 12, 3) := by decide +kernel
theorem dX9_mateOf_73 : decode cX9_mateOf 73 = .ok (.aload_n 0, 1) := by decide +kernel
theorem dX9_mateOf_74 : decode cX9_mateOf 74 = .ok (.iload_n 3, 1) := by decide +kernel
theorem dX9_mateOf_75 : decode cX9_mateOf 75 = .ok (.iconst 3, 1) := by decide +kernel
theorem dX9_mateOf_76 : decode cX9_mateOf 76 = .ok (.invokevirtual 162, 3) := by decide +kernel
theorem dX9_mateOf_79 : decode cX9_mateOf 79 = .ok (.goto 5, 3) := by decide +kernel
theorem dX9_mateOf_82 : decode cX9_mateOf 82 = .ok (.bipush (-2), 2) := by decide +kernel
theorem dX9_mateOf_84 : decode cX9_mateOf 84 = .ok (.ireturn, 1) := by decide +kernel
theorem dX9_folds_0 : decode cX9_folds 0 = .ok (.aload_n 0, 1) := by decide +kernel
theorem dX9_folds_1 : decode cX9_folds 1 = .ok (.iload_n 1, 1) := by decide +kernel
theorem dX9_folds_2 : decode cX9_folds 2 = .ok (.iconst 1, 1) := by decide +kernel
theorem dX9_folds_3 : decode cX9_folds 3 = .ok (.invokevirtual 162, 3) := by decide +kernel
theorem dX9_folds_6 : decode cX9_folds 6 = .ok (.iload_n 2, 1) := by decide +kernel
theorem dX9_folds_7 : decode cX9_folds 7 = .ok (.if_icmp .ne 7, 3) := by decide +kernel
theorem dX9_folds_10 : decode cX9_folds 10 = .ok (.iload_n 2, 1) := by decide +kernel
theorem dX9_folds_11 : decode cX9_folds 11 = .ok (.goto 4, 3) := by decide +kernel
theorem dX9_folds_14 : decode cX9_folds 14 = .ok (.iload_n 1, 1) := by decide +kernel
theorem dX9_folds_15 : decode cX9_folds 15 = .ok (.istore_n 3, 1) := by decide +kernel
theorem dX9_folds_16 : decode cX9_folds 16 = .ok (.iload_n 3, 1) := by decide +kernel
theorem dX9_folds_17 : decode cX9_folds 17 = .ok (.iload_n 1, 1) := by decide +kernel
theorem dX9_folds_18 : decode cX9_folds 18 = .ok (.if_icmp .ne 7, 3) := by decide +kernel
theorem dX9_folds_21 : decode cX9_folds 21 = .ok (.iload_n 2, 1) := by decide +kernel
theorem dX9_folds_22 : decode cX9_folds 22 = .ok (.goto 4, 3) := by decide +kernel
theorem dX9_folds_25 : decode cX9_folds 25 = .ok (.iload_n 1, 1) := by decide +kernel
theorem dX9_folds_26 : decode cX9_folds 26 = .ok (.istore 4, 2) := by decide +kernel
theorem dX9_folds_28 : decode cX9_folds 28 = .ok (.aload_n 0, 1) := by decide +kernel
theorem dX9_folds_29 : decode cX9_folds 29 = .ok (.iload_n 3, 1) := by decide +kernel
theorem dX9_folds_30 : decode cX9_folds 30 = .ok (.aload_n 0, 1) := by decide +kernel
theorem dX9_folds_31 : decode cX9_folds 31 = .ok (.getfield 60, 3) := by decide +kernel
theorem dX9_folds_34 : decode cX9_folds 34 = .ok (.iload 4, 2) := by decide +kernel
theorem dX9_folds_36 : decode cX9_folds 36 = .ok (.iaload, 1) := by decide +kernel
theorem dX9_folds_37 : decode cX9_folds 37 = .ok (.aload_n 0, 1) := by decide +kernel
theorem dX9_folds_38 : decode cX9_folds 38 = .ok (.getfield 64, 3) := by decide +kernel
theorem dX9_folds_41 : decode cX9_folds 41 = .ok (.iload 4, 2) := by decide +kernel
theorem dX9_folds_43 : decode cX9_folds 43 = .ok (.iaload, 1) := by decide +kernel
theorem dX9_folds_44 : decode cX9_folds 44 = .ok (.invokestatic 151, 3) := by decide +kernel
theorem dX9_folds_47 : decode cX9_folds 47 = .ok (.invokevirtual 172, 3) := by decide +kernel
theorem dX9_folds_50 : decode cX9_folds 50 = .ok (.aload_n 0, 1) := by decide +kernel
theorem dX9_folds_51 : decode cX9_folds 51 = .ok (.iload_n 3, 1) := by decide +kernel
theorem dX9_folds_52 : decode cX9_folds 52 = .ok (.iconst 2, 1) := by decide +kernel
theorem dX9_folds_53 : decode cX9_folds 53 = .ok (.invokevirtual 176, 3) := by decide +kernel
theorem dX9_folds_56 : decode cX9_folds 56 = .ok (.return_, 1) := by decide +kernel
theorem dX9_pairs_0 : decode cX9_pairs 0 = .ok (.iconst 0, 1) := by decide +kernel
theorem dX9_pairs_1 : decode cX9_pairs 1 = .ok (.istore_n 3, 1) := by decide +kernel
theorem dX9_pairs_2 : decode cX9_pairs 2 = .ok (.iload_n 3, 1) := by decide +kernel
theorem dX9_pairs_3 : decode cX9_pairs 3 = .ok (.bipush 8, 2) := by decide +kernel
theorem dX9_pairs_5 : decode cX9_pairs 5 = .ok (.if_icmp .ge 189, 3) := by decide +kernel
theorem dX9_pairs_8 : decode cX9_pairs 8 = .ok (.iload_n 2, 1) := by decide +kernel
theorem dX9_pairs_9 : decode cX9_pairs 9 = .ok (.iload_n 3, 1) := by decide +kernel
theorem dX9_pairs_10 : decode cX9_pairs 10 = .ok (.invokestatic 158, 3) := by decide +kernel
theorem dX9_pairs_13 : decode cX9_pairs 13 = .ok (.ifCond .eq 175, 3) := by decide +kernel
theorem dX9_pairs_16 : decode cX9_pairs 16 = .ok (.aload_n 0, 1) := by decide +kernel
theorem dX9_pairs_17 : decode cX9_pairs 17 = .ok (.getfield 76, 3) := by decide +kernel
theorem dX9_pairs_20 : decode cX9_pairs 20 = .ok (.iload_n 3, 1) := by decide +kernel
theorem dX9_pairs_21 : decode cX9_pairs 21 = .ok (.iaload, 1) := by decide +kernel
theorem dX9_pairs_22 : decode cX9_pairs 22 = .ok (.ifCond .lt 6, 3) := by decide +kernel
theorem dX9_pairs_25 : decode cX9_pairs 25 = .ok (.goto 163, 3) := by decide +kernel
theorem dX9_pairs_28 : decode cX9_pairs 28 = .ok (.aload_n 0, 1) := by decide +kernel
theorem dX9_pairs_29 : decode cX9_pairs 29 = .ok (.iload_n 1, 1) := by decide +kernel
theorem dX9_pairs_30 : decode cX9_pairs 30 = .ok (.iload_n 2, 1) := by decide +kernel
theorem dX9_pairs_31 : decode cX9_pairs 31 = .ok (.iload_n 3, 1) := by decide +kernel
theorem dX9_pairs_32 : decode cX9_pairs 32 = .ok (.invokevirtual 179, 3) := by decide +kernel
theorem dX9_pairs_35 : decode cX9_pairs 35 = .ok (.istore 4, 2) := by decide +kernel
theorem dX9_pairs_37 : decode cX9_pairs 37 = .ok (.iload 4, 2) := by decide +kernel
theorem dX9_pairs_39 : decode cX9_pairs 39 = .ok (.ifCond .ge 6, 3) := by decide +kernel
theorem dX9_pairs_42 : decode cX9_pairs 42 = .ok (.goto 146, 3) := by decide +kernel
theorem dX9_pairs_45 : decode cX9_pairs 45 = .ok (.aload_n 0, 1) := by decide +kernel
theorem dX9_pairs_46 : decode cX9_pairs 46 = .ok (.getfield 76, 3) := by decide +kernel
theorem dX9_pairs_49 : decode cX9_pairs 49 = .ok (.iload_n 3, 1) := by decide +kernel
theorem dX9_pairs_50 : decode cX9_pairs 50 = .ok (.iload 4, 2) := by decide +kernel
theorem dX9_pairs_52 : decode cX9_pairs 52 = .ok (.iastore, 1) := by decide +kernel
theorem dX9_pairs_53 : decode cX9_pairs 53 = .ok (.aload_n 0, 1) := by decide +kernel
theorem dX9_pairs_54 : decode cX9_pairs 54 = .ok (.getfield 76, 3) := by decide +kernel
theorem dX9_pairs_57 : decode cX9_pairs 57 = .ok (.iload 4, 2) := by decide +kernel
theorem dX9_pairs_59 : decode cX9_pairs 59 = .ok (.iload_n 3, 1) := by decide +kernel
theorem dX9_pairs_60 : decode cX9_pairs 60 = .ok (.iastore, 1) := by decide +kernel
theorem dX9_pairs_61 : decode cX9_pairs 61 = .ok (.aload_n 0, 1) := by decide +kernel
theorem dX9_pairs_62 : decode cX9_pairs 62 = .ok (.dup, 1) := by decide +kernel
theorem dX9_pairs_63 : decode cX9_pairs 63 = .ok (.getfield 183, 3) := by decide +kernel
theorem dX9_pairs_66 : decode cX9_pairs 66 = .ok (.iconst 1, 1) := by decide +kernel
theorem dX9_pairs_67 : decode cX9_pairs 67 = .ok (.iadd, 1) := by decide +kernel
theorem dX9_pairs_68 : decode cX9_pairs 68 = .ok (.putfield 183, 3) := by decide +kernel
theorem dX9_pairs_71 : decode cX9_pairs 71 = .ok (.iload_n 1, 1) := by decide +kernel
theorem dX9_pairs_72 : decode cX9_pairs 72 = .ok (.bipush 10, 2) := by decide +kernel
theorem dX9_pairs_74 : decode cX9_pairs 74 = .ok (.if_icmp .ne 13, 3) := by decide +kernel
theorem dX9_pairs_77 : decode cX9_pairs 77 = .ok (.aload_n 0, 1) := by decide +kernel
theorem dX9_pairs_78 : decode cX9_pairs 78 = .ok (.iload_n 3, 1) := by decide +kernel
theorem dX9_pairs_79 : decode cX9_pairs 79 = .ok (.iload 4, 2) := by decide +kernel
theorem dX9_pairs_81 : decode cX9_pairs 81 = .ok (.invokevirtual 186, 3) := by decide +kernel
theorem dX9_pairs_84 : decode cX9_pairs 84 = .ok (.goto 104, 3) := by decide +kernel
theorem dX9_pairs_87 : decode cX9_pairs 87 = .ok (.aload_n 0, 1) := by decide +kernel
theorem dX9_pairs_88 : decode cX9_pairs 88 = .ok (.iload_n 3, 1) := by decide +kernel
theorem dX9_pairs_89 : decode cX9_pairs 89 = .ok (.aload_n 0, 1) := by decide +kernel
theorem dX9_pairs_90 : decode cX9_pairs 90 = .ok (.getfield 60, 3) := by decide +kernel
theorem dX9_pairs_93 : decode cX9_pairs 93 = .ok (.iload 4, 2) := by decide +kernel
theorem dX9_pairs_95 : decode cX9_pairs 95 = .ok (.iaload, 1) := by decide +kernel
theorem dX9_pairs_96 : decode cX9_pairs 96 = .ok (.invokevirtual 172, 3) := by decide +kernel
theorem dX9_pairs_99 : decode cX9_pairs 99 = .ok (.aload_n 0, 1) := by decide +kernel
theorem dX9_pairs_100 : decode cX9_pairs 100 = .ok (.iload 4, 2) := by decide +kernel
theorem dX9_pairs_102 : decode cX9_pairs 102 = .ok (.aload_n 0, 1) := by decide +kernel
theorem dX9_pairs_103 : decode cX9_pairs 103 = .ok (.getfield 60, 3) := by decide +kernel
theorem dX9_pairs_106 : decode cX9_pairs 106 = .ok (.iload_n 3, 1) := by decide +kernel
theorem dX9_pairs_107 : decode cX9_pairs 107 = .ok (.iaload, 1) := by decide +kernel
theorem dX9_pairs_108 : decode cX9_pairs 108 = .ok (.invokevirtual 172, 3) := by decide +kernel
theorem dX9_pairs_111 : decode cX9_pairs 111 = .ok (.iload_n 1, 1) := by decide +kernel
theorem dX9_pairs_112 : decode cX9_pairs 112 = .ok (.bipush 6, 2) := by decide +kernel
theorem dX9_pairs_114 : decode cX9_pairs 114 = .ok (.if_icmp .eq 9, 3) := by decide +kernel
theorem dX9_pairs_117 : decode cX9_pairs 117 = .ok (.iload_n 1, 1) := by decide +kernel
theorem dX9_pairs_118 : decode cX9_pairs 118 = .ok (.bipush 7, 2) := by decide +kernel
theorem dX9_pairs_120 : decode cX9_pairs 120 = .ok (.if_icmp .ne 49, 3) := by decide +kernel
theorem dX9_pairs_123 : decode cX9_pairs 123 = .ok (.aload_n 0, 1) := by decide +kernel
theorem dX9_pairs_124 : decode cX9_pairs 124 = .ok (.iload_n 3, 1) := by decide +kernel
theorem dX9_pairs_125 : decode cX9_pairs 125 = .ok (.iload_n 1, 1) := by decide +kernel
theorem dX9_pairs_126 : decode cX9_pairs 126 = .ok (.bipush 7, 2) := by decide +kernel
theorem dX9_pairs_128 : decode cX9_pairs 128 = .ok (.if_icmp .eq 9, 3) := by decide +kernel
theorem dX9_pairs_131 : decode cX9_pairs 131 = .ok (.iload_n 3, 1) := by decide +kernel
theorem dX9_pairs_132 : decode cX9_pairs 132 = .ok (.iconst 2, 1) := by decide +kernel
theorem dX9_pairs_133 : decode cX9_pairs 133 = .ok (.irem, 1) := by decide +kernel
theorem dX9_pairs_134 : decode cX9_pairs 134 = .ok (.ifCond .ne 7, 3) := by decide +kernel
theorem dX9_pairs_137 : decode cX9_pairs 137 = .ok (.iconst 1, 1) := by decide +kernel
theorem dX9_pairs_138 : decode cX9_pairs 138 = .ok (.goto 4, 3) := by decide +kernel
theorem dX9_pairs_141 : decode cX9_pairs 141 = .ok (.iconst 3, 1) := by decide +kernel
theorem dX9_pairs_142 : decode cX9_pairs 142 = .ok (.invokevirtual 176, 3) := by decide +kernel
theorem dX9_pairs_145 : decode cX9_pairs 145 = .ok (.aload_n 0, 1) := by decide +kernel
theorem dX9_pairs_146 : decode cX9_pairs 146 = .ok (.iload 4, 2) := by decide +kernel
theorem dX9_pairs_148 : decode cX9_pairs 148 = .ok (.iload_n 1, 1) := by decide +kernel
theorem dX9_pairs_149 : decode cX9_pairs 149 = .ok (.bipush 7, 2) := by decide +kernel
theorem dX9_pairs_151 : decode cX9_pairs 151 = .ok (.if_icmp .eq 10, 3) := by decide +kernel
theorem dX9_pairs_154 : decode cX9_pairs 154 = .ok (.iload 4, 2) := by decide +kernel
theorem dX9_pairs_156 : decode cX9_pairs 156 = .ok (.iconst 2, 1) := by decide +kernel
theorem dX9_pairs_157 : decode cX9_pairs 157 = .ok (.irem, 1) := by decide +kernel
theorem dX9_pairs_158 : decode cX9_pairs 158 = .ok (.ifCond .ne 7, 3) := by decide +kernel
theorem dX9_pairs_161 : decode cX9_pairs 161 = .ok (.iconst 1, 1) := by decide +kernel
theorem dX9_pairs_162 : decode cX9_pairs 162 = .ok (.goto 4, 3) := by decide +kernel
theorem dX9_pairs_165 : decode cX9_pairs 165 = .ok (.iconst 3, 1) := by decide +kernel
theorem dX9_pairs_166 : decode cX9_pairs 166 = .ok (.invokevirtual 176, 3) := by decide +kernel
theorem dX9_pairs_169 : decode cX9_pairs 169 = .ok (.iload_n 1, 1) := by decide +kernel
theorem dX9_pairs_170 : decode cX9_pairs 170 = .ok (.bipush 9, 2) := by decide +kernel
theorem dX9_pairs_172 : decode cX9_pairs 172 = .ok (.if_icmp .ne 16, 3) := by decide +kernel
theorem dX9_pairs_175 : decode cX9_pairs 175 = .ok (.aload_n 0, 1) := by decide +kernel
theorem dX9_pairs_176 : decode cX9_pairs 176 = .ok (.iload_n 3, 1) := by decide +kernel
theorem dX9_pairs_177 : decode cX9_pairs 177 = .ok (.iconst 2, 1) := by decide +kernel
theorem dX9_pairs_178 : decode cX9_pairs 178 = .ok (.invokevirtual 176, 3) := by decide +kernel
theorem dX9_pairs_181 : decode cX9_pairs 181 = .ok (.aload_n 0, 1) := by decide +kernel
theorem dX9_pairs_182 : decode cX9_pairs 182 = .ok (.iload 4, 2) := by decide +kernel
theorem dX9_pairs_184 : decode cX9_pairs 184 = .ok (.iconst 2, 1) := by decide +kernel
theorem dX9_pairs_185 : decode cX9_pairs 185 = .ok (.invokevirtual 176, 3) := by decide +kernel
theorem dX9_pairs_188 : decode cX9_pairs 188 = .ok (.iinc 3 1, 3) := by decide +kernel
theorem dX9_pairs_191 : decode cX9_pairs 191 = .ok (.goto (-189), 3) := by decide +kernel
theorem dX9_pairs_194 : decode cX9_pairs 194 = .ok (.return_, 1) := by decide +kernel
theorem dX9_placeOf_0 : decode cX9_placeOf 0 = .ok (.iconst 0, 1) := by decide +kernel
theorem dX9_placeOf_1 : decode cX9_placeOf 1 = .ok (.istore_n 1, 1) := by decide +kernel
theorem dX9_placeOf_2 : decode cX9_placeOf 2 = .ok (.iload_n 1, 1) := by decide +kernel
theorem dX9_placeOf_3 : decode cX9_placeOf 3 = .ok (.bipush 8, 2) := by decide +kernel
theorem dX9_placeOf_5 : decode cX9_placeOf 5 = .ok (.if_icmp .ge 20, 3) := by decide +kernel
theorem dX9_placeOf_8 : decode cX9_placeOf 8 = .ok (.getstatic 130, 3) := by decide +kernel
theorem dX9_placeOf_11 : decode cX9_placeOf 11 = .ok (.iload_n 1, 1) := by decide +kernel
theorem dX9_placeOf_12 : decode cX9_placeOf 12 = .ok (.iaload, 1) := by decide +kernel
theorem dX9_placeOf_13 : decode cX9_placeOf 13 = .ok (.iload_n 0, 1) := by decide +kernel
theorem dX9_placeOf_14 : decode cX9_placeOf 14 = .ok (.if_icmp .ne 5, 3) := by decide +kernel
theorem dX9_placeOf_17 : decode cX9_placeOf 17 = .ok (.iload_n 1, 1) := by decide +kernel
theorem dX9_placeOf_18 : decode cX9_placeOf 18 = .ok (.ireturn, 1) := by decide +kernel
theorem dX9_placeOf_19 : decode cX9_placeOf 19 = .ok (.iinc 1 1, 3) := by decide +kernel
theorem dX9_placeOf_22 : decode cX9_placeOf 22 = .ok (.goto (-20), 3) := by decide +kernel
theorem dX9_placeOf_25 : decode cX9_placeOf 25 = .ok (.bipush (-2), 2) := by decide +kernel
theorem dX9_placeOf_27 : decode cX9_placeOf 27 = .ok (.ireturn, 1) := by decide +kernel
theorem dX9_rings_0 : decode cX9_rings 0 = .ok (.aload_n 0, 1) := by decide +kernel
theorem dX9_rings_1 : decode cX9_rings 1 = .ok (.bipush 8, 2) := by decide +kernel
theorem dX9_rings_3 : decode cX9_rings 3 = .ok (.putfield 183, 3) := by decide +kernel
theorem dX9_rings_6 : decode cX9_rings 6 = .ok (.iconst 0, 1) := by decide +kernel
theorem dX9_rings_7 : decode cX9_rings 7 = .ok (.istore_n 2, 1) := by decide +kernel
theorem dX9_rings_8 : decode cX9_rings 8 = .ok (.iload_n 2, 1) := by decide +kernel
theorem dX9_rings_9 : decode cX9_rings 9 = .ok (.bipush 8, 2) := by decide +kernel
theorem dX9_rings_11 : decode cX9_rings 11 = .ok (.if_icmp .ge 67, 3) := by decide +kernel
theorem dX9_rings_14 : decode cX9_rings 14 = .ok (.aload_n 0, 1) := by decide +kernel
theorem dX9_rings_15 : decode cX9_rings 15 = .ok (.getfield 60, 3) := by decide +kernel
theorem dX9_rings_18 : decode cX9_rings 18 = .ok (.iload_n 2, 1) := by decide +kernel
theorem dX9_rings_19 : decode cX9_rings 19 = .ok (.iaload, 1) := by decide +kernel
theorem dX9_rings_20 : decode cX9_rings 20 = .ok (.invokestatic 189, 3) := by decide +kernel
theorem dX9_rings_23 : decode cX9_rings 23 = .ok (.istore_n 3, 1) := by decide +kernel
theorem dX9_rings_24 : decode cX9_rings 24 = .ok (.iload_n 3, 1) := by decide +kernel
theorem dX9_rings_25 : decode cX9_rings 25 = .ok (.ifCond .lt 10, 3) := by decide +kernel
theorem dX9_rings_28 : decode cX9_rings 28 = .ok (.iload_n 1, 1) := by decide +kernel
theorem dX9_rings_29 : decode cX9_rings 29 = .ok (.sipush 255, 3) := by decide +kernel
theorem dX9_rings_32 : decode cX9_rings 32 = .ok (.if_icmp .eq 9, 3) := by decide +kernel
theorem dX9_rings_35 : decode cX9_rings 35 = .ok (.aload_n 0, 1) := by decide +kernel
theorem dX9_rings_36 : decode cX9_rings 36 = .ok (.iconst 5, 1) := by decide +kernel
theorem dX9_rings_37 : decode cX9_rings 37 = .ok (.putfield 193, 3) := by decide +kernel
theorem dX9_rings_40 : decode cX9_rings 40 = .ok (.return_, 1) := by decide +kernel
theorem dX9_rings_41 : decode cX9_rings 41 = .ok (.aload_n 0, 1) := by decide +kernel
theorem dX9_rings_42 : decode cX9_rings 42 = .ok (.iload_n 2, 1) := by decide +kernel
theorem dX9_rings_43 : decode cX9_rings 43 = .ok (.getstatic 130, 3) := by decide +kernel
theorem dX9_rings_46 : decode cX9_rings 46 = .ok (.iload_n 3, 1) := by decide +kernel
theorem dX9_rings_47 : decode cX9_rings 47 = .ok (.iconst 1, 1) := by decide +kernel
theorem dX9_rings_48 : decode cX9_rings 48 = .ok (.iadd, 1) := by decide +kernel
theorem dX9_rings_49 : decode cX9_rings 49 = .ok (.bipush 8, 2) := by decide +kernel
theorem dX9_rings_51 : decode cX9_rings 51 = .ok (.irem, 1) := by decide +kernel
theorem dX9_rings_52 : decode cX9_rings 52 = .ok (.iaload, 1) := by decide +kernel
theorem dX9_rings_53 : decode cX9_rings 53 = .ok (.invokevirtual 172, 3) := by decide +kernel
theorem dX9_rings_56 : decode cX9_rings 56 = .ok (.aload_n 0, 1) := by decide +kernel
theorem dX9_rings_57 : decode cX9_rings 57 = .ok (.getfield 73, 3) := by decide +kernel
theorem dX9_rings_60 : decode cX9_rings 60 = .ok (.iload_n 2, 1) := by decide +kernel
theorem dX9_rings_61 : decode cX9_rings 61 = .ok (.getstatic 133, 3) := by decide +kernel
theorem dX9_rings_64 : decode cX9_rings 64 = .ok (.iload_n 3, 1) := by decide +kernel
theorem dX9_rings_65 : decode cX9_rings 65 = .ok (.iconst 1, 1) := by decide +kernel
theorem dX9_rings_66 : decode cX9_rings 66 = .ok (.iadd, 1) := by decide +kernel
theorem dX9_rings_67 : decode cX9_rings 67 = .ok (.bipush 8, 2) := by decide +kernel
theorem dX9_rings_69 : decode cX9_rings 69 = .ok (.irem, 1) := by decide +kernel
theorem dX9_rings_70 : decode cX9_rings 70 = .ok (.iaload, 1) := by decide +kernel
theorem dX9_rings_71 : decode cX9_rings 71 = .ok (.iastore, 1) := by decide +kernel
theorem dX9_rings_72 : decode cX9_rings 72 = .ok (.iinc 2 1, 3) := by decide +kernel
theorem dX9_rings_75 : decode cX9_rings 75 = .ok (.goto (-67), 3) := by decide +kernel
theorem dX9_rings_78 : decode cX9_rings 78 = .ok (.return_, 1) := by decide +kernel
theorem dX9_fallOf_0 : decode cX9_fallOf 0 = .ok (.aload_n 0, 1) := by decide +kernel
theorem dX9_fallOf_1 : decode cX9_fallOf 1 = .ok (.getfield 70, 3) := by decide +kernel
theorem dX9_fallOf_4 : decode cX9_fallOf 4 = .ok (.iload_n 1, 1) := by decide +kernel
theorem dX9_fallOf_5 : decode cX9_fallOf 5 = .ok (.iaload, 1) := by decide +kernel
theorem dX9_fallOf_6 : decode cX9_fallOf 6 = .ok (.ifCond .ge 5, 3) := by decide +kernel
theorem dX9_fallOf_9 : decode cX9_fallOf 9 = .ok (.iconst 1, 1) := by decide +kernel
theorem dX9_fallOf_10 : decode cX9_fallOf 10 = .ok (.ireturn, 1) := by decide +kernel
theorem dX9_fallOf_11 : decode cX9_fallOf 11 = .ok (.aload_n 0, 1) := by decide +kernel
theorem dX9_fallOf_12 : decode cX9_fallOf 12 = .ok (.getfield 67, 3) := by decide +kernel
theorem dX9_fallOf_15 : decode cX9_fallOf 15 = .ok (.aload_n 0, 1) := by decide +kernel
theorem dX9_fallOf_16 : decode cX9_fallOf 16 = .ok (.getfield 70, 3) := by decide +kernel
theorem dX9_fallOf_19 : decode cX9_fallOf 19 = .ok (.iload_n 1, 1) := by decide +kernel
theorem dX9_fallOf_20 : decode cX9_fallOf 20 = .ok (.iaload, 1) := by decide +kernel
theorem dX9_fallOf_21 : decode cX9_fallOf 21 = .ok (.iaload, 1) := by decide +kernel
theorem dX9_fallOf_22 : decode cX9_fallOf 22 = .ok (.istore_n 2, 1) := by decide +kernel
theorem dX9_fallOf_23 : decode cX9_fallOf 23 = .ok (.iload_n 2, 1) := by decide +kernel
theorem dX9_fallOf_24 : decode cX9_fallOf 24 = .ok (.ifCond .lt 29, 3) := by decide +kernel
theorem dX9_fallOf_27 : decode cX9_fallOf 27 = .ok (.aload_n 0, 1) := by decide +kernel
theorem dX9_fallOf_28 : decode cX9_fallOf 28 = .ok (.getfield 79, 3) := by decide +kernel
theorem dX9_fallOf_31 : decode cX9_fallOf 31 = .ok (.iload_n 2, 1) := by decide +kernel
theorem dX9_fallOf_32 : decode cX9_fallOf 32 = .ok (.baload, 1) := by decide +kernel
theorem dX9_fallOf_33 : decode cX9_fallOf 33 = .ok (.ifCond .eq 18, 3) := by decide +kernel
theorem dX9_fallOf_36 : decode cX9_fallOf 36 = .ok (.aload_n 0, 1) := by decide +kernel
theorem dX9_fallOf_37 : decode cX9_fallOf 37 = .ok (.getfield 70, 3) := by decide +kernel
theorem dX9_fallOf_40 : decode cX9_fallOf 40 = .ok (.iload_n 2, 1) := by decide +kernel
theorem dX9_fallOf_41 : decode cX9_fallOf 41 = .ok (.iaload, 1) := by decide +kernel
theorem dX9_fallOf_42 : decode cX9_fallOf 42 = .ok (.aload_n 0, 1) := by decide +kernel
theorem dX9_fallOf_43 : decode cX9_fallOf 43 = .ok (.getfield 60, 3) := by decide +kernel
theorem dX9_fallOf_46 : decode cX9_fallOf 46 = .ok (.iload_n 1, 1) := by decide +kernel
theorem dX9_fallOf_47 : decode cX9_fallOf 47 = .ok (.iaload, 1) := by decide +kernel
theorem dX9_fallOf_48 : decode cX9_fallOf 48 = .ok (.if_icmp .ne 5, 3) := by decide +kernel
theorem dX9_fallOf_51 : decode cX9_fallOf 51 = .ok (.iconst 2, 1) := by decide +kernel
theorem dX9_fallOf_52 : decode cX9_fallOf 52 = .ok (.ireturn, 1) := by decide +kernel
theorem dX9_fallOf_53 : decode cX9_fallOf 53 = .ok (.iconst 0, 1) := by decide +kernel
theorem dX9_fallOf_54 : decode cX9_fallOf 54 = .ok (.istore_n 3, 1) := by decide +kernel
theorem dX9_fallOf_55 : decode cX9_fallOf 55 = .ok (.iload_n 3, 1) := by decide +kernel
theorem dX9_fallOf_56 : decode cX9_fallOf 56 = .ok (.bipush 8, 2) := by decide +kernel
theorem dX9_fallOf_58 : decode cX9_fallOf 58 = .ok (.if_icmp .ge 40, 3) := by decide +kernel
theorem dX9_fallOf_61 : decode cX9_fallOf 61 = .ok (.iload_n 3, 1) := by decide +kernel
theorem dX9_fallOf_62 : decode cX9_fallOf 62 = .ok (.iload_n 1, 1) := by decide +kernel
theorem dX9_fallOf_63 : decode cX9_fallOf 63 = .ok (.if_icmp .eq 29, 3) := by decide +kernel
theorem dX9_fallOf_66 : decode cX9_fallOf 66 = .ok (.aload_n 0, 1) := by decide +kernel
theorem dX9_fallOf_67 : decode cX9_fallOf 67 = .ok (.getfield 79, 3) := by decide +kernel
theorem dX9_fallOf_70 : decode cX9_fallOf 70 = .ok (.iload_n 3, 1) := by decide +kernel
theorem dX9_fallOf_71 : decode cX9_fallOf 71 = .ok (.baload, 1) := by decide +kernel
theorem dX9_fallOf_72 : decode cX9_fallOf 72 = .ok (.ifCond .eq 20, 3) := by decide +kernel
theorem dX9_fallOf_75 : decode cX9_fallOf 75 = .ok (.aload_n 0, 1) := by decide +kernel
theorem dX9_fallOf_76 : decode cX9_fallOf 76 = .ok (.getfield 70, 3) := by decide +kernel
theorem dX9_fallOf_79 : decode cX9_fallOf 79 = .ok (.iload_n 3, 1) := by decide +kernel
theorem dX9_fallOf_80 : decode cX9_fallOf 80 = .ok (.iaload, 1) := by decide +kernel
theorem dX9_fallOf_81 : decode cX9_fallOf 81 = .ok (.aload_n 0, 1) := by decide +kernel
theorem dX9_fallOf_82 : decode cX9_fallOf 82 = .ok (.getfield 70, 3) := by decide +kernel
theorem dX9_fallOf_85 : decode cX9_fallOf 85 = .ok (.iload_n 1, 1) := by decide +kernel
theorem dX9_fallOf_86 : decode cX9_fallOf 86 = .ok (.iaload, 1) := by decide +kernel
theorem dX9_fallOf_87 : decode cX9_fallOf 87 = .ok (.if_icmp .ne 5, 3) := by decide +kernel
theorem dX9_fallOf_90 : decode cX9_fallOf 90 = .ok (.iconst 3, 1) := by decide +kernel
theorem dX9_fallOf_91 : decode cX9_fallOf 91 = .ok (.ireturn, 1) := by decide +kernel
theorem dX9_fallOf_92 : decode cX9_fallOf 92 = .ok (.iinc 3 1, 3) := by decide +kernel
theorem dX9_fallOf_95 : decode cX9_fallOf 95 = .ok (.goto (-40), 3) := by decide +kernel
theorem dX9_fallOf_98 : decode cX9_fallOf 98 = .ok (.iconst 0, 1) := by decide +kernel
theorem dX9_fallOf_99 : decode cX9_fallOf 99 = .ok (.ireturn, 1) := by decide +kernel
theorem dX9_tries_0 : decode cX9_tries 0 = .ok (.aload_n 0, 1) := by decide +kernel
theorem dX9_tries_1 : decode cX9_tries 1 = .ok (.iload_n 1, 1) := by decide +kernel
theorem dX9_tries_2 : decode cX9_tries 2 = .ok (.invokevirtual 196, 3) := by decide +kernel
theorem dX9_tries_5 : decode cX9_tries 5 = .ok (.istore_n 3, 1) := by decide +kernel
theorem dX9_tries_6 : decode cX9_tries 6 = .ok (.aload_n 0, 1) := by decide +kernel
theorem dX9_tries_7 : decode cX9_tries 7 = .ok (.iconst 0, 1) := by decide +kernel
theorem dX9_tries_8 : decode cX9_tries 8 = .ok (.putfield 183, 3) := by decide +kernel
theorem dX9_tries_11 : decode cX9_tries 11 = .ok (.aload_n 0, 1) := by decide +kernel
theorem dX9_tries_12 : decode cX9_tries 12 = .ok (.iconst 0, 1) := by decide +kernel
theorem dX9_tries_13 : decode cX9_tries 13 = .ok (.putfield 193, 3) := by decide +kernel
theorem dX9_tries_16 : decode cX9_tries 16 = .ok (.iconst 0, 1) := by decide +kernel
theorem dX9_tries_17 : decode cX9_tries 17 = .ok (.istore 4, 2) := by decide +kernel
theorem dX9_tries_19 : decode cX9_tries 19 = .ok (.iload 4, 2) := by decide +kernel
theorem dX9_tries_21 : decode cX9_tries 21 = .ok (.bipush 8, 2) := by decide +kernel
theorem dX9_tries_23 : decode cX9_tries 23 = .ok (.if_icmp .ge 62, 3) := by decide +kernel
theorem dX9_tries_26 : decode cX9_tries 26 = .ok (.aload_n 0, 1) := by decide +kernel
theorem dX9_tries_27 : decode cX9_tries 27 = .ok (.getfield 70, 3) := by decide +kernel
theorem dX9_tries_30 : decode cX9_tries 30 = .ok (.iload 4, 2) := by decide +kernel
theorem dX9_tries_32 : decode cX9_tries 32 = .ok (.aload_n 0, 1) := by decide +kernel
theorem dX9_tries_33 : decode cX9_tries 33 = .ok (.getfield 60, 3) := by decide +kernel
theorem dX9_tries_36 : decode cX9_tries 36 = .ok (.iload 4, 2) := by decide +kernel
theorem dX9_tries_38 : decode cX9_tries 38 = .ok (.iaload, 1) := by decide +kernel
theorem dX9_tries_39 : decode cX9_tries 39 = .ok (.iastore, 1) := by decide +kernel
theorem dX9_tries_40 : decode cX9_tries 40 = .ok (.aload_n 0, 1) := by decide +kernel
theorem dX9_tries_41 : decode cX9_tries 41 = .ok (.getfield 73, 3) := by decide +kernel
theorem dX9_tries_44 : decode cX9_tries 44 = .ok (.iload 4, 2) := by decide +kernel
theorem dX9_tries_46 : decode cX9_tries 46 = .ok (.aload_n 0, 1) := by decide +kernel
theorem dX9_tries_47 : decode cX9_tries 47 = .ok (.getfield 64, 3) := by decide +kernel
theorem dX9_tries_50 : decode cX9_tries 50 = .ok (.iload 4, 2) := by decide +kernel
theorem dX9_tries_52 : decode cX9_tries 52 = .ok (.iaload, 1) := by decide +kernel
theorem dX9_tries_53 : decode cX9_tries 53 = .ok (.iastore, 1) := by decide +kernel
theorem dX9_tries_54 : decode cX9_tries 54 = .ok (.aload_n 0, 1) := by decide +kernel
theorem dX9_tries_55 : decode cX9_tries 55 = .ok (.getfield 79, 3) := by decide +kernel
theorem dX9_tries_58 : decode cX9_tries 58 = .ok (.iload 4, 2) := by decide +kernel
theorem dX9_tries_60 : decode cX9_tries 60 = .ok (.iconst 0, 1) := by decide +kernel
theorem dX9_tries_61 : decode cX9_tries 61 = .ok (.bastore, 1) := by decide +kernel
theorem dX9_tries_62 : decode cX9_tries 62 = .ok (.aload_n 0, 1) := by decide +kernel
theorem dX9_tries_63 : decode cX9_tries 63 = .ok (.getfield 76, 3) := by decide +kernel
theorem dX9_tries_66 : decode cX9_tries 66 = .ok (.iload 4, 2) := by decide +kernel
theorem dX9_tries_68 : decode cX9_tries 68 = .ok (.bipush (-2), 2) := by decide +kernel
theorem dX9_tries_70 : decode cX9_tries 70 = .ok (.iastore, 1) := by decide +kernel
theorem dX9_tries_71 : decode cX9_tries 71 = .ok (.aload_n 0, 1) := by decide +kernel
theorem dX9_tries_72 : decode cX9_tries 72 = .ok (.getfield 83, 3) := by decide +kernel
theorem dX9_tries_75 : decode cX9_tries 75 = .ok (.iload 4, 2) := by decide +kernel
theorem dX9_tries_77 : decode cX9_tries 77 = .ok (.iconst 0, 1) := by decide +kernel
theorem dX9_tries_78 : decode cX9_tries 78 = .ok (.iastore, 1) := by decide +kernel
theorem dX9_tries_79 : decode cX9_tries 79 = .ok (.iinc 4 1, 3) := by decide +kernel
theorem dX9_tries_82 : decode cX9_tries 82 = .ok (.goto (-63), 3) := by decide +kernel
theorem dX9_tries_85 : decode cX9_tries 85 = .ok (.iload_n 3, 1) := by decide +kernel
theorem dX9_tries_86 : decode cX9_tries 86 = .ok (.ifCond .ne 10, 3) := by decide +kernel
theorem dX9_tries_89 : decode cX9_tries 89 = .ok (.aload_n 0, 1) := by decide +kernel
theorem dX9_tries_90 : decode cX9_tries 90 = .ok (.iconst 4, 1) := by decide +kernel
theorem dX9_tries_91 : decode cX9_tries 91 = .ok (.putfield 193, 3) := by decide +kernel
theorem dX9_tries_94 : decode cX9_tries 94 = .ok (.iconst 0, 1) := by decide +kernel
theorem dX9_tries_95 : decode cX9_tries 95 = .ok (.ireturn, 1) := by decide +kernel
theorem dX9_tries_96 : decode cX9_tries 96 = .ok (.iload_n 2, 1) := by decide +kernel
theorem dX9_tries_97 : decode cX9_tries 97 = .ok (.bipush 11, 2) := by decide +kernel
theorem dX9_tries_99 : decode cX9_tries 99 = .ok (.if_icmp .ne 21, 3) := by decide +kernel
theorem dX9_tries_102 : decode cX9_tries 102 = .ok (.aload_n 0, 1) := by decide +kernel
theorem dX9_tries_103 : decode cX9_tries 103 = .ok (.iload_n 3, 1) := by decide +kernel
theorem dX9_tries_104 : decode cX9_tries 104 = .ok (.invokevirtual 199, 3) := by decide +kernel
theorem dX9_tries_107 : decode cX9_tries 107 = .ok (.aload_n 0, 1) := by decide +kernel
theorem dX9_tries_108 : decode cX9_tries 108 = .ok (.getfield 193, 3) := by decide +kernel
theorem dX9_tries_111 : decode cX9_tries 111 = .ok (.ifCond .ne 7, 3) := by decide +kernel
theorem dX9_tries_114 : decode cX9_tries 114 = .ok (.iconst 1, 1) := by decide +kernel
theorem dX9_tries_115 : decode cX9_tries 115 = .ok (.goto 4, 3) := by decide +kernel
theorem dX9_tries_118 : decode cX9_tries 118 = .ok (.iconst 0, 1) := by decide +kernel
theorem dX9_tries_119 : decode cX9_tries 119 = .ok (.ireturn, 1) := by decide +kernel
theorem dX9_tries_120 : decode cX9_tries 120 = .ok (.iload_n 2, 1) := by decide +kernel
theorem dX9_tries_121 : decode cX9_tries 121 = .ok (.iconst 5, 1) := by decide +kernel
theorem dX9_tries_122 : decode cX9_tries 122 = .ok (.if_icmp .lt 40, 3) := by decide +kernel
theorem dX9_tries_125 : decode cX9_tries 125 = .ok (.aload_n 0, 1) := by decide +kernel
theorem dX9_tries_126 : decode cX9_tries 126 = .ok (.iload_n 2, 1) := by decide +kernel
theorem dX9_tries_127 : decode cX9_tries 127 = .ok (.iload_n 3, 1) := by decide +kernel
theorem dX9_tries_128 : decode cX9_tries 128 = .ok (.invokevirtual 203, 3) := by decide +kernel
theorem dX9_tries_131 : decode cX9_tries 131 = .ok (.aload_n 0, 1) := by decide +kernel
theorem dX9_tries_132 : decode cX9_tries 132 = .ok (.getfield 183, 3) := by decide +kernel
theorem dX9_tries_135 : decode cX9_tries 135 = .ok (.ifCond .ne 8, 3) := by decide +kernel
theorem dX9_tries_138 : decode cX9_tries 138 = .ok (.aload_n 0, 1) := by decide +kernel
theorem dX9_tries_139 : decode cX9_tries 139 = .ok (.iconst 4, 1) := by decide +kernel
theorem dX9_tries_140 : decode cX9_tries 140 = .ok (.putfield 193, 3) := by decide +kernel
theorem dX9_tries_143 : decode cX9_tries 143 = .ok (.iload_n 2, 1) := by decide +kernel
theorem dX9_tries_144 : decode cX9_tries 144 = .ok (.bipush 10, 2) := by decide +kernel
theorem dX9_tries_146 : decode cX9_tries 146 = .ok (.if_icmp .eq 127, 3) := by decide +kernel
theorem dX9_tries_149 : decode cX9_tries 149 = .ok (.aload_n 0, 1) := by decide +kernel
theorem dX9_tries_150 : decode cX9_tries 150 = .ok (.getfield 193, 3) := by decide +kernel
theorem dX9_tries_153 : decode cX9_tries 153 = .ok (.ifCond .ne 7, 3) := by decide +kernel
theorem dX9_tries_156 : decode cX9_tries 156 = .ok (.iconst 1, 1) := by decide +kernel
theorem dX9_tries_157 : decode cX9_tries 157 = .ok (.goto 4, 3) := by decide +kernel
theorem dX9_tries_160 : decode cX9_tries 160 = .ok (.iconst 0, 1) := by decide +kernel
theorem dX9_tries_161 : decode cX9_tries 161 = .ok (.ireturn, 1) := by decide +kernel
theorem dX9_tries_162 : decode cX9_tries 162 = .ok (.iconst 0, 1) := by decide +kernel
theorem dX9_tries_163 : decode cX9_tries 163 = .ok (.istore 4, 2) := by decide +kernel
theorem dX9_tries_165 : decode cX9_tries 165 = .ok (.iload 4, 2) := by decide +kernel
theorem dX9_tries_167 : decode cX9_tries 167 = .ok (.bipush 8, 2) := by decide +kernel
theorem dX9_tries_169 : decode cX9_tries 169 = .ok (.if_icmp .ge 104, 3) := by decide +kernel
theorem dX9_tries_172 : decode cX9_tries 172 = .ok (.iload_n 3, 1) := by decide +kernel
theorem dX9_tries_173 : decode cX9_tries 173 = .ok (.iload 4, 2) := by decide +kernel
theorem dX9_tries_175 : decode cX9_tries 175 = .ok (.invokestatic 158, 3) := by decide +kernel
theorem dX9_tries_178 : decode cX9_tries 178 = .ok (.ifCond .ne 6, 3) := by decide +kernel
theorem dX9_tries_181 : decode cX9_tries 181 = .ok (.goto 86, 3) := by decide +kernel
theorem dX9_tries_184 : decode cX9_tries 184 = .ok (.aload_n 0, 1) := by decide +kernel
theorem dX9_tries_185 : decode cX9_tries 185 = .ok (.dup, 1) := by decide +kernel
theorem dX9_tries_186 : decode cX9_tries 186 = .ok (.getfield 183, 3) := by decide +kernel
theorem dX9_tries_189 : decode cX9_tries 189 = .ok (.iconst 1, 1) := by decide +kernel
theorem dX9_tries_190 : decode cX9_tries 190 = .ok (.iadd, 1) := by decide +kernel
theorem dX9_tries_191 : decode cX9_tries 191 = .ok (.putfield 183, 3) := by decide +kernel
theorem dX9_tries_194 : decode cX9_tries 194 = .ok (.iload_n 2, 1) := by decide +kernel
theorem dX9_tries_195 : decode cX9_tries 195 = .ok (.ifCond .eq 8, 3) := by decide +kernel
theorem dX9_tries_198 : decode cX9_tries 198 = .ok (.iload_n 2, 1) := by decide +kernel
theorem dX9_tries_199 : decode cX9_tries 199 = .ok (.iconst 1, 1) := by decide +kernel
theorem dX9_tries_200 : decode cX9_tries 200 = .ok (.if_icmp .ne 42, 3) := by decide +kernel
theorem dX9_tries_203 : decode cX9_tries 203 = .ok (.aload_n 0, 1) := by decide +kernel
theorem dX9_tries_204 : decode cX9_tries 204 = .ok (.iload 4, 2) := by decide +kernel
theorem dX9_tries_206 : decode cX9_tries 206 = .ok (.aload_n 0, 1) := by decide +kernel
theorem dX9_tries_207 : decode cX9_tries 207 = .ok (.getfield 60, 3) := by decide +kernel
theorem dX9_tries_210 : decode cX9_tries 210 = .ok (.iload 4, 2) := by decide +kernel
theorem dX9_tries_212 : decode cX9_tries 212 = .ok (.iaload, 1) := by decide +kernel
theorem dX9_tries_213 : decode cX9_tries 213 = .ok (.aload_n 0, 1) := by decide +kernel
theorem dX9_tries_214 : decode cX9_tries 214 = .ok (.getfield 64, 3) := by decide +kernel
theorem dX9_tries_217 : decode cX9_tries 217 = .ok (.iload 4, 2) := by decide +kernel
theorem dX9_tries_219 : decode cX9_tries 219 = .ok (.iaload, 1) := by decide +kernel
theorem dX9_tries_220 : decode cX9_tries 220 = .ok (.iload_n 2, 1) := by decide +kernel
theorem dX9_tries_221 : decode cX9_tries 221 = .ok (.iconst 1, 1) := by decide +kernel
theorem dX9_tries_222 : decode cX9_tries 222 = .ok (.if_icmp .ne 7, 3) := by decide +kernel
theorem dX9_tries_225 : decode cX9_tries 225 = .ok (.iconst 2, 1) := by decide +kernel
theorem dX9_tries_226 : decode cX9_tries 226 = .ok (.goto 4, 3) := by decide +kernel
theorem dX9_tries_229 : decode cX9_tries 229 = .ok (.iconst 0, 1) := by decide +kernel
theorem dX9_tries_230 : decode cX9_tries 230 = .ok (.iadd, 1) := by decide +kernel
theorem dX9_tries_231 : decode cX9_tries 231 = .ok (.iconst 4, 1) := by decide +kernel
theorem dX9_tries_232 : decode cX9_tries 232 = .ok (.irem, 1) := by decide +kernel
theorem dX9_tries_233 : decode cX9_tries 233 = .ok (.invokestatic 151, 3) := by decide +kernel
theorem dX9_tries_236 : decode cX9_tries 236 = .ok (.invokevirtual 172, 3) := by decide +kernel
theorem dX9_tries_239 : decode cX9_tries 239 = .ok (.goto 28, 3) := by decide +kernel
theorem dX9_tries_242 : decode cX9_tries 242 = .ok (.aload_n 0, 1) := by decide +kernel
theorem dX9_tries_243 : decode cX9_tries 243 = .ok (.iload 4, 2) := by decide +kernel
theorem dX9_tries_245 : decode cX9_tries 245 = .ok (.iload_n 2, 1) := by decide +kernel
theorem dX9_tries_246 : decode cX9_tries 246 = .ok (.iconst 2, 1) := by decide +kernel
theorem dX9_tries_247 : decode cX9_tries 247 = .ok (.if_icmp .ne 7, 3) := by decide +kernel
theorem dX9_tries_250 : decode cX9_tries 250 = .ok (.iconst 3, 1) := by decide +kernel
theorem dX9_tries_251 : decode cX9_tries 251 = .ok (.goto 13, 3) := by decide +kernel
theorem dX9_tries_254 : decode cX9_tries 254 = .ok (.iload_n 2, 1) := by decide +kernel
theorem dX9_tries_255 : decode cX9_tries 255 = .ok (.iconst 4, 1) := by decide +kernel
theorem dX9_tries_256 : decode cX9_tries 256 = .ok (.if_icmp .ne 7, 3) := by decide +kernel
theorem dX9_tries_259 : decode cX9_tries 259 = .ok (.iconst 2, 1) := by decide +kernel
theorem dX9_tries_260 : decode cX9_tries 260 = .ok (.goto 4, 3) := by decide +kernel
theorem dX9_tries_263 : decode cX9_tries 263 = .ok (.iconst 1, 1) := by decide +kernel
theorem dX9_tries_264 : decode cX9_tries 264 = .ok (.invokevirtual 176, 3) := by decide +kernel
theorem dX9_tries_267 : decode cX9_tries 267 = .ok (.iinc 4 1, 3) := by decide +kernel
theorem dX9_tries_270 : decode cX9_tries 270 = .ok (.goto (-105), 3) := by decide +kernel
theorem dX9_tries_273 : decode cX9_tries 273 = .ok (.aload_n 0, 1) := by decide +kernel
theorem dX9_tries_274 : decode cX9_tries 274 = .ok (.getfield 193, 3) := by decide +kernel
theorem dX9_tries_277 : decode cX9_tries 277 = .ok (.ifCond .ne 7, 3) := by decide +kernel
theorem dX9_tries_280 : decode cX9_tries 280 = .ok (.iconst 1, 1) := by decide +kernel
theorem dX9_tries_281 : decode cX9_tries 281 = .ok (.goto 4, 3) := by decide +kernel
theorem dX9_tries_284 : decode cX9_tries 284 = .ok (.iconst 0, 1) := by decide +kernel
theorem dX9_tries_285 : decode cX9_tries 285 = .ok (.istore 4, 2) := by decide +kernel
theorem dX9_tries_287 : decode cX9_tries 287 = .ok (.iconst 0, 1) := by decide +kernel
theorem dX9_tries_288 : decode cX9_tries 288 = .ok (.istore 5, 2) := by decide +kernel
theorem dX9_tries_290 : decode cX9_tries 290 = .ok (.iload 5, 2) := by decide +kernel
theorem dX9_tries_292 : decode cX9_tries 292 = .ok (.bipush 8, 2) := by decide +kernel
theorem dX9_tries_294 : decode cX9_tries 294 = .ok (.if_icmp .ge 56, 3) := by decide +kernel
theorem dX9_tries_297 : decode cX9_tries 297 = .ok (.aload_n 0, 1) := by decide +kernel
theorem dX9_tries_298 : decode cX9_tries 298 = .ok (.getfield 83, 3) := by decide +kernel
theorem dX9_tries_301 : decode cX9_tries 301 = .ok (.iload 5, 2) := by decide +kernel
theorem dX9_tries_303 : decode cX9_tries 303 = .ok (.aload_n 0, 1) := by decide +kernel
theorem dX9_tries_304 : decode cX9_tries 304 = .ok (.getfield 79, 3) := by decide +kernel
theorem dX9_tries_307 : decode cX9_tries 307 = .ok (.iload 5, 2) := by decide +kernel
theorem dX9_tries_309 : decode cX9_tries 309 = .ok (.baload, 1) := by decide +kernel
theorem dX9_tries_310 : decode cX9_tries 310 = .ok (.ifCond .eq 12, 3) := by decide +kernel
theorem dX9_tries_313 : decode cX9_tries 313 = .ok (.aload_n 0, 1) := by decide +kernel
theorem dX9_tries_314 : decode cX9_tries 314 = .ok (.iload 5, 2) := by decide +kernel
theorem dX9_tries_316 : decode cX9_tries 316 = .ok (.invokevirtual 205, 3) := by decide +kernel
theorem dX9_tries_319 : decode cX9_tries 319 = .ok (.goto 4, 3) := by decide +kernel
theorem dX9_tries_322 : decode cX9_tries 322 = .ok (.iconst 0, 1) := by decide +kernel
theorem dX9_tries_323 : decode cX9_tries 323 = .ok (.iastore, 1) := by decide +kernel
theorem dX9_tries_324 : decode cX9_tries 324 = .ok (.iload 4, 2) := by decide +kernel
theorem dX9_tries_326 : decode cX9_tries 326 = .ok (.aload_n 0, 1) := by decide +kernel
theorem dX9_tries_327 : decode cX9_tries 327 = .ok (.getfield 83, 3) := by decide +kernel
theorem dX9_tries_330 : decode cX9_tries 330 = .ok (.iload 5, 2) := by decide +kernel
theorem dX9_tries_332 : decode cX9_tries 332 = .ok (.iaload, 1) := by decide +kernel
theorem dX9_tries_333 : decode cX9_tries 333 = .ok (.ifCond .ne 7, 3) := by decide +kernel
theorem dX9_tries_336 : decode cX9_tries 336 = .ok (.iconst 1, 1) := by decide +kernel
theorem dX9_tries_337 : decode cX9_tries 337 = .ok (.goto 4, 3) := by decide +kernel
theorem dX9_tries_340 : decode cX9_tries 340 = .ok (.iconst 0, 1) := by decide +kernel
theorem dX9_tries_341 : decode cX9_tries 341 = .ok (.iand, 1) := by decide +kernel
theorem dX9_tries_342 : decode cX9_tries 342 = .ok (.istore 4, 2) := by decide +kernel
theorem dX9_tries_344 : decode cX9_tries 344 = .ok (.iinc 5 1, 3) := by decide +kernel
theorem dX9_tries_347 : decode cX9_tries 347 = .ok (.goto (-57), 3) := by decide +kernel
theorem dX9_tries_350 : decode cX9_tries 350 = .ok (.iload 4, 2) := by decide +kernel
theorem dX9_tries_352 : decode cX9_tries 352 = .ok (.ireturn, 1) := by decide +kernel
theorem dX9_made_0 : decode cX9_made 0 = .ok (.lconst 0, 1) := by decide +kernel
theorem dX9_made_1 : decode cX9_made 1 = .ok (.lstore_n 1, 1) := by decide +kernel
theorem dX9_made_2 : decode cX9_made 2 = .ok (.iconst 0, 1) := by decide +kernel
theorem dX9_made_3 : decode cX9_made 3 = .ok (.istore_n 3, 1) := by decide +kernel
theorem dX9_made_4 : decode cX9_made 4 = .ok (.iload_n 3, 1) := by decide +kernel
theorem dX9_made_5 : decode cX9_made 5 = .ok (.bipush 8, 2) := by decide +kernel
theorem dX9_made_7 : decode cX9_made 7 = .ok (.if_icmp .ge 33, 3) := by decide +kernel
theorem dX9_made_10 : decode cX9_made 10 = .ok (.lload_n 1, 1) := by decide +kernel
theorem dX9_made_11 : decode cX9_made 11 = .ok (.iconst 4, 1) := by decide +kernel
theorem dX9_made_12 : decode cX9_made 12 = .ok (.aload_n 0, 1) := by decide +kernel
theorem dX9_made_13 : decode cX9_made 13 = .ok (.getfield 70, 3) := by decide +kernel
theorem dX9_made_16 : decode cX9_made 16 = .ok (.iload_n 3, 1) := by decide +kernel
theorem dX9_made_17 : decode cX9_made 17 = .ok (.iaload, 1) := by decide +kernel
theorem dX9_made_18 : decode cX9_made 18 = .ok (.imul, 1) := by decide +kernel
theorem dX9_made_19 : decode cX9_made 19 = .ok (.aload_n 0, 1) := by decide +kernel
theorem dX9_made_20 : decode cX9_made 20 = .ok (.getfield 73, 3) := by decide +kernel
theorem dX9_made_23 : decode cX9_made 23 = .ok (.iload_n 3, 1) := by decide +kernel
theorem dX9_made_24 : decode cX9_made 24 = .ok (.iaload, 1) := by decide +kernel
theorem dX9_made_25 : decode cX9_made 25 = .ok (.iadd, 1) := by decide +kernel
theorem dX9_made_26 : decode cX9_made 26 = .ok (.i2l, 1) := by decide +kernel
theorem dX9_made_27 : decode cX9_made 27 = .ok (.bipush 6, 2) := by decide +kernel
theorem dX9_made_29 : decode cX9_made 29 = .ok (.iload_n 3, 1) := by decide +kernel
theorem dX9_made_30 : decode cX9_made 30 = .ok (.imul, 1) := by decide +kernel
theorem dX9_made_31 : decode cX9_made 31 = .ok (.lshl, 1) := by decide +kernel
theorem dX9_made_32 : decode cX9_made 32 = .ok (.lor, 1) := by decide +kernel
theorem dX9_made_33 : decode cX9_made 33 = .ok (.lstore_n 1, 1) := by decide +kernel
theorem dX9_made_34 : decode cX9_made 34 = .ok (.iinc 3 1, 3) := by decide +kernel
theorem dX9_made_37 : decode cX9_made 37 = .ok (.goto (-33), 3) := by decide +kernel
theorem dX9_made_40 : decode cX9_made 40 = .ok (.lload_n 1, 1) := by decide +kernel
theorem dX9_made_41 : decode cX9_made 41 = .ok (.lreturn, 1) := by decide +kernel
theorem dX9_feed_0 : decode cX9_feed 0 = .ok (.iload_n 1, 1) := by decide +kernel
theorem dX9_feed_1 : decode cX9_feed 1 = .ok (.bipush 32, 2) := by decide +kernel
theorem dX9_feed_3 : decode cX9_feed 3 = .ok (.bipush 126, 2) := by decide +kernel
theorem dX9_feed_5 : decode cX9_feed 5 = .ok (.invokestatic 147, 3) := by decide +kernel
theorem dX9_feed_8 : decode cX9_feed 8 = .ok (.ifCond .ne 5, 3) := by decide +kernel
theorem dX9_feed_11 : decode cX9_feed 11 = .ok (.iconst (-1), 1) := by decide +kernel
theorem dX9_feed_12 : decode cX9_feed 12 = .ok (.ireturn, 1) := by decide +kernel
theorem dX9_feed_13 : decode cX9_feed 13 = .ok (.aload_n 0, 1) := by decide +kernel
theorem dX9_feed_14 : decode cX9_feed 14 = .ok (.getfield 208, 3) := by decide +kernel
theorem dX9_feed_17 : decode cX9_feed 17 = .ok (.bipush 120, 2) := by decide +kernel
theorem dX9_feed_19 : decode cX9_feed 19 = .ok (.if_icmp .ne 6, 3) := by decide +kernel
theorem dX9_feed_22 : decode cX9_feed 22 = .ok (.bipush (-3), 2) := by decide +kernel
theorem dX9_feed_24 : decode cX9_feed 24 = .ok (.ireturn, 1) := by decide +kernel
theorem dX9_feed_25 : decode cX9_feed 25 = .ok (.aload_n 0, 1) := by decide +kernel
theorem dX9_feed_26 : decode cX9_feed 26 = .ok (.getfield 109, 3) := by decide +kernel
theorem dX9_feed_29 : decode cX9_feed 29 = .ok (.aload_n 0, 1) := by decide +kernel
theorem dX9_feed_30 : decode cX9_feed 30 = .ok (.getfield 208, 3) := by decide +kernel
theorem dX9_feed_33 : decode cX9_feed 33 = .ok (.iload_n 1, 1) := by decide +kernel
theorem dX9_feed_34 : decode cX9_feed 34 = .ok (.iastore, 1) := by decide +kernel
theorem dX9_feed_35 : decode cX9_feed 35 = .ok (.aload_n 0, 1) := by decide +kernel
theorem dX9_feed_36 : decode cX9_feed 36 = .ok (.dup, 1) := by decide +kernel
theorem dX9_feed_37 : decode cX9_feed 37 = .ok (.getfield 208, 3) := by decide +kernel
theorem dX9_feed_40 : decode cX9_feed 40 = .ok (.iconst 1, 1) := by decide +kernel
theorem dX9_feed_41 : decode cX9_feed 41 = .ok (.iadd, 1) := by decide +kernel
theorem dX9_feed_42 : decode cX9_feed 42 = .ok (.putfield 208, 3) := by decide +kernel
theorem dX9_feed_45 : decode cX9_feed 45 = .ok (.aload_n 0, 1) := by decide +kernel
theorem dX9_feed_46 : decode cX9_feed 46 = .ok (.getfield 208, 3) := by decide +kernel
theorem dX9_feed_49 : decode cX9_feed 49 = .ok (.ireturn, 1) := by decide +kernel
theorem dX9_wordFrom_0 : decode cX9_wordFrom 0 = .ok (.iconst 0, 1) := by decide +kernel
theorem dX9_wordFrom_1 : decode cX9_wordFrom 1 = .ok (.istore_n 2, 1) := by decide +kernel
theorem dX9_wordFrom_2 : decode cX9_wordFrom 2 = .ok (.iload_n 1, 1) := by decide +kernel
theorem dX9_wordFrom_3 : decode cX9_wordFrom 3 = .ok (.iload_n 2, 1) := by decide +kernel
theorem dX9_wordFrom_4 : decode cX9_wordFrom 4 = .ok (.iadd, 1) := by decide +kernel
theorem dX9_wordFrom_5 : decode cX9_wordFrom 5 = .ok (.aload_n 0, 1) := by decide +kernel
theorem dX9_wordFrom_6 : decode cX9_wordFrom 6 = .ok (.getfield 208, 3) := by decide +kernel
theorem dX9_wordFrom_9 : decode cX9_wordFrom 9 = .ok (.if_icmp .ge 27, 3) := by decide +kernel
theorem dX9_wordFrom_12 : decode cX9_wordFrom 12 = .ok (.aload_n 0, 1) := by decide +kernel
theorem dX9_wordFrom_13 : decode cX9_wordFrom 13 = .ok (.getfield 109, 3) := by decide +kernel
theorem dX9_wordFrom_16 : decode cX9_wordFrom 16 = .ok (.iload_n 1, 1) := by decide +kernel
theorem dX9_wordFrom_17 : decode cX9_wordFrom 17 = .ok (.iload_n 2, 1) := by decide +kernel
theorem dX9_wordFrom_18 : decode cX9_wordFrom 18 = .ok (.iadd, 1) := by decide +kernel
theorem dX9_wordFrom_19 : decode cX9_wordFrom 19 = .ok (.iaload, 1) := by decide +kernel
theorem dX9_wordFrom_20 : decode cX9_wordFrom 20 = .ok (.bipush 97, 2) := by decide +kernel
theorem dX9_wordFrom_22 : decode cX9_wordFrom 22 = .ok (.bipush 122, 2) := by decide +kernel
theorem dX9_wordFrom_24 : decode cX9_wordFrom 24 = .ok (.invokestatic 147, 3) := by decide +kernel
theorem dX9_wordFrom_27 : decode cX9_wordFrom 27 = .ok (.ifCond .eq 9, 3) := by decide +kernel
theorem dX9_wordFrom_30 : decode cX9_wordFrom 30 = .ok (.iinc 2 1, 3) := by decide +kernel
theorem dX9_wordFrom_33 : decode cX9_wordFrom 33 = .ok (.goto (-31), 3) := by decide +kernel
theorem dX9_wordFrom_36 : decode cX9_wordFrom 36 = .ok (.iload_n 2, 1) := by decide +kernel
theorem dX9_wordFrom_37 : decode cX9_wordFrom 37 = .ok (.ireturn, 1) := by decide +kernel
theorem dX9_find_0 : decode cX9_find 0 = .ok (.iconst 0, 1) := by decide +kernel
theorem dX9_find_1 : decode cX9_find 1 = .ok (.istore_n 3, 1) := by decide +kernel
theorem dX9_find_2 : decode cX9_find 2 = .ok (.iload_n 3, 1) := by decide +kernel
theorem dX9_find_3 : decode cX9_find 3 = .ok (.aload_n 1, 1) := by decide +kernel
theorem dX9_find_4 : decode cX9_find 4 = .ok (.arraylength, 1) := by decide +kernel
theorem dX9_find_5 : decode cX9_find 5 = .ok (.if_icmp .ge 83, 3) := by decide +kernel
theorem dX9_find_8 : decode cX9_find 8 = .ok (.aload_n 1, 1) := by decide +kernel
theorem dX9_find_9 : decode cX9_find 9 = .ok (.iload_n 3, 1) := by decide +kernel
theorem dX9_find_10 : decode cX9_find 10 = .ok (.aaload, 1) := by decide +kernel
theorem dX9_find_11 : decode cX9_find 11 = .ok (.invokevirtual 211, 3) := by decide +kernel
theorem dX9_find_14 : decode cX9_find 14 = .ok (.iload_n 2, 1) := by decide +kernel
theorem dX9_find_15 : decode cX9_find 15 = .ok (.if_icmp .ne 7, 3) := by decide +kernel
theorem dX9_find_18 : decode cX9_find 18 = .ok (.iconst 1, 1) := by decide +kernel
theorem dX9_find_19 : decode cX9_find 19 = .ok (.goto 4, 3) := by decide +kernel
theorem dX9_find_22 : decode cX9_find 22 = .ok (.iconst 0, 1) := by decide +kernel
theorem dX9_find_23 : decode cX9_find 23 = .ok (.istore 4, 2) := by decide +kernel
theorem dX9_find_25 : decode cX9_find 25 = .ok (.iconst 0, 1) := by decide +kernel
theorem dX9_find_26 : decode cX9_find 26 = .ok (.istore 5, 2) := by decide +kernel
theorem dX9_find_28 : decode cX9_find 28 = .ok (.iload 5, 2) := by decide +kernel
theorem dX9_find_30 : decode cX9_find 30 = .ok (.iload_n 2, 1) := by decide +kernel
theorem dX9_find_31 : decode cX9_find 31 = .ok (.if_icmp .ge 44, 3) := by decide +kernel
theorem dX9_find_34 : decode cX9_find 34 = .ok (.iload 4, 2) := by decide +kernel
theorem dX9_find_36 : decode cX9_find 36 = .ok (.ifCond .eq 39, 3) := by decide +kernel
theorem dX9_find_39 : decode cX9_find 39 = .ok (.aload_n 1, 1) := by decide +kernel
theorem dX9_find_40 : decode cX9_find 40 = .ok (.iload_n 3, 1) := by decide +kernel
theorem dX9_find_41 : decode cX9_find 41 = .ok (.aaload, 1) := by decide +kernel
theorem dX9_find_42 : decode cX9_find 42 = .ok (.iload 5, 2) := by decide +kernel
theorem dX9_find_44 : decode cX9_find 44 = .ok (.invokevirtual 215, 3) := by decide +kernel
theorem dX9_find_47 : decode cX9_find 47 = .ok (.aload_n 0, 1) := by decide +kernel
theorem dX9_find_48 : decode cX9_find 48 = .ok (.getfield 109, 3) := by decide +kernel
theorem dX9_find_51 : decode cX9_find 51 = .ok (.aload_n 0, 1) := by decide +kernel
theorem dX9_find_52 : decode cX9_find 52 = .ok (.getfield 219, 3) := by decide +kernel
theorem dX9_find_55 : decode cX9_find 55 = .ok (.iload 5, 2) := by decide +kernel
theorem dX9_find_57 : decode cX9_find 57 = .ok (.iadd, 1) := by decide +kernel
theorem dX9_find_58 : decode cX9_find 58 = .ok (.iaload, 1) := by decide +kernel
theorem dX9_find_59 : decode cX9_find 59 = .ok (.if_icmp .ne 7, 3) := by decide +kernel
theorem dX9_find_62 : decode cX9_find 62 = .ok (.iconst 1, 1) := by decide +kernel
theorem dX9_find_63 : decode cX9_find 63 = .ok (.goto 4, 3) := by decide +kernel
theorem dX9_find_66 : decode cX9_find 66 = .ok (.iconst 0, 1) := by decide +kernel
theorem dX9_find_67 : decode cX9_find 67 = .ok (.istore 4, 2) := by decide +kernel
theorem dX9_find_69 : decode cX9_find 69 = .ok (.iinc 5 1, 3) := by decide +kernel
theorem dX9_find_72 : decode cX9_find 72 = .ok (.goto (-44), 3) := by decide +kernel
theorem dX9_find_75 : decode cX9_find 75 = .ok (.iload 4, 2) := by decide +kernel
theorem dX9_find_77 : decode cX9_find 77 = .ok (.ifCond .eq 5, 3) := by decide +kernel
theorem dX9_find_80 : decode cX9_find 80 = .ok (.iload_n 3, 1) := by decide +kernel
theorem dX9_find_81 : decode cX9_find 81 = .ok (.ireturn, 1) := by decide +kernel
theorem dX9_find_82 : decode cX9_find 82 = .ok (.iinc 3 1, 3) := by decide +kernel
theorem dX9_find_85 : decode cX9_find 85 = .ok (.goto (-83), 3) := by decide +kernel
theorem dX9_find_88 : decode cX9_find 88 = .ok (.bipush (-2), 2) := by decide +kernel
theorem dX9_find_90 : decode cX9_find 90 = .ok (.ireturn, 1) := by decide +kernel
theorem dX9_fails_0 : decode cX9_fails 0 = .ok (.aload_n 0, 1) := by decide +kernel
theorem dX9_fails_1 : decode cX9_fails 1 = .ok (.getfield 222, 3) := by decide +kernel
theorem dX9_fails_4 : decode cX9_fails 4 = .ok (.ifCond .ge 8, 3) := by decide +kernel
theorem dX9_fails_7 : decode cX9_fails 7 = .ok (.aload_n 0, 1) := by decide +kernel
theorem dX9_fails_8 : decode cX9_fails 8 = .ok (.iload_n 1, 1) := by decide +kernel
theorem dX9_fails_9 : decode cX9_fails 9 = .ok (.putfield 222, 3) := by decide +kernel
theorem dX9_fails_12 : decode cX9_fails 12 = .ok (.return_, 1) := by decide +kernel
theorem dX9_sees_0 : decode cX9_sees 0 = .ok (.aload_n 0, 1) := by decide +kernel
theorem dX9_sees_1 : decode cX9_sees 1 = .ok (.getfield 222, 3) := by decide +kernel
theorem dX9_sees_4 : decode cX9_sees 4 = .ok (.ifCond .ge 31, 3) := by decide +kernel
theorem dX9_sees_7 : decode cX9_sees 7 = .ok (.aload_n 0, 1) := by decide +kernel
theorem dX9_sees_8 : decode cX9_sees 8 = .ok (.getfield 219, 3) := by decide +kernel
theorem dX9_sees_11 : decode cX9_sees 11 = .ok (.aload_n 0, 1) := by decide +kernel
theorem dX9_sees_12 : decode cX9_sees 12 = .ok (.getfield 208, 3) := by decide +kernel
theorem dX9_sees_15 : decode cX9_sees 15 = .ok (.if_icmp .ge 20, 3) := by decide +kernel
theorem dX9_sees_18 : decode cX9_sees 18 = .ok (.aload_n 0, 1) := by decide +kernel
theorem dX9_sees_19 : decode cX9_sees 19 = .ok (.getfield 109, 3) := by decide +kernel
theorem dX9_sees_22 : decode cX9_sees 22 = .ok (.aload_n 0, 1) := by decide +kernel
theorem dX9_sees_23 : decode cX9_sees 23 = .ok (.getfield 219, 3) := by decide +kernel
theorem dX9_sees_26 : decode cX9_sees 26 = .ok (.iaload, 1) := by decide +kernel
theorem dX9_sees_27 : decode cX9_sees 27 = .ok (.iload_n 1, 1) := by decide +kernel
theorem dX9_sees_28 : decode cX9_sees 28 = .ok (.if_icmp .ne 7, 3) := by decide +kernel
theorem dX9_sees_31 : decode cX9_sees 31 = .ok (.iconst 1, 1) := by decide +kernel
theorem dX9_sees_32 : decode cX9_sees 32 = .ok (.goto 4, 3) := by decide +kernel
theorem dX9_sees_35 : decode cX9_sees 35 = .ok (.iconst 0, 1) := by decide +kernel
theorem dX9_sees_36 : decode cX9_sees 36 = .ok (.ireturn, 1) := by decide +kernel
theorem dX9_reads_0 : decode cX9_reads 0 = .ok (.aload_n 0, 1) := by decide +kernel
theorem dX9_reads_1 : decode cX9_reads 1 = .ok (.aload_n 0, 1) := by decide +kernel
theorem dX9_reads_2 : decode cX9_reads 2 = .ok (.getfield 219, 3) := by decide +kernel
theorem dX9_reads_5 : decode cX9_reads 5 = .ok (.invokevirtual 225, 3) := by decide +kernel
theorem dX9_reads_8 : decode cX9_reads 8 = .ok (.istore_n 1, 1) := by decide +kernel
theorem dX9_reads_9 : decode cX9_reads 9 = .ok (.aload_n 0, 1) := by decide +kernel
theorem dX9_reads_10 : decode cX9_reads 10 = .ok (.aload_n 0, 1) := by decide +kernel
theorem dX9_reads_11 : decode cX9_reads 11 = .ok (.getfield 27, 3) := by decide +kernel
theorem dX9_reads_14 : decode cX9_reads 14 = .ok (.iload_n 1, 1) := by decide +kernel
theorem dX9_reads_15 : decode cX9_reads 15 = .ok (.invokevirtual 228, 3) := by decide +kernel
theorem dX9_reads_18 : decode cX9_reads 18 = .ok (.istore_n 2, 1) := by decide +kernel
theorem dX9_reads_19 : decode cX9_reads 19 = .ok (.iload_n 2, 1) := by decide +kernel
theorem dX9_reads_20 : decode cX9_reads 20 = .ok (.ifCond .lt 50, 3) := by decide +kernel
theorem dX9_reads_23 : decode cX9_reads 23 = .ok (.aload_n 0, 1) := by decide +kernel
theorem dX9_reads_24 : decode cX9_reads 24 = .ok (.dup, 1) := by decide +kernel
theorem dX9_reads_25 : decode cX9_reads 25 = .ok (.getfield 219, 3) := by decide +kernel
theorem dX9_reads_28 : decode cX9_reads 28 = .ok (.iload_n 1, 1) := by decide +kernel
theorem dX9_reads_29 : decode cX9_reads 29 = .ok (.iadd, 1) := by decide +kernel
theorem dX9_reads_30 : decode cX9_reads 30 = .ok (.putfield 219, 3) := by decide +kernel
theorem dX9_reads_33 : decode cX9_reads 33 = .ok (.aload_n 0, 1) := by decide +kernel
theorem dX9_reads_34 : decode cX9_reads 34 = .ok (.bipush 32, 2) := by decide +kernel
theorem dX9_reads_36 : decode cX9_reads 36 = .ok (.invokevirtual 232, 3) := by decide +kernel
theorem dX9_reads_39 : decode cX9_reads 39 = .ok (.ifCond .ne 12, 3) := by decide +kernel
theorem dX9_reads_42 : decode cX9_reads 42 = .ok (.aload_n 0, 1) := by decide +kernel
theorem dX9_reads_43 : decode cX9_reads 43 = .ok (.aload_n 0, 1) := by decide +kernel
theorem dX9_reads_44 : decode cX9_reads 44 = .ok (.getfield 219, 3) := by decide +kernel
theorem dX9_reads_47 : decode cX9_reads 47 = .ok (.invokevirtual 236, 3) := by decide +kernel
theorem dX9_reads_50 : decode cX9_reads 50 = .ok (.return_, 1) := by decide +kernel
theorem dX9_reads_51 : decode cX9_reads 51 = .ok (.aload_n 0, 1) := by decide +kernel
theorem dX9_reads_52 : decode cX9_reads 52 = .ok (.dup, 1) := by decide +kernel
theorem dX9_reads_53 : decode cX9_reads 53 = .ok (.getfield 219, 3) := by decide +kernel
theorem dX9_reads_56 : decode cX9_reads 56 = .ok (.iconst 1, 1) := by decide +kernel
theorem dX9_reads_57 : decode cX9_reads 57 = .ok (.iadd, 1) := by decide +kernel
theorem dX9_reads_58 : decode cX9_reads 58 = .ok (.putfield 219, 3) := by decide +kernel
theorem dX9_reads_61 : decode cX9_reads 61 = .ok (.aload_n 0, 1) := by decide +kernel
theorem dX9_reads_62 : decode cX9_reads 62 = .ok (.aload_n 0, 1) := by decide +kernel
theorem dX9_reads_63 : decode cX9_reads 63 = .ok (.getfield 219, 3) := by decide +kernel
theorem dX9_reads_66 : decode cX9_reads 66 = .ok (.invokevirtual 225, 3) := by decide +kernel
theorem dX9_reads_69 : decode cX9_reads 69 = .ok (.istore_n 1, 1) := by decide +kernel
theorem dX9_reads_70 : decode cX9_reads 70 = .ok (.aload_n 0, 1) := by decide +kernel
theorem dX9_reads_71 : decode cX9_reads 71 = .ok (.aload_n 0, 1) := by decide +kernel
theorem dX9_reads_72 : decode cX9_reads 72 = .ok (.getfield 57, 3) := by decide +kernel
theorem dX9_reads_75 : decode cX9_reads 75 = .ok (.iload_n 1, 1) := by decide +kernel
theorem dX9_reads_76 : decode cX9_reads 76 = .ok (.invokevirtual 228, 3) := by decide +kernel
theorem dX9_reads_79 : decode cX9_reads 79 = .ok (.istore_n 3, 1) := by decide +kernel
theorem dX9_reads_80 : decode cX9_reads 80 = .ok (.iload_n 3, 1) := by decide +kernel
theorem dX9_reads_81 : decode cX9_reads 81 = .ok (.ifCond .ge 12, 3) := by decide +kernel
theorem dX9_reads_84 : decode cX9_reads 84 = .ok (.aload_n 0, 1) := by decide +kernel
theorem dX9_reads_85 : decode cX9_reads 85 = .ok (.aload_n 0, 1) := by decide +kernel
theorem dX9_reads_86 : decode cX9_reads 86 = .ok (.getfield 219, 3) := by decide +kernel
theorem dX9_reads_89 : decode cX9_reads 89 = .ok (.invokevirtual 236, 3) := by decide +kernel
theorem dX9_reads_92 : decode cX9_reads 92 = .ok (.return_, 1) := by decide +kernel
theorem dX9_reads_93 : decode cX9_reads 93 = .ok (.aload_n 0, 1) := by decide +kernel
theorem dX9_reads_94 : decode cX9_reads 94 = .ok (.dup, 1) := by decide +kernel
theorem dX9_reads_95 : decode cX9_reads 95 = .ok (.getfield 219, 3) := by decide +kernel
theorem dX9_reads_98 : decode cX9_reads 98 = .ok (.iload_n 1, 1) := by decide +kernel
theorem dX9_reads_99 : decode cX9_reads 99 = .ok (.iadd, 1) := by decide +kernel
theorem dX9_reads_100 : decode cX9_reads 100 = .ok (.putfield 219, 3) := by decide +kernel
theorem dX9_reads_103 : decode cX9_reads 103 = .ok (.iconst 1, 1) := by decide +kernel
theorem dX9_reads_104 : decode cX9_reads 104 = .ok (.istore 4, 2) := by decide +kernel
theorem dX9_reads_106 : decode cX9_reads 106 = .ok (.aload_n 0, 1) := by decide +kernel
theorem dX9_reads_107 : decode cX9_reads 107 = .ok (.bipush 32, 2) := by decide +kernel
theorem dX9_reads_109 : decode cX9_reads 109 = .ok (.invokevirtual 232, 3) := by decide +kernel
theorem dX9_reads_112 : decode cX9_reads 112 = .ok (.ifCond .eq 76, 3) := by decide +kernel
theorem dX9_reads_115 : decode cX9_reads 115 = .ok (.aload_n 0, 1) := by decide +kernel
theorem dX9_reads_116 : decode cX9_reads 116 = .ok (.dup, 1) := by decide +kernel
theorem dX9_reads_117 : decode cX9_reads 117 = .ok (.getfield 219, 3) := by decide +kernel
theorem dX9_reads_120 : decode cX9_reads 120 = .ok (.iconst 1, 1) := by decide +kernel
theorem dX9_reads_121 : decode cX9_reads 121 = .ok (.iadd, 1) := by decide +kernel
theorem dX9_reads_122 : decode cX9_reads 122 = .ok (.putfield 219, 3) := by decide +kernel
theorem dX9_reads_125 : decode cX9_reads 125 = .ok (.aload_n 0, 1) := by decide +kernel
theorem dX9_reads_126 : decode cX9_reads 126 = .ok (.getfield 219, 3) := by decide +kernel
theorem dX9_reads_129 : decode cX9_reads 129 = .ok (.aload_n 0, 1) := by decide +kernel
theorem dX9_reads_130 : decode cX9_reads 130 = .ok (.getfield 208, 3) := by decide +kernel
theorem dX9_reads_133 : decode cX9_reads 133 = .ok (.if_icmp .ge 22, 3) := by decide +kernel
theorem dX9_reads_136 : decode cX9_reads 136 = .ok (.aload_n 0, 1) := by decide +kernel
theorem dX9_reads_137 : decode cX9_reads 137 = .ok (.getfield 109, 3) := by decide +kernel
theorem dX9_reads_140 : decode cX9_reads 140 = .ok (.aload_n 0, 1) := by decide +kernel
theorem dX9_reads_141 : decode cX9_reads 141 = .ok (.getfield 219, 3) := by decide +kernel
theorem dX9_reads_144 : decode cX9_reads 144 = .ok (.iaload, 1) := by decide +kernel
theorem dX9_reads_145 : decode cX9_reads 145 = .ok (.bipush 50, 2) := by decide +kernel
theorem dX9_reads_147 : decode cX9_reads 147 = .ok (.bipush 52, 2) := by decide +kernel
theorem dX9_reads_149 : decode cX9_reads 149 = .ok (.invokestatic 147, 3) := by decide +kernel
theorem dX9_reads_152 : decode cX9_reads 152 = .ok (.ifCond .ne 12, 3) := by decide +kernel
theorem dX9_reads_155 : decode cX9_reads 155 = .ok (.aload_n 0, 1) := by decide +kernel
theorem dX9_reads_156 : decode cX9_reads 156 = .ok (.aload_n 0, 1) := by decide +kernel
theorem dX9_reads_157 : decode cX9_reads 157 = .ok (.getfield 219, 3) := by decide +kernel
theorem dX9_reads_160 : decode cX9_reads 160 = .ok (.invokevirtual 236, 3) := by decide +kernel
theorem dX9_reads_163 : decode cX9_reads 163 = .ok (.return_, 1) := by decide +kernel
theorem dX9_reads_164 : decode cX9_reads 164 = .ok (.aload_n 0, 1) := by decide +kernel
theorem dX9_reads_165 : decode cX9_reads 165 = .ok (.getfield 109, 3) := by decide +kernel
theorem dX9_reads_168 : decode cX9_reads 168 = .ok (.aload_n 0, 1) := by decide +kernel
theorem dX9_reads_169 : decode cX9_reads 169 = .ok (.getfield 219, 3) := by decide +kernel
theorem dX9_reads_172 : decode cX9_reads 172 = .ok (.iaload, 1) := by decide +kernel
theorem dX9_reads_173 : decode cX9_reads 173 = .ok (.bipush 48, 2) := by decide +kernel
theorem dX9_reads_175 : decode cX9_reads 175 = .ok (.isub, 1) := by decide +kernel
theorem dX9_reads_176 : decode cX9_reads 176 = .ok (.istore 4, 2) := by decide +kernel
theorem dX9_reads_178 : decode cX9_reads 178 = .ok (.aload_n 0, 1) := by decide +kernel
theorem dX9_reads_179 : decode cX9_reads 179 = .ok (.dup, 1) := by decide +kernel
theorem dX9_reads_180 : decode cX9_reads 180 = .ok (.getfield 219, 3) := by decide +kernel
theorem dX9_reads_183 : decode cX9_reads 183 = .ok (.iconst 1, 1) := by decide +kernel
theorem dX9_reads_184 : decode cX9_reads 184 = .ok (.iadd, 1) := by decide +kernel
theorem dX9_reads_185 : decode cX9_reads 185 = .ok (.putfield 219, 3) := by decide +kernel
theorem dX9_reads_188 : decode cX9_reads 188 = .ok (.iconst 0, 1) := by decide +kernel
theorem dX9_reads_189 : decode cX9_reads 189 = .ok (.istore 5, 2) := by decide +kernel
theorem dX9_reads_191 : decode cX9_reads 191 = .ok (.iload 5, 2) := by decide +kernel
theorem dX9_reads_193 : decode cX9_reads 193 = .ok (.iload 4, 2) := by decide +kernel
theorem dX9_reads_195 : decode cX9_reads 195 = .ok (.if_icmp .ge 38, 3) := by decide +kernel
theorem dX9_reads_198 : decode cX9_reads 198 = .ok (.aload_n 0, 1) := by decide +kernel
theorem dX9_reads_199 : decode cX9_reads 199 = .ok (.getfield 112, 3) := by decide +kernel
theorem dX9_reads_202 : decode cX9_reads 202 = .ok (.aload_n 0, 1) := by decide +kernel
theorem dX9_reads_203 : decode cX9_reads 203 = .ok (.getfield 239, 3) := by decide +kernel
theorem dX9_reads_206 : decode cX9_reads 206 = .ok (.bipush 100, 2) := by decide +kernel
theorem dX9_reads_208 : decode cX9_reads 208 = .ok (.iconst 0, 1) := by decide +kernel
theorem dX9_reads_209 : decode cX9_reads 209 = .ok (.iload_n 2, 1) := by decide +kernel
theorem dX9_reads_210 : decode cX9_reads 210 = .ok (.invokestatic 242, 3) := by decide +kernel
theorem dX9_reads_213 : decode cX9_reads 213 = .ok (.imul, 1) := by decide +kernel
theorem dX9_reads_214 : decode cX9_reads 214 = .ok (.iload_n 3, 1) := by decide +kernel
theorem dX9_reads_215 : decode cX9_reads 215 = .ok (.iadd, 1) := by decide +kernel
theorem dX9_reads_216 : decode cX9_reads 216 = .ok (.iastore, 1) := by decide +kernel
theorem dX9_reads_217 : decode cX9_reads 217 = .ok (.aload_n 0, 1) := by decide +kernel
theorem dX9_reads_218 : decode cX9_reads 218 = .ok (.dup, 1) := by decide +kernel
theorem dX9_reads_219 : decode cX9_reads 219 = .ok (.getfield 239, 3) := by decide +kernel
theorem dX9_reads_222 : decode cX9_reads 222 = .ok (.iconst 1, 1) := by decide +kernel
theorem dX9_reads_223 : decode cX9_reads 223 = .ok (.iadd, 1) := by decide +kernel
theorem dX9_reads_224 : decode cX9_reads 224 = .ok (.putfield 239, 3) := by decide +kernel
theorem dX9_reads_227 : decode cX9_reads 227 = .ok (.iinc 5 1, 3) := by decide +kernel
theorem dX9_reads_230 : decode cX9_reads 230 = .ok (.goto (-39), 3) := by decide +kernel
theorem dX9_reads_233 : decode cX9_reads 233 = .ok (.return_, 1) := by decide +kernel
theorem dX9_isText_0 : decode cX9_isText 0 = .ok (.aload_n 0, 1) := by decide +kernel
theorem dX9_isText_1 : decode cX9_isText 1 = .ok (.iconst 0, 1) := by decide +kernel
theorem dX9_isText_2 : decode cX9_isText 2 = .ok (.putfield 219, 3) := by decide +kernel
theorem dX9_isText_5 : decode cX9_isText 5 = .ok (.aload_n 0, 1) := by decide +kernel
theorem dX9_isText_6 : decode cX9_isText 6 = .ok (.iconst (-1), 1) := by decide +kernel
theorem dX9_isText_7 : decode cX9_isText 7 = .ok (.putfield 222, 3) := by decide +kernel
theorem dX9_isText_10 : decode cX9_isText 10 = .ok (.aload_n 0, 1) := by decide +kernel
theorem dX9_isText_11 : decode cX9_isText 11 = .ok (.iconst 0, 1) := by decide +kernel
theorem dX9_isText_12 : decode cX9_isText 12 = .ok (.putfield 239, 3) := by decide +kernel
theorem dX9_isText_15 : decode cX9_isText 15 = .ok (.aload_n 0, 1) := by decide +kernel
theorem dX9_isText_16 : decode cX9_isText 16 = .ok (.invokevirtual 247, 3) := by decide +kernel
theorem dX9_isText_19 : decode cX9_isText 19 = .ok (.aload_n 0, 1) := by decide +kernel
theorem dX9_isText_20 : decode cX9_isText 20 = .ok (.bipush 44, 2) := by decide +kernel
theorem dX9_isText_22 : decode cX9_isText 22 = .ok (.invokevirtual 232, 3) := by decide +kernel
theorem dX9_isText_25 : decode cX9_isText 25 = .ok (.ifCond .eq 20, 3) := by decide +kernel
theorem dX9_isText_28 : decode cX9_isText 28 = .ok (.aload_n 0, 1) := by decide +kernel
theorem dX9_isText_29 : decode cX9_isText 29 = .ok (.dup, 1) := by decide +kernel
theorem dX9_isText_30 : decode cX9_isText 30 = .ok (.getfield 219, 3) := by decide +kernel
theorem dX9_isText_33 : decode cX9_isText 33 = .ok (.iconst 1, 1) := by decide +kernel
theorem dX9_isText_34 : decode cX9_isText 34 = .ok (.iadd, 1) := by decide +kernel
theorem dX9_isText_35 : decode cX9_isText 35 = .ok (.putfield 219, 3) := by decide +kernel
theorem dX9_isText_38 : decode cX9_isText 38 = .ok (.aload_n 0, 1) := by decide +kernel
theorem dX9_isText_39 : decode cX9_isText 39 = .ok (.invokevirtual 247, 3) := by decide +kernel
theorem dX9_isText_42 : decode cX9_isText 42 = .ok (.goto (-23), 3) := by decide +kernel
theorem dX9_isText_45 : decode cX9_isText 45 = .ok (.aload_n 0, 1) := by decide +kernel
theorem dX9_isText_46 : decode cX9_isText 46 = .ok (.getfield 219, 3) := by decide +kernel
theorem dX9_isText_49 : decode cX9_isText 49 = .ok (.aload_n 0, 1) := by decide +kernel
theorem dX9_isText_50 : decode cX9_isText 50 = .ok (.getfield 208, 3) := by decide +kernel
theorem dX9_isText_53 : decode cX9_isText 53 = .ok (.if_icmp .ge 11, 3) := by decide +kernel
theorem dX9_isText_56 : decode cX9_isText 56 = .ok (.aload_n 0, 1) := by decide +kernel
theorem dX9_isText_57 : decode cX9_isText 57 = .ok (.aload_n 0, 1) := by decide +kernel
theorem dX9_isText_58 : decode cX9_isText 58 = .ok (.getfield 219, 3) := by decide +kernel
theorem dX9_isText_61 : decode cX9_isText 61 = .ok (.invokevirtual 236, 3) := by decide +kernel
theorem dX9_isText_64 : decode cX9_isText 64 = .ok (.aload_n 0, 1) := by decide +kernel
theorem dX9_isText_65 : decode cX9_isText 65 = .ok (.iconst 0, 1) := by decide +kernel
theorem dX9_isText_66 : decode cX9_isText 66 = .ok (.putfield 208, 3) := by decide +kernel
theorem dX9_isText_69 : decode cX9_isText 69 = .ok (.aload_n 0, 1) := by decide +kernel
theorem dX9_isText_70 : decode cX9_isText 70 = .ok (.getfield 222, 3) := by decide +kernel
theorem dX9_isText_73 : decode cX9_isText 73 = .ok (.ifCond .ge 7, 3) := by decide +kernel
theorem dX9_isText_76 : decode cX9_isText 76 = .ok (.iconst 1, 1) := by decide +kernel
theorem dX9_isText_77 : decode cX9_isText 77 = .ok (.goto 4, 3) := by decide +kernel
theorem dX9_isText_80 : decode cX9_isText 80 = .ok (.iconst 0, 1) := by decide +kernel
theorem dX9_isText_81 : decode cX9_isText 81 = .ok (.ireturn, 1) := by decide +kernel
theorem dX9_dances_0 : decode cX9_dances 0 = .ok (.aload_n 0, 1) := by decide +kernel
theorem dX9_dances_1 : decode cX9_dances 1 = .ok (.getfield 96, 3) := by decide +kernel
theorem dX9_dances_4 : decode cX9_dances 4 = .ok (.aload_n 0, 1) := by decide +kernel
theorem dX9_dances_5 : decode cX9_dances 5 = .ok (.getfield 144, 3) := by decide +kernel
theorem dX9_dances_8 : decode cX9_dances 8 = .ok (.iload_n 1, 1) := by decide +kernel
theorem dX9_dances_9 : decode cX9_dances 9 = .ok (.iastore, 1) := by decide +kernel
theorem dX9_dances_10 : decode cX9_dances 10 = .ok (.aload_n 0, 1) := by decide +kernel
theorem dX9_dances_11 : decode cX9_dances 11 = .ok (.getfield 102, 3) := by decide +kernel
theorem dX9_dances_14 : decode cX9_dances 14 = .ok (.iload_n 1, 1) := by decide +kernel
theorem dX9_dances_15 : decode cX9_dances 15 = .ok (.bipush 100, 2) := by decide +kernel
theorem dX9_dances_17 : decode cX9_dances 17 = .ok (.irem, 1) := by decide +kernel
theorem dX9_dances_18 : decode cX9_dances 18 = .ok (.dup2, 1) := by decide +kernel
theorem dX9_dances_19 : decode cX9_dances 19 = .ok (.iaload, 1) := by decide +kernel
theorem dX9_dances_20 : decode cX9_dances 20 = .ok (.iconst 1, 1) := by decide +kernel
theorem dX9_dances_21 : decode cX9_dances 21 = .ok (.iadd, 1) := by decide +kernel
theorem dX9_dances_22 : decode cX9_dances 22 = .ok (.iastore, 1) := by decide +kernel
theorem dX9_dances_23 : decode cX9_dances 23 = .ok (.aload_n 0, 1) := by decide +kernel
theorem dX9_dances_24 : decode cX9_dances 24 = .ok (.getfield 89, 3) := by decide +kernel
theorem dX9_dances_27 : decode cX9_dances 27 = .ok (.aload_n 0, 1) := by decide +kernel
theorem dX9_dances_28 : decode cX9_dances 28 = .ok (.getfield 144, 3) := by decide +kernel
theorem dX9_dances_31 : decode cX9_dances 31 = .ok (.iconst 1, 1) := by decide +kernel
theorem dX9_dances_32 : decode cX9_dances 32 = .ok (.iadd, 1) := by decide +kernel
theorem dX9_dances_33 : decode cX9_dances 33 = .ok (.aload_n 0, 1) := by decide +kernel
theorem dX9_dances_34 : decode cX9_dances 34 = .ok (.invokevirtual 249, 3) := by decide +kernel
theorem dX9_dances_37 : decode cX9_dances 37 = .ok (.lastore, 1) := by decide +kernel
theorem dX9_dances_38 : decode cX9_dances 38 = .ok (.aload_n 0, 1) := by decide +kernel
theorem dX9_dances_39 : decode cX9_dances 39 = .ok (.dup, 1) := by decide +kernel
theorem dX9_dances_40 : decode cX9_dances 40 = .ok (.getfield 144, 3) := by decide +kernel
theorem dX9_dances_43 : decode cX9_dances 43 = .ok (.iconst 1, 1) := by decide +kernel
theorem dX9_dances_44 : decode cX9_dances 44 = .ok (.iadd, 1) := by decide +kernel
theorem dX9_dances_45 : decode cX9_dances 45 = .ok (.putfield 144, 3) := by decide +kernel
theorem dX9_dances_48 : decode cX9_dances 48 = .ok (.aload_n 0, 1) := by decide +kernel
theorem dX9_dances_49 : decode cX9_dances 49 = .ok (.iconst 0, 1) := by decide +kernel
theorem dX9_dances_50 : decode cX9_dances 50 = .ok (.putfield 252, 3) := by decide +kernel
theorem dX9_dances_53 : decode cX9_dances 53 = .ok (.aload_n 0, 1) := by decide +kernel
theorem dX9_dances_54 : decode cX9_dances 54 = .ok (.invokevirtual 255, 3) := by decide +kernel
theorem dX9_dances_57 : decode cX9_dances 57 = .ok (.return_, 1) := by decide +kernel
theorem dX9_dance_0 : decode cX9_dance 0 = .ok (.aload_n 0, 1) := by decide +kernel
theorem dX9_dance_1 : decode cX9_dance 1 = .ok (.invokevirtual 258, 3) := by decide +kernel
theorem dX9_dance_4 : decode cX9_dance 4 = .ok (.ifCond .ne 11, 3) := by decide +kernel
theorem dX9_dance_7 : decode cX9_dance 7 = .ok (.bipush (-100), 2) := by decide +kernel
theorem dX9_dance_9 : decode cX9_dance 9 = .ok (.aload_n 0, 1) := by decide +kernel
theorem dX9_dance_10 : decode cX9_dance 10 = .ok (.getfield 222, 3) := by decide +kernel
theorem dX9_dance_13 : decode cX9_dance 13 = .ok (.isub, 1) := by decide +kernel
theorem dX9_dance_14 : decode cX9_dance 14 = .ok (.ireturn, 1) := by decide +kernel
theorem dX9_dance_15 : decode cX9_dance 15 = .ok (.aload_n 0, 1) := by decide +kernel
theorem dX9_dance_16 : decode cX9_dance 16 = .ok (.getfield 144, 3) := by decide +kernel
theorem dX9_dance_19 : decode cX9_dance 19 = .ok (.aload_n 0, 1) := by decide +kernel
theorem dX9_dance_20 : decode cX9_dance 20 = .ok (.getfield 239, 3) := by decide +kernel
theorem dX9_dance_23 : decode cX9_dance 23 = .ok (.iadd, 1) := by decide +kernel
theorem dX9_dance_24 : decode cX9_dance 24 = .ok (.sipush 200, 3) := by decide +kernel
theorem dX9_dance_27 : decode cX9_dance 27 = .ok (.if_icmp .le 6, 3) := by decide +kernel
theorem dX9_dance_30 : decode cX9_dance 30 = .ok (.bipush (-3), 2) := by decide +kernel
theorem dX9_dance_32 : decode cX9_dance 32 = .ok (.ireturn, 1) := by decide +kernel
theorem dX9_dance_33 : decode cX9_dance 33 = .ok (.aload_n 0, 1) := by decide +kernel
theorem dX9_dance_34 : decode cX9_dance 34 = .ok (.iconst 0, 1) := by decide +kernel
theorem dX9_dance_35 : decode cX9_dance 35 = .ok (.putfield 262, 3) := by decide +kernel
theorem dX9_dance_38 : decode cX9_dance 38 = .ok (.aload_n 0, 1) := by decide +kernel
theorem dX9_dance_39 : decode cX9_dance 39 = .ok (.iconst 0, 1) := by decide +kernel
theorem dX9_dance_40 : decode cX9_dance 40 = .ok (.putfield 265, 3) := by decide +kernel
theorem dX9_dance_43 : decode cX9_dance 43 = .ok (.aload_n 0, 1) := by decide +kernel
theorem dX9_dance_44 : decode cX9_dance 44 = .ok (.invokevirtual 255, 3) := by decide +kernel
theorem dX9_dance_47 : decode cX9_dance 47 = .ok (.iconst 0, 1) := by decide +kernel
theorem dX9_dance_48 : decode cX9_dance 48 = .ok (.istore_n 1, 1) := by decide +kernel
theorem dX9_dance_49 : decode cX9_dance 49 = .ok (.iload_n 1, 1) := by decide +kernel
theorem dX9_dance_50 : decode cX9_dance 50 = .ok (.aload_n 0, 1) := by decide +kernel
theorem dX9_dance_51 : decode cX9_dance 51 = .ok (.getfield 239, 3) := by decide +kernel
theorem dX9_dance_54 : decode cX9_dance 54 = .ok (.if_icmp .ge 117, 3) := by decide +kernel
theorem dX9_dance_57 : decode cX9_dance 57 = .ok (.aload_n 0, 1) := by decide +kernel
theorem dX9_dance_58 : decode cX9_dance 58 = .ok (.aload_n 0, 1) := by decide +kernel
theorem dX9_dance_59 : decode cX9_dance 59 = .ok (.getfield 112, 3) := by decide +kernel
theorem dX9_dance_62 : decode cX9_dance 62 = .ok (.iload_n 1, 1) := by decide +kernel
theorem dX9_dance_63 : decode cX9_dance 63 = .ok (.iaload, 1) := by decide +kernel
theorem dX9_dance_64 : decode cX9_dance 64 = .ok (.bipush 100, 2) := by decide +kernel
theorem dX9_dance_66 : decode cX9_dance 66 = .ok (.idiv, 1) := by decide +kernel
theorem dX9_dance_67 : decode cX9_dance 67 = .ok (.aload_n 0, 1) := by decide +kernel
theorem dX9_dance_68 : decode cX9_dance 68 = .ok (.getfield 112, 3) := by decide +kernel
theorem dX9_dance_71 : decode cX9_dance 71 = .ok (.iload_n 1, 1) := by decide +kernel
theorem dX9_dance_72 : decode cX9_dance 72 = .ok (.iaload, 1) := by decide +kernel
theorem dX9_dance_73 : decode cX9_dance 73 = .ok (.bipush 100, 2) := by decide +kernel
theorem dX9_dance_75 : decode cX9_dance 75 = .ok (.irem, 1) := by decide +kernel
theorem dX9_dance_76 : decode cX9_dance 76 = .ok (.invokevirtual 268, 3) := by decide +kernel
theorem dX9_dance_79 : decode cX9_dance 79 = .ok (.ifCond .ne 76, 3) := by decide +kernel
theorem dX9_dance_82 : decode cX9_dance 82 = .ok (.aload_n 0, 1) := by decide +kernel
theorem dX9_dance_83 : decode cX9_dance 83 = .ok (.aload_n 0, 1) := by decide +kernel
theorem dX9_dance_84 : decode cX9_dance 84 = .ok (.getfield 193, 3) := by decide +kernel
theorem dX9_dance_87 : decode cX9_dance 87 = .ok (.putfield 265, 3) := by decide +kernel
theorem dX9_dance_90 : decode cX9_dance 90 = .ok (.iconst 0, 1) := by decide +kernel
theorem dX9_dance_91 : decode cX9_dance 91 = .ok (.istore_n 2, 1) := by decide +kernel
theorem dX9_dance_92 : decode cX9_dance 92 = .ok (.iload_n 2, 1) := by decide +kernel
theorem dX9_dance_93 : decode cX9_dance 93 = .ok (.bipush 8, 2) := by decide +kernel
theorem dX9_dance_95 : decode cX9_dance 95 = .ok (.if_icmp .ge 58, 3) := by decide +kernel
theorem dX9_dance_98 : decode cX9_dance 98 = .ok (.aload_n 0, 1) := by decide +kernel
theorem dX9_dance_99 : decode cX9_dance 99 = .ok (.getfield 193, 3) := by decide +kernel
theorem dX9_dance_102 : decode cX9_dance 102 = .ok (.ifCond .ne 51, 3) := by decide +kernel
theorem dX9_dance_105 : decode cX9_dance 105 = .ok (.aload_n 0, 1) := by decide +kernel
theorem dX9_dance_106 : decode cX9_dance 106 = .ok (.getfield 83, 3) := by decide +kernel
theorem dX9_dance_109 : decode cX9_dance 109 = .ok (.iload_n 2, 1) := by decide +kernel
theorem dX9_dance_110 : decode cX9_dance 110 = .ok (.iaload, 1) := by decide +kernel
theorem dX9_dance_111 : decode cX9_dance 111 = .ok (.ifCond .ne 6, 3) := by decide +kernel
theorem dX9_dance_114 : decode cX9_dance 114 = .ok (.goto 33, 3) := by decide +kernel
theorem dX9_dance_117 : decode cX9_dance 117 = .ok (.aload_n 0, 1) := by decide +kernel
theorem dX9_dance_118 : decode cX9_dance 118 = .ok (.getfield 86, 3) := by decide +kernel
theorem dX9_dance_121 : decode cX9_dance 121 = .ok (.aload_n 0, 1) := by decide +kernel
theorem dX9_dance_122 : decode cX9_dance 122 = .ok (.getfield 262, 3) := by decide +kernel
theorem dX9_dance_125 : decode cX9_dance 125 = .ok (.bipush 10, 2) := by decide +kernel
theorem dX9_dance_127 : decode cX9_dance 127 = .ok (.iload_n 2, 1) := by decide +kernel
theorem dX9_dance_128 : decode cX9_dance 128 = .ok (.imul, 1) := by decide +kernel
theorem dX9_dance_129 : decode cX9_dance 129 = .ok (.aload_n 0, 1) := by decide +kernel
theorem dX9_dance_130 : decode cX9_dance 130 = .ok (.getfield 83, 3) := by decide +kernel
theorem dX9_dance_133 : decode cX9_dance 133 = .ok (.iload_n 2, 1) := by decide +kernel
theorem dX9_dance_134 : decode cX9_dance 134 = .ok (.iaload, 1) := by decide +kernel
theorem dX9_dance_135 : decode cX9_dance 135 = .ok (.iadd, 1) := by decide +kernel
theorem dX9_dance_136 : decode cX9_dance 136 = .ok (.iastore, 1) := by decide +kernel
theorem dX9_dance_137 : decode cX9_dance 137 = .ok (.aload_n 0, 1) := by decide +kernel
theorem dX9_dance_138 : decode cX9_dance 138 = .ok (.dup, 1) := by decide +kernel
theorem dX9_dance_139 : decode cX9_dance 139 = .ok (.getfield 262, 3) := by decide +kernel
theorem dX9_dance_142 : decode cX9_dance 142 = .ok (.iconst 1, 1) := by decide +kernel
theorem dX9_dance_143 : decode cX9_dance 143 = .ok (.iadd, 1) := by decide +kernel
theorem dX9_dance_144 : decode cX9_dance 144 = .ok (.putfield 262, 3) := by decide +kernel
theorem dX9_dance_147 : decode cX9_dance 147 = .ok (.iinc 2 1, 3) := by decide +kernel
theorem dX9_dance_150 : decode cX9_dance 150 = .ok (.goto (-58), 3) := by decide +kernel
theorem dX9_dance_153 : decode cX9_dance 153 = .ok (.iload_n 1, 1) := by decide +kernel
theorem dX9_dance_154 : decode cX9_dance 154 = .ok (.ireturn, 1) := by decide +kernel
theorem dX9_dance_155 : decode cX9_dance 155 = .ok (.aload_n 0, 1) := by decide +kernel
theorem dX9_dance_156 : decode cX9_dance 156 = .ok (.aload_n 0, 1) := by decide +kernel
theorem dX9_dance_157 : decode cX9_dance 157 = .ok (.getfield 112, 3) := by decide +kernel
theorem dX9_dance_160 : decode cX9_dance 160 = .ok (.iload_n 1, 1) := by decide +kernel
theorem dX9_dance_161 : decode cX9_dance 161 = .ok (.iaload, 1) := by decide +kernel
theorem dX9_dance_162 : decode cX9_dance 162 = .ok (.invokevirtual 271, 3) := by decide +kernel
theorem dX9_dance_165 : decode cX9_dance 165 = .ok (.iinc 1 1, 3) := by decide +kernel
theorem dX9_dance_168 : decode cX9_dance 168 = .ok (.goto (-119), 3) := by decide +kernel
theorem dX9_dance_171 : decode cX9_dance 171 = .ok (.aload_n 0, 1) := by decide +kernel
theorem dX9_dance_172 : decode cX9_dance 172 = .ok (.getfield 239, 3) := by decide +kernel
theorem dX9_dance_175 : decode cX9_dance 175 = .ok (.ireturn, 1) := by decide +kernel
theorem dX9_fall_0 : decode cX9_fall 0 = .ok (.iload_n 1, 1) := by decide +kernel
theorem dX9_fall_1 : decode cX9_fall 1 = .ok (.iconst (-1), 1) := by decide +kernel
theorem dX9_fall_2 : decode cX9_fall 2 = .ok (.if_icmp .ge 5, 3) := by decide +kernel
theorem dX9_fall_5 : decode cX9_fall 5 = .ok (.iconst (-1), 1) := by decide +kernel
theorem dX9_fall_6 : decode cX9_fall 6 = .ok (.ireturn, 1) := by decide +kernel
theorem dX9_fall_7 : decode cX9_fall 7 = .ok (.iload_n 1, 1) := by decide +kernel
theorem dX9_fall_8 : decode cX9_fall 8 = .ok (.iconst 1, 1) := by decide +kernel
theorem dX9_fall_9 : decode cX9_fall 9 = .ok (.if_icmp .ge 19, 3) := by decide +kernel
theorem dX9_fall_12 : decode cX9_fall 12 = .ok (.iload_n 1, 1) := by decide +kernel
theorem dX9_fall_13 : decode cX9_fall 13 = .ok (.ifCond .ge 10, 3) := by decide +kernel
theorem dX9_fall_16 : decode cX9_fall 16 = .ok (.aload_n 0, 1) := by decide +kernel
theorem dX9_fall_17 : decode cX9_fall 17 = .ok (.getfield 265, 3) := by decide +kernel
theorem dX9_fall_20 : decode cX9_fall 20 = .ok (.goto 7, 3) := by decide +kernel
theorem dX9_fall_23 : decode cX9_fall 23 = .ok (.aload_n 0, 1) := by decide +kernel
theorem dX9_fall_24 : decode cX9_fall 24 = .ok (.getfield 262, 3) := by decide +kernel
theorem dX9_fall_27 : decode cX9_fall 27 = .ok (.ireturn, 1) := by decide +kernel
theorem dX9_fall_28 : decode cX9_fall 28 = .ok (.iload_n 1, 1) := by decide +kernel
theorem dX9_fall_29 : decode cX9_fall 29 = .ok (.aload_n 0, 1) := by decide +kernel
theorem dX9_fall_30 : decode cX9_fall 30 = .ok (.getfield 262, 3) := by decide +kernel
theorem dX9_fall_33 : decode cX9_fall 33 = .ok (.if_icmp .gt 14, 3) := by decide +kernel
theorem dX9_fall_36 : decode cX9_fall 36 = .ok (.aload_n 0, 1) := by decide +kernel
theorem dX9_fall_37 : decode cX9_fall 37 = .ok (.getfield 86, 3) := by decide +kernel
theorem dX9_fall_40 : decode cX9_fall 40 = .ok (.iload_n 1, 1) := by decide +kernel
theorem dX9_fall_41 : decode cX9_fall 41 = .ok (.iconst 1, 1) := by decide +kernel
theorem dX9_fall_42 : decode cX9_fall 42 = .ok (.isub, 1) := by decide +kernel
theorem dX9_fall_43 : decode cX9_fall 43 = .ok (.iaload, 1) := by decide +kernel
theorem dX9_fall_44 : decode cX9_fall 44 = .ok (.goto 5, 3) := by decide +kernel
theorem dX9_fall_47 : decode cX9_fall 47 = .ok (.bipush (-2), 2) := by decide +kernel
theorem dX9_fall_49 : decode cX9_fall 49 = .ok (.ireturn, 1) := by decide +kernel
theorem dX9_would_0 : decode cX9_would 0 = .ok (.aload_n 0, 1) := by decide +kernel
theorem dX9_would_1 : decode cX9_would 1 = .ok (.invokevirtual 258, 3) := by decide +kernel
theorem dX9_would_4 : decode cX9_would 4 = .ok (.ifCond .ne 11, 3) := by decide +kernel
theorem dX9_would_7 : decode cX9_would 7 = .ok (.bipush (-100), 2) := by decide +kernel
theorem dX9_would_9 : decode cX9_would 9 = .ok (.aload_n 0, 1) := by decide +kernel
theorem dX9_would_10 : decode cX9_would 10 = .ok (.getfield 222, 3) := by decide +kernel
theorem dX9_would_13 : decode cX9_would 13 = .ok (.isub, 1) := by decide +kernel
theorem dX9_would_14 : decode cX9_would 14 = .ok (.ireturn, 1) := by decide +kernel
theorem dX9_would_15 : decode cX9_would 15 = .ok (.aload_n 0, 1) := by decide +kernel
theorem dX9_would_16 : decode cX9_would 16 = .ok (.getfield 239, 3) := by decide +kernel
theorem dX9_would_19 : decode cX9_would 19 = .ok (.iconst 1, 1) := by decide +kernel
theorem dX9_would_20 : decode cX9_would 20 = .ok (.if_icmp .eq 5, 3) := by decide +kernel
theorem dX9_would_23 : decode cX9_would 23 = .ok (.iconst (-1), 1) := by decide +kernel
theorem dX9_would_24 : decode cX9_would 24 = .ok (.ireturn, 1) := by decide +kernel
theorem dX9_would_25 : decode cX9_would 25 = .ok (.aload_n 0, 1) := by decide +kernel
theorem dX9_would_26 : decode cX9_would 26 = .ok (.invokevirtual 255, 3) := by decide +kernel
theorem dX9_would_29 : decode cX9_would 29 = .ok (.aload_n 0, 1) := by decide +kernel
theorem dX9_would_30 : decode cX9_would 30 = .ok (.aload_n 0, 1) := by decide +kernel
theorem dX9_would_31 : decode cX9_would 31 = .ok (.getfield 112, 3) := by decide +kernel
theorem dX9_would_34 : decode cX9_would 34 = .ok (.iconst 0, 1) := by decide +kernel
theorem dX9_would_35 : decode cX9_would 35 = .ok (.iaload, 1) := by decide +kernel
theorem dX9_would_36 : decode cX9_would 36 = .ok (.bipush 100, 2) := by decide +kernel
theorem dX9_would_38 : decode cX9_would 38 = .ok (.idiv, 1) := by decide +kernel
theorem dX9_would_39 : decode cX9_would 39 = .ok (.aload_n 0, 1) := by decide +kernel
theorem dX9_would_40 : decode cX9_would 40 = .ok (.getfield 112, 3) := by decide +kernel
theorem dX9_would_43 : decode cX9_would 43 = .ok (.iconst 0, 1) := by decide +kernel
theorem dX9_would_44 : decode cX9_would 44 = .ok (.iaload, 1) := by decide +kernel
theorem dX9_would_45 : decode cX9_would 45 = .ok (.bipush 100, 2) := by decide +kernel
theorem dX9_would_47 : decode cX9_would 47 = .ok (.irem, 1) := by decide +kernel
theorem dX9_would_48 : decode cX9_would 48 = .ok (.invokevirtual 268, 3) := by decide +kernel
theorem dX9_would_51 : decode cX9_would 51 = .ok (.ifCond .eq 10, 3) := by decide +kernel
theorem dX9_would_54 : decode cX9_would 54 = .ok (.aload_n 0, 1) := by decide +kernel
theorem dX9_would_55 : decode cX9_would 55 = .ok (.getfield 183, 3) := by decide +kernel
theorem dX9_would_58 : decode cX9_would 58 = .ok (.goto 5, 3) := by decide +kernel
theorem dX9_would_61 : decode cX9_would 61 = .ok (.bipush (-2), 2) := by decide +kernel
theorem dX9_would_63 : decode cX9_would 63 = .ok (.ireturn, 1) := by decide +kernel
theorem dX9_undo_0 : decode cX9_undo 0 = .ok (.aload_n 0, 1) := by decide +kernel
theorem dX9_undo_1 : decode cX9_undo 1 = .ok (.getfield 144, 3) := by decide +kernel
theorem dX9_undo_4 : decode cX9_undo 4 = .ok (.ifCond .ne 6, 3) := by decide +kernel
theorem dX9_undo_7 : decode cX9_undo 7 = .ok (.bipush (-5), 2) := by decide +kernel
theorem dX9_undo_9 : decode cX9_undo 9 = .ok (.ireturn, 1) := by decide +kernel
theorem dX9_undo_10 : decode cX9_undo 10 = .ok (.aload_n 0, 1) := by decide +kernel
theorem dX9_undo_11 : decode cX9_undo 11 = .ok (.dup, 1) := by decide +kernel
theorem dX9_undo_12 : decode cX9_undo 12 = .ok (.getfield 144, 3) := by decide +kernel
theorem dX9_undo_15 : decode cX9_undo 15 = .ok (.iconst 1, 1) := by decide +kernel
theorem dX9_undo_16 : decode cX9_undo 16 = .ok (.isub, 1) := by decide +kernel
theorem dX9_undo_17 : decode cX9_undo 17 = .ok (.putfield 144, 3) := by decide +kernel
theorem dX9_undo_20 : decode cX9_undo 20 = .ok (.aload_n 0, 1) := by decide +kernel
theorem dX9_undo_21 : decode cX9_undo 21 = .ok (.dup, 1) := by decide +kernel
theorem dX9_undo_22 : decode cX9_undo 22 = .ok (.getfield 252, 3) := by decide +kernel
theorem dX9_undo_25 : decode cX9_undo 25 = .ok (.iconst 1, 1) := by decide +kernel
theorem dX9_undo_26 : decode cX9_undo 26 = .ok (.iadd, 1) := by decide +kernel
theorem dX9_undo_27 : decode cX9_undo 27 = .ok (.putfield 252, 3) := by decide +kernel
theorem dX9_undo_30 : decode cX9_undo 30 = .ok (.aload_n 0, 1) := by decide +kernel
theorem dX9_undo_31 : decode cX9_undo 31 = .ok (.getfield 144, 3) := by decide +kernel
theorem dX9_undo_34 : decode cX9_undo 34 = .ok (.ireturn, 1) := by decide +kernel
theorem dX9_redo_0 : decode cX9_redo 0 = .ok (.aload_n 0, 1) := by decide +kernel
theorem dX9_redo_1 : decode cX9_redo 1 = .ok (.getfield 252, 3) := by decide +kernel
theorem dX9_redo_4 : decode cX9_redo 4 = .ok (.ifCond .ne 6, 3) := by decide +kernel
theorem dX9_redo_7 : decode cX9_redo 7 = .ok (.bipush (-5), 2) := by decide +kernel
theorem dX9_redo_9 : decode cX9_redo 9 = .ok (.ireturn, 1) := by decide +kernel
theorem dX9_redo_10 : decode cX9_redo 10 = .ok (.aload_n 0, 1) := by decide +kernel
theorem dX9_redo_11 : decode cX9_redo 11 = .ok (.dup, 1) := by decide +kernel
theorem dX9_redo_12 : decode cX9_redo 12 = .ok (.getfield 252, 3) := by decide +kernel
theorem dX9_redo_15 : decode cX9_redo 15 = .ok (.iconst 1, 1) := by decide +kernel
theorem dX9_redo_16 : decode cX9_redo 16 = .ok (.isub, 1) := by decide +kernel
theorem dX9_redo_17 : decode cX9_redo 17 = .ok (.putfield 252, 3) := by decide +kernel
theorem dX9_redo_20 : decode cX9_redo 20 = .ok (.aload_n 0, 1) := by decide +kernel
theorem dX9_redo_21 : decode cX9_redo 21 = .ok (.getfield 102, 3) := by decide +kernel
theorem dX9_redo_24 : decode cX9_redo 24 = .ok (.aload_n 0, 1) := by decide +kernel
theorem dX9_redo_25 : decode cX9_redo 25 = .ok (.getfield 96, 3) := by decide +kernel
theorem dX9_redo_28 : decode cX9_redo 28 = .ok (.aload_n 0, 1) := by decide +kernel
theorem dX9_redo_29 : decode cX9_redo 29 = .ok (.getfield 144, 3) := by decide +kernel
theorem dX9_redo_32 : decode cX9_redo 32 = .ok (.iaload, 1) := by decide +kernel
theorem dX9_redo_33 : decode cX9_redo 33 = .ok (.bipush 100, 2) := by decide +kernel
theorem dX9_redo_35 : decode cX9_redo 35 = .ok (.irem, 1) := by decide +kernel
theorem dX9_redo_36 : decode cX9_redo 36 = .ok (.dup2, 1) := by decide +kernel
theorem dX9_redo_37 : decode cX9_redo 37 = .ok (.iaload, 1) := by decide +kernel
theorem dX9_redo_38 : decode cX9_redo 38 = .ok (.iconst 1, 1) := by decide +kernel
theorem dX9_redo_39 : decode cX9_redo 39 = .ok (.iadd, 1) := by decide +kernel
theorem dX9_redo_40 : decode cX9_redo 40 = .ok (.iastore, 1) := by decide +kernel
theorem dX9_redo_41 : decode cX9_redo 41 = .ok (.aload_n 0, 1) := by decide +kernel
theorem dX9_redo_42 : decode cX9_redo 42 = .ok (.dup, 1) := by decide +kernel
theorem dX9_redo_43 : decode cX9_redo 43 = .ok (.getfield 144, 3) := by decide +kernel
theorem dX9_redo_46 : decode cX9_redo 46 = .ok (.iconst 1, 1) := by decide +kernel
theorem dX9_redo_47 : decode cX9_redo 47 = .ok (.iadd, 1) := by decide +kernel
theorem dX9_redo_48 : decode cX9_redo 48 = .ok (.putfield 144, 3) := by decide +kernel
theorem dX9_redo_51 : decode cX9_redo 51 = .ok (.aload_n 0, 1) := by decide +kernel
theorem dX9_redo_52 : decode cX9_redo 52 = .ok (.getfield 144, 3) := by decide +kernel
theorem dX9_redo_55 : decode cX9_redo 55 = .ok (.ireturn, 1) := by decide +kernel
theorem dX9_home_0 : decode cX9_home 0 = .ok (.aload_n 0, 1) := by decide +kernel
theorem dX9_home_1 : decode cX9_home 1 = .ok (.getfield 144, 3) := by decide +kernel
theorem dX9_home_4 : decode cX9_home 4 = .ok (.istore_n 1, 1) := by decide +kernel
theorem dX9_home_5 : decode cX9_home 5 = .ok (.aload_n 0, 1) := by decide +kernel
theorem dX9_home_6 : decode cX9_home 6 = .ok (.iconst 0, 1) := by decide +kernel
theorem dX9_home_7 : decode cX9_home 7 = .ok (.putfield 144, 3) := by decide +kernel
theorem dX9_home_10 : decode cX9_home 10 = .ok (.aload_n 0, 1) := by decide +kernel
theorem dX9_home_11 : decode cX9_home 11 = .ok (.iconst 0, 1) := by decide +kernel
theorem dX9_home_12 : decode cX9_home 12 = .ok (.putfield 252, 3) := by decide +kernel
theorem dX9_home_15 : decode cX9_home 15 = .ok (.iload_n 1, 1) := by decide +kernel
theorem dX9_home_16 : decode cX9_home 16 = .ok (.ireturn, 1) := by decide +kernel
theorem dX9_at_0 : decode cX9_at 0 = .ok (.iload_n 1, 1) := by decide +kernel
theorem dX9_at_1 : decode cX9_at 1 = .ok (.iconst 0, 1) := by decide +kernel
theorem dX9_at_2 : decode cX9_at 2 = .ok (.bipush 7, 2) := by decide +kernel
theorem dX9_at_4 : decode cX9_at 4 = .ok (.invokestatic 147, 3) := by decide +kernel
theorem dX9_at_7 : decode cX9_at 7 = .ok (.ifCond .eq 12, 3) := by decide +kernel
theorem dX9_at_10 : decode cX9_at 10 = .ok (.iload_n 2, 1) := by decide +kernel
theorem dX9_at_11 : decode cX9_at 11 = .ok (.iconst 0, 1) := by decide +kernel
theorem dX9_at_12 : decode cX9_at 12 = .ok (.iconst 5, 1) := by decide +kernel
theorem dX9_at_13 : decode cX9_at 13 = .ok (.invokestatic 147, 3) := by decide +kernel
theorem dX9_at_16 : decode cX9_at 16 = .ok (.ifCond .ne 5, 3) := by decide +kernel
theorem dX9_at_19 : decode cX9_at 19 = .ok (.iconst (-1), 1) := by decide +kernel
theorem dX9_at_20 : decode cX9_at 20 = .ok (.ireturn, 1) := by decide +kernel
theorem dX9_at_21 : decode cX9_at 21 = .ok (.aload_n 0, 1) := by decide +kernel
theorem dX9_at_22 : decode cX9_at 22 = .ok (.invokevirtual 255, 3) := by decide +kernel
theorem dX9_at_25 : decode cX9_at 25 = .ok (.iload_n 2, 1) := by decide +kernel
theorem dX9_at_26 : decode cX9_at 26 = .ok (.iconst 2, 1) := by decide +kernel
theorem dX9_at_27 : decode cX9_at 27 = .ok (.if_icmp .ge 23, 3) := by decide +kernel
theorem dX9_at_30 : decode cX9_at 30 = .ok (.iload_n 2, 1) := by decide +kernel
theorem dX9_at_31 : decode cX9_at 31 = .ok (.ifCond .ne 12, 3) := by decide +kernel
theorem dX9_at_34 : decode cX9_at 34 = .ok (.aload_n 0, 1) := by decide +kernel
theorem dX9_at_35 : decode cX9_at 35 = .ok (.getfield 60, 3) := by decide +kernel
theorem dX9_at_38 : decode cX9_at 38 = .ok (.iload_n 1, 1) := by decide +kernel
theorem dX9_at_39 : decode cX9_at 39 = .ok (.iaload, 1) := by decide +kernel
theorem dX9_at_40 : decode cX9_at 40 = .ok (.goto 9, 3) := by decide +kernel
theorem dX9_at_43 : decode cX9_at 43 = .ok (.aload_n 0, 1) := by decide +kernel
theorem dX9_at_44 : decode cX9_at 44 = .ok (.getfield 64, 3) := by decide +kernel
theorem dX9_at_47 : decode cX9_at 47 = .ok (.iload_n 1, 1) := by decide +kernel
theorem dX9_at_48 : decode cX9_at 48 = .ok (.iaload, 1) := by decide +kernel
theorem dX9_at_49 : decode cX9_at 49 = .ok (.ireturn, 1) := by decide +kernel
theorem dX9_at_50 : decode cX9_at 50 = .ok (.aload_n 0, 1) := by decide +kernel
theorem dX9_at_51 : decode cX9_at 51 = .ok (.iload_n 1, 1) := by decide +kernel
theorem dX9_at_52 : decode cX9_at 52 = .ok (.iload_n 2, 1) := by decide +kernel
theorem dX9_at_53 : decode cX9_at 53 = .ok (.iconst 2, 1) := by decide +kernel
theorem dX9_at_54 : decode cX9_at 54 = .ok (.if_icmp .ne 7, 3) := by decide +kernel
theorem dX9_at_57 : decode cX9_at 57 = .ok (.iconst 0, 1) := by decide +kernel
theorem dX9_at_58 : decode cX9_at 58 = .ok (.goto 22, 3) := by decide +kernel
theorem dX9_at_61 : decode cX9_at 61 = .ok (.iload_n 2, 1) := by decide +kernel
theorem dX9_at_62 : decode cX9_at 62 = .ok (.iconst 3, 1) := by decide +kernel
theorem dX9_at_63 : decode cX9_at 63 = .ok (.if_icmp .ne 7, 3) := by decide +kernel
theorem dX9_at_66 : decode cX9_at 66 = .ok (.iconst 1, 1) := by decide +kernel
theorem dX9_at_67 : decode cX9_at 67 = .ok (.goto 13, 3) := by decide +kernel
theorem dX9_at_70 : decode cX9_at 70 = .ok (.iload_n 2, 1) := by decide +kernel
theorem dX9_at_71 : decode cX9_at 71 = .ok (.iconst 4, 1) := by decide +kernel
theorem dX9_at_72 : decode cX9_at 72 = .ok (.if_icmp .ne 7, 3) := by decide +kernel
theorem dX9_at_75 : decode cX9_at 75 = .ok (.iconst 3, 1) := by decide +kernel
theorem dX9_at_76 : decode cX9_at 76 = .ok (.goto 4, 3) := by decide +kernel
theorem dX9_at_79 : decode cX9_at 79 = .ok (.iconst 2, 1) := by decide +kernel
theorem dX9_at_80 : decode cX9_at 80 = .ok (.invokevirtual 162, 3) := by decide +kernel
theorem dX9_at_83 : decode cX9_at 83 = .ok (.ireturn, 1) := by decide +kernel
theorem dX9_on_0 : decode cX9_on 0 = .ok (.iload_n 1, 1) := by decide +kernel
theorem dX9_on_1 : decode cX9_on 1 = .ok (.iconst 0, 1) := by decide +kernel
theorem dX9_on_2 : decode cX9_on 2 = .ok (.bipush 15, 2) := by decide +kernel
theorem dX9_on_4 : decode cX9_on 4 = .ok (.invokestatic 147, 3) := by decide +kernel
theorem dX9_on_7 : decode cX9_on 7 = .ok (.ifCond .ne 5, 3) := by decide +kernel
theorem dX9_on_10 : decode cX9_on 10 = .ok (.iconst (-1), 1) := by decide +kernel
theorem dX9_on_11 : decode cX9_on 11 = .ok (.ireturn, 1) := by decide +kernel
theorem dX9_on_12 : decode cX9_on 12 = .ok (.aload_n 0, 1) := by decide +kernel
theorem dX9_on_13 : decode cX9_on 13 = .ok (.invokevirtual 255, 3) := by decide +kernel
theorem dX9_on_16 : decode cX9_on 16 = .ok (.aload_n 0, 1) := by decide +kernel
theorem dX9_on_17 : decode cX9_on 17 = .ok (.getfield 67, 3) := by decide +kernel
theorem dX9_on_20 : decode cX9_on 20 = .ok (.iload_n 1, 1) := by decide +kernel
theorem dX9_on_21 : decode cX9_on 21 = .ok (.iaload, 1) := by decide +kernel
theorem dX9_on_22 : decode cX9_on 22 = .ok (.ireturn, 1) := by decide +kernel
theorem dX9_meant_0 : decode cX9_meant 0 = .ok (.iload_n 1, 1) := by decide +kernel
theorem dX9_meant_1 : decode cX9_meant 1 = .ok (.iconst 0, 1) := by decide +kernel
theorem dX9_meant_2 : decode cX9_meant 2 = .ok (.bipush 8, 2) := by decide +kernel
theorem dX9_meant_4 : decode cX9_meant 4 = .ok (.invokestatic 147, 3) := by decide +kernel
theorem dX9_meant_7 : decode cX9_meant 7 = .ok (.ifCond .ne 5, 3) := by decide +kernel
theorem dX9_meant_10 : decode cX9_meant 10 = .ok (.iconst (-1), 1) := by decide +kernel
theorem dX9_meant_11 : decode cX9_meant 11 = .ok (.ireturn, 1) := by decide +kernel
theorem dX9_meant_12 : decode cX9_meant 12 = .ok (.aload_n 0, 1) := by decide +kernel
theorem dX9_meant_13 : decode cX9_meant 13 = .ok (.invokevirtual 255, 3) := by decide +kernel
theorem dX9_meant_16 : decode cX9_meant 16 = .ok (.aload_n 0, 1) := by decide +kernel
theorem dX9_meant_17 : decode cX9_meant 17 = .ok (.iload_n 1, 1) := by decide +kernel
theorem dX9_meant_18 : decode cX9_meant 18 = .ok (.invokevirtual 196, 3) := by decide +kernel
theorem dX9_meant_21 : decode cX9_meant 21 = .ok (.ireturn, 1) := by decide +kernel
theorem dX9_count_0 : decode cX9_count 0 = .ok (.iload_n 1, 1) := by decide +kernel
theorem dX9_count_1 : decode cX9_count 1 = .ok (.iconst 0, 1) := by decide +kernel
theorem dX9_count_2 : decode cX9_count 2 = .ok (.iconst 2, 1) := by decide +kernel
theorem dX9_count_3 : decode cX9_count 3 = .ok (.invokestatic 147, 3) := by decide +kernel
theorem dX9_count_6 : decode cX9_count 6 = .ok (.ifCond .ne 5, 3) := by decide +kernel
theorem dX9_count_9 : decode cX9_count 9 = .ok (.iconst (-1), 1) := by decide +kernel
theorem dX9_count_10 : decode cX9_count 10 = .ok (.ireturn, 1) := by decide +kernel
theorem dX9_count_11 : decode cX9_count 11 = .ok (.aload_n 0, 1) := by decide +kernel
theorem dX9_count_12 : decode cX9_count 12 = .ok (.invokevirtual 255, 3) := by decide +kernel
theorem dX9_count_15 : decode cX9_count 15 = .ok (.iconst 0, 1) := by decide +kernel
theorem dX9_count_16 : decode cX9_count 16 = .ok (.istore_n 2, 1) := by decide +kernel
theorem dX9_count_17 : decode cX9_count 17 = .ok (.iconst 0, 1) := by decide +kernel
theorem dX9_count_18 : decode cX9_count 18 = .ok (.istore_n 3, 1) := by decide +kernel
theorem dX9_count_19 : decode cX9_count 19 = .ok (.iload_n 3, 1) := by decide +kernel
theorem dX9_count_20 : decode cX9_count 20 = .ok (.bipush 8, 2) := by decide +kernel
theorem dX9_count_22 : decode cX9_count 22 = .ok (.if_icmp .ge 100, 3) := by decide +kernel
theorem dX9_count_25 : decode cX9_count 25 = .ok (.iload_n 1, 1) := by decide +kernel
theorem dX9_count_26 : decode cX9_count 26 = .ok (.iconst 2, 1) := by decide +kernel
theorem dX9_count_27 : decode cX9_count 27 = .ok (.if_icmp .ge 46, 3) := by decide +kernel
theorem dX9_count_30 : decode cX9_count 30 = .ok (.iload_n 2, 1) := by decide +kernel
theorem dX9_count_31 : decode cX9_count 31 = .ok (.aload_n 0, 1) := by decide +kernel
theorem dX9_count_32 : decode cX9_count 32 = .ok (.getfield 60, 3) := by decide +kernel
theorem dX9_count_35 : decode cX9_count 35 = .ok (.iload_n 3, 1) := by decide +kernel
theorem dX9_count_36 : decode cX9_count 36 = .ok (.iaload, 1) := by decide +kernel
theorem dX9_count_37 : decode cX9_count 37 = .ok (.getstatic 130, 3) := by decide +kernel
theorem dX9_count_40 : decode cX9_count 40 = .ok (.iload_n 3, 1) := by decide +kernel
theorem dX9_count_41 : decode cX9_count 41 = .ok (.iaload, 1) := by decide +kernel
theorem dX9_count_42 : decode cX9_count 42 = .ok (.if_icmp .ne 25, 3) := by decide +kernel
theorem dX9_count_45 : decode cX9_count 45 = .ok (.iload_n 1, 1) := by decide +kernel
theorem dX9_count_46 : decode cX9_count 46 = .ok (.ifCond .eq 17, 3) := by decide +kernel
theorem dX9_count_49 : decode cX9_count 49 = .ok (.aload_n 0, 1) := by decide +kernel
theorem dX9_count_50 : decode cX9_count 50 = .ok (.getfield 64, 3) := by decide +kernel
theorem dX9_count_53 : decode cX9_count 53 = .ok (.iload_n 3, 1) := by decide +kernel
theorem dX9_count_54 : decode cX9_count 54 = .ok (.iaload, 1) := by decide +kernel
theorem dX9_count_55 : decode cX9_count 55 = .ok (.getstatic 133, 3) := by decide +kernel
theorem dX9_count_58 : decode cX9_count 58 = .ok (.iload_n 3, 1) := by decide +kernel
theorem dX9_count_59 : decode cX9_count 59 = .ok (.iaload, 1) := by decide +kernel
theorem dX9_count_60 : decode cX9_count 60 = .ok (.if_icmp .ne 7, 3) := by decide +kernel
theorem dX9_count_63 : decode cX9_count 63 = .ok (.iconst 1, 1) := by decide +kernel
theorem dX9_count_64 : decode cX9_count 64 = .ok (.goto 4, 3) := by decide +kernel
theorem dX9_count_67 : decode cX9_count 67 = .ok (.iconst 0, 1) := by decide +kernel
theorem dX9_count_68 : decode cX9_count 68 = .ok (.iadd, 1) := by decide +kernel
theorem dX9_count_69 : decode cX9_count 69 = .ok (.istore_n 2, 1) := by decide +kernel
theorem dX9_count_70 : decode cX9_count 70 = .ok (.goto 46, 3) := by decide +kernel
theorem dX9_count_73 : decode cX9_count 73 = .ok (.iload_n 2, 1) := by decide +kernel
theorem dX9_count_74 : decode cX9_count 74 = .ok (.iload_n 3, 1) := by decide +kernel
theorem dX9_count_75 : decode cX9_count 75 = .ok (.iconst 2, 1) := by decide +kernel
theorem dX9_count_76 : decode cX9_count 76 = .ok (.irem, 1) := by decide +kernel
theorem dX9_count_77 : decode cX9_count 77 = .ok (.ifCond .ne 36, 3) := by decide +kernel
theorem dX9_count_80 : decode cX9_count 80 = .ok (.aload_n 0, 1) := by decide +kernel
theorem dX9_count_81 : decode cX9_count 81 = .ok (.iload_n 3, 1) := by decide +kernel
theorem dX9_count_82 : decode cX9_count 82 = .ok (.iconst 1, 1) := by decide +kernel
theorem dX9_count_83 : decode cX9_count 83 = .ok (.invokevirtual 162, 3) := by decide +kernel
theorem dX9_count_86 : decode cX9_count 86 = .ok (.iload_n 3, 1) := by decide +kernel
theorem dX9_count_87 : decode cX9_count 87 = .ok (.iconst 1, 1) := by decide +kernel
theorem dX9_count_88 : decode cX9_count 88 = .ok (.iadd, 1) := by decide +kernel
theorem dX9_count_89 : decode cX9_count 89 = .ok (.if_icmp .ne 24, 3) := by decide +kernel
theorem dX9_count_92 : decode cX9_count 92 = .ok (.aload_n 0, 1) := by decide +kernel
theorem dX9_count_93 : decode cX9_count 93 = .ok (.getfield 64, 3) := by decide +kernel
theorem dX9_count_96 : decode cX9_count 96 = .ok (.iload_n 3, 1) := by decide +kernel
theorem dX9_count_97 : decode cX9_count 97 = .ok (.iconst 1, 1) := by decide +kernel
theorem dX9_count_98 : decode cX9_count 98 = .ok (.iadd, 1) := by decide +kernel
theorem dX9_count_99 : decode cX9_count 99 = .ok (.iaload, 1) := by decide +kernel
theorem dX9_count_100 : decode cX9_count 100 = .ok (.aload_n 0, 1) := by decide +kernel
theorem dX9_count_101 : decode cX9_count 101 = .ok (.getfield 64, 3) := by decide +kernel
theorem dX9_count_104 : decode cX9_count 104 = .ok (.iload_n 3, 1) := by decide +kernel
theorem dX9_count_105 : decode cX9_count 105 = .ok (.iaload, 1) := by decide +kernel
theorem dX9_count_106 : decode cX9_count 106 = .ok (.if_icmp .ne 7, 3) := by decide +kernel
theorem dX9_count_109 : decode cX9_count 109 = .ok (.iconst 1, 1) := by decide +kernel
theorem dX9_count_110 : decode cX9_count 110 = .ok (.goto 4, 3) := by decide +kernel
theorem dX9_count_113 : decode cX9_count 113 = .ok (.iconst 0, 1) := by decide +kernel
theorem dX9_count_114 : decode cX9_count 114 = .ok (.iadd, 1) := by decide +kernel
theorem dX9_count_115 : decode cX9_count 115 = .ok (.istore_n 2, 1) := by decide +kernel
theorem dX9_count_116 : decode cX9_count 116 = .ok (.iinc 3 1, 3) := by decide +kernel
theorem dX9_count_119 : decode cX9_count 119 = .ok (.goto (-100), 3) := by decide +kernel
theorem dX9_count_122 : decode cX9_count 122 = .ok (.iload_n 2, 1) := by decide +kernel
theorem dX9_count_123 : decode cX9_count 123 = .ok (.ireturn, 1) := by decide +kernel
theorem dX9_searches_0 : decode cX9_searches 0 = .ok (.aload_n 0, 1) := by decide +kernel
theorem dX9_searches_1 : decode cX9_searches 1 = .ok (.getfield 115, 3) := by decide +kernel
theorem dX9_searches_4 : decode cX9_searches 4 = .ok (.iconst 0, 1) := by decide +kernel
theorem dX9_searches_5 : decode cX9_searches 5 = .ok (.aload_n 0, 1) := by decide +kernel
theorem dX9_searches_6 : decode cX9_searches 6 = .ok (.getfield 89, 3) := by decide +kernel
theorem dX9_searches_9 : decode cX9_searches 9 = .ok (.aload_n 0, 1) := by decide +kernel
theorem dX9_searches_10 : decode cX9_searches 10 = .ok (.getfield 144, 3) := by decide +kernel
theorem dX9_searches_13 : decode cX9_searches 13 = .ok (.laload, 1) := by decide +kernel
theorem dX9_searches_14 : decode cX9_searches 14 = .ok (.lastore, 1) := by decide +kernel
theorem dX9_searches_15 : decode cX9_searches 15 = .ok (.aload_n 0, 1) := by decide +kernel
theorem dX9_searches_16 : decode cX9_searches 16 = .ok (.getfield 115, 3) := by decide +kernel
theorem dX9_searches_19 : decode cX9_searches 19 = .ok (.iconst 0, 1) := by decide +kernel
theorem dX9_searches_20 : decode cX9_searches 20 = .ok (.laload, 1) := by decide +kernel
theorem dX9_searches_21 : decode cX9_searches 21 = .ok (.aload_n 0, 1) := by decide +kernel
theorem dX9_searches_22 : decode cX9_searches 22 = .ok (.getfield 89, 3) := by decide +kernel
theorem dX9_searches_25 : decode cX9_searches 25 = .ok (.iconst 0, 1) := by decide +kernel
theorem dX9_searches_26 : decode cX9_searches 26 = .ok (.laload, 1) := by decide +kernel
theorem dX9_searches_27 : decode cX9_searches 27 = .ok (.lcmp, 1) := by decide +kernel
theorem dX9_searches_28 : decode cX9_searches 28 = .ok (.ifCond .ne 5, 3) := by decide +kernel
theorem dX9_searches_31 : decode cX9_searches 31 = .ok (.iconst 0, 1) := by decide +kernel
theorem dX9_searches_32 : decode cX9_searches 32 = .ok (.ireturn, 1) := by decide +kernel
theorem dX9_searches_33 : decode cX9_searches 33 = .ok (.iconst 1, 1) := by decide +kernel
theorem dX9_searches_34 : decode cX9_searches 34 = .ok (.istore_n 1, 1) := by decide +kernel
theorem dX9_searches_35 : decode cX9_searches 35 = .ok (.iconst 0, 1) := by decide +kernel
theorem dX9_searches_36 : decode cX9_searches 36 = .ok (.istore_n 2, 1) := by decide +kernel
theorem dX9_searches_37 : decode cX9_searches 37 = .ok (.iload_n 2, 1) := by decide +kernel
theorem dX9_searches_38 : decode cX9_searches 38 = .ok (.iload_n 1, 1) := by decide +kernel
theorem dX9_searches_39 : decode cX9_searches 39 = .ok (.if_icmp .ge 180, 3) := by decide +kernel
theorem dX9_searches_42 : decode cX9_searches 42 = .ok (.iconst 0, 1) := by decide +kernel
theorem dX9_searches_43 : decode cX9_searches 43 = .ok (.istore_n 3, 1) := by decide +kernel
theorem dX9_searches_44 : decode cX9_searches 44 = .ok (.iload_n 3, 1) := by decide +kernel
theorem dX9_searches_45 : decode cX9_searches 45 = .ok (.bipush 108, 2) := by decide +kernel
theorem dX9_searches_47 : decode cX9_searches 47 = .ok (.if_icmp .ge 166, 3) := by decide +kernel
theorem dX9_searches_50 : decode cX9_searches 50 = .ok (.aload_n 0, 1) := by decide +kernel
theorem dX9_searches_51 : decode cX9_searches 51 = .ok (.aload_n 0, 1) := by decide +kernel
theorem dX9_searches_52 : decode cX9_searches 52 = .ok (.getfield 115, 3) := by decide +kernel
theorem dX9_searches_55 : decode cX9_searches 55 = .ok (.iload_n 2, 1) := by decide +kernel
theorem dX9_searches_56 : decode cX9_searches 56 = .ok (.laload, 1) := by decide +kernel
theorem dX9_searches_57 : decode cX9_searches 57 = .ok (.invokevirtual 140, 3) := by decide +kernel
theorem dX9_searches_60 : decode cX9_searches 60 = .ok (.aload_n 0, 1) := by decide +kernel
theorem dX9_searches_61 : decode cX9_searches 61 = .ok (.iload_n 3, 1) := by decide +kernel
theorem dX9_searches_62 : decode cX9_searches 62 = .ok (.bipush 12, 2) := by decide +kernel
theorem dX9_searches_64 : decode cX9_searches 64 = .ok (.idiv, 1) := by decide +kernel
theorem dX9_searches_65 : decode cX9_searches 65 = .ok (.iload_n 3, 1) := by decide +kernel
theorem dX9_searches_66 : decode cX9_searches 66 = .ok (.bipush 12, 2) := by decide +kernel
theorem dX9_searches_68 : decode cX9_searches 68 = .ok (.irem, 1) := by decide +kernel
theorem dX9_searches_69 : decode cX9_searches 69 = .ok (.invokevirtual 268, 3) := by decide +kernel
theorem dX9_searches_72 : decode cX9_searches 72 = .ok (.ifCond .ne 6, 3) := by decide +kernel
theorem dX9_searches_75 : decode cX9_searches 75 = .ok (.goto 132, 3) := by decide +kernel
theorem dX9_searches_78 : decode cX9_searches 78 = .ok (.aload_n 0, 1) := by decide +kernel
theorem dX9_searches_79 : decode cX9_searches 79 = .ok (.invokevirtual 249, 3) := by decide +kernel
theorem dX9_searches_82 : decode cX9_searches 82 = .ok (.lstore 4, 2) := by decide +kernel
theorem dX9_searches_84 : decode cX9_searches 84 = .ok (.iconst 1, 1) := by decide +kernel
theorem dX9_searches_85 : decode cX9_searches 85 = .ok (.istore 6, 2) := by decide +kernel
theorem dX9_searches_87 : decode cX9_searches 87 = .ok (.iconst 0, 1) := by decide +kernel
theorem dX9_searches_88 : decode cX9_searches 88 = .ok (.istore 7, 2) := by decide +kernel
theorem dX9_searches_90 : decode cX9_searches 90 = .ok (.iload 7, 2) := by decide +kernel
theorem dX9_searches_92 : decode cX9_searches 92 = .ok (.iload_n 1, 1) := by decide +kernel
theorem dX9_searches_93 : decode cX9_searches 93 = .ok (.if_icmp .ge 34, 3) := by decide +kernel
theorem dX9_searches_96 : decode cX9_searches 96 = .ok (.iload 6, 2) := by decide +kernel
theorem dX9_searches_98 : decode cX9_searches 98 = .ok (.ifCond .eq 29, 3) := by decide +kernel
theorem dX9_searches_101 : decode cX9_searches 101 = .ok (.aload_n 0, 1) := by decide +kernel
theorem dX9_searches_102 : decode cX9_searches 102 = .ok (.getfield 115, 3) := by decide +kernel
theorem dX9_searches_105 : decode cX9_searches 105 = .ok (.iload 7, 2) := by decide +kernel
theorem dX9_searches_107 : decode cX9_searches 107 = .ok (.laload, 1) := by decide +kernel
theorem dX9_searches_108 : decode cX9_searches 108 = .ok (.lload 4, 2) := by decide +kernel
theorem dX9_searches_110 : decode cX9_searches 110 = .ok (.lcmp, 1) := by decide +kernel
theorem dX9_searches_111 : decode cX9_searches 111 = .ok (.ifCond .eq 7, 3) := by decide +kernel
theorem dX9_searches_114 : decode cX9_searches 114 = .ok (.iconst 1, 1) := by decide +kernel
theorem dX9_searches_115 : decode cX9_searches 115 = .ok (.goto 4, 3) := by decide +kernel
theorem dX9_searches_118 : decode cX9_searches 118 = .ok (.iconst 0, 1) := by decide +kernel
theorem dX9_searches_119 : decode cX9_searches 119 = .ok (.istore 6, 2) := by decide +kernel
theorem dX9_searches_121 : decode cX9_searches 121 = .ok (.iinc 7 1, 3) := by decide +kernel
theorem dX9_searches_124 : decode cX9_searches 124 = .ok (.goto (-34), 3) := by decide +kernel
theorem dX9_searches_127 : decode cX9_searches 127 = .ok (.iload 6, 2) := by decide +kernel
theorem dX9_searches_129 : decode cX9_searches 129 = .ok (.ifCond .ne 6, 3) := by decide +kernel
theorem dX9_searches_132 : decode cX9_searches 132 = .ok (.goto 75, 3) := by decide +kernel
theorem dX9_searches_135 : decode cX9_searches 135 = .ok (.iload_n 1, 1) := by decide +kernel
theorem dX9_searches_136 : decode cX9_searches 136 = .ok (.sipush 250, 3) := by decide +kernel
theorem dX9_searches_139 : decode cX9_searches 139 = .ok (.if_icmp .ne 18, 3) := by decide +kernel
theorem dX9_searches_142 : decode cX9_searches 142 = .ok (.lload 4, 2) := by decide +kernel
theorem dX9_searches_144 : decode cX9_searches 144 = .ok (.aload_n 0, 1) := by decide +kernel
theorem dX9_searches_145 : decode cX9_searches 145 = .ok (.getfield 89, 3) := by decide +kernel
theorem dX9_searches_148 : decode cX9_searches 148 = .ok (.iconst 0, 1) := by decide +kernel
theorem dX9_searches_149 : decode cX9_searches 149 = .ok (.laload, 1) := by decide +kernel
theorem dX9_searches_150 : decode cX9_searches 150 = .ok (.lcmp, 1) := by decide +kernel
theorem dX9_searches_151 : decode cX9_searches 151 = .ok (.ifCond .eq 6, 3) := by decide +kernel
theorem dX9_searches_154 : decode cX9_searches 154 = .ok (.bipush (-7), 2) := by decide +kernel
theorem dX9_searches_156 : decode cX9_searches 156 = .ok (.ireturn, 1) := by decide +kernel
theorem dX9_searches_157 : decode cX9_searches 157 = .ok (.aload_n 0, 1) := by decide +kernel
theorem dX9_searches_158 : decode cX9_searches 158 = .ok (.getfield 115, 3) := by decide +kernel
theorem dX9_searches_161 : decode cX9_searches 161 = .ok (.iload_n 1, 1) := by decide +kernel
theorem dX9_searches_162 : decode cX9_searches 162 = .ok (.lload 4, 2) := by decide +kernel
theorem dX9_searches_164 : decode cX9_searches 164 = .ok (.lastore, 1) := by decide +kernel
theorem dX9_searches_165 : decode cX9_searches 165 = .ok (.aload_n 0, 1) := by decide +kernel
theorem dX9_searches_166 : decode cX9_searches 166 = .ok (.getfield 118, 3) := by decide +kernel
theorem dX9_searches_169 : decode cX9_searches 169 = .ok (.iload_n 1, 1) := by decide +kernel
theorem dX9_searches_170 : decode cX9_searches 170 = .ok (.iload_n 2, 1) := by decide +kernel
theorem dX9_searches_171 : decode cX9_searches 171 = .ok (.iastore, 1) := by decide +kernel
theorem dX9_searches_172 : decode cX9_searches 172 = .ok (.aload_n 0, 1) := by decide +kernel
theorem dX9_searches_173 : decode cX9_searches 173 = .ok (.getfield 121, 3) := by decide +kernel
theorem dX9_searches_176 : decode cX9_searches 176 = .ok (.iload_n 1, 1) := by decide +kernel
theorem dX9_searches_177 : decode cX9_searches 177 = .ok (.bipush 100, 2) := by decide +kernel
theorem dX9_searches_179 : decode cX9_searches 179 = .ok (.iload_n 3, 1) := by decide +kernel
theorem dX9_searches_180 : decode cX9_searches 180 = .ok (.bipush 12, 2) := by decide +kernel
theorem dX9_searches_182 : decode cX9_searches 182 = .ok (.idiv, 1) := by decide +kernel
theorem dX9_searches_183 : decode cX9_searches 183 = .ok (.imul, 1) := by decide +kernel
theorem dX9_searches_184 : decode cX9_searches 184 = .ok (.iload_n 3, 1) := by decide +kernel
theorem dX9_searches_185 : decode cX9_searches 185 = .ok (.bipush 12, 2) := by decide +kernel
theorem dX9_searches_187 : decode cX9_searches 187 = .ok (.irem, 1) := by decide +kernel
theorem dX9_searches_188 : decode cX9_searches 188 = .ok (.iadd, 1) := by decide +kernel
theorem dX9_searches_189 : decode cX9_searches 189 = .ok (.iastore, 1) := by decide +kernel
theorem dX9_searches_190 : decode cX9_searches 190 = .ok (.lload 4, 2) := by decide +kernel
theorem dX9_searches_192 : decode cX9_searches 192 = .ok (.aload_n 0, 1) := by decide +kernel
theorem dX9_searches_193 : decode cX9_searches 193 = .ok (.getfield 89, 3) := by decide +kernel
theorem dX9_searches_196 : decode cX9_searches 196 = .ok (.iconst 0, 1) := by decide +kernel
theorem dX9_searches_197 : decode cX9_searches 197 = .ok (.laload, 1) := by decide +kernel
theorem dX9_searches_198 : decode cX9_searches 198 = .ok (.lcmp, 1) := by decide +kernel
theorem dX9_searches_199 : decode cX9_searches 199 = .ok (.ifCond .ne 5, 3) := by decide +kernel
theorem dX9_searches_202 : decode cX9_searches 202 = .ok (.iload_n 1, 1) := by decide +kernel
theorem dX9_searches_203 : decode cX9_searches 203 = .ok (.ireturn, 1) := by decide +kernel
theorem dX9_searches_204 : decode cX9_searches 204 = .ok (.iinc 1 1, 3) := by decide +kernel
theorem dX9_searches_207 : decode cX9_searches 207 = .ok (.iinc 3 1, 3) := by decide +kernel
theorem dX9_searches_210 : decode cX9_searches 210 = .ok (.goto (-166), 3) := by decide +kernel
theorem dX9_searches_213 : decode cX9_searches 213 = .ok (.iinc 2 1, 3) := by decide +kernel
theorem dX9_searches_216 : decode cX9_searches 216 = .ok (.goto (-179), 3) := by decide +kernel
theorem dX9_searches_219 : decode cX9_searches 219 = .ok (.bipush (-5), 2) := by decide +kernel
theorem dX9_searches_221 : decode cX9_searches 221 = .ok (.ireturn, 1) := by decide +kernel
theorem dX9_way_0 : decode cX9_way 0 = .ok (.iload_n 1, 1) := by decide +kernel
theorem dX9_way_1 : decode cX9_way 1 = .ok (.iconst (-1), 1) := by decide +kernel
theorem dX9_way_2 : decode cX9_way 2 = .ok (.if_icmp .ge 5, 3) := by decide +kernel
theorem dX9_way_5 : decode cX9_way 5 = .ok (.iconst (-1), 1) := by decide +kernel
theorem dX9_way_6 : decode cX9_way 6 = .ok (.ireturn, 1) := by decide +kernel
theorem dX9_way_7 : decode cX9_way 7 = .ok (.aload_n 0, 1) := by decide +kernel
theorem dX9_way_8 : decode cX9_way 8 = .ok (.invokevirtual 274, 3) := by decide +kernel
theorem dX9_way_11 : decode cX9_way 11 = .ok (.istore_n 2, 1) := by decide +kernel
theorem dX9_way_12 : decode cX9_way 12 = .ok (.iload_n 2, 1) := by decide +kernel
theorem dX9_way_13 : decode cX9_way 13 = .ok (.ifCond .ge 17, 3) := by decide +kernel
theorem dX9_way_16 : decode cX9_way 16 = .ok (.iload_n 2, 1) := by decide +kernel
theorem dX9_way_17 : decode cX9_way 17 = .ok (.bipush (-7), 2) := by decide +kernel
theorem dX9_way_19 : decode cX9_way 19 = .ok (.if_icmp .ne 8, 3) := by decide +kernel
theorem dX9_way_22 : decode cX9_way 22 = .ok (.bipush (-7), 2) := by decide +kernel
theorem dX9_way_24 : decode cX9_way 24 = .ok (.goto 5, 3) := by decide +kernel
theorem dX9_way_27 : decode cX9_way 27 = .ok (.bipush (-2), 2) := by decide +kernel
theorem dX9_way_29 : decode cX9_way 29 = .ok (.ireturn, 1) := by decide +kernel
theorem dX9_way_30 : decode cX9_way 30 = .ok (.iconst 0, 1) := by decide +kernel
theorem dX9_way_31 : decode cX9_way 31 = .ok (.istore_n 3, 1) := by decide +kernel
theorem dX9_way_32 : decode cX9_way 32 = .ok (.iload_n 2, 1) := by decide +kernel
theorem dX9_way_33 : decode cX9_way 33 = .ok (.istore 4, 2) := by decide +kernel
theorem dX9_way_35 : decode cX9_way 35 = .ok (.iload 4, 2) := by decide +kernel
theorem dX9_way_37 : decode cX9_way 37 = .ok (.ifCond .le 31, 3) := by decide +kernel
theorem dX9_way_40 : decode cX9_way 40 = .ok (.aload_n 0, 1) := by decide +kernel
theorem dX9_way_41 : decode cX9_way 41 = .ok (.getfield 124, 3) := by decide +kernel
theorem dX9_way_44 : decode cX9_way 44 = .ok (.iload_n 3, 1) := by decide +kernel
theorem dX9_way_45 : decode cX9_way 45 = .ok (.aload_n 0, 1) := by decide +kernel
theorem dX9_way_46 : decode cX9_way 46 = .ok (.getfield 121, 3) := by decide +kernel
theorem dX9_way_49 : decode cX9_way 49 = .ok (.iload 4, 2) := by decide +kernel
theorem dX9_way_51 : decode cX9_way 51 = .ok (.iaload, 1) := by decide +kernel
theorem dX9_way_52 : decode cX9_way 52 = .ok (.iastore, 1) := by decide +kernel
theorem dX9_way_53 : decode cX9_way 53 = .ok (.iinc 3 1, 3) := by decide +kernel
theorem dX9_way_56 : decode cX9_way 56 = .ok (.aload_n 0, 1) := by decide +kernel
theorem dX9_way_57 : decode cX9_way 57 = .ok (.getfield 118, 3) := by decide +kernel
theorem dX9_way_60 : decode cX9_way 60 = .ok (.iload 4, 2) := by decide +kernel
theorem dX9_way_62 : decode cX9_way 62 = .ok (.iaload, 1) := by decide +kernel
theorem dX9_way_63 : decode cX9_way 63 = .ok (.istore 4, 2) := by decide +kernel
theorem dX9_way_65 : decode cX9_way 65 = .ok (.goto (-30), 3) := by decide +kernel
theorem dX9_way_68 : decode cX9_way 68 = .ok (.iload_n 1, 1) := by decide +kernel
theorem dX9_way_69 : decode cX9_way 69 = .ok (.ifCond .ge 7, 3) := by decide +kernel
theorem dX9_way_72 : decode cX9_way 72 = .ok (.iload_n 3, 1) := by decide +kernel
theorem dX9_way_73 : decode cX9_way 73 = .ok (.goto 23, 3) := by decide +kernel
theorem dX9_way_76 : decode cX9_way 76 = .ok (.iload_n 1, 1) := by decide +kernel
theorem dX9_way_77 : decode cX9_way 77 = .ok (.iload_n 3, 1) := by decide +kernel
theorem dX9_way_78 : decode cX9_way 78 = .ok (.if_icmp .ge 16, 3) := by decide +kernel
theorem dX9_way_81 : decode cX9_way 81 = .ok (.aload_n 0, 1) := by decide +kernel
theorem dX9_way_82 : decode cX9_way 82 = .ok (.getfield 124, 3) := by decide +kernel
theorem dX9_way_85 : decode cX9_way 85 = .ok (.iload_n 3, 1) := by decide +kernel
theorem dX9_way_86 : decode cX9_way 86 = .ok (.iconst 1, 1) := by decide +kernel
theorem dX9_way_87 : decode cX9_way 87 = .ok (.isub, 1) := by decide +kernel
theorem dX9_way_88 : decode cX9_way 88 = .ok (.iload_n 1, 1) := by decide +kernel
theorem dX9_way_89 : decode cX9_way 89 = .ok (.isub, 1) := by decide +kernel
theorem dX9_way_90 : decode cX9_way 90 = .ok (.iaload, 1) := by decide +kernel
theorem dX9_way_91 : decode cX9_way 91 = .ok (.goto 5, 3) := by decide +kernel
theorem dX9_way_94 : decode cX9_way 94 = .ok (.bipush (-2), 2) := by decide +kernel
theorem dX9_way_96 : decode cX9_way 96 = .ok (.ireturn, 1) := by decide +kernel
theorem dX9_round_0 : decode cX9_round 0 = .ok (.aload_n 0, 1) := by decide +kernel
theorem dX9_round_1 : decode cX9_round 1 = .ok (.invokevirtual 258, 3) := by decide +kernel
theorem dX9_round_4 : decode cX9_round 4 = .ok (.ifCond .ne 11, 3) := by decide +kernel
theorem dX9_round_7 : decode cX9_round 7 = .ok (.bipush (-100), 2) := by decide +kernel
theorem dX9_round_9 : decode cX9_round 9 = .ok (.aload_n 0, 1) := by decide +kernel
theorem dX9_round_10 : decode cX9_round 10 = .ok (.getfield 222, 3) := by decide +kernel
theorem dX9_round_13 : decode cX9_round 13 = .ok (.isub, 1) := by decide +kernel
theorem dX9_round_14 : decode cX9_round 14 = .ok (.ireturn, 1) := by decide +kernel
theorem dX9_round_15 : decode cX9_round 15 = .ok (.aload_n 0, 1) := by decide +kernel
theorem dX9_round_16 : decode cX9_round 16 = .ok (.invokevirtual 255, 3) := by decide +kernel
theorem dX9_round_19 : decode cX9_round 19 = .ok (.iconst 1, 1) := by decide +kernel
theorem dX9_round_20 : decode cX9_round 20 = .ok (.istore_n 1, 1) := by decide +kernel
theorem dX9_round_21 : decode cX9_round 21 = .ok (.iload_n 1, 1) := by decide +kernel
theorem dX9_round_22 : decode cX9_round 22 = .ok (.bipush 100, 2) := by decide +kernel
theorem dX9_round_24 : decode cX9_round 24 = .ok (.if_icmp .gt 80, 3) := by decide +kernel
theorem dX9_round_27 : decode cX9_round 27 = .ok (.iconst 0, 1) := by decide +kernel
theorem dX9_round_28 : decode cX9_round 28 = .ok (.istore_n 2, 1) := by decide +kernel
theorem dX9_round_29 : decode cX9_round 29 = .ok (.iload_n 2, 1) := by decide +kernel
theorem dX9_round_30 : decode cX9_round 30 = .ok (.aload_n 0, 1) := by decide +kernel
theorem dX9_round_31 : decode cX9_round 31 = .ok (.getfield 239, 3) := by decide +kernel
theorem dX9_round_34 : decode cX9_round 34 = .ok (.if_icmp .ge 45, 3) := by decide +kernel
theorem dX9_round_37 : decode cX9_round 37 = .ok (.aload_n 0, 1) := by decide +kernel
theorem dX9_round_38 : decode cX9_round 38 = .ok (.aload_n 0, 1) := by decide +kernel
theorem dX9_round_39 : decode cX9_round 39 = .ok (.getfield 112, 3) := by decide +kernel
theorem dX9_round_42 : decode cX9_round 42 = .ok (.iload_n 2, 1) := by decide +kernel
theorem dX9_round_43 : decode cX9_round 43 = .ok (.iaload, 1) := by decide +kernel
theorem dX9_round_44 : decode cX9_round 44 = .ok (.bipush 100, 2) := by decide +kernel
theorem dX9_round_46 : decode cX9_round 46 = .ok (.idiv, 1) := by decide +kernel
theorem dX9_round_47 : decode cX9_round 47 = .ok (.aload_n 0, 1) := by decide +kernel
theorem dX9_round_48 : decode cX9_round 48 = .ok (.getfield 112, 3) := by decide +kernel
theorem dX9_round_51 : decode cX9_round 51 = .ok (.iload_n 2, 1) := by decide +kernel
theorem dX9_round_52 : decode cX9_round 52 = .ok (.iaload, 1) := by decide +kernel
theorem dX9_round_53 : decode cX9_round 53 = .ok (.bipush 100, 2) := by decide +kernel
theorem dX9_round_55 : decode cX9_round 55 = .ok (.irem, 1) := by decide +kernel
theorem dX9_round_56 : decode cX9_round 56 = .ok (.invokevirtual 268, 3) := by decide +kernel
theorem dX9_round_59 : decode cX9_round 59 = .ok (.ifCond .ne 6, 3) := by decide +kernel
theorem dX9_round_62 : decode cX9_round 62 = .ok (.bipush (-2), 2) := by decide +kernel
theorem dX9_round_64 : decode cX9_round 64 = .ok (.ireturn, 1) := by decide +kernel
theorem dX9_round_65 : decode cX9_round 65 = .ok (.aload_n 0, 1) := by decide +kernel
theorem dX9_round_66 : decode cX9_round 66 = .ok (.aload_n 0, 1) := by decide +kernel
theorem dX9_round_67 : decode cX9_round 67 = .ok (.invokevirtual 249, 3) := by decide +kernel
theorem dX9_round_70 : decode cX9_round 70 = .ok (.invokevirtual 140, 3) := by decide +kernel
theorem dX9_round_73 : decode cX9_round 73 = .ok (.iinc 2 1, 3) := by decide +kernel
theorem dX9_round_76 : decode cX9_round 76 = .ok (.goto (-47), 3) := by decide +kernel
theorem dX9_round_79 : decode cX9_round 79 = .ok (.aload_n 0, 1) := by decide +kernel
theorem dX9_round_80 : decode cX9_round 80 = .ok (.invokevirtual 136, 3) := by decide +kernel
theorem dX9_round_83 : decode cX9_round 83 = .ok (.aload_n 0, 1) := by decide +kernel
theorem dX9_round_84 : decode cX9_round 84 = .ok (.getfield 89, 3) := by decide +kernel
theorem dX9_round_87 : decode cX9_round 87 = .ok (.aload_n 0, 1) := by decide +kernel
theorem dX9_round_88 : decode cX9_round 88 = .ok (.getfield 144, 3) := by decide +kernel
theorem dX9_round_91 : decode cX9_round 91 = .ok (.laload, 1) := by decide +kernel
theorem dX9_round_92 : decode cX9_round 92 = .ok (.lcmp, 1) := by decide +kernel
theorem dX9_round_93 : decode cX9_round 93 = .ok (.ifCond .ne 5, 3) := by decide +kernel
theorem dX9_round_96 : decode cX9_round 96 = .ok (.iload_n 1, 1) := by decide +kernel
theorem dX9_round_97 : decode cX9_round 97 = .ok (.ireturn, 1) := by decide +kernel
theorem dX9_round_98 : decode cX9_round 98 = .ok (.iinc 1 1, 3) := by decide +kernel
theorem dX9_round_101 : decode cX9_round 101 = .ok (.goto (-80), 3) := by decide +kernel
theorem dX9_round_104 : decode cX9_round 104 = .ok (.bipush (-2), 2) := by decide +kernel
theorem dX9_round_106 : decode cX9_round 106 = .ok (.ireturn, 1) := by decide +kernel
theorem dX9_quarter_0 : decode cX9_quarter 0 = .ok (.lconst 0, 1) := by decide +kernel
theorem dX9_quarter_1 : decode cX9_quarter 1 = .ok (.lstore 4, 2) := by decide +kernel
theorem dX9_quarter_3 : decode cX9_quarter 3 = .ok (.iconst 0, 1) := by decide +kernel
theorem dX9_quarter_4 : decode cX9_quarter 4 = .ok (.istore 6, 2) := by decide +kernel
theorem dX9_quarter_6 : decode cX9_quarter 6 = .ok (.iload 6, 2) := by decide +kernel
theorem dX9_quarter_8 : decode cX9_quarter 8 = .ok (.bipush 8, 2) := by decide +kernel
theorem dX9_quarter_10 : decode cX9_quarter 10 = .ok (.if_icmp .ge 85, 3) := by decide +kernel
theorem dX9_quarter_13 : decode cX9_quarter 13 = .ok (.lload_n 1, 1) := by decide +kernel
theorem dX9_quarter_14 : decode cX9_quarter 14 = .ok (.bipush 6, 2) := by decide +kernel
theorem dX9_quarter_16 : decode cX9_quarter 16 = .ok (.iload 6, 2) := by decide +kernel
theorem dX9_quarter_18 : decode cX9_quarter 18 = .ok (.imul, 1) := by decide +kernel
theorem dX9_quarter_19 : decode cX9_quarter 19 = .ok (.lshr, 1) := by decide +kernel
theorem dX9_quarter_20 : decode cX9_quarter 20 = .ok (.l2i, 1) := by decide +kernel
theorem dX9_quarter_21 : decode cX9_quarter 21 = .ok (.bipush 63, 2) := by decide +kernel
theorem dX9_quarter_23 : decode cX9_quarter 23 = .ok (.iand, 1) := by decide +kernel
theorem dX9_quarter_24 : decode cX9_quarter 24 = .ok (.istore 7, 2) := by decide +kernel
theorem dX9_quarter_26 : decode cX9_quarter 26 = .ok (.iload 7, 2) := by decide +kernel
theorem dX9_quarter_28 : decode cX9_quarter 28 = .ok (.iconst 4, 1) := by decide +kernel
theorem dX9_quarter_29 : decode cX9_quarter 29 = .ok (.idiv, 1) := by decide +kernel
theorem dX9_quarter_30 : decode cX9_quarter 30 = .ok (.iconst 4, 1) := by decide +kernel
theorem dX9_quarter_31 : decode cX9_quarter 31 = .ok (.irem, 1) := by decide +kernel
theorem dX9_quarter_32 : decode cX9_quarter 32 = .ok (.istore 8, 2) := by decide +kernel
theorem dX9_quarter_34 : decode cX9_quarter 34 = .ok (.iload 7, 2) := by decide +kernel
theorem dX9_quarter_36 : decode cX9_quarter 36 = .ok (.bipush 16, 2) := by decide +kernel
theorem dX9_quarter_38 : decode cX9_quarter 38 = .ok (.idiv, 1) := by decide +kernel
theorem dX9_quarter_39 : decode cX9_quarter 39 = .ok (.istore 9, 2) := by decide +kernel
theorem dX9_quarter_41 : decode cX9_quarter 41 = .ok (.iconst 4, 1) := by decide +kernel
theorem dX9_quarter_42 : decode cX9_quarter 42 = .ok (.iload 8, 2) := by decide +kernel
theorem dX9_quarter_44 : decode cX9_quarter 44 = .ok (.imul, 1) := by decide +kernel
theorem dX9_quarter_45 : decode cX9_quarter 45 = .ok (.iconst 3, 1) := by decide +kernel
theorem dX9_quarter_46 : decode cX9_quarter 46 = .ok (.iadd, 1) := by decide +kernel
theorem dX9_quarter_47 : decode cX9_quarter 47 = .ok (.iload 9, 2) := by decide +kernel
theorem dX9_quarter_49 : decode cX9_quarter 49 = .ok (.isub, 1) := by decide +kernel
theorem dX9_quarter_50 : decode cX9_quarter 50 = .ok (.istore 10, 2) := by decide +kernel
theorem dX9_quarter_52 : decode cX9_quarter 52 = .ok (.lload 4, 2) := by decide +kernel
theorem dX9_quarter_54 : decode cX9_quarter 54 = .ok (.iconst 4, 1) := by decide +kernel
theorem dX9_quarter_55 : decode cX9_quarter 55 = .ok (.iload 10, 2) := by decide +kernel
theorem dX9_quarter_57 : decode cX9_quarter 57 = .ok (.imul, 1) := by decide +kernel
theorem dX9_quarter_58 : decode cX9_quarter 58 = .ok (.iload 7, 2) := by decide +kernel
theorem dX9_quarter_60 : decode cX9_quarter 60 = .ok (.iconst 3, 1) := by decide +kernel
theorem dX9_quarter_61 : decode cX9_quarter 61 = .ok (.iadd, 1) := by decide +kernel
theorem dX9_quarter_62 : decode cX9_quarter 62 = .ok (.iconst 4, 1) := by decide +kernel
theorem dX9_quarter_63 : decode cX9_quarter 63 = .ok (.irem, 1) := by decide +kernel
theorem dX9_quarter_64 : decode cX9_quarter 64 = .ok (.iadd, 1) := by decide +kernel
theorem dX9_quarter_65 : decode cX9_quarter 65 = .ok (.i2l, 1) := by decide +kernel
theorem dX9_quarter_66 : decode cX9_quarter 66 = .ok (.bipush 6, 2) := by decide +kernel
theorem dX9_quarter_68 : decode cX9_quarter 68 = .ok (.iload_n 3, 1) := by decide +kernel
theorem dX9_quarter_69 : decode cX9_quarter 69 = .ok (.ifCond .eq 13, 3) := by decide +kernel
theorem dX9_quarter_72 : decode cX9_quarter 72 = .ok (.iload 6, 2) := by decide +kernel
theorem dX9_quarter_74 : decode cX9_quarter 74 = .ok (.iconst 2, 1) := by decide +kernel
theorem dX9_quarter_75 : decode cX9_quarter 75 = .ok (.iadd, 1) := by decide +kernel
theorem dX9_quarter_76 : decode cX9_quarter 76 = .ok (.bipush 8, 2) := by decide +kernel
theorem dX9_quarter_78 : decode cX9_quarter 78 = .ok (.irem, 1) := by decide +kernel
theorem dX9_quarter_79 : decode cX9_quarter 79 = .ok (.goto 5, 3) := by decide +kernel
theorem dX9_quarter_82 : decode cX9_quarter 82 = .ok (.iload 6, 2) := by decide +kernel
theorem dX9_quarter_84 : decode cX9_quarter 84 = .ok (.imul, 1) := by decide +kernel
theorem dX9_quarter_85 : decode cX9_quarter 85 = .ok (.lshl, 1) := by decide +kernel
theorem dX9_quarter_86 : decode cX9_quarter 86 = .ok (.lor, 1) := by decide +kernel
theorem dX9_quarter_87 : decode cX9_quarter 87 = .ok (.lstore 4, 2) := by decide +kernel
theorem dX9_quarter_89 : decode cX9_quarter 89 = .ok (.iinc 6 1, 3) := by decide +kernel
theorem dX9_quarter_92 : decode cX9_quarter 92 = .ok (.goto (-86), 3) := by decide +kernel
theorem dX9_quarter_95 : decode cX9_quarter 95 = .ok (.lload 4, 2) := by decide +kernel
theorem dX9_quarter_97 : decode cX9_quarter 97 = .ok (.lreturn, 1) := by decide +kernel
theorem dX9_quarters_0 : decode cX9_quarters 0 = .ok (.lload_n 1, 1) := by decide +kernel
theorem dX9_quarters_1 : decode cX9_quarters 1 = .ok (.lstore 6, 2) := by decide +kernel
theorem dX9_quarters_3 : decode cX9_quarters 3 = .ok (.iconst 0, 1) := by decide +kernel
theorem dX9_quarters_4 : decode cX9_quarters 4 = .ok (.istore 8, 2) := by decide +kernel
theorem dX9_quarters_6 : decode cX9_quarters 6 = .ok (.iload 8, 2) := by decide +kernel
theorem dX9_quarters_8 : decode cX9_quarters 8 = .ok (.iconst 4, 1) := by decide +kernel
theorem dX9_quarters_9 : decode cX9_quarters 9 = .ok (.if_icmp .ge 29, 3) := by decide +kernel
theorem dX9_quarters_12 : decode cX9_quarters 12 = .ok (.lload 6, 2) := by decide +kernel
theorem dX9_quarters_14 : decode cX9_quarters 14 = .ok (.lload_n 3, 1) := by decide +kernel
theorem dX9_quarters_15 : decode cX9_quarters 15 = .ok (.lcmp, 1) := by decide +kernel
theorem dX9_quarters_16 : decode cX9_quarters 16 = .ok (.ifCond .ne 6, 3) := by decide +kernel
theorem dX9_quarters_19 : decode cX9_quarters 19 = .ok (.iload 8, 2) := by decide +kernel
theorem dX9_quarters_21 : decode cX9_quarters 21 = .ok (.ireturn, 1) := by decide +kernel
theorem dX9_quarters_22 : decode cX9_quarters 22 = .ok (.aload_n 0, 1) := by decide +kernel
theorem dX9_quarters_23 : decode cX9_quarters 23 = .ok (.lload 6, 2) := by decide +kernel
theorem dX9_quarters_25 : decode cX9_quarters 25 = .ok (.iload 5, 2) := by decide +kernel
theorem dX9_quarters_27 : decode cX9_quarters 27 = .ok (.invokevirtual 277, 3) := by decide +kernel
theorem dX9_quarters_30 : decode cX9_quarters 30 = .ok (.lstore 6, 2) := by decide +kernel
theorem dX9_quarters_32 : decode cX9_quarters 32 = .ok (.iinc 8 1, 3) := by decide +kernel
theorem dX9_quarters_35 : decode cX9_quarters 35 = .ok (.goto (-29), 3) := by decide +kernel
theorem dX9_quarters_38 : decode cX9_quarters 38 = .ok (.bipush (-2), 2) := by decide +kernel
theorem dX9_quarters_40 : decode cX9_quarters 40 = .ok (.ireturn, 1) := by decide +kernel
theorem dX9_alike_0 : decode cX9_alike 0 = .ok (.iload_n 1, 1) := by decide +kernel
theorem dX9_alike_1 : decode cX9_alike 1 = .ok (.iconst 0, 1) := by decide +kernel
theorem dX9_alike_2 : decode cX9_alike 2 = .ok (.iconst 1, 1) := by decide +kernel
theorem dX9_alike_3 : decode cX9_alike 3 = .ok (.invokestatic 147, 3) := by decide +kernel
theorem dX9_alike_6 : decode cX9_alike 6 = .ok (.ifCond .ne 5, 3) := by decide +kernel
theorem dX9_alike_9 : decode cX9_alike 9 = .ok (.iconst (-1), 1) := by decide +kernel
theorem dX9_alike_10 : decode cX9_alike 10 = .ok (.ireturn, 1) := by decide +kernel
theorem dX9_alike_11 : decode cX9_alike 11 = .ok (.aload_n 0, 1) := by decide +kernel
theorem dX9_alike_12 : decode cX9_alike 12 = .ok (.getfield 105, 3) := by decide +kernel
theorem dX9_alike_15 : decode cX9_alike 15 = .ok (.ifCond .ge 8, 3) := by decide +kernel
theorem dX9_alike_18 : decode cX9_alike 18 = .ok (.bipush (-5), 2) := by decide +kernel
theorem dX9_alike_20 : decode cX9_alike 20 = .ok (.goto 34, 3) := by decide +kernel
theorem dX9_alike_23 : decode cX9_alike 23 = .ok (.aload_n 0, 1) := by decide +kernel
theorem dX9_alike_24 : decode cX9_alike 24 = .ok (.aload_n 0, 1) := by decide +kernel
theorem dX9_alike_25 : decode cX9_alike 25 = .ok (.getfield 93, 3) := by decide +kernel
theorem dX9_alike_28 : decode cX9_alike 28 = .ok (.aload_n 0, 1) := by decide +kernel
theorem dX9_alike_29 : decode cX9_alike 29 = .ok (.getfield 105, 3) := by decide +kernel
theorem dX9_alike_32 : decode cX9_alike 32 = .ok (.laload, 1) := by decide +kernel
theorem dX9_alike_33 : decode cX9_alike 33 = .ok (.aload_n 0, 1) := by decide +kernel
theorem dX9_alike_34 : decode cX9_alike 34 = .ok (.getfield 89, 3) := by decide +kernel
theorem dX9_alike_37 : decode cX9_alike 37 = .ok (.aload_n 0, 1) := by decide +kernel
theorem dX9_alike_38 : decode cX9_alike 38 = .ok (.getfield 144, 3) := by decide +kernel
theorem dX9_alike_41 : decode cX9_alike 41 = .ok (.laload, 1) := by decide +kernel
theorem dX9_alike_42 : decode cX9_alike 42 = .ok (.iload_n 1, 1) := by decide +kernel
theorem dX9_alike_43 : decode cX9_alike 43 = .ok (.ifCond .ne 7, 3) := by decide +kernel
theorem dX9_alike_46 : decode cX9_alike 46 = .ok (.iconst 1, 1) := by decide +kernel
theorem dX9_alike_47 : decode cX9_alike 47 = .ok (.goto 4, 3) := by decide +kernel
theorem dX9_alike_50 : decode cX9_alike 50 = .ok (.iconst 0, 1) := by decide +kernel
theorem dX9_alike_51 : decode cX9_alike 51 = .ok (.invokevirtual 281, 3) := by decide +kernel
theorem dX9_alike_54 : decode cX9_alike 54 = .ok (.ireturn, 1) := by decide +kernel
theorem dX9_squares_0 : decode cX9_squares 0 = .ok (.iload_n 1, 1) := by decide +kernel
theorem dX9_squares_1 : decode cX9_squares 1 = .ok (.iconst 0, 1) := by decide +kernel
theorem dX9_squares_2 : decode cX9_squares 2 = .ok (.iconst 2, 1) := by decide +kernel
theorem dX9_squares_3 : decode cX9_squares 3 = .ok (.invokestatic 147, 3) := by decide +kernel
theorem dX9_squares_6 : decode cX9_squares 6 = .ok (.ifCond .ne 5, 3) := by decide +kernel
theorem dX9_squares_9 : decode cX9_squares 9 = .ok (.iconst (-1), 1) := by decide +kernel
theorem dX9_squares_10 : decode cX9_squares 10 = .ok (.ireturn, 1) := by decide +kernel
theorem dX9_squares_11 : decode cX9_squares 11 = .ok (.iconst 0, 1) := by decide +kernel
theorem dX9_squares_12 : decode cX9_squares 12 = .ok (.istore_n 2, 1) := by decide +kernel
theorem dX9_squares_13 : decode cX9_squares 13 = .ok (.iconst 0, 1) := by decide +kernel
theorem dX9_squares_14 : decode cX9_squares 14 = .ok (.istore_n 3, 1) := by decide +kernel
theorem dX9_squares_15 : decode cX9_squares 15 = .ok (.iload_n 3, 1) := by decide +kernel
theorem dX9_squares_16 : decode cX9_squares 16 = .ok (.aload_n 0, 1) := by decide +kernel
theorem dX9_squares_17 : decode cX9_squares 17 = .ok (.getfield 144, 3) := by decide +kernel
theorem dX9_squares_20 : decode cX9_squares 20 = .ok (.if_icmp .gt 111, 3) := by decide +kernel
theorem dX9_squares_23 : decode cX9_squares 23 = .ok (.iconst 1, 1) := by decide +kernel
theorem dX9_squares_24 : decode cX9_squares 24 = .ok (.istore 4, 2) := by decide +kernel
theorem dX9_squares_26 : decode cX9_squares 26 = .ok (.iconst 0, 1) := by decide +kernel
theorem dX9_squares_27 : decode cX9_squares 27 = .ok (.istore 5, 2) := by decide +kernel
theorem dX9_squares_29 : decode cX9_squares 29 = .ok (.iload 5, 2) := by decide +kernel
theorem dX9_squares_31 : decode cX9_squares 31 = .ok (.iload_n 3, 1) := by decide +kernel
theorem dX9_squares_32 : decode cX9_squares 32 = .ok (.if_icmp .ge 80, 3) := by decide +kernel
theorem dX9_squares_35 : decode cX9_squares 35 = .ok (.iload 4, 2) := by decide +kernel
theorem dX9_squares_37 : decode cX9_squares 37 = .ok (.ifCond .eq 75, 3) := by decide +kernel
theorem dX9_squares_40 : decode cX9_squares 40 = .ok (.iload_n 1, 1) := by decide +kernel
theorem dX9_squares_41 : decode cX9_squares 41 = .ok (.ifCond .ne 28, 3) := by decide +kernel
theorem dX9_squares_44 : decode cX9_squares 44 = .ok (.aload_n 0, 1) := by decide +kernel
theorem dX9_squares_45 : decode cX9_squares 45 = .ok (.getfield 89, 3) := by decide +kernel
theorem dX9_squares_48 : decode cX9_squares 48 = .ok (.iload 5, 2) := by decide +kernel
theorem dX9_squares_50 : decode cX9_squares 50 = .ok (.laload, 1) := by decide +kernel
theorem dX9_squares_51 : decode cX9_squares 51 = .ok (.aload_n 0, 1) := by decide +kernel
theorem dX9_squares_52 : decode cX9_squares 52 = .ok (.getfield 89, 3) := by decide +kernel
theorem dX9_squares_55 : decode cX9_squares 55 = .ok (.iload_n 3, 1) := by decide +kernel
theorem dX9_squares_56 : decode cX9_squares 56 = .ok (.laload, 1) := by decide +kernel
theorem dX9_squares_57 : decode cX9_squares 57 = .ok (.lcmp, 1) := by decide +kernel
theorem dX9_squares_58 : decode cX9_squares 58 = .ok (.ifCond .eq 7, 3) := by decide +kernel
theorem dX9_squares_61 : decode cX9_squares 61 = .ok (.iconst 1, 1) := by decide +kernel
theorem dX9_squares_62 : decode cX9_squares 62 = .ok (.goto 42, 3) := by decide +kernel
theorem dX9_squares_65 : decode cX9_squares 65 = .ok (.iconst 0, 1) := by decide +kernel
theorem dX9_squares_66 : decode cX9_squares 66 = .ok (.goto 38, 3) := by decide +kernel
theorem dX9_squares_69 : decode cX9_squares 69 = .ok (.aload_n 0, 1) := by decide +kernel
theorem dX9_squares_70 : decode cX9_squares 70 = .ok (.aload_n 0, 1) := by decide +kernel
theorem dX9_squares_71 : decode cX9_squares 71 = .ok (.getfield 89, 3) := by decide +kernel
theorem dX9_squares_74 : decode cX9_squares 74 = .ok (.iload 5, 2) := by decide +kernel
theorem dX9_squares_76 : decode cX9_squares 76 = .ok (.laload, 1) := by decide +kernel
theorem dX9_squares_77 : decode cX9_squares 77 = .ok (.aload_n 0, 1) := by decide +kernel
theorem dX9_squares_78 : decode cX9_squares 78 = .ok (.getfield 89, 3) := by decide +kernel
theorem dX9_squares_81 : decode cX9_squares 81 = .ok (.iload_n 3, 1) := by decide +kernel
theorem dX9_squares_82 : decode cX9_squares 82 = .ok (.laload, 1) := by decide +kernel
theorem dX9_squares_83 : decode cX9_squares 83 = .ok (.iload_n 1, 1) := by decide +kernel
theorem dX9_squares_84 : decode cX9_squares 84 = .ok (.iconst 1, 1) := by decide +kernel
theorem dX9_squares_85 : decode cX9_squares 85 = .ok (.if_icmp .ne 7, 3) := by decide +kernel
theorem dX9_squares_88 : decode cX9_squares 88 = .ok (.iconst 1, 1) := by decide +kernel
theorem dX9_squares_89 : decode cX9_squares 89 = .ok (.goto 4, 3) := by decide +kernel
theorem dX9_squares_92 : decode cX9_squares 92 = .ok (.iconst 0, 1) := by decide +kernel
theorem dX9_squares_93 : decode cX9_squares 93 = .ok (.invokevirtual 281, 3) := by decide +kernel
theorem dX9_squares_96 : decode cX9_squares 96 = .ok (.ifCond .ge 7, 3) := by decide +kernel
theorem dX9_squares_99 : decode cX9_squares 99 = .ok (.iconst 1, 1) := by decide +kernel
theorem dX9_squares_100 : decode cX9_squares 100 = .ok (.goto 4, 3) := by decide +kernel
theorem dX9_squares_103 : decode cX9_squares 103 = .ok (.iconst 0, 1) := by decide +kernel
theorem dX9_squares_104 : decode cX9_squares 104 = .ok (.istore 4, 2) := by decide +kernel
theorem dX9_squares_106 : decode cX9_squares 106 = .ok (.iinc 5 1, 3) := by decide +kernel
theorem dX9_squares_109 : decode cX9_squares 109 = .ok (.goto (-80), 3) := by decide +kernel
theorem dX9_squares_112 : decode cX9_squares 112 = .ok (.iload_n 2, 1) := by decide +kernel
theorem dX9_squares_113 : decode cX9_squares 113 = .ok (.iload 4, 2) := by decide +kernel
theorem dX9_squares_115 : decode cX9_squares 115 = .ok (.ifCond .eq 7, 3) := by decide +kernel
theorem dX9_squares_118 : decode cX9_squares 118 = .ok (.iconst 1, 1) := by decide +kernel
theorem dX9_squares_119 : decode cX9_squares 119 = .ok (.goto 4, 3) := by decide +kernel
theorem dX9_squares_122 : decode cX9_squares 122 = .ok (.iconst 0, 1) := by decide +kernel
theorem dX9_squares_123 : decode cX9_squares 123 = .ok (.iadd, 1) := by decide +kernel
theorem dX9_squares_124 : decode cX9_squares 124 = .ok (.istore_n 2, 1) := by decide +kernel
theorem dX9_squares_125 : decode cX9_squares 125 = .ok (.iinc 3 1, 3) := by decide +kernel
theorem dX9_squares_128 : decode cX9_squares 128 = .ok (.goto (-113), 3) := by decide +kernel
theorem dX9_squares_131 : decode cX9_squares 131 = .ok (.iload_n 2, 1) := by decide +kernel
theorem dX9_squares_132 : decode cX9_squares 132 = .ok (.ireturn, 1) := by decide +kernel
theorem dX9_prints_0 : decode cX9_prints 0 = .ok (.aload_n 0, 1) := by decide +kernel
theorem dX9_prints_1 : decode cX9_prints 1 = .ok (.getfield 127, 3) := by decide +kernel
theorem dX9_prints_4 : decode cX9_prints 4 = .ok (.aload_n 0, 1) := by decide +kernel
theorem dX9_prints_5 : decode cX9_prints 5 = .ok (.getfield 285, 3) := by decide +kernel
theorem dX9_prints_8 : decode cX9_prints 8 = .ok (.iload_n 1, 1) := by decide +kernel
theorem dX9_prints_9 : decode cX9_prints 9 = .ok (.iastore, 1) := by decide +kernel
theorem dX9_prints_10 : decode cX9_prints 10 = .ok (.aload_n 0, 1) := by decide +kernel
theorem dX9_prints_11 : decode cX9_prints 11 = .ok (.dup, 1) := by decide +kernel
theorem dX9_prints_12 : decode cX9_prints 12 = .ok (.getfield 285, 3) := by decide +kernel
theorem dX9_prints_15 : decode cX9_prints 15 = .ok (.iconst 1, 1) := by decide +kernel
theorem dX9_prints_16 : decode cX9_prints 16 = .ok (.iadd, 1) := by decide +kernel
theorem dX9_prints_17 : decode cX9_prints 17 = .ok (.putfield 285, 3) := by decide +kernel
theorem dX9_prints_20 : decode cX9_prints 20 = .ok (.return_, 1) := by decide +kernel
theorem dX9_prints__0 : decode cX9_prints_ 0 = .ok (.iconst 0, 1) := by decide +kernel
theorem dX9_prints__1 : decode cX9_prints_ 1 = .ok (.istore_n 2, 1) := by decide +kernel
theorem dX9_prints__2 : decode cX9_prints_ 2 = .ok (.iload_n 2, 1) := by decide +kernel
theorem dX9_prints__3 : decode cX9_prints_ 3 = .ok (.aload_n 1, 1) := by decide +kernel
theorem dX9_prints__4 : decode cX9_prints_ 4 = .ok (.invokevirtual 211, 3) := by decide +kernel
theorem dX9_prints__7 : decode cX9_prints_ 7 = .ok (.if_icmp .ge 18, 3) := by decide +kernel
theorem dX9_prints__10 : decode cX9_prints_ 10 = .ok (.aload_n 0, 1) := by decide +kernel
theorem dX9_prints__11 : decode cX9_prints_ 11 = .ok (.aload_n 1, 1) := by decide +kernel
theorem dX9_prints__12 : decode cX9_prints_ 12 = .ok (.iload_n 2, 1) := by decide +kernel
theorem dX9_prints__13 : decode cX9_prints_ 13 = .ok (.invokevirtual 215, 3) := by decide +kernel
theorem dX9_prints__16 : decode cX9_prints_ 16 = .ok (.invokevirtual 288, 3) := by decide +kernel
theorem dX9_prints__19 : decode cX9_prints_ 19 = .ok (.iinc 2 1, 3) := by decide +kernel
theorem dX9_prints__22 : decode cX9_prints_ 22 = .ok (.goto (-20), 3) := by decide +kernel
theorem dX9_prints__25 : decode cX9_prints_ 25 = .ok (.return_, 1) := by decide +kernel
theorem dX9_text_0 : decode cX9_text 0 = .ok (.iload_n 1, 1) := by decide +kernel
theorem dX9_text_1 : decode cX9_text 1 = .ok (.iconst (-1), 1) := by decide +kernel
theorem dX9_text_2 : decode cX9_text 2 = .ok (.if_icmp .ge 5, 3) := by decide +kernel
theorem dX9_text_5 : decode cX9_text 5 = .ok (.iconst (-1), 1) := by decide +kernel
theorem dX9_text_6 : decode cX9_text 6 = .ok (.ireturn, 1) := by decide +kernel
theorem dX9_text_7 : decode cX9_text 7 = .ok (.aload_n 0, 1) := by decide +kernel
theorem dX9_text_8 : decode cX9_text 8 = .ok (.iconst 0, 1) := by decide +kernel
theorem dX9_text_9 : decode cX9_text 9 = .ok (.putfield 285, 3) := by decide +kernel
theorem dX9_text_12 : decode cX9_text 12 = .ok (.iconst 0, 1) := by decide +kernel
theorem dX9_text_13 : decode cX9_text 13 = .ok (.istore_n 2, 1) := by decide +kernel
theorem dX9_text_14 : decode cX9_text 14 = .ok (.iload_n 2, 1) := by decide +kernel
theorem dX9_text_15 : decode cX9_text 15 = .ok (.aload_n 0, 1) := by decide +kernel
theorem dX9_text_16 : decode cX9_text 16 = .ok (.getfield 144, 3) := by decide +kernel
theorem dX9_text_19 : decode cX9_text 19 = .ok (.if_icmp .ge 132, 3) := by decide +kernel
theorem dX9_text_22 : decode cX9_text 22 = .ok (.iconst 1, 1) := by decide +kernel
theorem dX9_text_23 : decode cX9_text 23 = .ok (.istore_n 3, 1) := by decide +kernel
theorem dX9_text_24 : decode cX9_text 24 = .ok (.iload_n 3, 1) := by decide +kernel
theorem dX9_text_25 : decode cX9_text 25 = .ok (.iconst 4, 1) := by decide +kernel
theorem dX9_text_26 : decode cX9_text 26 = .ok (.if_icmp .ge 36, 3) := by decide +kernel
theorem dX9_text_29 : decode cX9_text 29 = .ok (.iload_n 2, 1) := by decide +kernel
theorem dX9_text_30 : decode cX9_text 30 = .ok (.iload_n 3, 1) := by decide +kernel
theorem dX9_text_31 : decode cX9_text 31 = .ok (.iadd, 1) := by decide +kernel
theorem dX9_text_32 : decode cX9_text 32 = .ok (.aload_n 0, 1) := by decide +kernel
theorem dX9_text_33 : decode cX9_text 33 = .ok (.getfield 144, 3) := by decide +kernel
theorem dX9_text_36 : decode cX9_text 36 = .ok (.if_icmp .ge 26, 3) := by decide +kernel
theorem dX9_text_39 : decode cX9_text 39 = .ok (.aload_n 0, 1) := by decide +kernel
theorem dX9_text_40 : decode cX9_text 40 = .ok (.getfield 96, 3) := by decide +kernel
theorem dX9_text_43 : decode cX9_text 43 = .ok (.iload_n 2, 1) := by decide +kernel
theorem dX9_text_44 : decode cX9_text 44 = .ok (.iload_n 3, 1) := by decide +kernel
theorem dX9_text_45 : decode cX9_text 45 = .ok (.iadd, 1) := by decide +kernel
theorem dX9_text_46 : decode cX9_text 46 = .ok (.iaload, 1) := by decide +kernel
theorem dX9_text_47 : decode cX9_text 47 = .ok (.aload_n 0, 1) := by decide +kernel
theorem dX9_text_48 : decode cX9_text 48 = .ok (.getfield 96, 3) := by decide +kernel
theorem dX9_text_51 : decode cX9_text 51 = .ok (.iload_n 2, 1) := by decide +kernel
theorem dX9_text_52 : decode cX9_text 52 = .ok (.iaload, 1) := by decide +kernel
theorem dX9_text_53 : decode cX9_text 53 = .ok (.if_icmp .ne 9, 3) := by decide +kernel
theorem dX9_text_56 : decode cX9_text 56 = .ok (.iinc 3 1, 3) := by decide +kernel
theorem dX9_text_59 : decode cX9_text 59 = .ok (.goto (-35), 3) := by decide +kernel
theorem dX9_text_62 : decode cX9_text 62 = .ok (.iload_n 2, 1) := by decide +kernel
theorem dX9_text_63 : decode cX9_text 63 = .ok (.ifCond .le 9, 3) := by decide +kernel
theorem dX9_text_66 : decode cX9_text 66 = .ok (.aload_n 0, 1) := by decide +kernel
theorem dX9_text_67 : decode cX9_text 67 = .ok (.bipush 44, 2) := by decide +kernel
theorem dX9_text_69 : decode cX9_text 69 = .ok (.invokevirtual 288, 3) := by decide +kernel
theorem dX9_text_72 : decode cX9_text 72 = .ok (.aload_n 0, 1) := by decide +kernel
theorem dX9_text_73 : decode cX9_text 73 = .ok (.getfield 96, 3) := by decide +kernel
theorem dX9_text_76 : decode cX9_text 76 = .ok (.iload_n 2, 1) := by decide +kernel
theorem dX9_text_77 : decode cX9_text 77 = .ok (.iaload, 1) := by decide +kernel
theorem dX9_text_78 : decode cX9_text 78 = .ok (.bipush 100, 2) := by decide +kernel
theorem dX9_text_80 : decode cX9_text 80 = .ok (.if_icmp .lt 27, 3) := by decide +kernel
theorem dX9_text_83 : decode cX9_text 83 = .ok (.aload_n 0, 1) := by decide +kernel
theorem dX9_text_84 : decode cX9_text 84 = .ok (.aload_n 0, 1) := by decide +kernel
theorem dX9_text_85 : decode cX9_text 85 = .ok (.getfield 27, 3) := by decide +kernel
theorem dX9_text_88 : decode cX9_text 88 = .ok (.aload_n 0, 1) := by decide +kernel
theorem dX9_text_89 : decode cX9_text 89 = .ok (.getfield 96, 3) := by decide +kernel
theorem dX9_text_92 : decode cX9_text 92 = .ok (.iload_n 2, 1) := by decide +kernel
theorem dX9_text_93 : decode cX9_text 93 = .ok (.iaload, 1) := by decide +kernel
theorem dX9_text_94 : decode cX9_text 94 = .ok (.bipush 100, 2) := by decide +kernel
theorem dX9_text_96 : decode cX9_text 96 = .ok (.idiv, 1) := by decide +kernel
theorem dX9_text_97 : decode cX9_text 97 = .ok (.aaload, 1) := by decide +kernel
theorem dX9_text_98 : decode cX9_text 98 = .ok (.invokevirtual 291, 3) := by decide +kernel
theorem dX9_text_101 : decode cX9_text 101 = .ok (.aload_n 0, 1) := by decide +kernel
theorem dX9_text_102 : decode cX9_text 102 = .ok (.bipush 32, 2) := by decide +kernel
theorem dX9_text_104 : decode cX9_text 104 = .ok (.invokevirtual 288, 3) := by decide +kernel
theorem dX9_text_107 : decode cX9_text 107 = .ok (.aload_n 0, 1) := by decide +kernel
theorem dX9_text_108 : decode cX9_text 108 = .ok (.aload_n 0, 1) := by decide +kernel
theorem dX9_text_109 : decode cX9_text 109 = .ok (.getfield 57, 3) := by decide +kernel
theorem dX9_text_112 : decode cX9_text 112 = .ok (.aload_n 0, 1) := by decide +kernel
theorem dX9_text_113 : decode cX9_text 113 = .ok (.getfield 96, 3) := by decide +kernel
theorem dX9_text_116 : decode cX9_text 116 = .ok (.iload_n 2, 1) := by decide +kernel
theorem dX9_text_117 : decode cX9_text 117 = .ok (.iaload, 1) := by decide +kernel
theorem dX9_text_118 : decode cX9_text 118 = .ok (.bipush 100, 2) := by decide +kernel
theorem dX9_text_120 : decode cX9_text 120 = .ok (.irem, 1) := by decide +kernel
theorem dX9_text_121 : decode cX9_text 121 = .ok (.aaload, 1) := by decide +kernel
theorem dX9_text_122 : decode cX9_text 122 = .ok (.invokevirtual 291, 3) := by decide +kernel
theorem dX9_text_125 : decode cX9_text 125 = .ok (.iload_n 3, 1) := by decide +kernel
theorem dX9_text_126 : decode cX9_text 126 = .ok (.iconst 1, 1) := by decide +kernel
theorem dX9_text_127 : decode cX9_text 127 = .ok (.if_icmp .le 17, 3) := by decide +kernel
theorem dX9_text_130 : decode cX9_text 130 = .ok (.aload_n 0, 1) := by decide +kernel
theorem dX9_text_131 : decode cX9_text 131 = .ok (.bipush 32, 2) := by decide +kernel
theorem dX9_text_133 : decode cX9_text 133 = .ok (.invokevirtual 288, 3) := by decide +kernel
theorem dX9_text_136 : decode cX9_text 136 = .ok (.aload_n 0, 1) := by decide +kernel
theorem dX9_text_137 : decode cX9_text 137 = .ok (.bipush 48, 2) := by decide +kernel
theorem dX9_text_139 : decode cX9_text 139 = .ok (.iload_n 3, 1) := by decide +kernel
theorem dX9_text_140 : decode cX9_text 140 = .ok (.iadd, 1) := by decide +kernel
theorem dX9_text_141 : decode cX9_text 141 = .ok (.invokevirtual 288, 3) := by decide +kernel
theorem dX9_text_144 : decode cX9_text 144 = .ok (.iload_n 2, 1) := by decide +kernel
theorem dX9_text_145 : decode cX9_text 145 = .ok (.iload_n 3, 1) := by decide +kernel
theorem dX9_text_146 : decode cX9_text 146 = .ok (.iadd, 1) := by decide +kernel
theorem dX9_text_147 : decode cX9_text 147 = .ok (.istore_n 2, 1) := by decide +kernel
theorem dX9_text_148 : decode cX9_text 148 = .ok (.goto (-134), 3) := by decide +kernel
theorem dX9_text_151 : decode cX9_text 151 = .ok (.iload_n 1, 1) := by decide +kernel
theorem dX9_text_152 : decode cX9_text 152 = .ok (.ifCond .ge 10, 3) := by decide +kernel
theorem dX9_text_155 : decode cX9_text 155 = .ok (.aload_n 0, 1) := by decide +kernel
theorem dX9_text_156 : decode cX9_text 156 = .ok (.getfield 285, 3) := by decide +kernel
theorem dX9_text_159 : decode cX9_text 159 = .ok (.goto 22, 3) := by decide +kernel
theorem dX9_text_162 : decode cX9_text 162 = .ok (.iload_n 1, 1) := by decide +kernel
theorem dX9_text_163 : decode cX9_text 163 = .ok (.aload_n 0, 1) := by decide +kernel
theorem dX9_text_164 : decode cX9_text 164 = .ok (.getfield 285, 3) := by decide +kernel
theorem dX9_text_167 : decode cX9_text 167 = .ok (.if_icmp .ge 12, 3) := by decide +kernel
theorem dX9_text_170 : decode cX9_text 170 = .ok (.aload_n 0, 1) := by decide +kernel
theorem dX9_text_171 : decode cX9_text 171 = .ok (.getfield 127, 3) := by decide +kernel
theorem dX9_text_174 : decode cX9_text 174 = .ok (.iload_n 1, 1) := by decide +kernel
theorem dX9_text_175 : decode cX9_text 175 = .ok (.iaload, 1) := by decide +kernel
theorem dX9_text_176 : decode cX9_text 176 = .ok (.goto 5, 3) := by decide +kernel
theorem dX9_text_179 : decode cX9_text 179 = .ok (.bipush (-2), 2) := by decide +kernel
theorem dX9_text_181 : decode cX9_text 181 = .ok (.ireturn, 1) := by decide +kernel
theorem dX9_picture_0 : decode cX9_picture 0 = .ok (.iload_n 1, 1) := by decide +kernel
theorem dX9_picture_1 : decode cX9_picture 1 = .ok (.iconst (-1), 1) := by decide +kernel
theorem dX9_picture_2 : decode cX9_picture 2 = .ok (.if_icmp .ge 5, 3) := by decide +kernel
theorem dX9_picture_5 : decode cX9_picture 5 = .ok (.iconst (-1), 1) := by decide +kernel
theorem dX9_picture_6 : decode cX9_picture 6 = .ok (.ireturn, 1) := by decide +kernel
theorem dX9_picture_7 : decode cX9_picture 7 = .ok (.iload_n 1, 1) := by decide +kernel
theorem dX9_picture_8 : decode cX9_picture 8 = .ok (.ifCond .ge 6, 3) := by decide +kernel
theorem dX9_picture_11 : decode cX9_picture 11 = .ok (.bipush 36, 2) := by decide +kernel
theorem dX9_picture_13 : decode cX9_picture 13 = .ok (.ireturn, 1) := by decide +kernel
theorem dX9_picture_14 : decode cX9_picture 14 = .ok (.iload_n 1, 1) := by decide +kernel
theorem dX9_picture_15 : decode cX9_picture 15 = .ok (.bipush 36, 2) := by decide +kernel
theorem dX9_picture_17 : decode cX9_picture 17 = .ok (.if_icmp .lt 6, 3) := by decide +kernel
theorem dX9_picture_20 : decode cX9_picture 20 = .ok (.bipush (-2), 2) := by decide +kernel
theorem dX9_picture_22 : decode cX9_picture 22 = .ok (.ireturn, 1) := by decide +kernel
theorem dX9_picture_23 : decode cX9_picture 23 = .ok (.iload_n 1, 1) := by decide +kernel
theorem dX9_picture_24 : decode cX9_picture 24 = .ok (.bipush 9, 2) := by decide +kernel
theorem dX9_picture_26 : decode cX9_picture 26 = .ok (.irem, 1) := by decide +kernel
theorem dX9_picture_27 : decode cX9_picture 27 = .ok (.bipush 8, 2) := by decide +kernel
theorem dX9_picture_29 : decode cX9_picture 29 = .ok (.if_icmp .ne 6, 3) := by decide +kernel
theorem dX9_picture_32 : decode cX9_picture 32 = .ok (.bipush 10, 2) := by decide +kernel
theorem dX9_picture_34 : decode cX9_picture 34 = .ok (.ireturn, 1) := by decide +kernel
theorem dX9_picture_35 : decode cX9_picture 35 = .ok (.aload_n 0, 1) := by decide +kernel
theorem dX9_picture_36 : decode cX9_picture 36 = .ok (.invokevirtual 255, 3) := by decide +kernel
theorem dX9_picture_39 : decode cX9_picture 39 = .ok (.aload_n 0, 1) := by decide +kernel
theorem dX9_picture_40 : decode cX9_picture 40 = .ok (.getfield 67, 3) := by decide +kernel
theorem dX9_picture_43 : decode cX9_picture 43 = .ok (.iconst 4, 1) := by decide +kernel
theorem dX9_picture_44 : decode cX9_picture 44 = .ok (.iconst 3, 1) := by decide +kernel
theorem dX9_picture_45 : decode cX9_picture 45 = .ok (.iload_n 1, 1) := by decide +kernel
theorem dX9_picture_46 : decode cX9_picture 46 = .ok (.bipush 9, 2) := by decide +kernel
theorem dX9_picture_48 : decode cX9_picture 48 = .ok (.idiv, 1) := by decide +kernel
theorem dX9_picture_49 : decode cX9_picture 49 = .ok (.isub, 1) := by decide +kernel
theorem dX9_picture_50 : decode cX9_picture 50 = .ok (.imul, 1) := by decide +kernel
theorem dX9_picture_51 : decode cX9_picture 51 = .ok (.iload_n 1, 1) := by decide +kernel
theorem dX9_picture_52 : decode cX9_picture 52 = .ok (.bipush 9, 2) := by decide +kernel
theorem dX9_picture_54 : decode cX9_picture 54 = .ok (.irem, 1) := by decide +kernel
theorem dX9_picture_55 : decode cX9_picture 55 = .ok (.iconst 2, 1) := by decide +kernel
theorem dX9_picture_56 : decode cX9_picture 56 = .ok (.idiv, 1) := by decide +kernel
theorem dX9_picture_57 : decode cX9_picture 57 = .ok (.iadd, 1) := by decide +kernel
theorem dX9_picture_58 : decode cX9_picture 58 = .ok (.iaload, 1) := by decide +kernel
theorem dX9_picture_59 : decode cX9_picture 59 = .ok (.istore_n 2, 1) := by decide +kernel
theorem dX9_picture_60 : decode cX9_picture 60 = .ok (.iload_n 2, 1) := by decide +kernel
theorem dX9_picture_61 : decode cX9_picture 61 = .ok (.ifCond .ge 6, 3) := by decide +kernel
theorem dX9_picture_64 : decode cX9_picture 64 = .ok (.bipush 46, 2) := by decide +kernel
theorem dX9_picture_66 : decode cX9_picture 66 = .ok (.ireturn, 1) := by decide +kernel
theorem dX9_picture_67 : decode cX9_picture 67 = .ok (.iload_n 1, 1) := by decide +kernel
theorem dX9_picture_68 : decode cX9_picture 68 = .ok (.bipush 9, 2) := by decide +kernel
theorem dX9_picture_70 : decode cX9_picture 70 = .ok (.irem, 1) := by decide +kernel
theorem dX9_picture_71 : decode cX9_picture 71 = .ok (.iconst 2, 1) := by decide +kernel
theorem dX9_picture_72 : decode cX9_picture 72 = .ok (.irem, 1) := by decide +kernel
theorem dX9_picture_73 : decode cX9_picture 73 = .ok (.ifCond .ne 10, 3) := by decide +kernel
theorem dX9_picture_76 : decode cX9_picture 76 = .ok (.bipush 49, 2) := by decide +kernel
theorem dX9_picture_78 : decode cX9_picture 78 = .ok (.iload_n 2, 1) := by decide +kernel
theorem dX9_picture_79 : decode cX9_picture 79 = .ok (.iadd, 1) := by decide +kernel
theorem dX9_picture_80 : decode cX9_picture 80 = .ok (.goto 15, 3) := by decide +kernel
theorem dX9_picture_83 : decode cX9_picture 83 = .ok (.ldc_w 294, 3) := by decide +kernel
theorem dX9_picture_86 : decode cX9_picture 86 = .ok (.aload_n 0, 1) := by decide +kernel
theorem dX9_picture_87 : decode cX9_picture 87 = .ok (.getfield 64, 3) := by decide +kernel
theorem dX9_picture_90 : decode cX9_picture 90 = .ok (.iload_n 2, 1) := by decide +kernel
theorem dX9_picture_91 : decode cX9_picture 91 = .ok (.iaload, 1) := by decide +kernel
theorem dX9_picture_92 : decode cX9_picture 92 = .ok (.invokevirtual 215, 3) := by decide +kernel
theorem dX9_picture_95 : decode cX9_picture 95 = .ok (.ireturn, 1) := by decide +kernel
theorem dX9_call_0 : decode cX9_call 0 = .ok (.iload_n 1, 1) := by decide +kernel
theorem dX9_call_1 : decode cX9_call 1 = .ok (.iconst (-1), 1) := by decide +kernel
theorem dX9_call_2 : decode cX9_call 2 = .ok (.if_icmp .ge 7, 3) := by decide +kernel
theorem dX9_call_5 : decode cX9_call 5 = .ok (.iconst (-1), 1) := by decide +kernel
theorem dX9_call_6 : decode cX9_call 6 = .ok (.goto 33, 3) := by decide +kernel
theorem dX9_call_9 : decode cX9_call 9 = .ok (.iload_n 1, 1) := by decide +kernel
theorem dX9_call_10 : decode cX9_call 10 = .ok (.ifCond .ge 10, 3) := by decide +kernel
theorem dX9_call_13 : decode cX9_call 13 = .ok (.aload_n 0, 1) := by decide +kernel
theorem dX9_call_14 : decode cX9_call 14 = .ok (.getfield 144, 3) := by decide +kernel
theorem dX9_call_17 : decode cX9_call 17 = .ok (.goto 22, 3) := by decide +kernel
theorem dX9_call_20 : decode cX9_call 20 = .ok (.iload_n 1, 1) := by decide +kernel
theorem dX9_call_21 : decode cX9_call 21 = .ok (.aload_n 0, 1) := by decide +kernel
theorem dX9_call_22 : decode cX9_call 22 = .ok (.getfield 144, 3) := by decide +kernel
theorem dX9_call_25 : decode cX9_call 25 = .ok (.if_icmp .ge 12, 3) := by decide +kernel
theorem dX9_call_28 : decode cX9_call 28 = .ok (.aload_n 0, 1) := by decide +kernel
theorem dX9_call_29 : decode cX9_call 29 = .ok (.getfield 96, 3) := by decide +kernel
theorem dX9_call_32 : decode cX9_call 32 = .ok (.iload_n 1, 1) := by decide +kernel
theorem dX9_call_33 : decode cX9_call 33 = .ok (.iaload, 1) := by decide +kernel
theorem dX9_call_34 : decode cX9_call 34 = .ok (.goto 5, 3) := by decide +kernel
theorem dX9_call_37 : decode cX9_call 37 = .ok (.bipush (-2), 2) := by decide +kernel
theorem dX9_call_39 : decode cX9_call 39 = .ok (.ireturn, 1) := by decide +kernel
theorem dX9_danced_0 : decode cX9_danced 0 = .ok (.iload_n 1, 1) := by decide +kernel
theorem dX9_danced_1 : decode cX9_danced 1 = .ok (.iconst 0, 1) := by decide +kernel
theorem dX9_danced_2 : decode cX9_danced 2 = .ok (.bipush 11, 2) := by decide +kernel
theorem dX9_danced_4 : decode cX9_danced 4 = .ok (.invokestatic 147, 3) := by decide +kernel
theorem dX9_danced_7 : decode cX9_danced 7 = .ok (.ifCond .eq 12, 3) := by decide +kernel
theorem dX9_danced_10 : decode cX9_danced 10 = .ok (.aload_n 0, 1) := by decide +kernel
theorem dX9_danced_11 : decode cX9_danced 11 = .ok (.getfield 102, 3) := by decide +kernel
theorem dX9_danced_14 : decode cX9_danced 14 = .ok (.iload_n 1, 1) := by decide +kernel
theorem dX9_danced_15 : decode cX9_danced 15 = .ok (.iaload, 1) := by decide +kernel
theorem dX9_danced_16 : decode cX9_danced 16 = .ok (.goto 4, 3) := by decide +kernel
theorem dX9_danced_19 : decode cX9_danced 19 = .ok (.iconst (-1), 1) := by decide +kernel
theorem dX9_danced_20 : decode cX9_danced 20 = .ok (.ireturn, 1) := by decide +kernel
theorem dX9_image_0 : decode cX9_image 0 = .ok (.iconst 0, 1) := by decide +kernel
theorem dX9_image_1 : decode cX9_image 1 = .ok (.istore_n 1, 1) := by decide +kernel
theorem dX9_image_2 : decode cX9_image 2 = .ok (.iload_n 1, 1) := by decide +kernel
theorem dX9_image_3 : decode cX9_image 3 = .ok (.aload_n 0, 1) := by decide +kernel
theorem dX9_image_4 : decode cX9_image 4 = .ok (.getfield 144, 3) := by decide +kernel
theorem dX9_image_7 : decode cX9_image 7 = .ok (.if_icmp .gt 21, 3) := by decide +kernel
theorem dX9_image_10 : decode cX9_image 10 = .ok (.aload_n 0, 1) := by decide +kernel
theorem dX9_image_11 : decode cX9_image 11 = .ok (.getfield 93, 3) := by decide +kernel
theorem dX9_image_14 : decode cX9_image 14 = .ok (.iload_n 1, 1) := by decide +kernel
theorem dX9_image_15 : decode cX9_image 15 = .ok (.aload_n 0, 1) := by decide +kernel
theorem dX9_image_16 : decode cX9_image 16 = .ok (.getfield 89, 3) := by decide +kernel
theorem dX9_image_19 : decode cX9_image 19 = .ok (.iload_n 1, 1) := by decide +kernel
theorem dX9_image_20 : decode cX9_image 20 = .ok (.laload, 1) := by decide +kernel
theorem dX9_image_21 : decode cX9_image 21 = .ok (.lastore, 1) := by decide +kernel
theorem dX9_image_22 : decode cX9_image 22 = .ok (.iinc 1 1, 3) := by decide +kernel
theorem dX9_image_25 : decode cX9_image 25 = .ok (.goto (-23), 3) := by decide +kernel
theorem dX9_image_28 : decode cX9_image 28 = .ok (.iconst 0, 1) := by decide +kernel
theorem dX9_image_29 : decode cX9_image 29 = .ok (.istore_n 1, 1) := by decide +kernel
theorem dX9_image_30 : decode cX9_image 30 = .ok (.iload_n 1, 1) := by decide +kernel
theorem dX9_image_31 : decode cX9_image 31 = .ok (.aload_n 0, 1) := by decide +kernel
theorem dX9_image_32 : decode cX9_image 32 = .ok (.getfield 144, 3) := by decide +kernel
theorem dX9_image_35 : decode cX9_image 35 = .ok (.if_icmp .ge 21, 3) := by decide +kernel
theorem dX9_image_38 : decode cX9_image 38 = .ok (.aload_n 0, 1) := by decide +kernel
theorem dX9_image_39 : decode cX9_image 39 = .ok (.getfield 99, 3) := by decide +kernel
theorem dX9_image_42 : decode cX9_image 42 = .ok (.iload_n 1, 1) := by decide +kernel
theorem dX9_image_43 : decode cX9_image 43 = .ok (.aload_n 0, 1) := by decide +kernel
theorem dX9_image_44 : decode cX9_image 44 = .ok (.getfield 96, 3) := by decide +kernel
theorem dX9_image_47 : decode cX9_image 47 = .ok (.iload_n 1, 1) := by decide +kernel
theorem dX9_image_48 : decode cX9_image 48 = .ok (.iaload, 1) := by decide +kernel
theorem dX9_image_49 : decode cX9_image 49 = .ok (.iastore, 1) := by decide +kernel
theorem dX9_image_50 : decode cX9_image 50 = .ok (.iinc 1 1, 3) := by decide +kernel
theorem dX9_image_53 : decode cX9_image 53 = .ok (.goto (-23), 3) := by decide +kernel
theorem dX9_image_56 : decode cX9_image 56 = .ok (.aload_n 0, 1) := by decide +kernel
theorem dX9_image_57 : decode cX9_image 57 = .ok (.aload_n 0, 1) := by decide +kernel
theorem dX9_image_58 : decode cX9_image 58 = .ok (.getfield 144, 3) := by decide +kernel
theorem dX9_image_61 : decode cX9_image 61 = .ok (.putfield 105, 3) := by decide +kernel
theorem dX9_image_64 : decode cX9_image 64 = .ok (.aload_n 0, 1) := by decide +kernel
theorem dX9_image_65 : decode cX9_image 65 = .ok (.getfield 144, 3) := by decide +kernel
theorem dX9_image_68 : decode cX9_image 68 = .ok (.ireturn, 1) := by decide +kernel
theorem dX9_back_0 : decode cX9_back 0 = .ok (.aload_n 0, 1) := by decide +kernel
theorem dX9_back_1 : decode cX9_back 1 = .ok (.getfield 105, 3) := by decide +kernel
theorem dX9_back_4 : decode cX9_back 4 = .ok (.ifCond .ge 6, 3) := by decide +kernel
theorem dX9_back_7 : decode cX9_back 7 = .ok (.bipush (-5), 2) := by decide +kernel
theorem dX9_back_9 : decode cX9_back 9 = .ok (.ireturn, 1) := by decide +kernel
theorem dX9_back_10 : decode cX9_back 10 = .ok (.aload_n 0, 1) := by decide +kernel
theorem dX9_back_11 : decode cX9_back 11 = .ok (.aload_n 0, 1) := by decide +kernel
theorem dX9_back_12 : decode cX9_back 12 = .ok (.getfield 105, 3) := by decide +kernel
theorem dX9_back_15 : decode cX9_back 15 = .ok (.putfield 144, 3) := by decide +kernel
theorem dX9_back_18 : decode cX9_back 18 = .ok (.aload_n 0, 1) := by decide +kernel
theorem dX9_back_19 : decode cX9_back 19 = .ok (.iconst 0, 1) := by decide +kernel
theorem dX9_back_20 : decode cX9_back 20 = .ok (.putfield 252, 3) := by decide +kernel
theorem dX9_back_23 : decode cX9_back 23 = .ok (.iconst 0, 1) := by decide +kernel
theorem dX9_back_24 : decode cX9_back 24 = .ok (.istore_n 1, 1) := by decide +kernel
theorem dX9_back_25 : decode cX9_back 25 = .ok (.iload_n 1, 1) := by decide +kernel
theorem dX9_back_26 : decode cX9_back 26 = .ok (.aload_n 0, 1) := by decide +kernel
theorem dX9_back_27 : decode cX9_back 27 = .ok (.getfield 144, 3) := by decide +kernel
theorem dX9_back_30 : decode cX9_back 30 = .ok (.if_icmp .gt 21, 3) := by decide +kernel
theorem dX9_back_33 : decode cX9_back 33 = .ok (.aload_n 0, 1) := by decide +kernel
theorem dX9_back_34 : decode cX9_back 34 = .ok (.getfield 89, 3) := by decide +kernel
theorem dX9_back_37 : decode cX9_back 37 = .ok (.iload_n 1, 1) := by decide +kernel
theorem dX9_back_38 : decode cX9_back 38 = .ok (.aload_n 0, 1) := by decide +kernel
theorem dX9_back_39 : decode cX9_back 39 = .ok (.getfield 93, 3) := by decide +kernel
theorem dX9_back_42 : decode cX9_back 42 = .ok (.iload_n 1, 1) := by decide +kernel
theorem dX9_back_43 : decode cX9_back 43 = .ok (.laload, 1) := by decide +kernel
theorem dX9_back_44 : decode cX9_back 44 = .ok (.lastore, 1) := by decide +kernel
theorem dX9_back_45 : decode cX9_back 45 = .ok (.iinc 1 1, 3) := by decide +kernel
theorem dX9_back_48 : decode cX9_back 48 = .ok (.goto (-23), 3) := by decide +kernel
theorem dX9_back_51 : decode cX9_back 51 = .ok (.iconst 0, 1) := by decide +kernel
theorem dX9_back_52 : decode cX9_back 52 = .ok (.istore_n 1, 1) := by decide +kernel
theorem dX9_back_53 : decode cX9_back 53 = .ok (.iload_n 1, 1) := by decide +kernel
theorem dX9_back_54 : decode cX9_back 54 = .ok (.aload_n 0, 1) := by decide +kernel
theorem dX9_back_55 : decode cX9_back 55 = .ok (.getfield 144, 3) := by decide +kernel
theorem dX9_back_58 : decode cX9_back 58 = .ok (.if_icmp .ge 21, 3) := by decide +kernel
theorem dX9_back_61 : decode cX9_back 61 = .ok (.aload_n 0, 1) := by decide +kernel
theorem dX9_back_62 : decode cX9_back 62 = .ok (.getfield 96, 3) := by decide +kernel
theorem dX9_back_65 : decode cX9_back 65 = .ok (.iload_n 1, 1) := by decide +kernel
theorem dX9_back_66 : decode cX9_back 66 = .ok (.aload_n 0, 1) := by decide +kernel
theorem dX9_back_67 : decode cX9_back 67 = .ok (.getfield 99, 3) := by decide +kernel
theorem dX9_back_70 : decode cX9_back 70 = .ok (.iload_n 1, 1) := by decide +kernel
theorem dX9_back_71 : decode cX9_back 71 = .ok (.iaload, 1) := by decide +kernel
theorem dX9_back_72 : decode cX9_back 72 = .ok (.iastore, 1) := by decide +kernel
theorem dX9_back_73 : decode cX9_back 73 = .ok (.iinc 1 1, 3) := by decide +kernel
theorem dX9_back_76 : decode cX9_back 76 = .ok (.goto (-23), 3) := by decide +kernel
theorem dX9_back_79 : decode cX9_back 79 = .ok (.aload_n 0, 1) := by decide +kernel
theorem dX9_back_80 : decode cX9_back 80 = .ok (.getfield 144, 3) := by decide +kernel
theorem dX9_back_83 : decode cX9_back 83 = .ok (.ireturn, 1) := by decide +kernel
