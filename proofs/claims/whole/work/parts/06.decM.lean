theorem dX12_init_0 : decode cX12_init 0 = .ok (.aload_n 0, 1) := by decide +kernel
theorem dX12_init_1 : decode cX12_init 1 = .ok (.invokespecial 3, 3) := by decide +kernel
theorem dX12_init_4 : decode cX12_init 4 = .ok (.aload_n 0, 1) := by decide +kernel
theorem dX12_init_5 : decode cX12_init 5 = .ok (.bipush 6, 2) := by decide +kernel
theorem dX12_init_7 : decode cX12_init 7 = .ok (.newarray .int, 2) := by decide +kernel
theorem dX12_init_9 : decode cX12_init 9 = .ok (.putfield 9, 3) := by decide +kernel
theorem dX12_init_12 : decode cX12_init 12 = .ok (.aload_n 0, 1) := by decide +kernel
theorem dX12_init_13 : decode cX12_init 13 = .ok (.bipush 30, 2) := by decide +kernel
theorem dX12_init_15 : decode cX12_init 15 = .ok (.newarray .int, 2) := by decide +kernel
theorem dX12_init_17 : decode cX12_init 17 = .ok (.putfield 15, 3) := by decide +kernel
theorem dX12_init_20 : decode cX12_init 20 = .ok (.aload_n 0, 1) := by decide +kernel
theorem dX12_init_21 : decode cX12_init 21 = .ok (.bipush 30, 2) := by decide +kernel
theorem dX12_init_23 : decode cX12_init 23 = .ok (.newarray .int, 2) := by decide +kernel
theorem dX12_init_25 : decode cX12_init 25 = .ok (.putfield 18, 3) := by decide +kernel
theorem dX12_init_28 : decode cX12_init 28 = .ok (.aload_n 0, 1) := by decide +kernel
theorem dX12_init_29 : decode cX12_init 29 = .ok (.bipush 30, 2) := by decide +kernel
theorem dX12_init_31 : decode cX12_init 31 = .ok (.newarray .int, 2) := by decide +kernel
theorem dX12_init_33 : decode cX12_init 33 = .ok (.putfield 21, 3) := by decide +kernel
theorem dX12_init_36 : decode cX12_init 36 = .ok (.aload_n 0, 1) := by decide +kernel
theorem dX12_init_37 : decode cX12_init 37 = .ok (.bipush 30, 2) := by decide +kernel
theorem dX12_init_39 : decode cX12_init 39 = .ok (.newarray .int, 2) := by decide +kernel
theorem dX12_init_41 : decode cX12_init 41 = .ok (.putfield 24, 3) := by decide +kernel
theorem dX12_init_44 : decode cX12_init 44 = .ok (.aload_n 0, 1) := by decide +kernel
theorem dX12_init_45 : decode cX12_init 45 = .ok (.bipush 30, 2) := by decide +kernel
theorem dX12_init_47 : decode cX12_init 47 = .ok (.newarray .int, 2) := by decide +kernel
theorem dX12_init_49 : decode cX12_init 49 = .ok (.putfield 27, 3) := by decide +kernel
theorem dX12_init_52 : decode cX12_init 52 = .ok (.aload_n 0, 1) := by decide +kernel
theorem dX12_init_53 : decode cX12_init 53 = .ok (.bipush 6, 2) := by decide +kernel
theorem dX12_init_55 : decode cX12_init 55 = .ok (.newarray .int, 2) := by decide +kernel
theorem dX12_init_57 : decode cX12_init 57 = .ok (.putfield 30, 3) := by decide +kernel
theorem dX12_init_60 : decode cX12_init 60 = .ok (.aload_n 0, 1) := by decide +kernel
theorem dX12_init_61 : decode cX12_init 61 = .ok (.iconst 2, 1) := by decide +kernel
theorem dX12_init_62 : decode cX12_init 62 = .ok (.newarray .int, 2) := by decide +kernel
theorem dX12_init_64 : decode cX12_init 64 = .ok (.dup, 1) := by decide +kernel
theorem dX12_init_65 : decode cX12_init 65 = .ok (.iconst 0, 1) := by decide +kernel
theorem dX12_init_66 : decode cX12_init 66 = .ok (.bipush 90, 2) := by decide +kernel
theorem dX12_init_68 : decode cX12_init 68 = .ok (.iastore, 1) := by decide +kernel
theorem dX12_init_69 : decode cX12_init 69 = .ok (.dup, 1) := by decide +kernel
theorem dX12_init_70 : decode cX12_init 70 = .ok (.iconst 1, 1) := by decide +kernel
theorem dX12_init_71 : decode cX12_init 71 = .ok (.iconst 0, 1) := by decide +kernel
theorem dX12_init_72 : decode cX12_init 72 = .ok (.iastore, 1) := by decide +kernel
theorem dX12_init_73 : decode cX12_init 73 = .ok (.putfield 33, 3) := by decide +kernel
theorem dX12_init_76 : decode cX12_init 76 = .ok (.aload_n 0, 1) := by decide +kernel
theorem dX12_init_77 : decode cX12_init 77 = .ok (.iconst 5, 1) := by decide +kernel
theorem dX12_init_78 : decode cX12_init 78 = .ok (.newarray .int, 2) := by decide +kernel
theorem dX12_init_80 : decode cX12_init 80 = .ok (.putfield 36, 3) := by decide +kernel
theorem dX12_init_83 : decode cX12_init 83 = .ok (.aload_n 0, 1) := by decide +kernel
theorem dX12_init_84 : decode cX12_init 84 = .ok (.bipush 40, 2) := by decide +kernel
theorem dX12_init_86 : decode cX12_init 86 = .ok (.newarray .int, 2) := by decide +kernel
theorem dX12_init_88 : decode cX12_init 88 = .ok (.putfield 39, 3) := by decide +kernel
theorem dX12_init_91 : decode cX12_init 91 = .ok (.aload_n 0, 1) := by decide +kernel
theorem dX12_init_92 : decode cX12_init 92 = .ok (.bipush 40, 2) := by decide +kernel
theorem dX12_init_94 : decode cX12_init 94 = .ok (.newarray .int, 2) := by decide +kernel
theorem dX12_init_96 : decode cX12_init 96 = .ok (.putfield 42, 3) := by decide +kernel
theorem dX12_init_99 : decode cX12_init 99 = .ok (.aload_n 0, 1) := by decide +kernel
theorem dX12_init_100 : decode cX12_init 100 = .ok (.bipush 40, 2) := by decide +kernel
theorem dX12_init_102 : decode cX12_init 102 = .ok (.newarray .int, 2) := by decide +kernel
theorem dX12_init_104 : decode cX12_init 104 = .ok (.putfield 45, 3) := by decide +kernel
theorem dX12_init_107 : decode cX12_init 107 = .ok (.aload_n 0, 1) := by decide +kernel
theorem dX12_init_108 : decode cX12_init 108 = .ok (.bipush 40, 2) := by decide +kernel
theorem dX12_init_110 : decode cX12_init 110 = .ok (.newarray .int, 2) := by decide +kernel
theorem dX12_init_112 : decode cX12_init 112 = .ok (.putfield 48, 3) := by decide +kernel
theorem dX12_init_115 : decode cX12_init 115 = .ok (.aload_n 0, 1) := by decide +kernel
theorem dX12_init_116 : decode cX12_init 116 = .ok (.bipush 120, 2) := by decide +kernel
theorem dX12_init_118 : decode cX12_init 118 = .ok (.newarray .byte, 2) := by decide +kernel
theorem dX12_init_120 : decode cX12_init 120 = .ok (.putfield 51, 3) := by decide +kernel
theorem dX12_init_123 : decode cX12_init 123 = .ok (.aload_n 0, 1) := by decide +kernel
theorem dX12_init_124 : decode cX12_init 124 = .ok (.sipush 260, 3) := by decide +kernel
theorem dX12_init_127 : decode cX12_init 127 = .ok (.newarray .byte, 2) := by decide +kernel
theorem dX12_init_129 : decode cX12_init 129 = .ok (.putfield 55, 3) := by decide +kernel
theorem dX12_init_132 : decode cX12_init 132 = .ok (.aload_n 0, 1) := by decide +kernel
theorem dX12_init_133 : decode cX12_init 133 = .ok (.sipush 260, 3) := by decide +kernel
theorem dX12_init_136 : decode cX12_init 136 = .ok (.newarray .int, 2) := by decide +kernel
theorem dX12_init_138 : decode cX12_init 138 = .ok (.putfield 58, 3) := by decide +kernel
theorem dX12_init_141 : decode cX12_init 141 = .ok (.aload_n 0, 1) := by decide +kernel
theorem dX12_init_142 : decode cX12_init 142 = .ok (.iconst 2, 1) := by decide +kernel
theorem dX12_init_143 : decode cX12_init 143 = .ok (.newarray .int, 2) := by decide +kernel
theorem dX12_init_145 : decode cX12_init 145 = .ok (.putfield 61, 3) := by decide +kernel
theorem dX12_init_148 : decode cX12_init 148 = .ok (.aload_n 0, 1) := by decide +kernel
theorem dX12_init_149 : decode cX12_init 149 = .ok (.bipush 122, 2) := by decide +kernel
theorem dX12_init_151 : decode cX12_init 151 = .ok (.newarray .short, 2) := by decide +kernel
theorem dX12_init_153 : decode cX12_init 153 = .ok (.putfield 64, 3) := by decide +kernel
theorem dX12_init_156 : decode cX12_init 156 = .ok (.aload_n 0, 1) := by decide +kernel
theorem dX12_init_157 : decode cX12_init 157 = .ok (.bipush 122, 2) := by decide +kernel
theorem dX12_init_159 : decode cX12_init 159 = .ok (.newarray .short, 2) := by decide +kernel
theorem dX12_init_161 : decode cX12_init 161 = .ok (.putfield 68, 3) := by decide +kernel
theorem dX12_init_164 : decode cX12_init 164 = .ok (.aload_n 0, 1) := by decide +kernel
theorem dX12_init_165 : decode cX12_init 165 = .ok (.bipush 6, 2) := by decide +kernel
theorem dX12_init_167 : decode cX12_init 167 = .ok (.newarray .int, 2) := by decide +kernel
theorem dX12_init_169 : decode cX12_init 169 = .ok (.putfield 71, 3) := by decide +kernel
theorem dX12_init_172 : decode cX12_init 172 = .ok (.aload_n 0, 1) := by decide +kernel
theorem dX12_init_173 : decode cX12_init 173 = .ok (.sipush 130, 3) := by decide +kernel
theorem dX12_init_176 : decode cX12_init 176 = .ok (.newarray .int, 2) := by decide +kernel
theorem dX12_init_178 : decode cX12_init 178 = .ok (.putfield 74, 3) := by decide +kernel
theorem dX12_init_181 : decode cX12_init 181 = .ok (.aload_n 0, 1) := by decide +kernel
theorem dX12_init_182 : decode cX12_init 182 = .ok (.bipush 6, 2) := by decide +kernel
theorem dX12_init_184 : decode cX12_init 184 = .ok (.newarray .int, 2) := by decide +kernel
theorem dX12_init_186 : decode cX12_init 186 = .ok (.putfield 77, 3) := by decide +kernel
theorem dX12_init_189 : decode cX12_init 189 = .ok (.aload_n 0, 1) := by decide +kernel
theorem dX12_init_190 : decode cX12_init 190 = .ok (.bipush 30, 2) := by decide +kernel
theorem dX12_init_192 : decode cX12_init 192 = .ok (.newarray .int, 2) := by decide +kernel
theorem dX12_init_194 : decode cX12_init 194 = .ok (.putfield 80, 3) := by decide +kernel
theorem dX12_init_197 : decode cX12_init 197 = .ok (.aload_n 0, 1) := by decide +kernel
theorem dX12_init_198 : decode cX12_init 198 = .ok (.bipush 30, 2) := by decide +kernel
theorem dX12_init_200 : decode cX12_init 200 = .ok (.newarray .int, 2) := by decide +kernel
theorem dX12_init_202 : decode cX12_init 202 = .ok (.putfield 83, 3) := by decide +kernel
theorem dX12_init_205 : decode cX12_init 205 = .ok (.aload_n 0, 1) := by decide +kernel
theorem dX12_init_206 : decode cX12_init 206 = .ok (.bipush 30, 2) := by decide +kernel
theorem dX12_init_208 : decode cX12_init 208 = .ok (.newarray .int, 2) := by decide +kernel
theorem dX12_init_210 : decode cX12_init 210 = .ok (.putfield 86, 3) := by decide +kernel
theorem dX12_init_213 : decode cX12_init 213 = .ok (.aload_n 0, 1) := by decide +kernel
theorem dX12_init_214 : decode cX12_init 214 = .ok (.bipush 30, 2) := by decide +kernel
theorem dX12_init_216 : decode cX12_init 216 = .ok (.newarray .int, 2) := by decide +kernel
theorem dX12_init_218 : decode cX12_init 218 = .ok (.putfield 89, 3) := by decide +kernel
theorem dX12_init_221 : decode cX12_init 221 = .ok (.aload_n 0, 1) := by decide +kernel
theorem dX12_init_222 : decode cX12_init 222 = .ok (.bipush 6, 2) := by decide +kernel
theorem dX12_init_224 : decode cX12_init 224 = .ok (.newarray .int, 2) := by decide +kernel
theorem dX12_init_226 : decode cX12_init 226 = .ok (.putfield 92, 3) := by decide +kernel
theorem dX12_init_229 : decode cX12_init 229 = .ok (.aload_n 0, 1) := by decide +kernel
theorem dX12_init_230 : decode cX12_init 230 = .ok (.bipush 30, 2) := by decide +kernel
theorem dX12_init_232 : decode cX12_init 232 = .ok (.newarray .int, 2) := by decide +kernel
theorem dX12_init_234 : decode cX12_init 234 = .ok (.putfield 95, 3) := by decide +kernel
theorem dX12_init_237 : decode cX12_init 237 = .ok (.aload_n 0, 1) := by decide +kernel
theorem dX12_init_238 : decode cX12_init 238 = .ok (.bipush 6, 2) := by decide +kernel
theorem dX12_init_240 : decode cX12_init 240 = .ok (.newarray .int, 2) := by decide +kernel
theorem dX12_init_242 : decode cX12_init 242 = .ok (.putfield 98, 3) := by decide +kernel
theorem dX12_init_245 : decode cX12_init 245 = .ok (.aload_n 0, 1) := by decide +kernel
theorem dX12_init_246 : decode cX12_init 246 = .ok (.bipush 6, 2) := by decide +kernel
theorem dX12_init_248 : decode cX12_init 248 = .ok (.newarray .int, 2) := by decide +kernel
theorem dX12_init_250 : decode cX12_init 250 = .ok (.putfield 101, 3) := by decide +kernel
theorem dX12_init_253 : decode cX12_init 253 = .ok (.aload_n 0, 1) := by decide +kernel
theorem dX12_init_254 : decode cX12_init 254 = .ok (.iconst 3, 1) := by decide +kernel
theorem dX12_init_255 : decode cX12_init 255 = .ok (.newarray .int, 2) := by decide +kernel
theorem dX12_init_257 : decode cX12_init 257 = .ok (.putfield 104, 3) := by decide +kernel
theorem dX12_init_260 : decode cX12_init 260 = .ok (.aload_n 0, 1) := by decide +kernel
theorem dX12_init_261 : decode cX12_init 261 = .ok (.bipush (-2), 2) := by decide +kernel
theorem dX12_init_263 : decode cX12_init 263 = .ok (.putfield 107, 3) := by decide +kernel
theorem dX12_init_266 : decode cX12_init 266 = .ok (.aload_n 0, 1) := by decide +kernel
theorem dX12_init_267 : decode cX12_init 267 = .ok (.bipush 6, 2) := by decide +kernel
theorem dX12_init_269 : decode cX12_init 269 = .ok (.newarray .int, 2) := by decide +kernel
theorem dX12_init_271 : decode cX12_init 271 = .ok (.putfield 111, 3) := by decide +kernel
theorem dX12_init_274 : decode cX12_init 274 = .ok (.aload_n 0, 1) := by decide +kernel
theorem dX12_init_275 : decode cX12_init 275 = .ok (.sipush 150, 3) := by decide +kernel
theorem dX12_init_278 : decode cX12_init 278 = .ok (.newarray .int, 2) := by decide +kernel
theorem dX12_init_280 : decode cX12_init 280 = .ok (.putfield 114, 3) := by decide +kernel
theorem dX12_init_283 : decode cX12_init 283 = .ok (.aload_n 0, 1) := by decide +kernel
theorem dX12_init_284 : decode cX12_init 284 = .ok (.iconst 5, 1) := by decide +kernel
theorem dX12_init_285 : decode cX12_init 285 = .ok (.newarray .int, 2) := by decide +kernel
theorem dX12_init_287 : decode cX12_init 287 = .ok (.putfield 117, 3) := by decide +kernel
theorem dX12_init_290 : decode cX12_init 290 = .ok (.aload_n 0, 1) := by decide +kernel
theorem dX12_init_291 : decode cX12_init 291 = .ok (.bipush 50, 2) := by decide +kernel
theorem dX12_init_293 : decode cX12_init 293 = .ok (.newarray .int, 2) := by decide +kernel
theorem dX12_init_295 : decode cX12_init 295 = .ok (.putfield 120, 3) := by decide +kernel
theorem dX12_init_298 : decode cX12_init 298 = .ok (.aload_n 0, 1) := by decide +kernel
theorem dX12_init_299 : decode cX12_init 299 = .ok (.bipush 24, 2) := by decide +kernel
theorem dX12_init_301 : decode cX12_init 301 = .ok (.newarray .int, 2) := by decide +kernel
theorem dX12_init_303 : decode cX12_init 303 = .ok (.putfield 123, 3) := by decide +kernel
theorem dX12_init_306 : decode cX12_init 306 = .ok (.aload_n 0, 1) := by decide +kernel
theorem dX12_init_307 : decode cX12_init 307 = .ok (.bipush 6, 2) := by decide +kernel
theorem dX12_init_309 : decode cX12_init 309 = .ok (.newarray .int, 2) := by decide +kernel
theorem dX12_init_311 : decode cX12_init 311 = .ok (.dup, 1) := by decide +kernel
theorem dX12_init_312 : decode cX12_init 312 = .ok (.iconst 0, 1) := by decide +kernel
theorem dX12_init_313 : decode cX12_init 313 = .ok (.iconst (-1), 1) := by decide +kernel
theorem dX12_init_314 : decode cX12_init 314 = .ok (.iastore, 1) := by decide +kernel
theorem dX12_init_315 : decode cX12_init 315 = .ok (.dup, 1) := by decide +kernel
theorem dX12_init_316 : decode cX12_init 316 = .ok (.iconst 1, 1) := by decide +kernel
theorem dX12_init_317 : decode cX12_init 317 = .ok (.iconst (-1), 1) := by decide +kernel
theorem dX12_init_318 : decode cX12_init 318 = .ok (.iastore, 1) := by decide +kernel
theorem dX12_init_319 : decode cX12_init 319 = .ok (.dup, 1) := by decide +kernel
theorem dX12_init_320 : decode cX12_init 320 = .ok (.iconst 2, 1) := by decide +kernel
theorem dX12_init_321 : decode cX12_init 321 = .ok (.iconst (-1), 1) := by decide +kernel
theorem dX12_init_322 : decode cX12_init 322 = .ok (.iastore, 1) := by decide +kernel
theorem dX12_init_323 : decode cX12_init 323 = .ok (.dup, 1) := by decide +kernel
theorem dX12_init_324 : decode cX12_init 324 = .ok (.iconst 3, 1) := by decide +kernel
theorem dX12_init_325 : decode cX12_init 325 = .ok (.iconst (-1), 1) := by decide +kernel
theorem dX12_init_326 : decode cX12_init 326 = .ok (.iastore, 1) := by decide +kernel
theorem dX12_init_327 : decode cX12_init 327 = .ok (.dup, 1) := by decide +kernel
theorem dX12_init_328 : decode cX12_init 328 = .ok (.iconst 4, 1) := by decide +kernel
theorem dX12_init_329 : decode cX12_init 329 = .ok (.iconst (-1), 1) := by decide +kernel
theorem dX12_init_330 : decode cX12_init 330 = .ok (.iastore, 1) := by decide +kernel
theorem dX12_init_331 : decode cX12_init 331 = .ok (.dup, 1) := by decide +kernel
theorem dX12_init_332 : decode cX12_init 332 = .ok (.iconst 5, 1) := by decide +kernel
theorem dX12_init_333 : decode cX12_init 333 = .ok (.iconst (-1), 1) := by decide +kernel
theorem dX12_init_334 : decode cX12_init 334 = .ok (.iastore, 1) := by decide +kernel
theorem dX12_init_335 : decode cX12_init 335 = .ok (.putfield 126, 3) := by decide +kernel
theorem dX12_init_338 : decode cX12_init 338 = .ok (.aload_n 0, 1) := by decide +kernel
theorem dX12_init_339 : decode cX12_init 339 = .ok (.bipush 6, 2) := by decide +kernel
theorem dX12_init_341 : decode cX12_init 341 = .ok (.newarray .int, 2) := by decide +kernel
theorem dX12_init_343 : decode cX12_init 343 = .ok (.putfield 129, 3) := by decide +kernel
theorem dX12_init_346 : decode cX12_init 346 = .ok (.aload_n 0, 1) := by decide +kernel
theorem dX12_init_347 : decode cX12_init 347 = .ok (.sipush 360, 3) := by decide +kernel
theorem dX12_init_350 : decode cX12_init 350 = .ok (.newarray .long, 2) := by decide +kernel
theorem dX12_init_352 : decode cX12_init 352 = .ok (.putfield 132, 3) := by decide +kernel
theorem dX12_init_355 : decode cX12_init 355 = .ok (.aload_n 0, 1) := by decide +kernel
theorem dX12_init_356 : decode cX12_init 356 = .ok (.bipush 60, 2) := by decide +kernel
theorem dX12_init_358 : decode cX12_init 358 = .ok (.newarray .long, 2) := by decide +kernel
theorem dX12_init_360 : decode cX12_init 360 = .ok (.putfield 136, 3) := by decide +kernel
theorem dX12_init_363 : decode cX12_init 363 = .ok (.return_, 1) := by decide +kernel
theorem dX12_in_0 : decode cX12_in 0 = .ok (.iload_n 0, 1) := by decide +kernel
theorem dX12_in_1 : decode cX12_in 1 = .ok (.iload_n 1, 1) := by decide +kernel
theorem dX12_in_2 : decode cX12_in 2 = .ok (.if_icmp .lt 12, 3) := by decide +kernel
theorem dX12_in_5 : decode cX12_in 5 = .ok (.iload_n 0, 1) := by decide +kernel
theorem dX12_in_6 : decode cX12_in 6 = .ok (.iload_n 2, 1) := by decide +kernel
theorem dX12_in_7 : decode cX12_in 7 = .ok (.if_icmp .gt 7, 3) := by decide +kernel
theorem dX12_in_10 : decode cX12_in 10 = .ok (.iconst 1, 1) := by decide +kernel
theorem dX12_in_11 : decode cX12_in 11 = .ok (.goto 4, 3) := by decide +kernel
theorem dX12_in_14 : decode cX12_in 14 = .ok (.iconst 0, 1) := by decide +kernel
theorem dX12_in_15 : decode cX12_in 15 = .ok (.ireturn, 1) := by decide +kernel
theorem dX12_has_0 : decode cX12_has 0 = .ok (.iload_n 0, 1) := by decide +kernel
theorem dX12_has_1 : decode cX12_has 1 = .ok (.iload_n 1, 1) := by decide +kernel
theorem dX12_has_2 : decode cX12_has 2 = .ok (.ishr, 1) := by decide +kernel
theorem dX12_has_3 : decode cX12_has 3 = .ok (.iconst 1, 1) := by decide +kernel
theorem dX12_has_4 : decode cX12_has 4 = .ok (.iand, 1) := by decide +kernel
theorem dX12_has_5 : decode cX12_has 5 = .ok (.iconst 1, 1) := by decide +kernel
theorem dX12_has_6 : decode cX12_has 6 = .ok (.if_icmp .ne 7, 3) := by decide +kernel
theorem dX12_has_9 : decode cX12_has 9 = .ok (.iconst 1, 1) := by decide +kernel
theorem dX12_has_10 : decode cX12_has 10 = .ok (.goto 4, 3) := by decide +kernel
theorem dX12_has_13 : decode cX12_has 13 = .ok (.iconst 0, 1) := by decide +kernel
theorem dX12_has_14 : decode cX12_has 14 = .ok (.ireturn, 1) := by decide +kernel
theorem dX12_bitsOf_0 : decode cX12_bitsOf 0 = .ok (.iconst 0, 1) := by decide +kernel
theorem dX12_bitsOf_1 : decode cX12_bitsOf 1 = .ok (.istore_n 1, 1) := by decide +kernel
theorem dX12_bitsOf_2 : decode cX12_bitsOf 2 = .ok (.iload_n 0, 1) := by decide +kernel
theorem dX12_bitsOf_3 : decode cX12_bitsOf 3 = .ok (.istore_n 2, 1) := by decide +kernel
theorem dX12_bitsOf_4 : decode cX12_bitsOf 4 = .ok (.iload_n 2, 1) := by decide +kernel
theorem dX12_bitsOf_5 : decode cX12_bitsOf 5 = .ok (.ifCond .eq 15, 3) := by decide +kernel
theorem dX12_bitsOf_8 : decode cX12_bitsOf 8 = .ok (.iinc 1 1, 3) := by decide +kernel
theorem dX12_bitsOf_11 : decode cX12_bitsOf 11 = .ok (.iload_n 2, 1) := by decide +kernel
theorem dX12_bitsOf_12 : decode cX12_bitsOf 12 = .ok (.iload_n 2, 1) := by decide +kernel
theorem dX12_bitsOf_13 : decode cX12_bitsOf 13 = .ok (.iconst 1, 1) := by decide +kernel
theorem dX12_bitsOf_14 : decode cX12_bitsOf 14 = .ok (.isub, 1) := by decide +kernel
theorem dX12_bitsOf_15 : decode cX12_bitsOf 15 = .ok (.iand, 1) := by decide +kernel
theorem dX12_bitsOf_16 : decode cX12_bitsOf 16 = .ok (.istore_n 2, 1) := by decide +kernel
theorem dX12_bitsOf_17 : decode cX12_bitsOf 17 = .ok (.goto (-13), 3) := by decide +kernel
theorem dX12_bitsOf_20 : decode cX12_bitsOf 20 = .ok (.iload_n 1, 1) := by decide +kernel
theorem dX12_bitsOf_21 : decode cX12_bitsOf 21 = .ok (.ireturn, 1) := by decide +kernel
theorem dX12_isColumn_0 : decode cX12_isColumn 0 = .ok (.iload_n 0, 1) := by decide +kernel
theorem dX12_isColumn_1 : decode cX12_isColumn 1 = .ok (.iconst 0, 1) := by decide +kernel
theorem dX12_isColumn_2 : decode cX12_isColumn 2 = .ok (.iconst 5, 1) := by decide +kernel
theorem dX12_isColumn_3 : decode cX12_isColumn 3 = .ok (.invokestatic 142, 3) := by decide +kernel
theorem dX12_isColumn_6 : decode cX12_isColumn 6 = .ok (.ireturn, 1) := by decide +kernel
theorem dX12_isCell_0 : decode cX12_isCell 0 = .ok (.iload_n 1, 1) := by decide +kernel
theorem dX12_isCell_1 : decode cX12_isCell 1 = .ok (.iconst 0, 1) := by decide +kernel
theorem dX12_isCell_2 : decode cX12_isCell 2 = .ok (.bipush 29, 2) := by decide +kernel
theorem dX12_isCell_4 : decode cX12_isCell 4 = .ok (.invokestatic 142, 3) := by decide +kernel
theorem dX12_isCell_7 : decode cX12_isCell 7 = .ok (.ifCond .eq 21, 3) := by decide +kernel
theorem dX12_isCell_10 : decode cX12_isCell 10 = .ok (.iload_n 1, 1) := by decide +kernel
theorem dX12_isCell_11 : decode cX12_isCell 11 = .ok (.iconst 5, 1) := by decide +kernel
theorem dX12_isCell_12 : decode cX12_isCell 12 = .ok (.irem, 1) := by decide +kernel
theorem dX12_isCell_13 : decode cX12_isCell 13 = .ok (.aload_n 0, 1) := by decide +kernel
theorem dX12_isCell_14 : decode cX12_isCell 14 = .ok (.getfield 9, 3) := by decide +kernel
theorem dX12_isCell_17 : decode cX12_isCell 17 = .ok (.iload_n 1, 1) := by decide +kernel
theorem dX12_isCell_18 : decode cX12_isCell 18 = .ok (.iconst 5, 1) := by decide +kernel
theorem dX12_isCell_19 : decode cX12_isCell 19 = .ok (.idiv, 1) := by decide +kernel
theorem dX12_isCell_20 : decode cX12_isCell 20 = .ok (.iaload, 1) := by decide +kernel
theorem dX12_isCell_21 : decode cX12_isCell 21 = .ok (.if_icmp .ge 7, 3) := by decide +kernel
theorem dX12_isCell_24 : decode cX12_isCell 24 = .ok (.iconst 1, 1) := by decide +kernel
theorem dX12_isCell_25 : decode cX12_isCell 25 = .ok (.goto 4, 3) := by decide +kernel
theorem dX12_isCell_28 : decode cX12_isCell 28 = .ok (.iconst 0, 1) := by decide +kernel
theorem dX12_isCell_29 : decode cX12_isCell 29 = .ok (.ireturn, 1) := by decide +kernel
theorem dX12_addLoad_0 : decode cX12_addLoad 0 = .ok (.iconst 5, 1) := by decide +kernel
theorem dX12_addLoad_1 : decode cX12_addLoad 1 = .ok (.iload_n 1, 1) := by decide +kernel
theorem dX12_addLoad_2 : decode cX12_addLoad 2 = .ok (.imul, 1) := by decide +kernel
theorem dX12_addLoad_3 : decode cX12_addLoad 3 = .ok (.aload_n 0, 1) := by decide +kernel
theorem dX12_addLoad_4 : decode cX12_addLoad 4 = .ok (.getfield 9, 3) := by decide +kernel
theorem dX12_addLoad_7 : decode cX12_addLoad 7 = .ok (.iload_n 1, 1) := by decide +kernel
theorem dX12_addLoad_8 : decode cX12_addLoad 8 = .ok (.iaload, 1) := by decide +kernel
theorem dX12_addLoad_9 : decode cX12_addLoad 9 = .ok (.iadd, 1) := by decide +kernel
theorem dX12_addLoad_10 : decode cX12_addLoad 10 = .ok (.istore 4, 2) := by decide +kernel
theorem dX12_addLoad_12 : decode cX12_addLoad 12 = .ok (.aload_n 0, 1) := by decide +kernel
theorem dX12_addLoad_13 : decode cX12_addLoad 13 = .ok (.getfield 15, 3) := by decide +kernel
theorem dX12_addLoad_16 : decode cX12_addLoad 16 = .ok (.iload 4, 2) := by decide +kernel
theorem dX12_addLoad_18 : decode cX12_addLoad 18 = .ok (.iload_n 2, 1) := by decide +kernel
theorem dX12_addLoad_19 : decode cX12_addLoad 19 = .ok (.iastore, 1) := by decide +kernel
theorem dX12_addLoad_20 : decode cX12_addLoad 20 = .ok (.aload_n 0, 1) := by decide +kernel
theorem dX12_addLoad_21 : decode cX12_addLoad 21 = .ok (.getfield 18, 3) := by decide +kernel
theorem dX12_addLoad_24 : decode cX12_addLoad 24 = .ok (.iload 4, 2) := by decide +kernel
theorem dX12_addLoad_26 : decode cX12_addLoad 26 = .ok (.bipush 20, 2) := by decide +kernel
theorem dX12_addLoad_28 : decode cX12_addLoad 28 = .ok (.iastore, 1) := by decide +kernel
theorem dX12_addLoad_29 : decode cX12_addLoad 29 = .ok (.aload_n 0, 1) := by decide +kernel
theorem dX12_addLoad_30 : decode cX12_addLoad 30 = .ok (.getfield 21, 3) := by decide +kernel
theorem dX12_addLoad_33 : decode cX12_addLoad 33 = .ok (.iload 4, 2) := by decide +kernel
theorem dX12_addLoad_35 : decode cX12_addLoad 35 = .ok (.bipush 99, 2) := by decide +kernel
theorem dX12_addLoad_37 : decode cX12_addLoad 37 = .ok (.iastore, 1) := by decide +kernel
theorem dX12_addLoad_38 : decode cX12_addLoad 38 = .ok (.aload_n 0, 1) := by decide +kernel
theorem dX12_addLoad_39 : decode cX12_addLoad 39 = .ok (.getfield 24, 3) := by decide +kernel
theorem dX12_addLoad_42 : decode cX12_addLoad 42 = .ok (.iload 4, 2) := by decide +kernel
theorem dX12_addLoad_44 : decode cX12_addLoad 44 = .ok (.iconst 0, 1) := by decide +kernel
theorem dX12_addLoad_45 : decode cX12_addLoad 45 = .ok (.iastore, 1) := by decide +kernel
theorem dX12_addLoad_46 : decode cX12_addLoad 46 = .ok (.aload_n 0, 1) := by decide +kernel
theorem dX12_addLoad_47 : decode cX12_addLoad 47 = .ok (.getfield 27, 3) := by decide +kernel
theorem dX12_addLoad_50 : decode cX12_addLoad 50 = .ok (.iload 4, 2) := by decide +kernel
theorem dX12_addLoad_52 : decode cX12_addLoad 52 = .ok (.iload_n 3, 1) := by decide +kernel
theorem dX12_addLoad_53 : decode cX12_addLoad 53 = .ok (.iastore, 1) := by decide +kernel
theorem dX12_addLoad_54 : decode cX12_addLoad 54 = .ok (.aload_n 0, 1) := by decide +kernel
theorem dX12_addLoad_55 : decode cX12_addLoad 55 = .ok (.getfield 9, 3) := by decide +kernel
theorem dX12_addLoad_58 : decode cX12_addLoad 58 = .ok (.iload_n 1, 1) := by decide +kernel
theorem dX12_addLoad_59 : decode cX12_addLoad 59 = .ok (.dup2, 1) := by decide +kernel
theorem dX12_addLoad_60 : decode cX12_addLoad 60 = .ok (.iaload, 1) := by decide +kernel
theorem dX12_addLoad_61 : decode cX12_addLoad 61 = .ok (.iconst 1, 1) := by decide +kernel
theorem dX12_addLoad_62 : decode cX12_addLoad 62 = .ok (.iadd, 1) := by decide +kernel
theorem dX12_addLoad_63 : decode cX12_addLoad 63 = .ok (.iastore, 1) := by decide +kernel
theorem dX12_addLoad_64 : decode cX12_addLoad 64 = .ok (.aload_n 0, 1) := by decide +kernel
theorem dX12_addLoad_65 : decode cX12_addLoad 65 = .ok (.getfield 36, 3) := by decide +kernel
theorem dX12_addLoad_68 : decode cX12_addLoad 68 = .ok (.iconst 0, 1) := by decide +kernel
theorem dX12_addLoad_69 : decode cX12_addLoad 69 = .ok (.dup2, 1) := by decide +kernel
theorem dX12_addLoad_70 : decode cX12_addLoad 70 = .ok (.iaload, 1) := by decide +kernel
theorem dX12_addLoad_71 : decode cX12_addLoad 71 = .ok (.iconst 1, 1) := by decide +kernel
theorem dX12_addLoad_72 : decode cX12_addLoad 72 = .ok (.iadd, 1) := by decide +kernel
theorem dX12_addLoad_73 : decode cX12_addLoad 73 = .ok (.iastore, 1) := by decide +kernel
theorem dX12_addLoad_74 : decode cX12_addLoad 74 = .ok (.iload 4, 2) := by decide +kernel
theorem dX12_addLoad_76 : decode cX12_addLoad 76 = .ok (.ireturn, 1) := by decide +kernel
theorem dX12_cart_0 : decode cX12_cart 0 = .ok (.iload_n 1, 1) := by decide +kernel
theorem dX12_cart_1 : decode cX12_cart 1 = .ok (.invokestatic 146, 3) := by decide +kernel
theorem dX12_cart_4 : decode cX12_cart 4 = .ok (.ifCond .eq 13, 3) := by decide +kernel
theorem dX12_cart_7 : decode cX12_cart 7 = .ok (.iload_n 2, 1) := by decide +kernel
theorem dX12_cart_8 : decode cX12_cart 8 = .ok (.iconst 0, 1) := by decide +kernel
theorem dX12_cart_9 : decode cX12_cart 9 = .ok (.bipush 99, 2) := by decide +kernel
theorem dX12_cart_11 : decode cX12_cart 11 = .ok (.invokestatic 142, 3) := by decide +kernel
theorem dX12_cart_14 : decode cX12_cart 14 = .ok (.ifCond .ne 5, 3) := by decide +kernel
theorem dX12_cart_17 : decode cX12_cart 17 = .ok (.iconst (-1), 1) := by decide +kernel
theorem dX12_cart_18 : decode cX12_cart 18 = .ok (.ireturn, 1) := by decide +kernel
theorem dX12_cart_19 : decode cX12_cart 19 = .ok (.aload_n 0, 1) := by decide +kernel
theorem dX12_cart_20 : decode cX12_cart 20 = .ok (.getfield 9, 3) := by decide +kernel
theorem dX12_cart_23 : decode cX12_cart 23 = .ok (.iload_n 1, 1) := by decide +kernel
theorem dX12_cart_24 : decode cX12_cart 24 = .ok (.iaload, 1) := by decide +kernel
theorem dX12_cart_25 : decode cX12_cart 25 = .ok (.iconst 5, 1) := by decide +kernel
theorem dX12_cart_26 : decode cX12_cart 26 = .ok (.if_icmp .ne 8, 3) := by decide +kernel
theorem dX12_cart_29 : decode cX12_cart 29 = .ok (.bipush (-3), 2) := by decide +kernel
theorem dX12_cart_31 : decode cX12_cart 31 = .ok (.goto 16, 3) := by decide +kernel
theorem dX12_cart_34 : decode cX12_cart 34 = .ok (.aload_n 0, 1) := by decide +kernel
theorem dX12_cart_35 : decode cX12_cart 35 = .ok (.iload_n 1, 1) := by decide +kernel
theorem dX12_cart_36 : decode cX12_cart 36 = .ok (.iload_n 2, 1) := by decide +kernel
theorem dX12_cart_37 : decode cX12_cart 37 = .ok (.bipush 10, 2) := by decide +kernel
theorem dX12_cart_39 : decode cX12_cart 39 = .ok (.idiv, 1) := by decide +kernel
theorem dX12_cart_40 : decode cX12_cart 40 = .ok (.iload_n 2, 1) := by decide +kernel
theorem dX12_cart_41 : decode cX12_cart 41 = .ok (.bipush 10, 2) := by decide +kernel
theorem dX12_cart_43 : decode cX12_cart 43 = .ok (.irem, 1) := by decide +kernel
theorem dX12_cart_44 : decode cX12_cart 44 = .ok (.invokevirtual 150, 3) := by decide +kernel
theorem dX12_cart_47 : decode cX12_cart 47 = .ok (.ireturn, 1) := by decide +kernel
theorem dX12_loads_0 : decode cX12_loads 0 = .ok (.iload_n 1, 1) := by decide +kernel
theorem dX12_loads_1 : decode cX12_loads 1 = .ok (.invokestatic 154, 3) := by decide +kernel
theorem dX12_loads_4 : decode cX12_loads 4 = .ok (.ifCond .eq 13, 3) := by decide +kernel
theorem dX12_loads_7 : decode cX12_loads 7 = .ok (.iload_n 3, 1) := by decide +kernel
theorem dX12_loads_8 : decode cX12_loads 8 = .ok (.iconst 1, 1) := by decide +kernel
theorem dX12_loads_9 : decode cX12_loads 9 = .ok (.bipush 20, 2) := by decide +kernel
theorem dX12_loads_11 : decode cX12_loads 11 = .ok (.invokestatic 142, 3) := by decide +kernel
theorem dX12_loads_14 : decode cX12_loads 14 = .ok (.ifCond .ne 5, 3) := by decide +kernel
theorem dX12_loads_17 : decode cX12_loads 17 = .ok (.iconst (-1), 1) := by decide +kernel
theorem dX12_loads_18 : decode cX12_loads 18 = .ok (.ireturn, 1) := by decide +kernel
theorem dX12_loads_19 : decode cX12_loads 19 = .ok (.aload_n 0, 1) := by decide +kernel
theorem dX12_loads_20 : decode cX12_loads 20 = .ok (.getfield 126, 3) := by decide +kernel
theorem dX12_loads_23 : decode cX12_loads 23 = .ok (.iload_n 1, 1) := by decide +kernel
theorem dX12_loads_24 : decode cX12_loads 24 = .ok (.iaload, 1) := by decide +kernel
theorem dX12_loads_25 : decode cX12_loads 25 = .ok (.iconst (-1), 1) := by decide +kernel
theorem dX12_loads_26 : decode cX12_loads 26 = .ok (.if_icmp .eq 17, 3) := by decide +kernel
theorem dX12_loads_29 : decode cX12_loads 29 = .ok (.aload_n 0, 1) := by decide +kernel
theorem dX12_loads_30 : decode cX12_loads 30 = .ok (.getfield 126, 3) := by decide +kernel
theorem dX12_loads_33 : decode cX12_loads 33 = .ok (.iload_n 1, 1) := by decide +kernel
theorem dX12_loads_34 : decode cX12_loads 34 = .ok (.iaload, 1) := by decide +kernel
theorem dX12_loads_35 : decode cX12_loads 35 = .ok (.bipush (-2), 2) := by decide +kernel
theorem dX12_loads_37 : decode cX12_loads 37 = .ok (.if_icmp .eq 6, 3) := by decide +kernel
theorem dX12_loads_40 : decode cX12_loads 40 = .ok (.bipush (-12), 2) := by decide +kernel
theorem dX12_loads_42 : decode cX12_loads 42 = .ok (.ireturn, 1) := by decide +kernel
theorem dX12_loads_43 : decode cX12_loads 43 = .ok (.aload_n 0, 1) := by decide +kernel
theorem dX12_loads_44 : decode cX12_loads 44 = .ok (.getfield 126, 3) := by decide +kernel
theorem dX12_loads_47 : decode cX12_loads 47 = .ok (.iload_n 1, 1) := by decide +kernel
theorem dX12_loads_48 : decode cX12_loads 48 = .ok (.iaload, 1) := by decide +kernel
theorem dX12_loads_49 : decode cX12_loads 49 = .ok (.iconst (-1), 1) := by decide +kernel
theorem dX12_loads_50 : decode cX12_loads 50 = .ok (.if_icmp .ne 5, 3) := by decide +kernel
theorem dX12_loads_53 : decode cX12_loads 53 = .ok (.iconst 0, 1) := by decide +kernel
theorem dX12_loads_54 : decode cX12_loads 54 = .ok (.ireturn, 1) := by decide +kernel
theorem dX12_loads_55 : decode cX12_loads 55 = .ok (.iconst 0, 1) := by decide +kernel
theorem dX12_loads_56 : decode cX12_loads 56 = .ok (.istore 4, 2) := by decide +kernel
theorem dX12_loads_58 : decode cX12_loads 58 = .ok (.iload 4, 2) := by decide +kernel
theorem dX12_loads_60 : decode cX12_loads 60 = .ok (.iload_n 3, 1) := by decide +kernel
theorem dX12_loads_61 : decode cX12_loads 61 = .ok (.if_icmp .ge 153, 3) := by decide +kernel
theorem dX12_loads_64 : decode cX12_loads 64 = .ok (.iload_n 2, 1) := by decide +kernel
theorem dX12_loads_65 : decode cX12_loads 65 = .ok (.i2l, 1) := by decide +kernel
theorem dX12_loads_66 : decode cX12_loads 66 = .ok (.iconst 3, 1) := by decide +kernel
theorem dX12_loads_67 : decode cX12_loads 67 = .ok (.iload 4, 2) := by decide +kernel
theorem dX12_loads_69 : decode cX12_loads 69 = .ok (.imul, 1) := by decide +kernel
theorem dX12_loads_70 : decode cX12_loads 70 = .ok (.i2l, 1) := by decide +kernel
theorem dX12_loads_71 : decode cX12_loads 71 = .ok (.ladd, 1) := by decide +kernel
theorem dX12_loads_72 : decode cX12_loads 72 = .ok (.lstore 5, 2) := by decide +kernel
theorem dX12_loads_74 : decode cX12_loads 74 = .ok (.lload 5, 2) := by decide +kernel
theorem dX12_loads_76 : decode cX12_loads 76 = .ok (.lconst 0, 1) := by decide +kernel
theorem dX12_loads_77 : decode cX12_loads 77 = .ok (.lcmp, 1) := by decide +kernel
theorem dX12_loads_78 : decode cX12_loads 78 = .ok (.ifCond .lt 20, 3) := by decide +kernel
theorem dX12_loads_81 : decode cX12_loads 81 = .ok (.lload 5, 2) := by decide +kernel
theorem dX12_loads_83 : decode cX12_loads 83 = .ok (.ldc2_w 157, 3) := by decide +kernel
theorem dX12_loads_86 : decode cX12_loads 86 = .ok (.ladd, 1) := by decide +kernel
theorem dX12_loads_87 : decode cX12_loads 87 = .ok (.aload_n 0, 1) := by decide +kernel
theorem dX12_loads_88 : decode cX12_loads 88 = .ok (.getfield 129, 3) := by decide +kernel
theorem dX12_loads_91 : decode cX12_loads 91 = .ok (.iload_n 1, 1) := by decide +kernel
theorem dX12_loads_92 : decode cX12_loads 92 = .ok (.iaload, 1) := by decide +kernel
theorem dX12_loads_93 : decode cX12_loads 93 = .ok (.i2l, 1) := by decide +kernel
theorem dX12_loads_94 : decode cX12_loads 94 = .ok (.lcmp, 1) := by decide +kernel
theorem dX12_loads_95 : decode cX12_loads 95 = .ok (.ifCond .lt 6, 3) := by decide +kernel
theorem dX12_loads_98 : decode cX12_loads 98 = .ok (.iload 4, 2) := by decide +kernel
theorem dX12_loads_100 : decode cX12_loads 100 = .ok (.ireturn, 1) := by decide +kernel
theorem dX12_loads_101 : decode cX12_loads 101 = .ok (.bipush 60, 2) := by decide +kernel
theorem dX12_loads_103 : decode cX12_loads 103 = .ok (.iload_n 1, 1) := by decide +kernel
theorem dX12_loads_104 : decode cX12_loads 104 = .ok (.imul, 1) := by decide +kernel
theorem dX12_loads_105 : decode cX12_loads 105 = .ok (.lload 5, 2) := by decide +kernel
theorem dX12_loads_107 : decode cX12_loads 107 = .ok (.l2i, 1) := by decide +kernel
theorem dX12_loads_108 : decode cX12_loads 108 = .ok (.iadd, 1) := by decide +kernel
theorem dX12_loads_109 : decode cX12_loads 109 = .ok (.istore 7, 2) := by decide +kernel
theorem dX12_loads_111 : decode cX12_loads 111 = .ok (.aload_n 0, 1) := by decide +kernel
theorem dX12_loads_112 : decode cX12_loads 112 = .ok (.getfield 132, 3) := by decide +kernel
theorem dX12_loads_115 : decode cX12_loads 115 = .ok (.iload 7, 2) := by decide +kernel
theorem dX12_loads_117 : decode cX12_loads 117 = .ok (.laload, 1) := by decide +kernel
theorem dX12_loads_118 : decode cX12_loads 118 = .ok (.l2i, 1) := by decide +kernel
theorem dX12_loads_119 : decode cX12_loads 119 = .ok (.istore 8, 2) := by decide +kernel
theorem dX12_loads_121 : decode cX12_loads 121 = .ok (.iload 8, 2) := by decide +kernel
theorem dX12_loads_123 : decode cX12_loads 123 = .ok (.invokestatic 146, 3) := by decide +kernel
theorem dX12_loads_126 : decode cX12_loads 126 = .ok (.ifCond .eq 52, 3) := by decide +kernel
theorem dX12_loads_129 : decode cX12_loads 129 = .ok (.aload_n 0, 1) := by decide +kernel
theorem dX12_loads_130 : decode cX12_loads 130 = .ok (.getfield 132, 3) := by decide +kernel
theorem dX12_loads_133 : decode cX12_loads 133 = .ok (.iload 7, 2) := by decide +kernel
theorem dX12_loads_135 : decode cX12_loads 135 = .ok (.iconst 1, 1) := by decide +kernel
theorem dX12_loads_136 : decode cX12_loads 136 = .ok (.iadd, 1) := by decide +kernel
theorem dX12_loads_137 : decode cX12_loads 137 = .ok (.laload, 1) := by decide +kernel
theorem dX12_loads_138 : decode cX12_loads 138 = .ok (.l2i, 1) := by decide +kernel
theorem dX12_loads_139 : decode cX12_loads 139 = .ok (.iconst 0, 1) := by decide +kernel
theorem dX12_loads_140 : decode cX12_loads 140 = .ok (.bipush 9, 2) := by decide +kernel
theorem dX12_loads_142 : decode cX12_loads 142 = .ok (.invokestatic 142, 3) := by decide +kernel
theorem dX12_loads_145 : decode cX12_loads 145 = .ok (.ifCond .eq 33, 3) := by decide +kernel
theorem dX12_loads_148 : decode cX12_loads 148 = .ok (.aload_n 0, 1) := by decide +kernel
theorem dX12_loads_149 : decode cX12_loads 149 = .ok (.getfield 132, 3) := by decide +kernel
theorem dX12_loads_152 : decode cX12_loads 152 = .ok (.iload 7, 2) := by decide +kernel
theorem dX12_loads_154 : decode cX12_loads 154 = .ok (.iconst 2, 1) := by decide +kernel
theorem dX12_loads_155 : decode cX12_loads 155 = .ok (.iadd, 1) := by decide +kernel
theorem dX12_loads_156 : decode cX12_loads 156 = .ok (.laload, 1) := by decide +kernel
theorem dX12_loads_157 : decode cX12_loads 157 = .ok (.l2i, 1) := by decide +kernel
theorem dX12_loads_158 : decode cX12_loads 158 = .ok (.iconst 0, 1) := by decide +kernel
theorem dX12_loads_159 : decode cX12_loads 159 = .ok (.bipush 9, 2) := by decide +kernel
theorem dX12_loads_161 : decode cX12_loads 161 = .ok (.invokestatic 142, 3) := by decide +kernel
theorem dX12_loads_164 : decode cX12_loads 164 = .ok (.ifCond .eq 14, 3) := by decide +kernel
theorem dX12_loads_167 : decode cX12_loads 167 = .ok (.aload_n 0, 1) := by decide +kernel
theorem dX12_loads_168 : decode cX12_loads 168 = .ok (.getfield 9, 3) := by decide +kernel
theorem dX12_loads_171 : decode cX12_loads 171 = .ok (.iload 8, 2) := by decide +kernel
theorem dX12_loads_173 : decode cX12_loads 173 = .ok (.iaload, 1) := by decide +kernel
theorem dX12_loads_174 : decode cX12_loads 174 = .ok (.iconst 5, 1) := by decide +kernel
theorem dX12_loads_175 : decode cX12_loads 175 = .ok (.if_icmp .ne 6, 3) := by decide +kernel
theorem dX12_loads_178 : decode cX12_loads 178 = .ok (.iload 4, 2) := by decide +kernel
theorem dX12_loads_180 : decode cX12_loads 180 = .ok (.ireturn, 1) := by decide +kernel
theorem dX12_loads_181 : decode cX12_loads 181 = .ok (.aload_n 0, 1) := by decide +kernel
theorem dX12_loads_182 : decode cX12_loads 182 = .ok (.iload 8, 2) := by decide +kernel
theorem dX12_loads_184 : decode cX12_loads 184 = .ok (.aload_n 0, 1) := by decide +kernel
theorem dX12_loads_185 : decode cX12_loads 185 = .ok (.getfield 132, 3) := by decide +kernel
theorem dX12_loads_188 : decode cX12_loads 188 = .ok (.iload 7, 2) := by decide +kernel
theorem dX12_loads_190 : decode cX12_loads 190 = .ok (.iconst 1, 1) := by decide +kernel
theorem dX12_loads_191 : decode cX12_loads 191 = .ok (.iadd, 1) := by decide +kernel
theorem dX12_loads_192 : decode cX12_loads 192 = .ok (.laload, 1) := by decide +kernel
theorem dX12_loads_193 : decode cX12_loads 193 = .ok (.l2i, 1) := by decide +kernel
theorem dX12_loads_194 : decode cX12_loads 194 = .ok (.aload_n 0, 1) := by decide +kernel
theorem dX12_loads_195 : decode cX12_loads 195 = .ok (.getfield 132, 3) := by decide +kernel
theorem dX12_loads_198 : decode cX12_loads 198 = .ok (.iload 7, 2) := by decide +kernel
theorem dX12_loads_200 : decode cX12_loads 200 = .ok (.iconst 2, 1) := by decide +kernel
theorem dX12_loads_201 : decode cX12_loads 201 = .ok (.iadd, 1) := by decide +kernel
theorem dX12_loads_202 : decode cX12_loads 202 = .ok (.laload, 1) := by decide +kernel
theorem dX12_loads_203 : decode cX12_loads 203 = .ok (.l2i, 1) := by decide +kernel
theorem dX12_loads_204 : decode cX12_loads 204 = .ok (.invokevirtual 150, 3) := by decide +kernel
theorem dX12_loads_207 : decode cX12_loads 207 = .ok (.pop, 1) := by decide +kernel
theorem dX12_loads_208 : decode cX12_loads 208 = .ok (.iinc 4 1, 3) := by decide +kernel
theorem dX12_loads_211 : decode cX12_loads 211 = .ok (.goto (-153), 3) := by decide +kernel
theorem dX12_loads_214 : decode cX12_loads 214 = .ok (.iload_n 3, 1) := by decide +kernel
theorem dX12_loads_215 : decode cX12_loads 215 = .ok (.ireturn, 1) := by decide +kernel
theorem dX12_valueAt_0 : decode cX12_valueAt 0 = .ok (.iload_n 1, 1) := by decide +kernel
theorem dX12_valueAt_1 : decode cX12_valueAt 1 = .ok (.tableswitch 81 0 5 #[39, 46, 53, 60, 67, 74], 39) := by decide +kernel
theorem dX12_valueAt_40 : decode cX12_valueAt 40 = .ok (.aload_n 0, 1) := by decide +kernel
theorem dX12_valueAt_41 : decode cX12_valueAt 41 = .ok (.getfield 15, 3) := by decide +kernel
theorem dX12_valueAt_44 : decode cX12_valueAt 44 = .ok (.iload_n 2, 1) := by decide +kernel
theorem dX12_valueAt_45 : decode cX12_valueAt 45 = .ok (.iaload, 1) := by decide +kernel
theorem dX12_valueAt_46 : decode cX12_valueAt 46 = .ok (.ireturn, 1) := by decide +kernel
theorem dX12_valueAt_47 : decode cX12_valueAt 47 = .ok (.aload_n 0, 1) := by decide +kernel
theorem dX12_valueAt_48 : decode cX12_valueAt 48 = .ok (.getfield 18, 3) := by decide +kernel
theorem dX12_valueAt_51 : decode cX12_valueAt 51 = .ok (.iload_n 2, 1) := by decide +kernel
theorem dX12_valueAt_52 : decode cX12_valueAt 52 = .ok (.iaload, 1) := by decide +kernel
theorem dX12_valueAt_53 : decode cX12_valueAt 53 = .ok (.ireturn, 1) := by decide +kernel
theorem dX12_valueAt_54 : decode cX12_valueAt 54 = .ok (.aload_n 0, 1) := by decide +kernel
theorem dX12_valueAt_55 : decode cX12_valueAt 55 = .ok (.getfield 21, 3) := by decide +kernel
theorem dX12_valueAt_58 : decode cX12_valueAt 58 = .ok (.iload_n 2, 1) := by decide +kernel
theorem dX12_valueAt_59 : decode cX12_valueAt 59 = .ok (.iaload, 1) := by decide +kernel
theorem dX12_valueAt_60 : decode cX12_valueAt 60 = .ok (.ireturn, 1) := by decide +kernel
theorem dX12_valueAt_61 : decode cX12_valueAt 61 = .ok (.aload_n 0, 1) := by decide +kernel
theorem dX12_valueAt_62 : decode cX12_valueAt 62 = .ok (.getfield 24, 3) := by decide +kernel
theorem dX12_valueAt_65 : decode cX12_valueAt 65 = .ok (.iload_n 2, 1) := by decide +kernel
theorem dX12_valueAt_66 : decode cX12_valueAt 66 = .ok (.iaload, 1) := by decide +kernel
theorem dX12_valueAt_67 : decode cX12_valueAt 67 = .ok (.ireturn, 1) := by decide +kernel
theorem dX12_valueAt_68 : decode cX12_valueAt 68 = .ok (.aload_n 0, 1) := by decide +kernel
theorem dX12_valueAt_69 : decode cX12_valueAt 69 = .ok (.getfield 27, 3) := by decide +kernel
theorem dX12_valueAt_72 : decode cX12_valueAt 72 = .ok (.iload_n 2, 1) := by decide +kernel
theorem dX12_valueAt_73 : decode cX12_valueAt 73 = .ok (.iaload, 1) := by decide +kernel
theorem dX12_valueAt_74 : decode cX12_valueAt 74 = .ok (.ireturn, 1) := by decide +kernel
theorem dX12_valueAt_75 : decode cX12_valueAt 75 = .ok (.aload_n 0, 1) := by decide +kernel
theorem dX12_valueAt_76 : decode cX12_valueAt 76 = .ok (.getfield 30, 3) := by decide +kernel
theorem dX12_valueAt_79 : decode cX12_valueAt 79 = .ok (.iload_n 2, 1) := by decide +kernel
theorem dX12_valueAt_80 : decode cX12_valueAt 80 = .ok (.iaload, 1) := by decide +kernel
theorem dX12_valueAt_81 : decode cX12_valueAt 81 = .ok (.ireturn, 1) := by decide +kernel
theorem dX12_valueAt_82 : decode cX12_valueAt 82 = .ok (.aload_n 0, 1) := by decide +kernel
theorem dX12_valueAt_83 : decode cX12_valueAt 83 = .ok (.getfield 33, 3) := by decide +kernel
theorem dX12_valueAt_86 : decode cX12_valueAt 86 = .ok (.iload_n 1, 1) := by decide +kernel
theorem dX12_valueAt_87 : decode cX12_valueAt 87 = .ok (.bipush 6, 2) := by decide +kernel
theorem dX12_valueAt_89 : decode cX12_valueAt 89 = .ok (.isub, 1) := by decide +kernel
theorem dX12_valueAt_90 : decode cX12_valueAt 90 = .ok (.iaload, 1) := by decide +kernel
theorem dX12_valueAt_91 : decode cX12_valueAt 91 = .ok (.ireturn, 1) := by decide +kernel
theorem dX12_lays_0 : decode cX12_lays 0 = .ok (.iload_n 1, 1) := by decide +kernel
theorem dX12_lays_1 : decode cX12_lays 1 = .ok (.tableswitch 99 0 5 #[39, 49, 59, 69, 79, 89], 39) := by decide +kernel
theorem dX12_lays_40 : decode cX12_lays 40 = .ok (.aload_n 0, 1) := by decide +kernel
theorem dX12_lays_41 : decode cX12_lays 41 = .ok (.getfield 15, 3) := by decide +kernel
theorem dX12_lays_44 : decode cX12_lays 44 = .ok (.iload_n 2, 1) := by decide +kernel
theorem dX12_lays_45 : decode cX12_lays 45 = .ok (.iload_n 3, 1) := by decide +kernel
theorem dX12_lays_46 : decode cX12_lays 46 = .ok (.iastore, 1) := by decide +kernel
theorem dX12_lays_47 : decode cX12_lays 47 = .ok (.goto 63, 3) := by decide +kernel
theorem dX12_lays_50 : decode cX12_lays 50 = .ok (.aload_n 0, 1) := by decide +kernel
theorem dX12_lays_51 : decode cX12_lays 51 = .ok (.getfield 18, 3) := by decide +kernel
theorem dX12_lays_54 : decode cX12_lays 54 = .ok (.iload_n 2, 1) := by decide +kernel
theorem dX12_lays_55 : decode cX12_lays 55 = .ok (.iload_n 3, 1) := by decide +kernel
theorem dX12_lays_56 : decode cX12_lays 56 = .ok (.iastore, 1) := by decide +kernel
theorem dX12_lays_57 : decode cX12_lays 57 = .ok (.goto 53, 3) := by decide +kernel
theorem dX12_lays_60 : decode cX12_lays 60 = .ok (.aload_n 0, 1) := by decide +kernel
theorem dX12_lays_61 : decode cX12_lays 61 = .ok (.getfield 21, 3) := by decide +kernel
theorem dX12_lays_64 : decode cX12_lays 64 = .ok (.iload_n 2, 1) := by decide +kernel
theorem dX12_lays_65 : decode cX12_lays 65 = .ok (.iload_n 3, 1) := by decide +kernel
theorem dX12_lays_66 : decode cX12_lays 66 = .ok (.iastore, 1) := by decide +kernel
theorem dX12_lays_67 : decode cX12_lays 67 = .ok (.goto 43, 3) := by decide +kernel
theorem dX12_lays_70 : decode cX12_lays 70 = .ok (.aload_n 0, 1) := by decide +kernel
theorem dX12_lays_71 : decode cX12_lays 71 = .ok (.getfield 24, 3) := by decide +kernel
theorem dX12_lays_74 : decode cX12_lays 74 = .ok (.iload_n 2, 1) := by decide +kernel
theorem dX12_lays_75 : decode cX12_lays 75 = .ok (.iload_n 3, 1) := by decide +kernel
theorem dX12_lays_76 : decode cX12_lays 76 = .ok (.iastore, 1) := by decide +kernel
theorem dX12_lays_77 : decode cX12_lays 77 = .ok (.goto 33, 3) := by decide +kernel
theorem dX12_lays_80 : decode cX12_lays 80 = .ok (.aload_n 0, 1) := by decide +kernel
theorem dX12_lays_81 : decode cX12_lays 81 = .ok (.getfield 27, 3) := by decide +kernel
theorem dX12_lays_84 : decode cX12_lays 84 = .ok (.iload_n 2, 1) := by decide +kernel
theorem dX12_lays_85 : decode cX12_lays 85 = .ok (.iload_n 3, 1) := by decide +kernel
theorem dX12_lays_86 : decode cX12_lays 86 = .ok (.iastore, 1) := by decide +kernel
theorem dX12_lays_87 : decode cX12_lays 87 = .ok (.goto 23, 3) := by decide +kernel
theorem dX12_lays_90 : decode cX12_lays 90 = .ok (.aload_n 0, 1) := by decide +kernel
theorem dX12_lays_91 : decode cX12_lays 91 = .ok (.getfield 30, 3) := by decide +kernel
theorem dX12_lays_94 : decode cX12_lays 94 = .ok (.iload_n 2, 1) := by decide +kernel
theorem dX12_lays_95 : decode cX12_lays 95 = .ok (.iload_n 3, 1) := by decide +kernel
theorem dX12_lays_96 : decode cX12_lays 96 = .ok (.iastore, 1) := by decide +kernel
theorem dX12_lays_97 : decode cX12_lays 97 = .ok (.goto 13, 3) := by decide +kernel
theorem dX12_lays_100 : decode cX12_lays 100 = .ok (.aload_n 0, 1) := by decide +kernel
theorem dX12_lays_101 : decode cX12_lays 101 = .ok (.getfield 33, 3) := by decide +kernel
theorem dX12_lays_104 : decode cX12_lays 104 = .ok (.iload_n 1, 1) := by decide +kernel
theorem dX12_lays_105 : decode cX12_lays 105 = .ok (.bipush 6, 2) := by decide +kernel
theorem dX12_lays_107 : decode cX12_lays 107 = .ok (.isub, 1) := by decide +kernel
theorem dX12_lays_108 : decode cX12_lays 108 = .ok (.iload_n 3, 1) := by decide +kernel
theorem dX12_lays_109 : decode cX12_lays 109 = .ok (.iastore, 1) := by decide +kernel
theorem dX12_lays_110 : decode cX12_lays 110 = .ok (.return_, 1) := by decide +kernel
theorem dX12_changes_0 : decode cX12_changes 0 = .ok (.aload_n 0, 1) := by decide +kernel
theorem dX12_changes_1 : decode cX12_changes 1 = .ok (.iload_n 1, 1) := by decide +kernel
theorem dX12_changes_2 : decode cX12_changes 2 = .ok (.iload_n 2, 1) := by decide +kernel
theorem dX12_changes_3 : decode cX12_changes 3 = .ok (.invokevirtual 159, 3) := by decide +kernel
theorem dX12_changes_6 : decode cX12_changes 6 = .ok (.istore 4, 2) := by decide +kernel
theorem dX12_changes_8 : decode cX12_changes 8 = .ok (.iload 4, 2) := by decide +kernel
theorem dX12_changes_10 : decode cX12_changes 10 = .ok (.iload_n 3, 1) := by decide +kernel
theorem dX12_changes_11 : decode cX12_changes 11 = .ok (.if_icmp .ne 6, 3) := by decide +kernel
theorem dX12_changes_14 : decode cX12_changes 14 = .ok (.iload 4, 2) := by decide +kernel
theorem dX12_changes_16 : decode cX12_changes 16 = .ok (.ireturn, 1) := by decide +kernel
theorem dX12_changes_17 : decode cX12_changes 17 = .ok (.aload_n 0, 1) := by decide +kernel
theorem dX12_changes_18 : decode cX12_changes 18 = .ok (.iconst 0, 1) := by decide +kernel
theorem dX12_changes_19 : decode cX12_changes 19 = .ok (.putfield 163, 3) := by decide +kernel
theorem dX12_changes_22 : decode cX12_changes 22 = .ok (.aload_n 0, 1) := by decide +kernel
theorem dX12_changes_23 : decode cX12_changes 23 = .ok (.getfield 166, 3) := by decide +kernel
theorem dX12_changes_26 : decode cX12_changes 26 = .ok (.bipush 40, 2) := by decide +kernel
theorem dX12_changes_28 : decode cX12_changes 28 = .ok (.if_icmp .ne 93, 3) := by decide +kernel
theorem dX12_changes_31 : decode cX12_changes 31 = .ok (.iconst 1, 1) := by decide +kernel
theorem dX12_changes_32 : decode cX12_changes 32 = .ok (.istore 5, 2) := by decide +kernel
theorem dX12_changes_34 : decode cX12_changes 34 = .ok (.iload 5, 2) := by decide +kernel
theorem dX12_changes_36 : decode cX12_changes 36 = .ok (.bipush 40, 2) := by decide +kernel
theorem dX12_changes_38 : decode cX12_changes 38 = .ok (.if_icmp .ge 73, 3) := by decide +kernel
theorem dX12_changes_41 : decode cX12_changes 41 = .ok (.aload_n 0, 1) := by decide +kernel
theorem dX12_changes_42 : decode cX12_changes 42 = .ok (.getfield 39, 3) := by decide +kernel
theorem dX12_changes_45 : decode cX12_changes 45 = .ok (.iload 5, 2) := by decide +kernel
theorem dX12_changes_47 : decode cX12_changes 47 = .ok (.iconst 1, 1) := by decide +kernel
theorem dX12_changes_48 : decode cX12_changes 48 = .ok (.isub, 1) := by decide +kernel
theorem dX12_changes_49 : decode cX12_changes 49 = .ok (.aload_n 0, 1) := by decide +kernel
theorem dX12_changes_50 : decode cX12_changes 50 = .ok (.getfield 39, 3) := by decide +kernel
theorem dX12_changes_53 : decode cX12_changes 53 = .ok (.iload 5, 2) := by decide +kernel
theorem dX12_changes_55 : decode cX12_changes 55 = .ok (.iaload, 1) := by decide +kernel
theorem dX12_changes_56 : decode cX12_changes 56 = .ok (.iastore, 1) := by decide +kernel
theorem dX12_changes_57 : decode cX12_changes 57 = .ok (.aload_n 0, 1) := by decide +kernel
theorem dX12_changes_58 : decode cX12_changes 58 = .ok (.getfield 42, 3) := by decide +kernel
theorem dX12_changes_61 : decode cX12_changes 61 = .ok (.iload 5, 2) := by decide +kernel
theorem dX12_changes_63 : decode cX12_changes 63 = .ok (.iconst 1, 1) := by decide +kernel
theorem dX12_changes_64 : decode cX12_changes 64 = .ok (.isub, 1) := by decide +kernel
theorem dX12_changes_65 : decode cX12_changes 65 = .ok (.aload_n 0, 1) := by decide +kernel
theorem dX12_changes_66 : decode cX12_changes 66 = .ok (.getfield 42, 3) := by decide +kernel
theorem dX12_changes_69 : decode cX12_changes 69 = .ok (.iload 5, 2) := by decide +kernel
theorem dX12_changes_71 : decode cX12_changes 71 = .ok (.iaload, 1) := by decide +kernel
theorem dX12_changes_72 : decode cX12_changes 72 = .ok (.iastore, 1) := by decide +kernel
theorem dX12_changes_73 : decode cX12_changes 73 = .ok (.aload_n 0, 1) := by decide +kernel
theorem dX12_changes_74 : decode cX12_changes 74 = .ok (.getfield 45, 3) := by decide +kernel
theorem dX12_changes_77 : decode cX12_changes 77 = .ok (.iload 5, 2) := by decide +kernel
theorem dX12_changes_79 : decode cX12_changes 79 = .ok (.iconst 1, 1) := by decide +kernel
theorem dX12_changes_80 : decode cX12_changes 80 = .ok (.isub, 1) := by decide +kernel
theorem dX12_changes_81 : decode cX12_changes 81 = .ok (.aload_n 0, 1) := by decide +kernel
theorem dX12_changes_82 : decode cX12_changes 82 = .ok (.getfield 45, 3) := by decide +kernel
theorem dX12_changes_85 : decode cX12_changes 85 = .ok (.iload 5, 2) := by decide +kernel
theorem dX12_changes_87 : decode cX12_changes 87 = .ok (.iaload, 1) := by decide +kernel
theorem dX12_changes_88 : decode cX12_changes 88 = .ok (.iastore, 1) := by decide +kernel
theorem dX12_changes_89 : decode cX12_changes 89 = .ok (.aload_n 0, 1) := by decide +kernel
theorem dX12_changes_90 : decode cX12_changes 90 = .ok (.getfield 48, 3) := by decide +kernel
theorem dX12_changes_93 : decode cX12_changes 93 = .ok (.iload 5, 2) := by decide +kernel
theorem dX12_changes_95 : decode cX12_changes 95 = .ok (.iconst 1, 1) := by decide +kernel
theorem dX12_changes_96 : decode cX12_changes 96 = .ok (.isub, 1) := by decide +kernel
theorem dX12_changes_97 : decode cX12_changes 97 = .ok (.aload_n 0, 1) := by decide +kernel
theorem dX12_changes_98 : decode cX12_changes 98 = .ok (.getfield 48, 3) := by decide +kernel
theorem dX12_changes_101 : decode cX12_changes 101 = .ok (.iload 5, 2) := by decide +kernel
theorem dX12_changes_103 : decode cX12_changes 103 = .ok (.iaload, 1) := by decide +kernel
theorem dX12_changes_104 : decode cX12_changes 104 = .ok (.iastore, 1) := by decide +kernel
theorem dX12_changes_105 : decode cX12_changes 105 = .ok (.iinc 5 1, 3) := by decide +kernel
theorem dX12_changes_108 : decode cX12_changes 108 = .ok (.goto (-74), 3) := by decide +kernel
theorem dX12_changes_111 : decode cX12_changes 111 = .ok (.aload_n 0, 1) := by decide +kernel
theorem dX12_changes_112 : decode cX12_changes 112 = .ok (.dup, 1) := by decide +kernel
theorem dX12_changes_113 : decode cX12_changes 113 = .ok (.getfield 166, 3) := by decide +kernel
theorem dX12_changes_116 : decode cX12_changes 116 = .ok (.iconst 1, 1) := by decide +kernel
theorem dX12_changes_117 : decode cX12_changes 117 = .ok (.isub, 1) := by decide +kernel
theorem dX12_changes_118 : decode cX12_changes 118 = .ok (.putfield 166, 3) := by decide +kernel
theorem dX12_changes_121 : decode cX12_changes 121 = .ok (.aload_n 0, 1) := by decide +kernel
theorem dX12_changes_122 : decode cX12_changes 122 = .ok (.getfield 39, 3) := by decide +kernel
theorem dX12_changes_125 : decode cX12_changes 125 = .ok (.aload_n 0, 1) := by decide +kernel
theorem dX12_changes_126 : decode cX12_changes 126 = .ok (.getfield 166, 3) := by decide +kernel
theorem dX12_changes_129 : decode cX12_changes 129 = .ok (.iload_n 1, 1) := by decide +kernel
theorem dX12_changes_130 : decode cX12_changes 130 = .ok (.iastore, 1) := by decide +kernel
theorem dX12_changes_131 : decode cX12_changes 131 = .ok (.aload_n 0, 1) := by decide +kernel
theorem dX12_changes_132 : decode cX12_changes 132 = .ok (.getfield 42, 3) := by decide +kernel
theorem dX12_changes_135 : decode cX12_changes 135 = .ok (.aload_n 0, 1) := by decide +kernel
theorem dX12_changes_136 : decode cX12_changes 136 = .ok (.getfield 166, 3) := by decide +kernel
theorem dX12_changes_139 : decode cX12_changes 139 = .ok (.iload_n 2, 1) := by decide +kernel
theorem dX12_changes_140 : decode cX12_changes 140 = .ok (.iastore, 1) := by decide +kernel
theorem dX12_changes_141 : decode cX12_changes 141 = .ok (.aload_n 0, 1) := by decide +kernel
theorem dX12_changes_142 : decode cX12_changes 142 = .ok (.getfield 45, 3) := by decide +kernel
theorem dX12_changes_145 : decode cX12_changes 145 = .ok (.aload_n 0, 1) := by decide +kernel
theorem dX12_changes_146 : decode cX12_changes 146 = .ok (.getfield 166, 3) := by decide +kernel
theorem dX12_changes_149 : decode cX12_changes 149 = .ok (.iload 4, 2) := by decide +kernel
theorem dX12_changes_151 : decode cX12_changes 151 = .ok (.iastore, 1) := by decide +kernel
theorem dX12_changes_152 : decode cX12_changes 152 = .ok (.aload_n 0, 1) := by decide +kernel
theorem dX12_changes_153 : decode cX12_changes 153 = .ok (.getfield 48, 3) := by decide +kernel
theorem dX12_changes_156 : decode cX12_changes 156 = .ok (.aload_n 0, 1) := by decide +kernel
theorem dX12_changes_157 : decode cX12_changes 157 = .ok (.getfield 166, 3) := by decide +kernel
theorem dX12_changes_160 : decode cX12_changes 160 = .ok (.iload_n 3, 1) := by decide +kernel
theorem dX12_changes_161 : decode cX12_changes 161 = .ok (.iastore, 1) := by decide +kernel
theorem dX12_changes_162 : decode cX12_changes 162 = .ok (.aload_n 0, 1) := by decide +kernel
theorem dX12_changes_163 : decode cX12_changes 163 = .ok (.dup, 1) := by decide +kernel
theorem dX12_changes_164 : decode cX12_changes 164 = .ok (.getfield 166, 3) := by decide +kernel
theorem dX12_changes_167 : decode cX12_changes 167 = .ok (.iconst 1, 1) := by decide +kernel
theorem dX12_changes_168 : decode cX12_changes 168 = .ok (.iadd, 1) := by decide +kernel
theorem dX12_changes_169 : decode cX12_changes 169 = .ok (.putfield 166, 3) := by decide +kernel
theorem dX12_changes_172 : decode cX12_changes 172 = .ok (.aload_n 0, 1) := by decide +kernel
theorem dX12_changes_173 : decode cX12_changes 173 = .ok (.iload_n 1, 1) := by decide +kernel
theorem dX12_changes_174 : decode cX12_changes 174 = .ok (.iload_n 2, 1) := by decide +kernel
theorem dX12_changes_175 : decode cX12_changes 175 = .ok (.iload_n 3, 1) := by decide +kernel
theorem dX12_changes_176 : decode cX12_changes 176 = .ok (.invokevirtual 169, 3) := by decide +kernel
theorem dX12_changes_179 : decode cX12_changes 179 = .ok (.iload 4, 2) := by decide +kernel
theorem dX12_changes_181 : decode cX12_changes 181 = .ok (.ireturn, 1) := by decide +kernel
theorem dX12_undo_0 : decode cX12_undo 0 = .ok (.aload_n 0, 1) := by decide +kernel
theorem dX12_undo_1 : decode cX12_undo 1 = .ok (.getfield 166, 3) := by decide +kernel
theorem dX12_undo_4 : decode cX12_undo 4 = .ok (.ifCond .ne 6, 3) := by decide +kernel
theorem dX12_undo_7 : decode cX12_undo 7 = .ok (.bipush (-5), 2) := by decide +kernel
theorem dX12_undo_9 : decode cX12_undo 9 = .ok (.ireturn, 1) := by decide +kernel
theorem dX12_undo_10 : decode cX12_undo 10 = .ok (.aload_n 0, 1) := by decide +kernel
theorem dX12_undo_11 : decode cX12_undo 11 = .ok (.dup, 1) := by decide +kernel
theorem dX12_undo_12 : decode cX12_undo 12 = .ok (.getfield 166, 3) := by decide +kernel
theorem dX12_undo_15 : decode cX12_undo 15 = .ok (.iconst 1, 1) := by decide +kernel
theorem dX12_undo_16 : decode cX12_undo 16 = .ok (.isub, 1) := by decide +kernel
theorem dX12_undo_17 : decode cX12_undo 17 = .ok (.putfield 166, 3) := by decide +kernel
theorem dX12_undo_20 : decode cX12_undo 20 = .ok (.aload_n 0, 1) := by decide +kernel
theorem dX12_undo_21 : decode cX12_undo 21 = .ok (.dup, 1) := by decide +kernel
theorem dX12_undo_22 : decode cX12_undo 22 = .ok (.getfield 163, 3) := by decide +kernel
theorem dX12_undo_25 : decode cX12_undo 25 = .ok (.iconst 1, 1) := by decide +kernel
theorem dX12_undo_26 : decode cX12_undo 26 = .ok (.iadd, 1) := by decide +kernel
theorem dX12_undo_27 : decode cX12_undo 27 = .ok (.putfield 163, 3) := by decide +kernel
theorem dX12_undo_30 : decode cX12_undo 30 = .ok (.aload_n 0, 1) := by decide +kernel
theorem dX12_undo_31 : decode cX12_undo 31 = .ok (.aload_n 0, 1) := by decide +kernel
theorem dX12_undo_32 : decode cX12_undo 32 = .ok (.getfield 39, 3) := by decide +kernel
theorem dX12_undo_35 : decode cX12_undo 35 = .ok (.aload_n 0, 1) := by decide +kernel
theorem dX12_undo_36 : decode cX12_undo 36 = .ok (.getfield 166, 3) := by decide +kernel
theorem dX12_undo_39 : decode cX12_undo 39 = .ok (.iaload, 1) := by decide +kernel
theorem dX12_undo_40 : decode cX12_undo 40 = .ok (.aload_n 0, 1) := by decide +kernel
theorem dX12_undo_41 : decode cX12_undo 41 = .ok (.getfield 42, 3) := by decide +kernel
theorem dX12_undo_44 : decode cX12_undo 44 = .ok (.aload_n 0, 1) := by decide +kernel
theorem dX12_undo_45 : decode cX12_undo 45 = .ok (.getfield 166, 3) := by decide +kernel
theorem dX12_undo_48 : decode cX12_undo 48 = .ok (.iaload, 1) := by decide +kernel
theorem dX12_undo_49 : decode cX12_undo 49 = .ok (.aload_n 0, 1) := by decide +kernel
theorem dX12_undo_50 : decode cX12_undo 50 = .ok (.getfield 45, 3) := by decide +kernel
theorem dX12_undo_53 : decode cX12_undo 53 = .ok (.aload_n 0, 1) := by decide +kernel
theorem dX12_undo_54 : decode cX12_undo 54 = .ok (.getfield 166, 3) := by decide +kernel
theorem dX12_undo_57 : decode cX12_undo 57 = .ok (.iaload, 1) := by decide +kernel
theorem dX12_undo_58 : decode cX12_undo 58 = .ok (.invokevirtual 169, 3) := by decide +kernel
theorem dX12_undo_61 : decode cX12_undo 61 = .ok (.aload_n 0, 1) := by decide +kernel
theorem dX12_undo_62 : decode cX12_undo 62 = .ok (.getfield 166, 3) := by decide +kernel
theorem dX12_undo_65 : decode cX12_undo 65 = .ok (.ireturn, 1) := by decide +kernel
theorem dX12_redo_0 : decode cX12_redo 0 = .ok (.aload_n 0, 1) := by decide +kernel
theorem dX12_redo_1 : decode cX12_redo 1 = .ok (.getfield 163, 3) := by decide +kernel
theorem dX12_redo_4 : decode cX12_redo 4 = .ok (.ifCond .ne 6, 3) := by decide +kernel
theorem dX12_redo_7 : decode cX12_redo 7 = .ok (.bipush (-5), 2) := by decide +kernel
theorem dX12_redo_9 : decode cX12_redo 9 = .ok (.ireturn, 1) := by decide +kernel
theorem dX12_redo_10 : decode cX12_redo 10 = .ok (.aload_n 0, 1) := by decide +kernel
theorem dX12_redo_11 : decode cX12_redo 11 = .ok (.aload_n 0, 1) := by decide +kernel
theorem dX12_redo_12 : decode cX12_redo 12 = .ok (.getfield 39, 3) := by decide +kernel
theorem dX12_redo_15 : decode cX12_redo 15 = .ok (.aload_n 0, 1) := by decide +kernel
theorem dX12_redo_16 : decode cX12_redo 16 = .ok (.getfield 166, 3) := by decide +kernel
theorem dX12_redo_19 : decode cX12_redo 19 = .ok (.iaload, 1) := by decide +kernel
theorem dX12_redo_20 : decode cX12_redo 20 = .ok (.aload_n 0, 1) := by decide +kernel
theorem dX12_redo_21 : decode cX12_redo 21 = .ok (.getfield 42, 3) := by decide +kernel
theorem dX12_redo_24 : decode cX12_redo 24 = .ok (.aload_n 0, 1) := by decide +kernel
theorem dX12_redo_25 : decode cX12_redo 25 = .ok (.getfield 166, 3) := by decide +kernel
theorem dX12_redo_28 : decode cX12_redo 28 = .ok (.iaload, 1) := by decide +kernel
theorem dX12_redo_29 : decode cX12_redo 29 = .ok (.aload_n 0, 1) := by decide +kernel
theorem dX12_redo_30 : decode cX12_redo 30 = .ok (.getfield 48, 3) := by decide +kernel
theorem dX12_redo_33 : decode cX12_redo 33 = .ok (.aload_n 0, 1) := by decide +kernel
theorem dX12_redo_34 : decode cX12_redo 34 = .ok (.getfield 166, 3) := by decide +kernel
theorem dX12_redo_37 : decode cX12_redo 37 = .ok (.iaload, 1) := by decide +kernel
theorem dX12_redo_38 : decode cX12_redo 38 = .ok (.invokevirtual 169, 3) := by decide +kernel
theorem dX12_redo_41 : decode cX12_redo 41 = .ok (.aload_n 0, 1) := by decide +kernel
theorem dX12_redo_42 : decode cX12_redo 42 = .ok (.dup, 1) := by decide +kernel
theorem dX12_redo_43 : decode cX12_redo 43 = .ok (.getfield 166, 3) := by decide +kernel
theorem dX12_redo_46 : decode cX12_redo 46 = .ok (.iconst 1, 1) := by decide +kernel
theorem dX12_redo_47 : decode cX12_redo 47 = .ok (.iadd, 1) := by decide +kernel
theorem dX12_redo_48 : decode cX12_redo 48 = .ok (.putfield 166, 3) := by decide +kernel
theorem dX12_redo_51 : decode cX12_redo 51 = .ok (.aload_n 0, 1) := by decide +kernel
theorem dX12_redo_52 : decode cX12_redo 52 = .ok (.dup, 1) := by decide +kernel
theorem dX12_redo_53 : decode cX12_redo 53 = .ok (.getfield 163, 3) := by decide +kernel
theorem dX12_redo_56 : decode cX12_redo 56 = .ok (.iconst 1, 1) := by decide +kernel
theorem dX12_redo_57 : decode cX12_redo 57 = .ok (.isub, 1) := by decide +kernel
theorem dX12_redo_58 : decode cX12_redo 58 = .ok (.putfield 163, 3) := by decide +kernel
theorem dX12_redo_61 : decode cX12_redo 61 = .ok (.aload_n 0, 1) := by decide +kernel
theorem dX12_redo_62 : decode cX12_redo 62 = .ok (.getfield 163, 3) := by decide +kernel
theorem dX12_redo_65 : decode cX12_redo 65 = .ok (.ireturn, 1) := by decide +kernel
theorem dX12_isPlace_0 : decode cX12_isPlace 0 = .ok (.iload_n 2, 1) := by decide +kernel
theorem dX12_isPlace_1 : decode cX12_isPlace 1 = .ok (.iconst 0, 1) := by decide +kernel
theorem dX12_isPlace_2 : decode cX12_isPlace 2 = .ok (.iconst 4, 1) := by decide +kernel
theorem dX12_isPlace_3 : decode cX12_isPlace 3 = .ok (.invokestatic 142, 3) := by decide +kernel
theorem dX12_isPlace_6 : decode cX12_isPlace 6 = .ok (.ifCond .eq 11, 3) := by decide +kernel
theorem dX12_isPlace_9 : decode cX12_isPlace 9 = .ok (.aload_n 0, 1) := by decide +kernel
theorem dX12_isPlace_10 : decode cX12_isPlace 10 = .ok (.iload_n 1, 1) := by decide +kernel
theorem dX12_isPlace_11 : decode cX12_isPlace 11 = .ok (.invokevirtual 173, 3) := by decide +kernel
theorem dX12_isPlace_14 : decode cX12_isPlace 14 = .ok (.goto 35, 3) := by decide +kernel
theorem dX12_isPlace_17 : decode cX12_isPlace 17 = .ok (.iload_n 2, 1) := by decide +kernel
theorem dX12_isPlace_18 : decode cX12_isPlace 18 = .ok (.iconst 5, 1) := by decide +kernel
theorem dX12_isPlace_19 : decode cX12_isPlace 19 = .ok (.if_icmp .ne 10, 3) := by decide +kernel
theorem dX12_isPlace_22 : decode cX12_isPlace 22 = .ok (.iload_n 1, 1) := by decide +kernel
theorem dX12_isPlace_23 : decode cX12_isPlace 23 = .ok (.invokestatic 146, 3) := by decide +kernel
theorem dX12_isPlace_26 : decode cX12_isPlace 26 = .ok (.goto 23, 3) := by decide +kernel
theorem dX12_isPlace_29 : decode cX12_isPlace 29 = .ok (.iload_n 2, 1) := by decide +kernel
theorem dX12_isPlace_30 : decode cX12_isPlace 30 = .ok (.bipush 6, 2) := by decide +kernel
theorem dX12_isPlace_32 : decode cX12_isPlace 32 = .ok (.bipush 7, 2) := by decide +kernel
theorem dX12_isPlace_34 : decode cX12_isPlace 34 = .ok (.invokestatic 142, 3) := by decide +kernel
theorem dX12_isPlace_37 : decode cX12_isPlace 37 = .ok (.ifCond .eq 11, 3) := by decide +kernel
theorem dX12_isPlace_40 : decode cX12_isPlace 40 = .ok (.iload_n 1, 1) := by decide +kernel
theorem dX12_isPlace_41 : decode cX12_isPlace 41 = .ok (.ifCond .ne 7, 3) := by decide +kernel
theorem dX12_isPlace_44 : decode cX12_isPlace 44 = .ok (.iconst 1, 1) := by decide +kernel
theorem dX12_isPlace_45 : decode cX12_isPlace 45 = .ok (.goto 4, 3) := by decide +kernel
theorem dX12_isPlace_48 : decode cX12_isPlace 48 = .ok (.iconst 0, 1) := by decide +kernel
theorem dX12_isPlace_49 : decode cX12_isPlace 49 = .ok (.ireturn, 1) := by decide +kernel
theorem dX12_mayHave_0 : decode cX12_mayHave 0 = .ok (.iload_n 0, 1) := by decide +kernel
theorem dX12_mayHave_1 : decode cX12_mayHave 1 = .ok (.tableswitch 82 0 6 #[43, 82, 82, 51, 58, 66, 73], 43) := by decide +kernel
theorem dX12_mayHave_44 : decode cX12_mayHave 44 = .ok (.iload_n 1, 1) := by decide +kernel
theorem dX12_mayHave_45 : decode cX12_mayHave 45 = .ok (.iconst 0, 1) := by decide +kernel
theorem dX12_mayHave_46 : decode cX12_mayHave 46 = .ok (.bipush 9, 2) := by decide +kernel
theorem dX12_mayHave_48 : decode cX12_mayHave 48 = .ok (.invokestatic 142, 3) := by decide +kernel
theorem dX12_mayHave_51 : decode cX12_mayHave 51 = .ok (.ireturn, 1) := by decide +kernel
theorem dX12_mayHave_52 : decode cX12_mayHave 52 = .ok (.iload_n 1, 1) := by decide +kernel
theorem dX12_mayHave_53 : decode cX12_mayHave 53 = .ok (.iconst 0, 1) := by decide +kernel
theorem dX12_mayHave_54 : decode cX12_mayHave 54 = .ok (.iconst 1, 1) := by decide +kernel
theorem dX12_mayHave_55 : decode cX12_mayHave 55 = .ok (.invokestatic 142, 3) := by decide +kernel
theorem dX12_mayHave_58 : decode cX12_mayHave 58 = .ok (.ireturn, 1) := by decide +kernel
theorem dX12_mayHave_59 : decode cX12_mayHave 59 = .ok (.iload_n 1, 1) := by decide +kernel
theorem dX12_mayHave_60 : decode cX12_mayHave 60 = .ok (.iconst 0, 1) := by decide +kernel
theorem dX12_mayHave_61 : decode cX12_mayHave 61 = .ok (.bipush 9, 2) := by decide +kernel
theorem dX12_mayHave_63 : decode cX12_mayHave 63 = .ok (.invokestatic 142, 3) := by decide +kernel
theorem dX12_mayHave_66 : decode cX12_mayHave 66 = .ok (.ireturn, 1) := by decide +kernel
theorem dX12_mayHave_67 : decode cX12_mayHave 67 = .ok (.iload_n 1, 1) := by decide +kernel
theorem dX12_mayHave_68 : decode cX12_mayHave 68 = .ok (.iconst 0, 1) := by decide +kernel
theorem dX12_mayHave_69 : decode cX12_mayHave 69 = .ok (.iconst 1, 1) := by decide +kernel
theorem dX12_mayHave_70 : decode cX12_mayHave 70 = .ok (.invokestatic 142, 3) := by decide +kernel
theorem dX12_mayHave_73 : decode cX12_mayHave 73 = .ok (.ireturn, 1) := by decide +kernel
theorem dX12_mayHave_74 : decode cX12_mayHave 74 = .ok (.iload_n 1, 1) := by decide +kernel
theorem dX12_mayHave_75 : decode cX12_mayHave 75 = .ok (.bipush 30, 2) := by decide +kernel
theorem dX12_mayHave_77 : decode cX12_mayHave 77 = .ok (.bipush 99, 2) := by decide +kernel
theorem dX12_mayHave_79 : decode cX12_mayHave 79 = .ok (.invokestatic 142, 3) := by decide +kernel
theorem dX12_mayHave_82 : decode cX12_mayHave 82 = .ok (.ireturn, 1) := by decide +kernel
theorem dX12_mayHave_83 : decode cX12_mayHave 83 = .ok (.iload_n 1, 1) := by decide +kernel
theorem dX12_mayHave_84 : decode cX12_mayHave 84 = .ok (.iconst 0, 1) := by decide +kernel
theorem dX12_mayHave_85 : decode cX12_mayHave 85 = .ok (.bipush 99, 2) := by decide +kernel
theorem dX12_mayHave_87 : decode cX12_mayHave 87 = .ok (.invokestatic 142, 3) := by decide +kernel
theorem dX12_mayHave_90 : decode cX12_mayHave 90 = .ok (.ireturn, 1) := by decide +kernel
theorem dX12_mend_0 : decode cX12_mend 0 = .ok (.aload_n 0, 1) := by decide +kernel
theorem dX12_mend_1 : decode cX12_mend 1 = .ok (.iload_n 1, 1) := by decide +kernel
theorem dX12_mend_2 : decode cX12_mend 2 = .ok (.iload_n 2, 1) := by decide +kernel
theorem dX12_mend_3 : decode cX12_mend 3 = .ok (.invokevirtual 176, 3) := by decide +kernel
theorem dX12_mend_6 : decode cX12_mend 6 = .ok (.ifCond .eq 21, 3) := by decide +kernel
theorem dX12_mend_9 : decode cX12_mend 9 = .ok (.iload_n 2, 1) := by decide +kernel
theorem dX12_mend_10 : decode cX12_mend 10 = .ok (.iload_n 3, 1) := by decide +kernel
theorem dX12_mend_11 : decode cX12_mend 11 = .ok (.invokestatic 180, 3) := by decide +kernel
theorem dX12_mend_14 : decode cX12_mend 14 = .ok (.ifCond .eq 13, 3) := by decide +kernel
theorem dX12_mend_17 : decode cX12_mend 17 = .ok (.aload_n 0, 1) := by decide +kernel
theorem dX12_mend_18 : decode cX12_mend 18 = .ok (.iload_n 2, 1) := by decide +kernel
theorem dX12_mend_19 : decode cX12_mend 19 = .ok (.iload_n 1, 1) := by decide +kernel
theorem dX12_mend_20 : decode cX12_mend 20 = .ok (.iload_n 3, 1) := by decide +kernel
theorem dX12_mend_21 : decode cX12_mend 21 = .ok (.invokevirtual 183, 3) := by decide +kernel
theorem dX12_mend_24 : decode cX12_mend 24 = .ok (.goto 4, 3) := by decide +kernel
theorem dX12_mend_27 : decode cX12_mend 27 = .ok (.iconst (-1), 1) := by decide +kernel
theorem dX12_mend_28 : decode cX12_mend 28 = .ok (.ireturn, 1) := by decide +kernel
theorem dX12_of_0 : decode cX12_of 0 = .ok (.iload_n 2, 1) := by decide +kernel
theorem dX12_of_1 : decode cX12_of 1 = .ok (.bipush 8, 2) := by decide +kernel
theorem dX12_of_3 : decode cX12_of 3 = .ok (.if_icmp .ne 21, 3) := by decide +kernel
theorem dX12_of_6 : decode cX12_of 6 = .ok (.iload_n 1, 1) := by decide +kernel
theorem dX12_of_7 : decode cX12_of 7 = .ok (.invokestatic 146, 3) := by decide +kernel
theorem dX12_of_10 : decode cX12_of 10 = .ok (.ifCond .eq 12, 3) := by decide +kernel
theorem dX12_of_13 : decode cX12_of 13 = .ok (.aload_n 0, 1) := by decide +kernel
theorem dX12_of_14 : decode cX12_of 14 = .ok (.getfield 9, 3) := by decide +kernel
theorem dX12_of_17 : decode cX12_of 17 = .ok (.iload_n 1, 1) := by decide +kernel
theorem dX12_of_18 : decode cX12_of 18 = .ok (.iaload, 1) := by decide +kernel
theorem dX12_of_19 : decode cX12_of 19 = .ok (.goto 4, 3) := by decide +kernel
theorem dX12_of_22 : decode cX12_of 22 = .ok (.iconst (-1), 1) := by decide +kernel
theorem dX12_of_23 : decode cX12_of 23 = .ok (.ireturn, 1) := by decide +kernel
theorem dX12_of_24 : decode cX12_of 24 = .ok (.aload_n 0, 1) := by decide +kernel
theorem dX12_of_25 : decode cX12_of 25 = .ok (.iload_n 1, 1) := by decide +kernel
theorem dX12_of_26 : decode cX12_of 26 = .ok (.iload_n 2, 1) := by decide +kernel
theorem dX12_of_27 : decode cX12_of 27 = .ok (.invokevirtual 176, 3) := by decide +kernel
theorem dX12_of_30 : decode cX12_of 30 = .ok (.ifCond .eq 12, 3) := by decide +kernel
theorem dX12_of_33 : decode cX12_of 33 = .ok (.aload_n 0, 1) := by decide +kernel
theorem dX12_of_34 : decode cX12_of 34 = .ok (.iload_n 2, 1) := by decide +kernel
theorem dX12_of_35 : decode cX12_of 35 = .ok (.iload_n 1, 1) := by decide +kernel
theorem dX12_of_36 : decode cX12_of 36 = .ok (.invokevirtual 159, 3) := by decide +kernel
theorem dX12_of_39 : decode cX12_of 39 = .ok (.goto 4, 3) := by decide +kernel
theorem dX12_of_42 : decode cX12_of 42 = .ok (.iconst (-1), 1) := by decide +kernel
theorem dX12_of_43 : decode cX12_of 43 = .ok (.ireturn, 1) := by decide +kernel
theorem dX12_feed_0 : decode cX12_feed 0 = .ok (.iload_n 1, 1) := by decide +kernel
theorem dX12_feed_1 : decode cX12_feed 1 = .ok (.iconst 0, 1) := by decide +kernel
theorem dX12_feed_2 : decode cX12_feed 2 = .ok (.sipush 255, 3) := by decide +kernel
theorem dX12_feed_5 : decode cX12_feed 5 = .ok (.invokestatic 142, 3) := by decide +kernel
theorem dX12_feed_8 : decode cX12_feed 8 = .ok (.ifCond .ne 5, 3) := by decide +kernel
theorem dX12_feed_11 : decode cX12_feed 11 = .ok (.iconst (-1), 1) := by decide +kernel
theorem dX12_feed_12 : decode cX12_feed 12 = .ok (.ireturn, 1) := by decide +kernel
theorem dX12_feed_13 : decode cX12_feed 13 = .ok (.aload_n 0, 1) := by decide +kernel
theorem dX12_feed_14 : decode cX12_feed 14 = .ok (.getfield 186, 3) := by decide +kernel
theorem dX12_feed_17 : decode cX12_feed 17 = .ok (.bipush 120, 2) := by decide +kernel
theorem dX12_feed_19 : decode cX12_feed 19 = .ok (.if_icmp .ne 6, 3) := by decide +kernel
theorem dX12_feed_22 : decode cX12_feed 22 = .ok (.bipush (-3), 2) := by decide +kernel
theorem dX12_feed_24 : decode cX12_feed 24 = .ok (.ireturn, 1) := by decide +kernel
theorem dX12_feed_25 : decode cX12_feed 25 = .ok (.aload_n 0, 1) := by decide +kernel
theorem dX12_feed_26 : decode cX12_feed 26 = .ok (.getfield 51, 3) := by decide +kernel
theorem dX12_feed_29 : decode cX12_feed 29 = .ok (.aload_n 0, 1) := by decide +kernel
theorem dX12_feed_30 : decode cX12_feed 30 = .ok (.getfield 186, 3) := by decide +kernel
theorem dX12_feed_33 : decode cX12_feed 33 = .ok (.iload_n 1, 1) := by decide +kernel
theorem dX12_feed_34 : decode cX12_feed 34 = .ok (.i2b, 1) := by decide +kernel
theorem dX12_feed_35 : decode cX12_feed 35 = .ok (.bastore, 1) := by decide +kernel
theorem dX12_feed_36 : decode cX12_feed 36 = .ok (.aload_n 0, 1) := by decide +kernel
theorem dX12_feed_37 : decode cX12_feed 37 = .ok (.dup, 1) := by decide +kernel
theorem dX12_feed_38 : decode cX12_feed 38 = .ok (.getfield 186, 3) := by decide +kernel
theorem dX12_feed_41 : decode cX12_feed 41 = .ok (.iconst 1, 1) := by decide +kernel
theorem dX12_feed_42 : decode cX12_feed 42 = .ok (.iadd, 1) := by decide +kernel
theorem dX12_feed_43 : decode cX12_feed 43 = .ok (.putfield 186, 3) := by decide +kernel
theorem dX12_feed_46 : decode cX12_feed 46 = .ok (.aload_n 0, 1) := by decide +kernel
theorem dX12_feed_47 : decode cX12_feed 47 = .ok (.getfield 186, 3) := by decide +kernel
theorem dX12_feed_50 : decode cX12_feed 50 = .ok (.ireturn, 1) := by decide +kernel
theorem dX12_look_0 : decode cX12_look 0 = .ok (.aload_n 0, 1) := by decide +kernel
theorem dX12_look_1 : decode cX12_look 1 = .ok (.getfield 189, 3) := by decide +kernel
theorem dX12_look_4 : decode cX12_look 4 = .ok (.aload_n 0, 1) := by decide +kernel
theorem dX12_look_5 : decode cX12_look 5 = .ok (.getfield 186, 3) := by decide +kernel
theorem dX12_look_8 : decode cX12_look 8 = .ok (.if_icmp .ge 15, 3) := by decide +kernel
theorem dX12_look_11 : decode cX12_look 11 = .ok (.aload_n 0, 1) := by decide +kernel
theorem dX12_look_12 : decode cX12_look 12 = .ok (.getfield 51, 3) := by decide +kernel
theorem dX12_look_15 : decode cX12_look 15 = .ok (.aload_n 0, 1) := by decide +kernel
theorem dX12_look_16 : decode cX12_look 16 = .ok (.getfield 189, 3) := by decide +kernel
theorem dX12_look_19 : decode cX12_look 19 = .ok (.baload, 1) := by decide +kernel
theorem dX12_look_20 : decode cX12_look 20 = .ok (.goto 4, 3) := by decide +kernel
theorem dX12_look_23 : decode cX12_look 23 = .ok (.iconst (-1), 1) := by decide +kernel
theorem dX12_look_24 : decode cX12_look 24 = .ok (.ireturn, 1) := by decide +kernel
theorem dX12_wrong_0 : decode cX12_wrong 0 = .ok (.aload_n 0, 1) := by decide +kernel
theorem dX12_wrong_1 : decode cX12_wrong 1 = .ok (.getfield 192, 3) := by decide +kernel
theorem dX12_wrong_4 : decode cX12_wrong 4 = .ok (.ifCond .ge 11, 3) := by decide +kernel
theorem dX12_wrong_7 : decode cX12_wrong 7 = .ok (.aload_n 0, 1) := by decide +kernel
theorem dX12_wrong_8 : decode cX12_wrong 8 = .ok (.aload_n 0, 1) := by decide +kernel
theorem dX12_wrong_9 : decode cX12_wrong 9 = .ok (.getfield 189, 3) := by decide +kernel
theorem dX12_wrong_12 : decode cX12_wrong 12 = .ok (.putfield 192, 3) := by decide +kernel
theorem dX12_wrong_15 : decode cX12_wrong 15 = .ok (.return_, 1) := by decide +kernel
theorem dX12_addStep_0 : decode cX12_addStep 0 = .ok (.aload_n 0, 1) := by decide +kernel
theorem dX12_addStep_1 : decode cX12_addStep 1 = .ok (.getfield 55, 3) := by decide +kernel
theorem dX12_addStep_4 : decode cX12_addStep 4 = .ok (.sipush 130, 3) := by decide +kernel
theorem dX12_addStep_7 : decode cX12_addStep 7 = .ok (.aload_n 0, 1) := by decide +kernel
theorem dX12_addStep_8 : decode cX12_addStep 8 = .ok (.getfield 195, 3) := by decide +kernel
theorem dX12_addStep_11 : decode cX12_addStep 11 = .ok (.iadd, 1) := by decide +kernel
theorem dX12_addStep_12 : decode cX12_addStep 12 = .ok (.iload_n 1, 1) := by decide +kernel
theorem dX12_addStep_13 : decode cX12_addStep 13 = .ok (.i2b, 1) := by decide +kernel
theorem dX12_addStep_14 : decode cX12_addStep 14 = .ok (.bastore, 1) := by decide +kernel
theorem dX12_addStep_15 : decode cX12_addStep 15 = .ok (.aload_n 0, 1) := by decide +kernel
theorem dX12_addStep_16 : decode cX12_addStep 16 = .ok (.getfield 58, 3) := by decide +kernel
theorem dX12_addStep_19 : decode cX12_addStep 19 = .ok (.sipush 130, 3) := by decide +kernel
theorem dX12_addStep_22 : decode cX12_addStep 22 = .ok (.aload_n 0, 1) := by decide +kernel
theorem dX12_addStep_23 : decode cX12_addStep 23 = .ok (.getfield 195, 3) := by decide +kernel
theorem dX12_addStep_26 : decode cX12_addStep 26 = .ok (.iadd, 1) := by decide +kernel
theorem dX12_addStep_27 : decode cX12_addStep 27 = .ok (.iload_n 2, 1) := by decide +kernel
theorem dX12_addStep_28 : decode cX12_addStep 28 = .ok (.iastore, 1) := by decide +kernel
theorem dX12_addStep_29 : decode cX12_addStep 29 = .ok (.aload_n 0, 1) := by decide +kernel
theorem dX12_addStep_30 : decode cX12_addStep 30 = .ok (.dup, 1) := by decide +kernel
theorem dX12_addStep_31 : decode cX12_addStep 31 = .ok (.getfield 195, 3) := by decide +kernel
theorem dX12_addStep_34 : decode cX12_addStep 34 = .ok (.iconst 1, 1) := by decide +kernel
theorem dX12_addStep_35 : decode cX12_addStep 35 = .ok (.iadd, 1) := by decide +kernel
theorem dX12_addStep_36 : decode cX12_addStep 36 = .ok (.putfield 195, 3) := by decide +kernel
theorem dX12_addStep_39 : decode cX12_addStep 39 = .ok (.return_, 1) := by decide +kernel
theorem dX12_nameOf_0 : decode cX12_nameOf 0 = .ok (.iload_n 0, 1) := by decide +kernel
theorem dX12_nameOf_1 : decode cX12_nameOf 1 = .ok (.tableswitch 103 97 115 #[95, 103, 103, 91, 103, 103, 103, 93, 103, 103, 103, 101, 103, 99, 103, 103, 103, 103, 97], 91) := by decide +kernel
theorem dX12_nameOf_92 : decode cX12_nameOf 92 = .ok (.iconst 0, 1) := by decide +kernel
theorem dX12_nameOf_93 : decode cX12_nameOf 93 = .ok (.ireturn, 1) := by decide +kernel
theorem dX12_nameOf_94 : decode cX12_nameOf 94 = .ok (.iconst 1, 1) := by decide +kernel
theorem dX12_nameOf_95 : decode cX12_nameOf 95 = .ok (.ireturn, 1) := by decide +kernel
theorem dX12_nameOf_96 : decode cX12_nameOf 96 = .ok (.iconst 2, 1) := by decide +kernel
theorem dX12_nameOf_97 : decode cX12_nameOf 97 = .ok (.ireturn, 1) := by decide +kernel
theorem dX12_nameOf_98 : decode cX12_nameOf 98 = .ok (.iconst 3, 1) := by decide +kernel
theorem dX12_nameOf_99 : decode cX12_nameOf 99 = .ok (.ireturn, 1) := by decide +kernel
theorem dX12_nameOf_100 : decode cX12_nameOf 100 = .ok (.iconst 4, 1) := by decide +kernel
theorem dX12_nameOf_101 : decode cX12_nameOf 101 = .ok (.ireturn, 1) := by decide +kernel
theorem dX12_nameOf_102 : decode cX12_nameOf 102 = .ok (.iconst 5, 1) := by decide +kernel
theorem dX12_nameOf_103 : decode cX12_nameOf 103 = .ok (.ireturn, 1) := by decide +kernel
theorem dX12_nameOf_104 : decode cX12_nameOf 104 = .ok (.iconst (-1), 1) := by decide +kernel
theorem dX12_nameOf_105 : decode cX12_nameOf 105 = .ok (.ireturn, 1) := by decide +kernel
theorem dX12_opens_0 : decode cX12_opens 0 = .ok (.aload_n 0, 1) := by decide +kernel
theorem dX12_opens_1 : decode cX12_opens 1 = .ok (.getfield 198, 3) := by decide +kernel
theorem dX12_opens_4 : decode cX12_opens 4 = .ok (.bipush 6, 2) := by decide +kernel
theorem dX12_opens_6 : decode cX12_opens 6 = .ok (.if_icmp .ne 9, 3) := by decide +kernel
theorem dX12_opens_9 : decode cX12_opens 9 = .ok (.aload_n 0, 1) := by decide +kernel
theorem dX12_opens_10 : decode cX12_opens 10 = .ok (.invokevirtual 201, 3) := by decide +kernel
theorem dX12_opens_13 : decode cX12_opens 13 = .ok (.iconst 0, 1) := by decide +kernel
theorem dX12_opens_14 : decode cX12_opens 14 = .ok (.ireturn, 1) := by decide +kernel
theorem dX12_opens_15 : decode cX12_opens 15 = .ok (.aload_n 0, 1) := by decide +kernel
theorem dX12_opens_16 : decode cX12_opens 16 = .ok (.dup, 1) := by decide +kernel
theorem dX12_opens_17 : decode cX12_opens 17 = .ok (.getfield 198, 3) := by decide +kernel
theorem dX12_opens_20 : decode cX12_opens 20 = .ok (.iconst 1, 1) := by decide +kernel
theorem dX12_opens_21 : decode cX12_opens 21 = .ok (.iadd, 1) := by decide +kernel
theorem dX12_opens_22 : decode cX12_opens 22 = .ok (.putfield 198, 3) := by decide +kernel
theorem dX12_opens_25 : decode cX12_opens 25 = .ok (.aload_n 0, 1) := by decide +kernel
theorem dX12_opens_26 : decode cX12_opens 26 = .ok (.dup, 1) := by decide +kernel
theorem dX12_opens_27 : decode cX12_opens 27 = .ok (.getfield 189, 3) := by decide +kernel
theorem dX12_opens_30 : decode cX12_opens 30 = .ok (.iconst 1, 1) := by decide +kernel
theorem dX12_opens_31 : decode cX12_opens 31 = .ok (.iadd, 1) := by decide +kernel
theorem dX12_opens_32 : decode cX12_opens 32 = .ok (.putfield 189, 3) := by decide +kernel
theorem dX12_opens_35 : decode cX12_opens 35 = .ok (.iconst 1, 1) := by decide +kernel
theorem dX12_opens_36 : decode cX12_opens 36 = .ok (.ireturn, 1) := by decide +kernel
theorem dX12_figure_0 : decode cX12_figure 0 = .ok (.iconst 0, 1) := by decide +kernel
theorem dX12_figure_1 : decode cX12_figure 1 = .ok (.istore_n 1, 1) := by decide +kernel
theorem dX12_figure_2 : decode cX12_figure 2 = .ok (.iconst 0, 1) := by decide +kernel
theorem dX12_figure_3 : decode cX12_figure 3 = .ok (.istore_n 2, 1) := by decide +kernel
theorem dX12_figure_4 : decode cX12_figure 4 = .ok (.iload_n 2, 1) := by decide +kernel
theorem dX12_figure_5 : decode cX12_figure 5 = .ok (.iconst 4, 1) := by decide +kernel
theorem dX12_figure_6 : decode cX12_figure 6 = .ok (.if_icmp .ge 46, 3) := by decide +kernel
theorem dX12_figure_9 : decode cX12_figure 9 = .ok (.aload_n 0, 1) := by decide +kernel
theorem dX12_figure_10 : decode cX12_figure 10 = .ok (.invokevirtual 204, 3) := by decide +kernel
theorem dX12_figure_13 : decode cX12_figure 13 = .ok (.bipush 48, 2) := by decide +kernel
theorem dX12_figure_15 : decode cX12_figure 15 = .ok (.bipush 57, 2) := by decide +kernel
theorem dX12_figure_17 : decode cX12_figure 17 = .ok (.invokestatic 142, 3) := by decide +kernel
theorem dX12_figure_20 : decode cX12_figure 20 = .ok (.ifCond .eq 32, 3) := by decide +kernel
theorem dX12_figure_23 : decode cX12_figure 23 = .ok (.bipush 10, 2) := by decide +kernel
theorem dX12_figure_25 : decode cX12_figure 25 = .ok (.iload_n 1, 1) := by decide +kernel
theorem dX12_figure_26 : decode cX12_figure 26 = .ok (.imul, 1) := by decide +kernel
theorem dX12_figure_27 : decode cX12_figure 27 = .ok (.aload_n 0, 1) := by decide +kernel
theorem dX12_figure_28 : decode cX12_figure 28 = .ok (.invokevirtual 204, 3) := by decide +kernel
theorem dX12_figure_31 : decode cX12_figure 31 = .ok (.iadd, 1) := by decide +kernel
theorem dX12_figure_32 : decode cX12_figure 32 = .ok (.bipush 48, 2) := by decide +kernel
theorem dX12_figure_34 : decode cX12_figure 34 = .ok (.isub, 1) := by decide +kernel
theorem dX12_figure_35 : decode cX12_figure 35 = .ok (.istore_n 1, 1) := by decide +kernel
theorem dX12_figure_36 : decode cX12_figure 36 = .ok (.iinc 2 1, 3) := by decide +kernel
theorem dX12_figure_39 : decode cX12_figure 39 = .ok (.aload_n 0, 1) := by decide +kernel
theorem dX12_figure_40 : decode cX12_figure 40 = .ok (.dup, 1) := by decide +kernel
theorem dX12_figure_41 : decode cX12_figure 41 = .ok (.getfield 189, 3) := by decide +kernel
theorem dX12_figure_44 : decode cX12_figure 44 = .ok (.iconst 1, 1) := by decide +kernel
theorem dX12_figure_45 : decode cX12_figure 45 = .ok (.iadd, 1) := by decide +kernel
theorem dX12_figure_46 : decode cX12_figure 46 = .ok (.putfield 189, 3) := by decide +kernel
theorem dX12_figure_49 : decode cX12_figure 49 = .ok (.goto (-45), 3) := by decide +kernel
theorem dX12_figure_52 : decode cX12_figure 52 = .ok (.iload_n 2, 1) := by decide +kernel
theorem dX12_figure_53 : decode cX12_figure 53 = .ok (.ifCond .eq 17, 3) := by decide +kernel
theorem dX12_figure_56 : decode cX12_figure 56 = .ok (.aload_n 0, 1) := by decide +kernel
theorem dX12_figure_57 : decode cX12_figure 57 = .ok (.invokevirtual 204, 3) := by decide +kernel
theorem dX12_figure_60 : decode cX12_figure 60 = .ok (.bipush 48, 2) := by decide +kernel
theorem dX12_figure_62 : decode cX12_figure 62 = .ok (.bipush 57, 2) := by decide +kernel
theorem dX12_figure_64 : decode cX12_figure 64 = .ok (.invokestatic 142, 3) := by decide +kernel
theorem dX12_figure_67 : decode cX12_figure 67 = .ok (.ifCond .eq 7, 3) := by decide +kernel
theorem dX12_figure_70 : decode cX12_figure 70 = .ok (.aload_n 0, 1) := by decide +kernel
theorem dX12_figure_71 : decode cX12_figure 71 = .ok (.invokevirtual 201, 3) := by decide +kernel
theorem dX12_figure_74 : decode cX12_figure 74 = .ok (.aload_n 0, 1) := by decide +kernel
theorem dX12_figure_75 : decode cX12_figure 75 = .ok (.iconst 1, 1) := by decide +kernel
theorem dX12_figure_76 : decode cX12_figure 76 = .ok (.iload_n 1, 1) := by decide +kernel
theorem dX12_figure_77 : decode cX12_figure 77 = .ok (.invokevirtual 208, 3) := by decide +kernel
theorem dX12_figure_80 : decode cX12_figure 80 = .ok (.return_, 1) := by decide +kernel
theorem dX12_operand_0 : decode cX12_operand 0 = .ok (.aload_n 0, 1) := by decide +kernel
theorem dX12_operand_1 : decode cX12_operand 1 = .ok (.invokevirtual 204, 3) := by decide +kernel
theorem dX12_operand_4 : decode cX12_operand 4 = .ok (.istore_n 1, 1) := by decide +kernel
theorem dX12_operand_5 : decode cX12_operand 5 = .ok (.iload_n 1, 1) := by decide +kernel
theorem dX12_operand_6 : decode cX12_operand 6 = .ok (.invokestatic 212, 3) := by decide +kernel
theorem dX12_operand_9 : decode cX12_operand 9 = .ok (.ifCond .lt 25, 3) := by decide +kernel
theorem dX12_operand_12 : decode cX12_operand 12 = .ok (.aload_n 0, 1) := by decide +kernel
theorem dX12_operand_13 : decode cX12_operand 13 = .ok (.iconst 2, 1) := by decide +kernel
theorem dX12_operand_14 : decode cX12_operand 14 = .ok (.iload_n 1, 1) := by decide +kernel
theorem dX12_operand_15 : decode cX12_operand 15 = .ok (.invokestatic 212, 3) := by decide +kernel
theorem dX12_operand_18 : decode cX12_operand 18 = .ok (.invokevirtual 208, 3) := by decide +kernel
theorem dX12_operand_21 : decode cX12_operand 21 = .ok (.aload_n 0, 1) := by decide +kernel
theorem dX12_operand_22 : decode cX12_operand 22 = .ok (.dup, 1) := by decide +kernel
theorem dX12_operand_23 : decode cX12_operand 23 = .ok (.getfield 189, 3) := by decide +kernel
theorem dX12_operand_26 : decode cX12_operand 26 = .ok (.iconst 1, 1) := by decide +kernel
theorem dX12_operand_27 : decode cX12_operand 27 = .ok (.iadd, 1) := by decide +kernel
theorem dX12_operand_28 : decode cX12_operand 28 = .ok (.putfield 189, 3) := by decide +kernel
theorem dX12_operand_31 : decode cX12_operand 31 = .ok (.goto 123, 3) := by decide +kernel
theorem dX12_operand_34 : decode cX12_operand 34 = .ok (.iload_n 1, 1) := by decide +kernel
theorem dX12_operand_35 : decode cX12_operand 35 = .ok (.bipush 33, 2) := by decide +kernel
theorem dX12_operand_37 : decode cX12_operand 37 = .ok (.if_icmp .eq 9, 3) := by decide +kernel
theorem dX12_operand_40 : decode cX12_operand 40 = .ok (.iload_n 1, 1) := by decide +kernel
theorem dX12_operand_41 : decode cX12_operand 41 = .ok (.bipush 45, 2) := by decide +kernel
theorem dX12_operand_43 : decode cX12_operand 43 = .ok (.if_icmp .ne 44, 3) := by decide +kernel
theorem dX12_operand_46 : decode cX12_operand 46 = .ok (.aload_n 0, 1) := by decide +kernel
theorem dX12_operand_47 : decode cX12_operand 47 = .ok (.invokevirtual 216, 3) := by decide +kernel
theorem dX12_operand_50 : decode cX12_operand 50 = .ok (.ifCond .ne 4, 3) := by decide +kernel
theorem dX12_operand_53 : decode cX12_operand 53 = .ok (.return_, 1) := by decide +kernel
theorem dX12_operand_54 : decode cX12_operand 54 = .ok (.aload_n 0, 1) := by decide +kernel
theorem dX12_operand_55 : decode cX12_operand 55 = .ok (.invokevirtual 220, 3) := by decide +kernel
theorem dX12_operand_58 : decode cX12_operand 58 = .ok (.aload_n 0, 1) := by decide +kernel
theorem dX12_operand_59 : decode cX12_operand 59 = .ok (.dup, 1) := by decide +kernel
theorem dX12_operand_60 : decode cX12_operand 60 = .ok (.getfield 198, 3) := by decide +kernel
theorem dX12_operand_63 : decode cX12_operand 63 = .ok (.iconst 1, 1) := by decide +kernel
theorem dX12_operand_64 : decode cX12_operand 64 = .ok (.isub, 1) := by decide +kernel
theorem dX12_operand_65 : decode cX12_operand 65 = .ok (.putfield 198, 3) := by decide +kernel
theorem dX12_operand_68 : decode cX12_operand 68 = .ok (.aload_n 0, 1) := by decide +kernel
theorem dX12_operand_69 : decode cX12_operand 69 = .ok (.iload_n 1, 1) := by decide +kernel
theorem dX12_operand_70 : decode cX12_operand 70 = .ok (.bipush 33, 2) := by decide +kernel
theorem dX12_operand_72 : decode cX12_operand 72 = .ok (.if_icmp .ne 7, 3) := by decide +kernel
theorem dX12_operand_75 : decode cX12_operand 75 = .ok (.iconst 3, 1) := by decide +kernel
theorem dX12_operand_76 : decode cX12_operand 76 = .ok (.goto 4, 3) := by decide +kernel
theorem dX12_operand_79 : decode cX12_operand 79 = .ok (.iconst 4, 1) := by decide +kernel
theorem dX12_operand_80 : decode cX12_operand 80 = .ok (.iconst 0, 1) := by decide +kernel
theorem dX12_operand_81 : decode cX12_operand 81 = .ok (.invokevirtual 208, 3) := by decide +kernel
theorem dX12_operand_84 : decode cX12_operand 84 = .ok (.goto 70, 3) := by decide +kernel
theorem dX12_operand_87 : decode cX12_operand 87 = .ok (.iload_n 1, 1) := by decide +kernel
theorem dX12_operand_88 : decode cX12_operand 88 = .ok (.bipush 40, 2) := by decide +kernel
theorem dX12_operand_90 : decode cX12_operand 90 = .ok (.if_icmp .ne 60, 3) := by decide +kernel
theorem dX12_operand_93 : decode cX12_operand 93 = .ok (.aload_n 0, 1) := by decide +kernel
theorem dX12_operand_94 : decode cX12_operand 94 = .ok (.invokevirtual 216, 3) := by decide +kernel
theorem dX12_operand_97 : decode cX12_operand 97 = .ok (.ifCond .ne 4, 3) := by decide +kernel
theorem dX12_operand_100 : decode cX12_operand 100 = .ok (.return_, 1) := by decide +kernel
theorem dX12_operand_101 : decode cX12_operand 101 = .ok (.aload_n 0, 1) := by decide +kernel
theorem dX12_operand_102 : decode cX12_operand 102 = .ok (.invokevirtual 223, 3) := by decide +kernel
theorem dX12_operand_105 : decode cX12_operand 105 = .ok (.aload_n 0, 1) := by decide +kernel
theorem dX12_operand_106 : decode cX12_operand 106 = .ok (.getfield 192, 3) := by decide +kernel
theorem dX12_operand_109 : decode cX12_operand 109 = .ok (.ifCond .lt 4, 3) := by decide +kernel
theorem dX12_operand_112 : decode cX12_operand 112 = .ok (.return_, 1) := by decide +kernel
theorem dX12_operand_113 : decode cX12_operand 113 = .ok (.aload_n 0, 1) := by decide +kernel
theorem dX12_operand_114 : decode cX12_operand 114 = .ok (.invokevirtual 204, 3) := by decide +kernel
theorem dX12_operand_117 : decode cX12_operand 117 = .ok (.bipush 41, 2) := by decide +kernel
theorem dX12_operand_119 : decode cX12_operand 119 = .ok (.if_icmp .eq 8, 3) := by decide +kernel
theorem dX12_operand_122 : decode cX12_operand 122 = .ok (.aload_n 0, 1) := by decide +kernel
theorem dX12_operand_123 : decode cX12_operand 123 = .ok (.invokevirtual 201, 3) := by decide +kernel
theorem dX12_operand_126 : decode cX12_operand 126 = .ok (.return_, 1) := by decide +kernel
theorem dX12_operand_127 : decode cX12_operand 127 = .ok (.aload_n 0, 1) := by decide +kernel
theorem dX12_operand_128 : decode cX12_operand 128 = .ok (.dup, 1) := by decide +kernel
theorem dX12_operand_129 : decode cX12_operand 129 = .ok (.getfield 189, 3) := by decide +kernel
theorem dX12_operand_132 : decode cX12_operand 132 = .ok (.iconst 1, 1) := by decide +kernel
theorem dX12_operand_133 : decode cX12_operand 133 = .ok (.iadd, 1) := by decide +kernel
theorem dX12_operand_134 : decode cX12_operand 134 = .ok (.putfield 189, 3) := by decide +kernel
theorem dX12_operand_137 : decode cX12_operand 137 = .ok (.aload_n 0, 1) := by decide +kernel
theorem dX12_operand_138 : decode cX12_operand 138 = .ok (.dup, 1) := by decide +kernel
theorem dX12_operand_139 : decode cX12_operand 139 = .ok (.getfield 198, 3) := by decide +kernel
theorem dX12_operand_142 : decode cX12_operand 142 = .ok (.iconst 1, 1) := by decide +kernel
theorem dX12_operand_143 : decode cX12_operand 143 = .ok (.isub, 1) := by decide +kernel
theorem dX12_operand_144 : decode cX12_operand 144 = .ok (.putfield 198, 3) := by decide +kernel
theorem dX12_operand_147 : decode cX12_operand 147 = .ok (.goto 7, 3) := by decide +kernel
theorem dX12_operand_150 : decode cX12_operand 150 = .ok (.aload_n 0, 1) := by decide +kernel
theorem dX12_operand_151 : decode cX12_operand 151 = .ok (.invokevirtual 226, 3) := by decide +kernel
theorem dX12_operand_154 : decode cX12_operand 154 = .ok (.return_, 1) := by decide +kernel
theorem dX12_product_0 : decode cX12_product 0 = .ok (.aload_n 0, 1) := by decide +kernel
theorem dX12_product_1 : decode cX12_product 1 = .ok (.invokevirtual 220, 3) := by decide +kernel
theorem dX12_product_4 : decode cX12_product 4 = .ok (.aload_n 0, 1) := by decide +kernel
theorem dX12_product_5 : decode cX12_product 5 = .ok (.getfield 192, 3) := by decide +kernel
theorem dX12_product_8 : decode cX12_product 8 = .ok (.ifCond .ge 58, 3) := by decide +kernel
theorem dX12_product_11 : decode cX12_product 11 = .ok (.aload_n 0, 1) := by decide +kernel
theorem dX12_product_12 : decode cX12_product 12 = .ok (.invokevirtual 204, 3) := by decide +kernel
theorem dX12_product_15 : decode cX12_product 15 = .ok (.bipush 42, 2) := by decide +kernel
theorem dX12_product_17 : decode cX12_product 17 = .ok (.if_icmp .eq 21, 3) := by decide +kernel
theorem dX12_product_20 : decode cX12_product 20 = .ok (.aload_n 0, 1) := by decide +kernel
theorem dX12_product_21 : decode cX12_product 21 = .ok (.invokevirtual 204, 3) := by decide +kernel
theorem dX12_product_24 : decode cX12_product 24 = .ok (.bipush 47, 2) := by decide +kernel
theorem dX12_product_26 : decode cX12_product 26 = .ok (.if_icmp .eq 12, 3) := by decide +kernel
theorem dX12_product_29 : decode cX12_product 29 = .ok (.aload_n 0, 1) := by decide +kernel
theorem dX12_product_30 : decode cX12_product 30 = .ok (.invokevirtual 204, 3) := by decide +kernel
theorem dX12_product_33 : decode cX12_product 33 = .ok (.bipush 37, 2) := by decide +kernel
theorem dX12_product_35 : decode cX12_product 35 = .ok (.if_icmp .ne 31, 3) := by decide +kernel
theorem dX12_product_38 : decode cX12_product 38 = .ok (.aload_n 0, 1) := by decide +kernel
theorem dX12_product_39 : decode cX12_product 39 = .ok (.invokevirtual 204, 3) := by decide +kernel
theorem dX12_product_42 : decode cX12_product 42 = .ok (.istore_n 1, 1) := by decide +kernel
theorem dX12_product_43 : decode cX12_product 43 = .ok (.aload_n 0, 1) := by decide +kernel
theorem dX12_product_44 : decode cX12_product 44 = .ok (.dup, 1) := by decide +kernel
theorem dX12_product_45 : decode cX12_product 45 = .ok (.getfield 189, 3) := by decide +kernel
theorem dX12_product_48 : decode cX12_product 48 = .ok (.iconst 1, 1) := by decide +kernel
theorem dX12_product_49 : decode cX12_product 49 = .ok (.iadd, 1) := by decide +kernel
theorem dX12_product_50 : decode cX12_product 50 = .ok (.putfield 189, 3) := by decide +kernel
theorem dX12_product_53 : decode cX12_product 53 = .ok (.aload_n 0, 1) := by decide +kernel
theorem dX12_product_54 : decode cX12_product 54 = .ok (.invokevirtual 220, 3) := by decide +kernel
theorem dX12_product_57 : decode cX12_product 57 = .ok (.aload_n 0, 1) := by decide +kernel
theorem dX12_product_58 : decode cX12_product 58 = .ok (.iload_n 1, 1) := by decide +kernel
theorem dX12_product_59 : decode cX12_product 59 = .ok (.iconst 0, 1) := by decide +kernel
theorem dX12_product_60 : decode cX12_product 60 = .ok (.invokevirtual 208, 3) := by decide +kernel
theorem dX12_product_63 : decode cX12_product 63 = .ok (.goto (-59), 3) := by decide +kernel
theorem dX12_product_66 : decode cX12_product 66 = .ok (.return_, 1) := by decide +kernel
theorem dX12_sum_0 : decode cX12_sum 0 = .ok (.aload_n 0, 1) := by decide +kernel
theorem dX12_sum_1 : decode cX12_sum 1 = .ok (.invokevirtual 229, 3) := by decide +kernel
theorem dX12_sum_4 : decode cX12_sum 4 = .ok (.aload_n 0, 1) := by decide +kernel
theorem dX12_sum_5 : decode cX12_sum 5 = .ok (.getfield 192, 3) := by decide +kernel
theorem dX12_sum_8 : decode cX12_sum 8 = .ok (.ifCond .ge 49, 3) := by decide +kernel
theorem dX12_sum_11 : decode cX12_sum 11 = .ok (.aload_n 0, 1) := by decide +kernel
theorem dX12_sum_12 : decode cX12_sum 12 = .ok (.invokevirtual 204, 3) := by decide +kernel
theorem dX12_sum_15 : decode cX12_sum 15 = .ok (.bipush 43, 2) := by decide +kernel
theorem dX12_sum_17 : decode cX12_sum 17 = .ok (.if_icmp .eq 12, 3) := by decide +kernel
theorem dX12_sum_20 : decode cX12_sum 20 = .ok (.aload_n 0, 1) := by decide +kernel
theorem dX12_sum_21 : decode cX12_sum 21 = .ok (.invokevirtual 204, 3) := by decide +kernel
theorem dX12_sum_24 : decode cX12_sum 24 = .ok (.bipush 45, 2) := by decide +kernel
theorem dX12_sum_26 : decode cX12_sum 26 = .ok (.if_icmp .ne 31, 3) := by decide +kernel
theorem dX12_sum_29 : decode cX12_sum 29 = .ok (.aload_n 0, 1) := by decide +kernel
theorem dX12_sum_30 : decode cX12_sum 30 = .ok (.invokevirtual 204, 3) := by decide +kernel
theorem dX12_sum_33 : decode cX12_sum 33 = .ok (.istore_n 1, 1) := by decide +kernel
theorem dX12_sum_34 : decode cX12_sum 34 = .ok (.aload_n 0, 1) := by decide +kernel
theorem dX12_sum_35 : decode cX12_sum 35 = .ok (.dup, 1) := by decide +kernel
theorem dX12_sum_36 : decode cX12_sum 36 = .ok (.getfield 189, 3) := by decide +kernel
theorem dX12_sum_39 : decode cX12_sum 39 = .ok (.iconst 1, 1) := by decide +kernel
theorem dX12_sum_40 : decode cX12_sum 40 = .ok (.iadd, 1) := by decide +kernel
theorem dX12_sum_41 : decode cX12_sum 41 = .ok (.putfield 189, 3) := by decide +kernel
theorem dX12_sum_44 : decode cX12_sum 44 = .ok (.aload_n 0, 1) := by decide +kernel
theorem dX12_sum_45 : decode cX12_sum 45 = .ok (.invokevirtual 229, 3) := by decide +kernel
theorem dX12_sum_48 : decode cX12_sum 48 = .ok (.aload_n 0, 1) := by decide +kernel
theorem dX12_sum_49 : decode cX12_sum 49 = .ok (.iload_n 1, 1) := by decide +kernel
theorem dX12_sum_50 : decode cX12_sum 50 = .ok (.iconst 0, 1) := by decide +kernel
theorem dX12_sum_51 : decode cX12_sum 51 = .ok (.invokevirtual 208, 3) := by decide +kernel
theorem dX12_sum_54 : decode cX12_sum 54 = .ok (.goto (-50), 3) := by decide +kernel
theorem dX12_sum_57 : decode cX12_sum 57 = .ok (.return_, 1) := by decide +kernel
theorem dX12_compared_0 : decode cX12_compared 0 = .ok (.aload_n 0, 1) := by decide +kernel
theorem dX12_compared_1 : decode cX12_compared 1 = .ok (.invokevirtual 232, 3) := by decide +kernel
theorem dX12_compared_4 : decode cX12_compared 4 = .ok (.aload_n 0, 1) := by decide +kernel
theorem dX12_compared_5 : decode cX12_compared 5 = .ok (.invokevirtual 204, 3) := by decide +kernel
theorem dX12_compared_8 : decode cX12_compared 8 = .ok (.istore_n 1, 1) := by decide +kernel
theorem dX12_compared_9 : decode cX12_compared 9 = .ok (.aload_n 0, 1) := by decide +kernel
theorem dX12_compared_10 : decode cX12_compared 10 = .ok (.getfield 192, 3) := by decide +kernel
theorem dX12_compared_13 : decode cX12_compared 13 = .ok (.ifCond .ge 21, 3) := by decide +kernel
theorem dX12_compared_16 : decode cX12_compared 16 = .ok (.iload_n 1, 1) := by decide +kernel
theorem dX12_compared_17 : decode cX12_compared 17 = .ok (.bipush 60, 2) := by decide +kernel
theorem dX12_compared_19 : decode cX12_compared 19 = .ok (.if_icmp .eq 16, 3) := by decide +kernel
theorem dX12_compared_22 : decode cX12_compared 22 = .ok (.iload_n 1, 1) := by decide +kernel
theorem dX12_compared_23 : decode cX12_compared 23 = .ok (.bipush 61, 2) := by decide +kernel
theorem dX12_compared_25 : decode cX12_compared 25 = .ok (.if_icmp .eq 10, 3) := by decide +kernel
theorem dX12_compared_28 : decode cX12_compared 28 = .ok (.iload_n 1, 1) := by decide +kernel
theorem dX12_compared_29 : decode cX12_compared 29 = .ok (.bipush 62, 2) := by decide +kernel
theorem dX12_compared_31 : decode cX12_compared 31 = .ok (.if_icmp .eq 4, 3) := by decide +kernel
theorem dX12_compared_34 : decode cX12_compared 34 = .ok (.return_, 1) := by decide +kernel
theorem dX12_compared_35 : decode cX12_compared 35 = .ok (.aload_n 0, 1) := by decide +kernel
theorem dX12_compared_36 : decode cX12_compared 36 = .ok (.dup, 1) := by decide +kernel
theorem dX12_compared_37 : decode cX12_compared 37 = .ok (.getfield 189, 3) := by decide +kernel
theorem dX12_compared_40 : decode cX12_compared 40 = .ok (.iconst 1, 1) := by decide +kernel
theorem dX12_compared_41 : decode cX12_compared 41 = .ok (.iadd, 1) := by decide +kernel
theorem dX12_compared_42 : decode cX12_compared 42 = .ok (.putfield 189, 3) := by decide +kernel
theorem dX12_compared_45 : decode cX12_compared 45 = .ok (.aload_n 0, 1) := by decide +kernel
theorem dX12_compared_46 : decode cX12_compared 46 = .ok (.invokevirtual 232, 3) := by decide +kernel
theorem dX12_compared_49 : decode cX12_compared 49 = .ok (.aload_n 0, 1) := by decide +kernel
theorem dX12_compared_50 : decode cX12_compared 50 = .ok (.iload_n 1, 1) := by decide +kernel
theorem dX12_compared_51 : decode cX12_compared 51 = .ok (.iconst 0, 1) := by decide +kernel
theorem dX12_compared_52 : decode cX12_compared 52 = .ok (.invokevirtual 208, 3) := by decide +kernel
theorem dX12_compared_55 : decode cX12_compared 55 = .ok (.return_, 1) := by decide +kernel
theorem dX12_both_0 : decode cX12_both 0 = .ok (.aload_n 0, 1) := by decide +kernel
theorem dX12_both_1 : decode cX12_both 1 = .ok (.invokevirtual 235, 3) := by decide +kernel
theorem dX12_both_4 : decode cX12_both 4 = .ok (.aload_n 0, 1) := by decide +kernel
theorem dX12_both_5 : decode cX12_both 5 = .ok (.getfield 192, 3) := by decide +kernel
theorem dX12_both_8 : decode cX12_both 8 = .ok (.ifCond .ge 36, 3) := by decide +kernel
theorem dX12_both_11 : decode cX12_both 11 = .ok (.aload_n 0, 1) := by decide +kernel
theorem dX12_both_12 : decode cX12_both 12 = .ok (.invokevirtual 204, 3) := by decide +kernel
theorem dX12_both_15 : decode cX12_both 15 = .ok (.bipush 38, 2) := by decide +kernel
theorem dX12_both_17 : decode cX12_both 17 = .ok (.if_icmp .ne 27, 3) := by decide +kernel
theorem dX12_both_20 : decode cX12_both 20 = .ok (.aload_n 0, 1) := by decide +kernel
theorem dX12_both_21 : decode cX12_both 21 = .ok (.dup, 1) := by decide +kernel
theorem dX12_both_22 : decode cX12_both 22 = .ok (.getfield 189, 3) := by decide +kernel
theorem dX12_both_25 : decode cX12_both 25 = .ok (.iconst 1, 1) := by decide +kernel
theorem dX12_both_26 : decode cX12_both 26 = .ok (.iadd, 1) := by decide +kernel
theorem dX12_both_27 : decode cX12_both 27 = .ok (.putfield 189, 3) := by decide +kernel
theorem dX12_both_30 : decode cX12_both 30 = .ok (.aload_n 0, 1) := by decide +kernel
theorem dX12_both_31 : decode cX12_both 31 = .ok (.invokevirtual 235, 3) := by decide +kernel
theorem dX12_both_34 : decode cX12_both 34 = .ok (.aload_n 0, 1) := by decide +kernel
theorem dX12_both_35 : decode cX12_both 35 = .ok (.bipush 38, 2) := by decide +kernel
theorem dX12_both_37 : decode cX12_both 37 = .ok (.iconst 0, 1) := by decide +kernel
theorem dX12_both_38 : decode cX12_both 38 = .ok (.invokevirtual 208, 3) := by decide +kernel
theorem dX12_both_41 : decode cX12_both 41 = .ok (.goto (-37), 3) := by decide +kernel
theorem dX12_both_44 : decode cX12_both 44 = .ok (.return_, 1) := by decide +kernel
theorem dX12_either_0 : decode cX12_either 0 = .ok (.aload_n 0, 1) := by decide +kernel
theorem dX12_either_1 : decode cX12_either 1 = .ok (.invokevirtual 238, 3) := by decide +kernel
theorem dX12_either_4 : decode cX12_either 4 = .ok (.aload_n 0, 1) := by decide +kernel
theorem dX12_either_5 : decode cX12_either 5 = .ok (.getfield 192, 3) := by decide +kernel
theorem dX12_either_8 : decode cX12_either 8 = .ok (.ifCond .ge 36, 3) := by decide +kernel
theorem dX12_either_11 : decode cX12_either 11 = .ok (.aload_n 0, 1) := by decide +kernel
theorem dX12_either_12 : decode cX12_either 12 = .ok (.invokevirtual 204, 3) := by decide +kernel
theorem dX12_either_15 : decode cX12_either 15 = .ok (.bipush 124, 2) := by decide +kernel
theorem dX12_either_17 : decode cX12_either 17 = .ok (.if_icmp .ne 27, 3) := by decide +kernel
theorem dX12_either_20 : decode cX12_either 20 = .ok (.aload_n 0, 1) := by decide +kernel
theorem dX12_either_21 : decode cX12_either 21 = .ok (.dup, 1) := by decide +kernel
theorem dX12_either_22 : decode cX12_either 22 = .ok (.getfield 189, 3) := by decide +kernel
theorem dX12_either_25 : decode cX12_either 25 = .ok (.iconst 1, 1) := by decide +kernel
theorem dX12_either_26 : decode cX12_either 26 = .ok (.iadd, 1) := by decide +kernel
theorem dX12_either_27 : decode cX12_either 27 = .ok (.putfield 189, 3) := by decide +kernel
theorem dX12_either_30 : decode cX12_either 30 = .ok (.aload_n 0, 1) := by decide +kernel
theorem dX12_either_31 : decode cX12_either 31 = .ok (.invokevirtual 238, 3) := by decide +kernel
theorem dX12_either_34 : decode cX12_either 34 = .ok (.aload_n 0, 1) := by decide +kernel
theorem dX12_either_35 : decode cX12_either 35 = .ok (.bipush 124, 2) := by decide +kernel
theorem dX12_either_37 : decode cX12_either 37 = .ok (.iconst 0, 1) := by decide +kernel
theorem dX12_either_38 : decode cX12_either 38 = .ok (.invokevirtual 208, 3) := by decide +kernel
theorem dX12_either_41 : decode cX12_either 41 = .ok (.goto (-37), 3) := by decide +kernel
theorem dX12_either_44 : decode cX12_either 44 = .ok (.return_, 1) := by decide +kernel
theorem dX12_line_0 : decode cX12_line 0 = .ok (.bipush 61, 2) := by decide +kernel
theorem dX12_line_2 : decode cX12_line 2 = .ok (.aload_n 0, 1) := by decide +kernel
theorem dX12_line_3 : decode cX12_line 3 = .ok (.getfield 61, 3) := by decide +kernel
theorem dX12_line_6 : decode cX12_line 6 = .ok (.iconst 1, 1) := by decide +kernel
theorem dX12_line_7 : decode cX12_line 7 = .ok (.iaload, 1) := by decide +kernel
theorem dX12_line_8 : decode cX12_line 8 = .ok (.iadd, 1) := by decide +kernel
theorem dX12_line_9 : decode cX12_line 9 = .ok (.istore_n 1, 1) := by decide +kernel
theorem dX12_line_10 : decode cX12_line 10 = .ok (.aload_n 0, 1) := by decide +kernel
theorem dX12_line_11 : decode cX12_line 11 = .ok (.getfield 64, 3) := by decide +kernel
theorem dX12_line_14 : decode cX12_line 14 = .ok (.iload_n 1, 1) := by decide +kernel
theorem dX12_line_15 : decode cX12_line 15 = .ok (.aload_n 0, 1) := by decide +kernel
theorem dX12_line_16 : decode cX12_line 16 = .ok (.getfield 195, 3) := by decide +kernel
theorem dX12_line_19 : decode cX12_line 19 = .ok (.i2s, 1) := by decide +kernel
theorem dX12_line_20 : decode cX12_line 20 = .ok (.sastore, 1) := by decide +kernel
theorem dX12_line_21 : decode cX12_line 21 = .ok (.aload_n 0, 1) := by decide +kernel
theorem dX12_line_22 : decode cX12_line 22 = .ok (.invokevirtual 223, 3) := by decide +kernel
theorem dX12_line_25 : decode cX12_line 25 = .ok (.aload_n 0, 1) := by decide +kernel
theorem dX12_line_26 : decode cX12_line 26 = .ok (.getfield 192, 3) := by decide +kernel
theorem dX12_line_29 : decode cX12_line 29 = .ok (.ifCond .ge 37, 3) := by decide +kernel
theorem dX12_line_32 : decode cX12_line 32 = .ok (.aload_n 0, 1) := by decide +kernel
theorem dX12_line_33 : decode cX12_line 33 = .ok (.invokevirtual 204, 3) := by decide +kernel
theorem dX12_line_36 : decode cX12_line 36 = .ok (.bipush 63, 2) := by decide +kernel
theorem dX12_line_38 : decode cX12_line 38 = .ok (.if_icmp .ne 28, 3) := by decide +kernel
theorem dX12_line_41 : decode cX12_line 41 = .ok (.aload_n 0, 1) := by decide +kernel
theorem dX12_line_42 : decode cX12_line 42 = .ok (.dup, 1) := by decide +kernel
theorem dX12_line_43 : decode cX12_line 43 = .ok (.getfield 189, 3) := by decide +kernel
theorem dX12_line_46 : decode cX12_line 46 = .ok (.iconst 1, 1) := by decide +kernel
theorem dX12_line_47 : decode cX12_line 47 = .ok (.iadd, 1) := by decide +kernel
theorem dX12_line_48 : decode cX12_line 48 = .ok (.putfield 189, 3) := by decide +kernel
theorem dX12_line_51 : decode cX12_line 51 = .ok (.aload_n 0, 1) := by decide +kernel
theorem dX12_line_52 : decode cX12_line 52 = .ok (.getfield 64, 3) := by decide +kernel
theorem dX12_line_55 : decode cX12_line 55 = .ok (.iload_n 1, 1) := by decide +kernel
theorem dX12_line_56 : decode cX12_line 56 = .ok (.aload_n 0, 1) := by decide +kernel
theorem dX12_line_57 : decode cX12_line 57 = .ok (.getfield 195, 3) := by decide +kernel
theorem dX12_line_60 : decode cX12_line 60 = .ok (.i2s, 1) := by decide +kernel
theorem dX12_line_61 : decode cX12_line 61 = .ok (.sastore, 1) := by decide +kernel
theorem dX12_line_62 : decode cX12_line 62 = .ok (.aload_n 0, 1) := by decide +kernel
theorem dX12_line_63 : decode cX12_line 63 = .ok (.invokevirtual 223, 3) := by decide +kernel
theorem dX12_line_66 : decode cX12_line 66 = .ok (.aload_n 0, 1) := by decide +kernel
theorem dX12_line_67 : decode cX12_line 67 = .ok (.getfield 68, 3) := by decide +kernel
theorem dX12_line_70 : decode cX12_line 70 = .ok (.iload_n 1, 1) := by decide +kernel
theorem dX12_line_71 : decode cX12_line 71 = .ok (.aload_n 0, 1) := by decide +kernel
theorem dX12_line_72 : decode cX12_line 72 = .ok (.getfield 195, 3) := by decide +kernel
theorem dX12_line_75 : decode cX12_line 75 = .ok (.i2s, 1) := by decide +kernel
theorem dX12_line_76 : decode cX12_line 76 = .ok (.sastore, 1) := by decide +kernel
theorem dX12_line_77 : decode cX12_line 77 = .ok (.aload_n 0, 1) := by decide +kernel
theorem dX12_line_78 : decode cX12_line 78 = .ok (.getfield 61, 3) := by decide +kernel
theorem dX12_line_81 : decode cX12_line 81 = .ok (.iconst 1, 1) := by decide +kernel
theorem dX12_line_82 : decode cX12_line 82 = .ok (.dup2, 1) := by decide +kernel
theorem dX12_line_83 : decode cX12_line 83 = .ok (.iaload, 1) := by decide +kernel
theorem dX12_line_84 : decode cX12_line 84 = .ok (.iconst 1, 1) := by decide +kernel
theorem dX12_line_85 : decode cX12_line 85 = .ok (.iadd, 1) := by decide +kernel
theorem dX12_line_86 : decode cX12_line 86 = .ok (.iastore, 1) := by decide +kernel
theorem dX12_line_87 : decode cX12_line 87 = .ok (.return_, 1) := by decide +kernel
theorem dX12_readText_0 : decode cX12_readText 0 = .ok (.aload_n 0, 1) := by decide +kernel
theorem dX12_readText_1 : decode cX12_readText 1 = .ok (.iconst 0, 1) := by decide +kernel
theorem dX12_readText_2 : decode cX12_readText 2 = .ok (.putfield 189, 3) := by decide +kernel
theorem dX12_readText_5 : decode cX12_readText 5 = .ok (.aload_n 0, 1) := by decide +kernel
theorem dX12_readText_6 : decode cX12_readText 6 = .ok (.iconst (-1), 1) := by decide +kernel
theorem dX12_readText_7 : decode cX12_readText 7 = .ok (.putfield 192, 3) := by decide +kernel
theorem dX12_readText_10 : decode cX12_readText 10 = .ok (.aload_n 0, 1) := by decide +kernel
theorem dX12_readText_11 : decode cX12_readText 11 = .ok (.iconst 0, 1) := by decide +kernel
theorem dX12_readText_12 : decode cX12_readText 12 = .ok (.putfield 198, 3) := by decide +kernel
theorem dX12_readText_15 : decode cX12_readText 15 = .ok (.aload_n 0, 1) := by decide +kernel
theorem dX12_readText_16 : decode cX12_readText 16 = .ok (.iconst 0, 1) := by decide +kernel
theorem dX12_readText_17 : decode cX12_readText 17 = .ok (.putfield 195, 3) := by decide +kernel
theorem dX12_readText_20 : decode cX12_readText 20 = .ok (.aload_n 0, 1) := by decide +kernel
theorem dX12_readText_21 : decode cX12_readText 21 = .ok (.getfield 61, 3) := by decide +kernel
theorem dX12_readText_24 : decode cX12_readText 24 = .ok (.iconst 1, 1) := by decide +kernel
theorem dX12_readText_25 : decode cX12_readText 25 = .ok (.iconst 0, 1) := by decide +kernel
theorem dX12_readText_26 : decode cX12_readText 26 = .ok (.iastore, 1) := by decide +kernel
theorem dX12_readText_27 : decode cX12_readText 27 = .ok (.aload_n 0, 1) := by decide +kernel
theorem dX12_readText_28 : decode cX12_readText 28 = .ok (.invokevirtual 241, 3) := by decide +kernel
theorem dX12_readText_31 : decode cX12_readText 31 = .ok (.aload_n 0, 1) := by decide +kernel
theorem dX12_readText_32 : decode cX12_readText 32 = .ok (.getfield 192, 3) := by decide +kernel
theorem dX12_readText_35 : decode cX12_readText 35 = .ok (.ifCond .ge 29, 3) := by decide +kernel
theorem dX12_readText_38 : decode cX12_readText 38 = .ok (.aload_n 0, 1) := by decide +kernel
theorem dX12_readText_39 : decode cX12_readText 39 = .ok (.invokevirtual 204, 3) := by decide +kernel
theorem dX12_readText_42 : decode cX12_readText 42 = .ok (.bipush 59, 2) := by decide +kernel
theorem dX12_readText_44 : decode cX12_readText 44 = .ok (.if_icmp .ne 20, 3) := by decide +kernel
theorem dX12_readText_47 : decode cX12_readText 47 = .ok (.aload_n 0, 1) := by decide +kernel
theorem dX12_readText_48 : decode cX12_readText 48 = .ok (.dup, 1) := by decide +kernel
theorem dX12_readText_49 : decode cX12_readText 49 = .ok (.getfield 189, 3) := by decide +kernel
theorem dX12_readText_52 : decode cX12_readText 52 = .ok (.iconst 1, 1) := by decide +kernel
theorem dX12_readText_53 : decode cX12_readText 53 = .ok (.iadd, 1) := by decide +kernel
theorem dX12_readText_54 : decode cX12_readText 54 = .ok (.putfield 189, 3) := by decide +kernel
theorem dX12_readText_57 : decode cX12_readText 57 = .ok (.aload_n 0, 1) := by decide +kernel
theorem dX12_readText_58 : decode cX12_readText 58 = .ok (.invokevirtual 241, 3) := by decide +kernel
theorem dX12_readText_61 : decode cX12_readText 61 = .ok (.goto (-30), 3) := by decide +kernel
theorem dX12_readText_64 : decode cX12_readText 64 = .ok (.aload_n 0, 1) := by decide +kernel
theorem dX12_readText_65 : decode cX12_readText 65 = .ok (.getfield 192, 3) := by decide +kernel
theorem dX12_readText_68 : decode cX12_readText 68 = .ok (.ifCond .ge 18, 3) := by decide +kernel
theorem dX12_readText_71 : decode cX12_readText 71 = .ok (.aload_n 0, 1) := by decide +kernel
theorem dX12_readText_72 : decode cX12_readText 72 = .ok (.getfield 189, 3) := by decide +kernel
theorem dX12_readText_75 : decode cX12_readText 75 = .ok (.aload_n 0, 1) := by decide +kernel
theorem dX12_readText_76 : decode cX12_readText 76 = .ok (.getfield 186, 3) := by decide +kernel
theorem dX12_readText_79 : decode cX12_readText 79 = .ok (.if_icmp .ge 7, 3) := by decide +kernel
theorem dX12_readText_82 : decode cX12_readText 82 = .ok (.aload_n 0, 1) := by decide +kernel
theorem dX12_readText_83 : decode cX12_readText 83 = .ok (.invokevirtual 201, 3) := by decide +kernel
theorem dX12_readText_86 : decode cX12_readText 86 = .ok (.aload_n 0, 1) := by decide +kernel
theorem dX12_readText_87 : decode cX12_readText 87 = .ok (.iconst 0, 1) := by decide +kernel
theorem dX12_readText_88 : decode cX12_readText 88 = .ok (.putfield 186, 3) := by decide +kernel
theorem dX12_readText_91 : decode cX12_readText 91 = .ok (.aload_n 0, 1) := by decide +kernel
theorem dX12_readText_92 : decode cX12_readText 92 = .ok (.getfield 192, 3) := by decide +kernel
theorem dX12_readText_95 : decode cX12_readText 95 = .ok (.ifCond .lt 8, 3) := by decide +kernel
theorem dX12_readText_98 : decode cX12_readText 98 = .ok (.aload_n 0, 1) := by decide +kernel
theorem dX12_readText_99 : decode cX12_readText 99 = .ok (.getfield 192, 3) := by decide +kernel
theorem dX12_readText_102 : decode cX12_readText 102 = .ok (.ireturn, 1) := by decide +kernel
theorem dX12_readText_103 : decode cX12_readText 103 = .ok (.iconst 0, 1) := by decide +kernel
theorem dX12_readText_104 : decode cX12_readText 104 = .ok (.istore_n 2, 1) := by decide +kernel
theorem dX12_readText_105 : decode cX12_readText 105 = .ok (.iload_n 2, 1) := by decide +kernel
theorem dX12_readText_106 : decode cX12_readText 106 = .ok (.aload_n 0, 1) := by decide +kernel
theorem dX12_readText_107 : decode cX12_readText 107 = .ok (.getfield 195, 3) := by decide +kernel
theorem dX12_readText_110 : decode cX12_readText 110 = .ok (.if_icmp .ge 53, 3) := by decide +kernel
theorem dX12_readText_113 : decode cX12_readText 113 = .ok (.aload_n 0, 1) := by decide +kernel
theorem dX12_readText_114 : decode cX12_readText 114 = .ok (.getfield 55, 3) := by decide +kernel
theorem dX12_readText_117 : decode cX12_readText 117 = .ok (.sipush 130, 3) := by decide +kernel
theorem dX12_readText_120 : decode cX12_readText 120 = .ok (.iload_n 1, 1) := by decide +kernel
theorem dX12_readText_121 : decode cX12_readText 121 = .ok (.imul, 1) := by decide +kernel
theorem dX12_readText_122 : decode cX12_readText 122 = .ok (.iload_n 2, 1) := by decide +kernel
theorem dX12_readText_123 : decode cX12_readText 123 = .ok (.iadd, 1) := by decide +kernel
theorem dX12_readText_124 : decode cX12_readText 124 = .ok (.aload_n 0, 1) := by decide +kernel
theorem dX12_readText_125 : decode cX12_readText 125 = .ok (.getfield 55, 3) := by decide +kernel
theorem dX12_readText_128 : decode cX12_readText 128 = .ok (.sipush 130, 3) := by decide +kernel
theorem dX12_readText_131 : decode cX12_readText 131 = .ok (.iload_n 2, 1) := by decide +kernel
theorem dX12_readText_132 : decode cX12_readText 132 = .ok (.iadd, 1) := by decide +kernel
theorem dX12_readText_133 : decode cX12_readText 133 = .ok (.baload, 1) := by decide +kernel
theorem dX12_readText_134 : decode cX12_readText 134 = .ok (.bastore, 1) := by decide +kernel
theorem dX12_readText_135 : decode cX12_readText 135 = .ok (.aload_n 0, 1) := by decide +kernel
theorem dX12_readText_136 : decode cX12_readText 136 = .ok (.getfield 58, 3) := by decide +kernel
theorem dX12_readText_139 : decode cX12_readText 139 = .ok (.sipush 130, 3) := by decide +kernel
theorem dX12_readText_142 : decode cX12_readText 142 = .ok (.iload_n 1, 1) := by decide +kernel
theorem dX12_readText_143 : decode cX12_readText 143 = .ok (.imul, 1) := by decide +kernel
theorem dX12_readText_144 : decode cX12_readText 144 = .ok (.iload_n 2, 1) := by decide +kernel
theorem dX12_readText_145 : decode cX12_readText 145 = .ok (.iadd, 1) := by decide +kernel
theorem dX12_readText_146 : decode cX12_readText 146 = .ok (.aload_n 0, 1) := by decide +kernel
theorem dX12_readText_147 : decode cX12_readText 147 = .ok (.getfield 58, 3) := by decide +kernel
theorem dX12_readText_150 : decode cX12_readText 150 = .ok (.sipush 130, 3) := by decide +kernel
theorem dX12_readText_153 : decode cX12_readText 153 = .ok (.iload_n 2, 1) := by decide +kernel
theorem dX12_readText_154 : decode cX12_readText 154 = .ok (.iadd, 1) := by decide +kernel
theorem dX12_readText_155 : decode cX12_readText 155 = .ok (.iaload, 1) := by decide +kernel
theorem dX12_readText_156 : decode cX12_readText 156 = .ok (.iastore, 1) := by decide +kernel
theorem dX12_readText_157 : decode cX12_readText 157 = .ok (.iinc 2 1, 3) := by decide +kernel
theorem dX12_readText_160 : decode cX12_readText 160 = .ok (.goto (-55), 3) := by decide +kernel
theorem dX12_readText_163 : decode cX12_readText 163 = .ok (.aload_n 0, 1) := by decide +kernel
theorem dX12_readText_164 : decode cX12_readText 164 = .ok (.getfield 61, 3) := by decide +kernel
theorem dX12_readText_167 : decode cX12_readText 167 = .ok (.iload_n 1, 1) := by decide +kernel
theorem dX12_readText_168 : decode cX12_readText 168 = .ok (.aload_n 0, 1) := by decide +kernel
theorem dX12_readText_169 : decode cX12_readText 169 = .ok (.getfield 61, 3) := by decide +kernel
theorem dX12_readText_172 : decode cX12_readText 172 = .ok (.iconst 1, 1) := by decide +kernel
theorem dX12_readText_173 : decode cX12_readText 173 = .ok (.iaload, 1) := by decide +kernel
theorem dX12_readText_174 : decode cX12_readText 174 = .ok (.iastore, 1) := by decide +kernel
theorem dX12_readText_175 : decode cX12_readText 175 = .ok (.iconst 0, 1) := by decide +kernel
theorem dX12_readText_176 : decode cX12_readText 176 = .ok (.istore_n 2, 1) := by decide +kernel
theorem dX12_readText_177 : decode cX12_readText 177 = .ok (.iload_n 2, 1) := by decide +kernel
theorem dX12_readText_178 : decode cX12_readText 178 = .ok (.aload_n 0, 1) := by decide +kernel
theorem dX12_readText_179 : decode cX12_readText 179 = .ok (.getfield 61, 3) := by decide +kernel
theorem dX12_readText_182 : decode cX12_readText 182 = .ok (.iload_n 1, 1) := by decide +kernel
theorem dX12_readText_183 : decode cX12_readText 183 = .ok (.iaload, 1) := by decide +kernel
theorem dX12_readText_184 : decode cX12_readText 184 = .ok (.if_icmp .ge 49, 3) := by decide +kernel
theorem dX12_readText_187 : decode cX12_readText 187 = .ok (.aload_n 0, 1) := by decide +kernel
theorem dX12_readText_188 : decode cX12_readText 188 = .ok (.getfield 64, 3) := by decide +kernel
theorem dX12_readText_191 : decode cX12_readText 191 = .ok (.bipush 61, 2) := by decide +kernel
theorem dX12_readText_193 : decode cX12_readText 193 = .ok (.iload_n 1, 1) := by decide +kernel
theorem dX12_readText_194 : decode cX12_readText 194 = .ok (.imul, 1) := by decide +kernel
theorem dX12_readText_195 : decode cX12_readText 195 = .ok (.iload_n 2, 1) := by decide +kernel
theorem dX12_readText_196 : decode cX12_readText 196 = .ok (.iadd, 1) := by decide +kernel
theorem dX12_readText_197 : decode cX12_readText 197 = .ok (.aload_n 0, 1) := by decide +kernel
theorem dX12_readText_198 : decode cX12_readText 198 = .ok (.getfield 64, 3) := by decide +kernel
theorem dX12_readText_201 : decode cX12_readText 201 = .ok (.bipush 61, 2) := by decide +kernel
theorem dX12_readText_203 : decode cX12_readText 203 = .ok (.iload_n 2, 1) := by decide +kernel
theorem dX12_readText_204 : decode cX12_readText 204 = .ok (.iadd, 1) := by decide +kernel
theorem dX12_readText_205 : decode cX12_readText 205 = .ok (.saload, 1) := by decide +kernel
theorem dX12_readText_206 : decode cX12_readText 206 = .ok (.sastore, 1) := by decide +kernel
theorem dX12_readText_207 : decode cX12_readText 207 = .ok (.aload_n 0, 1) := by decide +kernel
theorem dX12_readText_208 : decode cX12_readText 208 = .ok (.getfield 68, 3) := by decide +kernel
theorem dX12_readText_211 : decode cX12_readText 211 = .ok (.bipush 61, 2) := by decide +kernel
theorem dX12_readText_213 : decode cX12_readText 213 = .ok (.iload_n 1, 1) := by decide +kernel
theorem dX12_readText_214 : decode cX12_readText 214 = .ok (.imul, 1) := by decide +kernel
theorem dX12_readText_215 : decode cX12_readText 215 = .ok (.iload_n 2, 1) := by decide +kernel
theorem dX12_readText_216 : decode cX12_readText 216 = .ok (.iadd, 1) := by decide +kernel
theorem dX12_readText_217 : decode cX12_readText 217 = .ok (.aload_n 0, 1) := by decide +kernel
theorem dX12_readText_218 : decode cX12_readText 218 = .ok (.getfield 68, 3) := by decide +kernel
theorem dX12_readText_221 : decode cX12_readText 221 = .ok (.bipush 61, 2) := by decide +kernel
theorem dX12_readText_223 : decode cX12_readText 223 = .ok (.iload_n 2, 1) := by decide +kernel
theorem dX12_readText_224 : decode cX12_readText 224 = .ok (.iadd, 1) := by decide +kernel
theorem dX12_readText_225 : decode cX12_readText 225 = .ok (.saload, 1) := by decide +kernel
theorem dX12_readText_226 : decode cX12_readText 226 = .ok (.sastore, 1) := by decide +kernel
theorem dX12_readText_227 : decode cX12_readText 227 = .ok (.iinc 2 1, 3) := by decide +kernel
theorem dX12_readText_230 : decode cX12_readText 230 = .ok (.goto (-53), 3) := by decide +kernel
theorem dX12_readText_233 : decode cX12_readText 233 = .ok (.iconst (-1), 1) := by decide +kernel
theorem dX12_readText_234 : decode cX12_readText 234 = .ok (.ireturn, 1) := by decide +kernel
theorem dX12_twoOf_0 : decode cX12_twoOf 0 = .ok (.iload_n 0, 1) := by decide +kernel
theorem dX12_twoOf_1 : decode cX12_twoOf 1 = .ok (.tableswitch 217 37 62 #[153, 203, 217, 217, 217, 127, 119, 217, 123, 217, 131, 217, 217, 217, 217, 217, 217, 217, 217, 217, 217, 217, 217, 170, 181, 192], 119) := by decide +kernel
theorem dX12_twoOf_120 : decode cX12_twoOf 120 = .ok (.iload_n 1, 1) := by decide +kernel
theorem dX12_twoOf_121 : decode cX12_twoOf 121 = .ok (.iload_n 2, 1) := by decide +kernel
theorem dX12_twoOf_122 : decode cX12_twoOf 122 = .ok (.iadd, 1) := by decide +kernel
theorem dX12_twoOf_123 : decode cX12_twoOf 123 = .ok (.ireturn, 1) := by decide +kernel
theorem dX12_twoOf_124 : decode cX12_twoOf 124 = .ok (.iload_n 1, 1) := by decide +kernel
theorem dX12_twoOf_125 : decode cX12_twoOf 125 = .ok (.iload_n 2, 1) := by decide +kernel
theorem dX12_twoOf_126 : decode cX12_twoOf 126 = .ok (.isub, 1) := by decide +kernel
theorem dX12_twoOf_127 : decode cX12_twoOf 127 = .ok (.ireturn, 1) := by decide +kernel
theorem dX12_twoOf_128 : decode cX12_twoOf 128 = .ok (.iload_n 1, 1) := by decide +kernel
theorem dX12_twoOf_129 : decode cX12_twoOf 129 = .ok (.iload_n 2, 1) := by decide +kernel
theorem dX12_twoOf_130 : decode cX12_twoOf 130 = .ok (.imul, 1) := by decide +kernel
theorem dX12_twoOf_131 : decode cX12_twoOf 131 = .ok (.ireturn, 1) := by decide +kernel
theorem dX12_twoOf_132 : decode cX12_twoOf 132 = .ok (.iload_n 2, 1) := by decide +kernel
theorem dX12_twoOf_133 : decode cX12_twoOf 133 = .ok (.ifCond .ne 7, 3) := by decide +kernel
theorem dX12_twoOf_136 : decode cX12_twoOf 136 = .ok (.iconst 0, 1) := by decide +kernel
theorem dX12_twoOf_137 : decode cX12_twoOf 137 = .ok (.goto 16, 3) := by decide +kernel
theorem dX12_twoOf_140 : decode cX12_twoOf 140 = .ok (.iload_n 2, 1) := by decide +kernel
theorem dX12_twoOf_141 : decode cX12_twoOf 141 = .ok (.iconst (-1), 1) := by decide +kernel
theorem dX12_twoOf_142 : decode cX12_twoOf 142 = .ok (.if_icmp .ne 8, 3) := by decide +kernel
theorem dX12_twoOf_145 : decode cX12_twoOf 145 = .ok (.iload_n 1, 1) := by decide +kernel
theorem dX12_twoOf_146 : decode cX12_twoOf 146 = .ok (.ineg, 1) := by decide +kernel
theorem dX12_twoOf_147 : decode cX12_twoOf 147 = .ok (.goto 6, 3) := by decide +kernel
theorem dX12_twoOf_150 : decode cX12_twoOf 150 = .ok (.iload_n 1, 1) := by decide +kernel
theorem dX12_twoOf_151 : decode cX12_twoOf 151 = .ok (.iload_n 2, 1) := by decide +kernel
theorem dX12_twoOf_152 : decode cX12_twoOf 152 = .ok (.idiv, 1) := by decide +kernel
theorem dX12_twoOf_153 : decode cX12_twoOf 153 = .ok (.ireturn, 1) := by decide +kernel
theorem dX12_twoOf_154 : decode cX12_twoOf 154 = .ok (.iload_n 2, 1) := by decide +kernel
theorem dX12_twoOf_155 : decode cX12_twoOf 155 = .ok (.ifCond .eq 8, 3) := by decide +kernel
theorem dX12_twoOf_158 : decode cX12_twoOf 158 = .ok (.iload_n 2, 1) := by decide +kernel
theorem dX12_twoOf_159 : decode cX12_twoOf 159 = .ok (.iconst (-1), 1) := by decide +kernel
theorem dX12_twoOf_160 : decode cX12_twoOf 160 = .ok (.if_icmp .ne 7, 3) := by decide +kernel
theorem dX12_twoOf_163 : decode cX12_twoOf 163 = .ok (.iconst 0, 1) := by decide +kernel
theorem dX12_twoOf_164 : decode cX12_twoOf 164 = .ok (.goto 6, 3) := by decide +kernel
theorem dX12_twoOf_167 : decode cX12_twoOf 167 = .ok (.iload_n 1, 1) := by decide +kernel
theorem dX12_twoOf_168 : decode cX12_twoOf 168 = .ok (.iload_n 2, 1) := by decide +kernel
theorem dX12_twoOf_169 : decode cX12_twoOf 169 = .ok (.irem, 1) := by decide +kernel
theorem dX12_twoOf_170 : decode cX12_twoOf 170 = .ok (.ireturn, 1) := by decide +kernel
theorem dX12_twoOf_171 : decode cX12_twoOf 171 = .ok (.iload_n 1, 1) := by decide +kernel
theorem dX12_twoOf_172 : decode cX12_twoOf 172 = .ok (.iload_n 2, 1) := by decide +kernel
theorem dX12_twoOf_173 : decode cX12_twoOf 173 = .ok (.if_icmp .ge 7, 3) := by decide +kernel
theorem dX12_twoOf_176 : decode cX12_twoOf 176 = .ok (.iconst 1, 1) := by decide +kernel
theorem dX12_twoOf_177 : decode cX12_twoOf 177 = .ok (.goto 4, 3) := by decide +kernel
theorem dX12_twoOf_180 : decode cX12_twoOf 180 = .ok (.iconst 0, 1) := by decide +kernel
theorem dX12_twoOf_181 : decode cX12_twoOf 181 = .ok (.ireturn, 1) := by decide +kernel
theorem dX12_twoOf_182 : decode cX12_twoOf 182 = .ok (.iload_n 1, 1) := by decide +kernel
theorem dX12_twoOf_183 : decode cX12_twoOf 183 = .ok (.iload_n 2, 1) := by decide +kernel
theorem dX12_twoOf_184 : decode cX12_twoOf 184 = .ok (.if_icmp .ne 7, 3) := by decide +kernel
theorem dX12_twoOf_187 : decode cX12_twoOf 187 = .ok (.iconst 1, 1) := by decide +kernel
theorem dX12_twoOf_188 : decode cX12_twoOf 188 = .ok (.goto 4, 3) := by decide +kernel
theorem dX12_twoOf_191 : decode cX12_twoOf 191 = .ok (.iconst 0, 1) := by decide +kernel
theorem dX12_twoOf_192 : decode cX12_twoOf 192 = .ok (.ireturn, 1) := by decide +kernel
theorem dX12_twoOf_193 : decode cX12_twoOf 193 = .ok (.iload_n 1, 1) := by decide +kernel
theorem dX12_twoOf_194 : decode cX12_twoOf 194 = .ok (.iload_n 2, 1) := by decide +kernel
theorem dX12_twoOf_195 : decode cX12_twoOf 195 = .ok (.if_icmp .le 7, 3) := by decide +kernel
theorem dX12_twoOf_198 : decode cX12_twoOf 198 = .ok (.iconst 1, 1) := by decide +kernel
theorem dX12_twoOf_199 : decode cX12_twoOf 199 = .ok (.goto 4, 3) := by decide +kernel
theorem dX12_twoOf_202 : decode cX12_twoOf 202 = .ok (.iconst 0, 1) := by decide +kernel
theorem dX12_twoOf_203 : decode cX12_twoOf 203 = .ok (.ireturn, 1) := by decide +kernel
theorem dX12_twoOf_204 : decode cX12_twoOf 204 = .ok (.iload_n 1, 1) := by decide +kernel
theorem dX12_twoOf_205 : decode cX12_twoOf 205 = .ok (.ifCond .eq 11, 3) := by decide +kernel
theorem dX12_twoOf_208 : decode cX12_twoOf 208 = .ok (.iload_n 2, 1) := by decide +kernel
theorem dX12_twoOf_209 : decode cX12_twoOf 209 = .ok (.ifCond .eq 7, 3) := by decide +kernel
theorem dX12_twoOf_212 : decode cX12_twoOf 212 = .ok (.iconst 1, 1) := by decide +kernel
theorem dX12_twoOf_213 : decode cX12_twoOf 213 = .ok (.goto 4, 3) := by decide +kernel
theorem dX12_twoOf_216 : decode cX12_twoOf 216 = .ok (.iconst 0, 1) := by decide +kernel
theorem dX12_twoOf_217 : decode cX12_twoOf 217 = .ok (.ireturn, 1) := by decide +kernel
theorem dX12_twoOf_218 : decode cX12_twoOf 218 = .ok (.iload_n 1, 1) := by decide +kernel
theorem dX12_twoOf_219 : decode cX12_twoOf 219 = .ok (.ifCond .ne 7, 3) := by decide +kernel
theorem dX12_twoOf_222 : decode cX12_twoOf 222 = .ok (.iload_n 2, 1) := by decide +kernel
theorem dX12_twoOf_223 : decode cX12_twoOf 223 = .ok (.ifCond .eq 7, 3) := by decide +kernel
theorem dX12_twoOf_226 : decode cX12_twoOf 226 = .ok (.iconst 1, 1) := by decide +kernel
theorem dX12_twoOf_227 : decode cX12_twoOf 227 = .ok (.goto 4, 3) := by decide +kernel
theorem dX12_twoOf_230 : decode cX12_twoOf 230 = .ok (.iconst 0, 1) := by decide +kernel
theorem dX12_twoOf_231 : decode cX12_twoOf 231 = .ok (.ireturn, 1) := by decide +kernel
theorem dX12_worked_0 : decode cX12_worked 0 = .ok (.iconst 0, 1) := by decide +kernel
theorem dX12_worked_1 : decode cX12_worked 1 = .ok (.istore 4, 2) := by decide +kernel
theorem dX12_worked_3 : decode cX12_worked 3 = .ok (.sipush 130, 3) := by decide +kernel
theorem dX12_worked_6 : decode cX12_worked 6 = .ok (.iload_n 1, 1) := by decide +kernel
theorem dX12_worked_7 : decode cX12_worked 7 = .ok (.imul, 1) := by decide +kernel
theorem dX12_worked_8 : decode cX12_worked 8 = .ok (.iload_n 2, 1) := by decide +kernel
theorem dX12_worked_9 : decode cX12_worked 9 = .ok (.iadd, 1) := by decide +kernel
theorem dX12_worked_10 : decode cX12_worked 10 = .ok (.istore 5, 2) := by decide +kernel
theorem dX12_worked_12 : decode cX12_worked 12 = .ok (.iload 5, 2) := by decide +kernel
theorem dX12_worked_14 : decode cX12_worked 14 = .ok (.sipush 130, 3) := by decide +kernel
theorem dX12_worked_17 : decode cX12_worked 17 = .ok (.iload_n 1, 1) := by decide +kernel
theorem dX12_worked_18 : decode cX12_worked 18 = .ok (.imul, 1) := by decide +kernel
theorem dX12_worked_19 : decode cX12_worked 19 = .ok (.iload_n 3, 1) := by decide +kernel
theorem dX12_worked_20 : decode cX12_worked 20 = .ok (.iadd, 1) := by decide +kernel
theorem dX12_worked_21 : decode cX12_worked 21 = .ok (.if_icmp .ge 167, 3) := by decide +kernel
theorem dX12_worked_24 : decode cX12_worked 24 = .ok (.aload_n 0, 1) := by decide +kernel
theorem dX12_worked_25 : decode cX12_worked 25 = .ok (.getfield 55, 3) := by decide +kernel
theorem dX12_worked_28 : decode cX12_worked 28 = .ok (.iload 5, 2) := by decide +kernel
theorem dX12_worked_30 : decode cX12_worked 30 = .ok (.baload, 1) := by decide +kernel
theorem dX12_worked_31 : decode cX12_worked 31 = .ok (.istore 6, 2) := by decide +kernel
theorem dX12_worked_33 : decode cX12_worked 33 = .ok (.iload 6, 2) := by decide +kernel
theorem dX12_worked_35 : decode cX12_worked 35 = .ok (.iconst 1, 1) := by decide +kernel
theorem dX12_worked_36 : decode cX12_worked 36 = .ok (.if_icmp .eq 9, 3) := by decide +kernel
theorem dX12_worked_39 : decode cX12_worked 39 = .ok (.iload 6, 2) := by decide +kernel
theorem dX12_worked_41 : decode cX12_worked 41 = .ok (.iconst 2, 1) := by decide +kernel
theorem dX12_worked_42 : decode cX12_worked 42 = .ok (.if_icmp .ne 44, 3) := by decide +kernel
theorem dX12_worked_45 : decode cX12_worked 45 = .ok (.aload_n 0, 1) := by decide +kernel
theorem dX12_worked_46 : decode cX12_worked 46 = .ok (.getfield 74, 3) := by decide +kernel
theorem dX12_worked_49 : decode cX12_worked 49 = .ok (.iload 4, 2) := by decide +kernel
theorem dX12_worked_51 : decode cX12_worked 51 = .ok (.iload 6, 2) := by decide +kernel
theorem dX12_worked_53 : decode cX12_worked 53 = .ok (.iconst 1, 1) := by decide +kernel
theorem dX12_worked_54 : decode cX12_worked 54 = .ok (.if_icmp .ne 13, 3) := by decide +kernel
theorem dX12_worked_57 : decode cX12_worked 57 = .ok (.aload_n 0, 1) := by decide +kernel
theorem dX12_worked_58 : decode cX12_worked 58 = .ok (.getfield 58, 3) := by decide +kernel
theorem dX12_worked_61 : decode cX12_worked 61 = .ok (.iload 5, 2) := by decide +kernel
theorem dX12_worked_63 : decode cX12_worked 63 = .ok (.iaload, 1) := by decide +kernel
theorem dX12_worked_64 : decode cX12_worked 64 = .ok (.goto 15, 3) := by decide +kernel
theorem dX12_worked_67 : decode cX12_worked 67 = .ok (.aload_n 0, 1) := by decide +kernel
theorem dX12_worked_68 : decode cX12_worked 68 = .ok (.getfield 71, 3) := by decide +kernel
theorem dX12_worked_71 : decode cX12_worked 71 = .ok (.aload_n 0, 1) := by decide +kernel
theorem dX12_worked_72 : decode cX12_worked 72 = .ok (.getfield 58, 3) := by decide +kernel
theorem dX12_worked_75 : decode cX12_worked 75 = .ok (.iload 5, 2) := by decide +kernel
theorem dX12_worked_77 : decode cX12_worked 77 = .ok (.iaload, 1) := by decide +kernel
theorem dX12_worked_78 : decode cX12_worked 78 = .ok (.iaload, 1) := by decide +kernel
theorem dX12_worked_79 : decode cX12_worked 79 = .ok (.iastore, 1) := by decide +kernel
theorem dX12_worked_80 : decode cX12_worked 80 = .ok (.iinc 4 1, 3) := by decide +kernel
theorem dX12_worked_83 : decode cX12_worked 83 = .ok (.goto 99, 3) := by decide +kernel
theorem dX12_worked_86 : decode cX12_worked 86 = .ok (.iload 6, 2) := by decide +kernel
theorem dX12_worked_88 : decode cX12_worked 88 = .ok (.iconst 3, 1) := by decide +kernel
theorem dX12_worked_89 : decode cX12_worked 89 = .ok (.if_icmp .ne 32, 3) := by decide +kernel
theorem dX12_worked_92 : decode cX12_worked 92 = .ok (.aload_n 0, 1) := by decide +kernel
theorem dX12_worked_93 : decode cX12_worked 93 = .ok (.getfield 74, 3) := by decide +kernel
theorem dX12_worked_96 : decode cX12_worked 96 = .ok (.iload 4, 2) := by decide +kernel
theorem dX12_worked_98 : decode cX12_worked 98 = .ok (.iconst 1, 1) := by decide +kernel
theorem dX12_worked_99 : decode cX12_worked 99 = .ok (.isub, 1) := by decide +kernel
theorem dX12_worked_100 : decode cX12_worked 100 = .ok (.aload_n 0, 1) := by decide +kernel
theorem dX12_worked_101 : decode cX12_worked 101 = .ok (.getfield 74, 3) := by decide +kernel
theorem dX12_worked_104 : decode cX12_worked 104 = .ok (.iload 4, 2) := by decide +kernel
theorem dX12_worked_106 : decode cX12_worked 106 = .ok (.iconst 1, 1) := by decide +kernel
theorem dX12_worked_107 : decode cX12_worked 107 = .ok (.isub, 1) := by decide +kernel
theorem dX12_worked_108 : decode cX12_worked 108 = .ok (.iaload, 1) := by decide +kernel
theorem dX12_worked_109 : decode cX12_worked 109 = .ok (.ifCond .ne 7, 3) := by decide +kernel
theorem dX12_worked_112 : decode cX12_worked 112 = .ok (.iconst 1, 1) := by decide +kernel
theorem dX12_worked_113 : decode cX12_worked 113 = .ok (.goto 4, 3) := by decide +kernel
theorem dX12_worked_116 : decode cX12_worked 116 = .ok (.iconst 0, 1) := by decide +kernel
theorem dX12_worked_117 : decode cX12_worked 117 = .ok (.iastore, 1) := by decide +kernel
theorem dX12_worked_118 : decode cX12_worked 118 = .ok (.goto 64, 3) := by decide +kernel
theorem dX12_worked_121 : decode cX12_worked 121 = .ok (.iload 6, 2) := by decide +kernel
theorem dX12_worked_123 : decode cX12_worked 123 = .ok (.iconst 4, 1) := by decide +kernel
theorem dX12_worked_124 : decode cX12_worked 124 = .ok (.if_icmp .ne 25, 3) := by decide +kernel
theorem dX12_worked_127 : decode cX12_worked 127 = .ok (.aload_n 0, 1) := by decide +kernel
theorem dX12_worked_128 : decode cX12_worked 128 = .ok (.getfield 74, 3) := by decide +kernel
theorem dX12_worked_131 : decode cX12_worked 131 = .ok (.iload 4, 2) := by decide +kernel
theorem dX12_worked_133 : decode cX12_worked 133 = .ok (.iconst 1, 1) := by decide +kernel
theorem dX12_worked_134 : decode cX12_worked 134 = .ok (.isub, 1) := by decide +kernel
theorem dX12_worked_135 : decode cX12_worked 135 = .ok (.aload_n 0, 1) := by decide +kernel
theorem dX12_worked_136 : decode cX12_worked 136 = .ok (.getfield 74, 3) := by decide +kernel
theorem dX12_worked_139 : decode cX12_worked 139 = .ok (.iload 4, 2) := by decide +kernel
theorem dX12_worked_141 : decode cX12_worked 141 = .ok (.iconst 1, 1) := by decide +kernel
theorem dX12_worked_142 : decode cX12_worked 142 = .ok (.isub, 1) := by decide +kernel
theorem dX12_worked_143 : decode cX12_worked 143 = .ok (.iaload, 1) := by decide +kernel
theorem dX12_worked_144 : decode cX12_worked 144 = .ok (.ineg, 1) := by decide +kernel
theorem dX12_worked_145 : decode cX12_worked 145 = .ok (.iastore, 1) := by decide +kernel
theorem dX12_worked_146 : decode cX12_worked 146 = .ok (.goto 36, 3) := by decide +kernel
theorem dX12_worked_149 : decode cX12_worked 149 = .ok (.iinc 4 (-1), 3) := by decide +kernel
theorem dX12_worked_152 : decode cX12_worked 152 = .ok (.aload_n 0, 1) := by decide +kernel
theorem dX12_worked_153 : decode cX12_worked 153 = .ok (.getfield 74, 3) := by decide +kernel
theorem dX12_worked_156 : decode cX12_worked 156 = .ok (.iload 4, 2) := by decide +kernel
theorem dX12_worked_158 : decode cX12_worked 158 = .ok (.iconst 1, 1) := by decide +kernel
theorem dX12_worked_159 : decode cX12_worked 159 = .ok (.isub, 1) := by decide +kernel
theorem dX12_worked_160 : decode cX12_worked 160 = .ok (.iload 6, 2) := by decide +kernel
theorem dX12_worked_162 : decode cX12_worked 162 = .ok (.aload_n 0, 1) := by decide +kernel
theorem dX12_worked_163 : decode cX12_worked 163 = .ok (.getfield 74, 3) := by decide +kernel
theorem dX12_worked_166 : decode cX12_worked 166 = .ok (.iload 4, 2) := by decide +kernel
theorem dX12_worked_168 : decode cX12_worked 168 = .ok (.iconst 1, 1) := by decide +kernel
theorem dX12_worked_169 : decode cX12_worked 169 = .ok (.isub, 1) := by decide +kernel
theorem dX12_worked_170 : decode cX12_worked 170 = .ok (.iaload, 1) := by decide +kernel
theorem dX12_worked_171 : decode cX12_worked 171 = .ok (.aload_n 0, 1) := by decide +kernel
theorem dX12_worked_172 : decode cX12_worked 172 = .ok (.getfield 74, 3) := by decide +kernel
theorem dX12_worked_175 : decode cX12_worked 175 = .ok (.iload 4, 2) := by decide +kernel
theorem dX12_worked_177 : decode cX12_worked 177 = .ok (.iaload, 1) := by decide +kernel
theorem dX12_worked_178 : decode cX12_worked 178 = .ok (.invokestatic 244, 3) := by decide +kernel
theorem dX12_worked_181 : decode cX12_worked 181 = .ok (.iastore, 1) := by decide +kernel
theorem dX12_worked_182 : decode cX12_worked 182 = .ok (.iinc 5 1, 3) := by decide +kernel
theorem dX12_worked_185 : decode cX12_worked 185 = .ok (.goto (-173), 3) := by decide +kernel
theorem dX12_worked_188 : decode cX12_worked 188 = .ok (.aload_n 0, 1) := by decide +kernel
theorem dX12_worked_189 : decode cX12_worked 189 = .ok (.getfield 74, 3) := by decide +kernel
theorem dX12_worked_192 : decode cX12_worked 192 = .ok (.iconst 0, 1) := by decide +kernel
theorem dX12_worked_193 : decode cX12_worked 193 = .ok (.iaload, 1) := by decide +kernel
theorem dX12_worked_194 : decode cX12_worked 194 = .ok (.ireturn, 1) := by decide +kernel
theorem dX12_gives_0 : decode cX12_gives 0 = .ok (.iconst 0, 1) := by decide +kernel
theorem dX12_gives_1 : decode cX12_gives 1 = .ok (.istore_n 2, 1) := by decide +kernel
theorem dX12_gives_2 : decode cX12_gives 2 = .ok (.bipush 61, 2) := by decide +kernel
theorem dX12_gives_4 : decode cX12_gives 4 = .ok (.iload_n 1, 1) := by decide +kernel
theorem dX12_gives_5 : decode cX12_gives 5 = .ok (.imul, 1) := by decide +kernel
theorem dX12_gives_6 : decode cX12_gives 6 = .ok (.istore_n 3, 1) := by decide +kernel
theorem dX12_gives_7 : decode cX12_gives 7 = .ok (.iload_n 3, 1) := by decide +kernel
theorem dX12_gives_8 : decode cX12_gives 8 = .ok (.bipush 61, 2) := by decide +kernel
theorem dX12_gives_10 : decode cX12_gives 10 = .ok (.iload_n 1, 1) := by decide +kernel
theorem dX12_gives_11 : decode cX12_gives 11 = .ok (.imul, 1) := by decide +kernel
theorem dX12_gives_12 : decode cX12_gives 12 = .ok (.aload_n 0, 1) := by decide +kernel
theorem dX12_gives_13 : decode cX12_gives 13 = .ok (.getfield 61, 3) := by decide +kernel
theorem dX12_gives_16 : decode cX12_gives 16 = .ok (.iload_n 1, 1) := by decide +kernel
theorem dX12_gives_17 : decode cX12_gives 17 = .ok (.iaload, 1) := by decide +kernel
theorem dX12_gives_18 : decode cX12_gives 18 = .ok (.iadd, 1) := by decide +kernel
theorem dX12_gives_19 : decode cX12_gives 19 = .ok (.if_icmp .ge 59, 3) := by decide +kernel
theorem dX12_gives_22 : decode cX12_gives 22 = .ok (.aload_n 0, 1) := by decide +kernel
theorem dX12_gives_23 : decode cX12_gives 23 = .ok (.getfield 64, 3) := by decide +kernel
theorem dX12_gives_26 : decode cX12_gives 26 = .ok (.iload_n 3, 1) := by decide +kernel
theorem dX12_gives_27 : decode cX12_gives 27 = .ok (.saload, 1) := by decide +kernel
theorem dX12_gives_28 : decode cX12_gives 28 = .ok (.iload_n 2, 1) := by decide +kernel
theorem dX12_gives_29 : decode cX12_gives 29 = .ok (.if_icmp .eq 18, 3) := by decide +kernel
theorem dX12_gives_32 : decode cX12_gives 32 = .ok (.aload_n 0, 1) := by decide +kernel
theorem dX12_gives_33 : decode cX12_gives 33 = .ok (.iload_n 1, 1) := by decide +kernel
theorem dX12_gives_34 : decode cX12_gives 34 = .ok (.iload_n 2, 1) := by decide +kernel
theorem dX12_gives_35 : decode cX12_gives 35 = .ok (.aload_n 0, 1) := by decide +kernel
theorem dX12_gives_36 : decode cX12_gives 36 = .ok (.getfield 64, 3) := by decide +kernel
theorem dX12_gives_39 : decode cX12_gives 39 = .ok (.iload_n 3, 1) := by decide +kernel
theorem dX12_gives_40 : decode cX12_gives 40 = .ok (.saload, 1) := by decide +kernel
theorem dX12_gives_41 : decode cX12_gives 41 = .ok (.invokevirtual 247, 3) := by decide +kernel
theorem dX12_gives_44 : decode cX12_gives 44 = .ok (.ifCond .eq 21, 3) := by decide +kernel
theorem dX12_gives_47 : decode cX12_gives 47 = .ok (.aload_n 0, 1) := by decide +kernel
theorem dX12_gives_48 : decode cX12_gives 48 = .ok (.iload_n 1, 1) := by decide +kernel
theorem dX12_gives_49 : decode cX12_gives 49 = .ok (.aload_n 0, 1) := by decide +kernel
theorem dX12_gives_50 : decode cX12_gives 50 = .ok (.getfield 64, 3) := by decide +kernel
theorem dX12_gives_53 : decode cX12_gives 53 = .ok (.iload_n 3, 1) := by decide +kernel
theorem dX12_gives_54 : decode cX12_gives 54 = .ok (.saload, 1) := by decide +kernel
theorem dX12_gives_55 : decode cX12_gives 55 = .ok (.aload_n 0, 1) := by decide +kernel
theorem dX12_gives_56 : decode cX12_gives 56 = .ok (.getfield 68, 3) := by decide +kernel
theorem dX12_gives_59 : decode cX12_gives 59 = .ok (.iload_n 3, 1) := by decide +kernel
theorem dX12_gives_60 : decode cX12_gives 60 = .ok (.saload, 1) := by decide +kernel
theorem dX12_gives_61 : decode cX12_gives 61 = .ok (.invokevirtual 247, 3) := by decide +kernel
theorem dX12_gives_64 : decode cX12_gives 64 = .ok (.ireturn, 1) := by decide +kernel
theorem dX12_gives_65 : decode cX12_gives 65 = .ok (.aload_n 0, 1) := by decide +kernel
theorem dX12_gives_66 : decode cX12_gives 66 = .ok (.getfield 68, 3) := by decide +kernel
theorem dX12_gives_69 : decode cX12_gives 69 = .ok (.iload_n 3, 1) := by decide +kernel
theorem dX12_gives_70 : decode cX12_gives 70 = .ok (.saload, 1) := by decide +kernel
theorem dX12_gives_71 : decode cX12_gives 71 = .ok (.istore_n 2, 1) := by decide +kernel
theorem dX12_gives_72 : decode cX12_gives 72 = .ok (.iinc 3 1, 3) := by decide +kernel
theorem dX12_gives_75 : decode cX12_gives 75 = .ok (.goto (-68), 3) := by decide +kernel
theorem dX12_gives_78 : decode cX12_gives 78 = .ok (.iconst 0, 1) := by decide +kernel
theorem dX12_gives_79 : decode cX12_gives 79 = .ok (.ireturn, 1) := by decide +kernel
theorem dX12_law_0 : decode cX12_law 0 = .ok (.aload_n 0, 1) := by decide +kernel
theorem dX12_law_1 : decode cX12_law 1 = .ok (.iconst 0, 1) := by decide +kernel
theorem dX12_law_2 : decode cX12_law 2 = .ok (.invokevirtual 250, 3) := by decide +kernel
theorem dX12_law_5 : decode cX12_law 5 = .ok (.istore_n 1, 1) := by decide +kernel
theorem dX12_law_6 : decode cX12_law 6 = .ok (.iload_n 1, 1) := by decide +kernel
theorem dX12_law_7 : decode cX12_law 7 = .ok (.ifCond .lt 8, 3) := by decide +kernel
theorem dX12_law_10 : decode cX12_law 10 = .ok (.bipush (-100), 2) := by decide +kernel
theorem dX12_law_12 : decode cX12_law 12 = .ok (.iload_n 1, 1) := by decide +kernel
theorem dX12_law_13 : decode cX12_law 13 = .ok (.isub, 1) := by decide +kernel
theorem dX12_law_14 : decode cX12_law 14 = .ok (.ireturn, 1) := by decide +kernel
theorem dX12_law_15 : decode cX12_law 15 = .ok (.aload_n 0, 1) := by decide +kernel
theorem dX12_law_16 : decode cX12_law 16 = .ok (.iconst 1, 1) := by decide +kernel
theorem dX12_law_17 : decode cX12_law 17 = .ok (.putfield 253, 3) := by decide +kernel
theorem dX12_law_20 : decode cX12_law 20 = .ok (.iconst 1, 1) := by decide +kernel
theorem dX12_law_21 : decode cX12_law 21 = .ok (.ireturn, 1) := by decide +kernel
theorem dX12_layNow_0 : decode cX12_layNow 0 = .ok (.iconst 0, 1) := by decide +kernel
theorem dX12_layNow_1 : decode cX12_layNow 1 = .ok (.istore_n 1, 1) := by decide +kernel
theorem dX12_layNow_2 : decode cX12_layNow 2 = .ok (.iload_n 1, 1) := by decide +kernel
theorem dX12_layNow_3 : decode cX12_layNow 3 = .ok (.bipush 6, 2) := by decide +kernel
theorem dX12_layNow_5 : decode cX12_layNow 5 = .ok (.if_icmp .ge 33, 3) := by decide +kernel
theorem dX12_layNow_8 : decode cX12_layNow 8 = .ok (.aload_n 0, 1) := by decide +kernel
theorem dX12_layNow_9 : decode cX12_layNow 9 = .ok (.getfield 77, 3) := by decide +kernel
theorem dX12_layNow_12 : decode cX12_layNow 12 = .ok (.iload_n 1, 1) := by decide +kernel
theorem dX12_layNow_13 : decode cX12_layNow 13 = .ok (.aload_n 0, 1) := by decide +kernel
theorem dX12_layNow_14 : decode cX12_layNow 14 = .ok (.getfield 9, 3) := by decide +kernel
theorem dX12_layNow_17 : decode cX12_layNow 17 = .ok (.iload_n 1, 1) := by decide +kernel
theorem dX12_layNow_18 : decode cX12_layNow 18 = .ok (.iaload, 1) := by decide +kernel
theorem dX12_layNow_19 : decode cX12_layNow 19 = .ok (.iastore, 1) := by decide +kernel
theorem dX12_layNow_20 : decode cX12_layNow 20 = .ok (.aload_n 0, 1) := by decide +kernel
theorem dX12_layNow_21 : decode cX12_layNow 21 = .ok (.getfield 92, 3) := by decide +kernel
theorem dX12_layNow_24 : decode cX12_layNow 24 = .ok (.iload_n 1, 1) := by decide +kernel
theorem dX12_layNow_25 : decode cX12_layNow 25 = .ok (.aload_n 0, 1) := by decide +kernel
theorem dX12_layNow_26 : decode cX12_layNow 26 = .ok (.getfield 30, 3) := by decide +kernel
theorem dX12_layNow_29 : decode cX12_layNow 29 = .ok (.iload_n 1, 1) := by decide +kernel
theorem dX12_layNow_30 : decode cX12_layNow 30 = .ok (.iaload, 1) := by decide +kernel
theorem dX12_layNow_31 : decode cX12_layNow 31 = .ok (.iastore, 1) := by decide +kernel
theorem dX12_layNow_32 : decode cX12_layNow 32 = .ok (.iinc 1 1, 3) := by decide +kernel
theorem dX12_layNow_35 : decode cX12_layNow 35 = .ok (.goto (-33), 3) := by decide +kernel
theorem dX12_layNow_38 : decode cX12_layNow 38 = .ok (.iconst 0, 1) := by decide +kernel
theorem dX12_layNow_39 : decode cX12_layNow 39 = .ok (.istore_n 1, 1) := by decide +kernel
theorem dX12_layNow_40 : decode cX12_layNow 40 = .ok (.iload_n 1, 1) := by decide +kernel
theorem dX12_layNow_41 : decode cX12_layNow 41 = .ok (.bipush 30, 2) := by decide +kernel
theorem dX12_layNow_43 : decode cX12_layNow 43 = .ok (.if_icmp .ge 57, 3) := by decide +kernel
theorem dX12_layNow_46 : decode cX12_layNow 46 = .ok (.aload_n 0, 1) := by decide +kernel
theorem dX12_layNow_47 : decode cX12_layNow 47 = .ok (.getfield 80, 3) := by decide +kernel
theorem dX12_layNow_50 : decode cX12_layNow 50 = .ok (.iload_n 1, 1) := by decide +kernel
theorem dX12_layNow_51 : decode cX12_layNow 51 = .ok (.aload_n 0, 1) := by decide +kernel
theorem dX12_layNow_52 : decode cX12_layNow 52 = .ok (.getfield 15, 3) := by decide +kernel
theorem dX12_layNow_55 : decode cX12_layNow 55 = .ok (.iload_n 1, 1) := by decide +kernel
theorem dX12_layNow_56 : decode cX12_layNow 56 = .ok (.iaload, 1) := by decide +kernel
theorem dX12_layNow_57 : decode cX12_layNow 57 = .ok (.iastore, 1) := by decide +kernel
theorem dX12_layNow_58 : decode cX12_layNow 58 = .ok (.aload_n 0, 1) := by decide +kernel
theorem dX12_layNow_59 : decode cX12_layNow 59 = .ok (.getfield 83, 3) := by decide +kernel
theorem dX12_layNow_62 : decode cX12_layNow 62 = .ok (.iload_n 1, 1) := by decide +kernel
theorem dX12_layNow_63 : decode cX12_layNow 63 = .ok (.aload_n 0, 1) := by decide +kernel
theorem dX12_layNow_64 : decode cX12_layNow 64 = .ok (.getfield 18, 3) := by decide +kernel
theorem dX12_layNow_67 : decode cX12_layNow 67 = .ok (.iload_n 1, 1) := by decide +kernel
theorem dX12_layNow_68 : decode cX12_layNow 68 = .ok (.iaload, 1) := by decide +kernel
theorem dX12_layNow_69 : decode cX12_layNow 69 = .ok (.iastore, 1) := by decide +kernel
theorem dX12_layNow_70 : decode cX12_layNow 70 = .ok (.aload_n 0, 1) := by decide +kernel
theorem dX12_layNow_71 : decode cX12_layNow 71 = .ok (.getfield 86, 3) := by decide +kernel
theorem dX12_layNow_74 : decode cX12_layNow 74 = .ok (.iload_n 1, 1) := by decide +kernel
theorem dX12_layNow_75 : decode cX12_layNow 75 = .ok (.aload_n 0, 1) := by decide +kernel
theorem dX12_layNow_76 : decode cX12_layNow 76 = .ok (.getfield 21, 3) := by decide +kernel
theorem dX12_layNow_79 : decode cX12_layNow 79 = .ok (.iload_n 1, 1) := by decide +kernel
theorem dX12_layNow_80 : decode cX12_layNow 80 = .ok (.iaload, 1) := by decide +kernel
theorem dX12_layNow_81 : decode cX12_layNow 81 = .ok (.iastore, 1) := by decide +kernel
theorem dX12_layNow_82 : decode cX12_layNow 82 = .ok (.aload_n 0, 1) := by decide +kernel
theorem dX12_layNow_83 : decode cX12_layNow 83 = .ok (.getfield 89, 3) := by decide +kernel
theorem dX12_layNow_86 : decode cX12_layNow 86 = .ok (.iload_n 1, 1) := by decide +kernel
theorem dX12_layNow_87 : decode cX12_layNow 87 = .ok (.aload_n 0, 1) := by decide +kernel
theorem dX12_layNow_88 : decode cX12_layNow 88 = .ok (.getfield 24, 3) := by decide +kernel
theorem dX12_layNow_91 : decode cX12_layNow 91 = .ok (.iload_n 1, 1) := by decide +kernel
theorem dX12_layNow_92 : decode cX12_layNow 92 = .ok (.iaload, 1) := by decide +kernel
theorem dX12_layNow_93 : decode cX12_layNow 93 = .ok (.iastore, 1) := by decide +kernel
theorem dX12_layNow_94 : decode cX12_layNow 94 = .ok (.iinc 1 1, 3) := by decide +kernel
theorem dX12_layNow_97 : decode cX12_layNow 97 = .ok (.goto (-57), 3) := by decide +kernel
theorem dX12_layNow_100 : decode cX12_layNow 100 = .ok (.return_, 1) := by decide +kernel
theorem dX12_isThere_0 : decode cX12_isThere 0 = .ok (.iload_n 1, 1) := by decide +kernel
theorem dX12_isThere_1 : decode cX12_isThere 1 = .ok (.invokestatic 146, 3) := by decide +kernel
theorem dX12_isThere_4 : decode cX12_isThere 4 = .ok (.ifCond .eq 23, 3) := by decide +kernel
theorem dX12_isThere_7 : decode cX12_isThere 7 = .ok (.iload_n 2, 1) := by decide +kernel
theorem dX12_isThere_8 : decode cX12_isThere 8 = .ok (.iconst 0, 1) := by decide +kernel
theorem dX12_isThere_9 : decode cX12_isThere 9 = .ok (.aload_n 0, 1) := by decide +kernel
theorem dX12_isThere_10 : decode cX12_isThere 10 = .ok (.getfield 77, 3) := by decide +kernel
theorem dX12_isThere_13 : decode cX12_isThere 13 = .ok (.iload_n 1, 1) := by decide +kernel
theorem dX12_isThere_14 : decode cX12_isThere 14 = .ok (.iaload, 1) := by decide +kernel
theorem dX12_isThere_15 : decode cX12_isThere 15 = .ok (.iconst 1, 1) := by decide +kernel
theorem dX12_isThere_16 : decode cX12_isThere 16 = .ok (.isub, 1) := by decide +kernel
theorem dX12_isThere_17 : decode cX12_isThere 17 = .ok (.invokestatic 142, 3) := by decide +kernel
theorem dX12_isThere_20 : decode cX12_isThere 20 = .ok (.ifCond .eq 7, 3) := by decide +kernel
theorem dX12_isThere_23 : decode cX12_isThere 23 = .ok (.iconst 1, 1) := by decide +kernel
theorem dX12_isThere_24 : decode cX12_isThere 24 = .ok (.goto 4, 3) := by decide +kernel
theorem dX12_isThere_27 : decode cX12_isThere 27 = .ok (.iconst 0, 1) := by decide +kernel
theorem dX12_isThere_28 : decode cX12_isThere 28 = .ok (.ireturn, 1) := by decide +kernel
theorem dX12_beside_0 : decode cX12_beside 0 = .ok (.iload_n 1, 1) := by decide +kernel
theorem dX12_beside_1 : decode cX12_beside 1 = .ok (.iconst 5, 1) := by decide +kernel
theorem dX12_beside_2 : decode cX12_beside 2 = .ok (.idiv, 1) := by decide +kernel
theorem dX12_beside_3 : decode cX12_beside 3 = .ok (.iload_n 2, 1) := by decide +kernel
theorem dX12_beside_4 : decode cX12_beside 4 = .ok (.iconst 2, 1) := by decide +kernel
theorem dX12_beside_5 : decode cX12_beside 5 = .ok (.if_icmp .ne 7, 3) := by decide +kernel
theorem dX12_beside_8 : decode cX12_beside 8 = .ok (.iconst (-1), 1) := by decide +kernel
theorem dX12_beside_9 : decode cX12_beside 9 = .ok (.goto 13, 3) := by decide +kernel
theorem dX12_beside_12 : decode cX12_beside 12 = .ok (.iload_n 2, 1) := by decide +kernel
theorem dX12_beside_13 : decode cX12_beside 13 = .ok (.iconst 3, 1) := by decide +kernel
theorem dX12_beside_14 : decode cX12_beside 14 = .ok (.if_icmp .ne 7, 3) := by decide +kernel
theorem dX12_beside_17 : decode cX12_beside 17 = .ok (.iconst 1, 1) := by decide +kernel
theorem dX12_beside_18 : decode cX12_beside 18 = .ok (.goto 4, 3) := by decide +kernel
theorem dX12_beside_21 : decode cX12_beside 21 = .ok (.iconst 0, 1) := by decide +kernel
theorem dX12_beside_22 : decode cX12_beside 22 = .ok (.iadd, 1) := by decide +kernel
theorem dX12_beside_23 : decode cX12_beside 23 = .ok (.istore_n 3, 1) := by decide +kernel
theorem dX12_beside_24 : decode cX12_beside 24 = .ok (.iload_n 1, 1) := by decide +kernel
theorem dX12_beside_25 : decode cX12_beside 25 = .ok (.iconst 5, 1) := by decide +kernel
theorem dX12_beside_26 : decode cX12_beside 26 = .ok (.irem, 1) := by decide +kernel
theorem dX12_beside_27 : decode cX12_beside 27 = .ok (.iload_n 2, 1) := by decide +kernel
theorem dX12_beside_28 : decode cX12_beside 28 = .ok (.ifCond .ne 7, 3) := by decide +kernel
theorem dX12_beside_31 : decode cX12_beside 31 = .ok (.iconst 1, 1) := by decide +kernel
theorem dX12_beside_32 : decode cX12_beside 32 = .ok (.goto 13, 3) := by decide +kernel
theorem dX12_beside_35 : decode cX12_beside 35 = .ok (.iload_n 2, 1) := by decide +kernel
theorem dX12_beside_36 : decode cX12_beside 36 = .ok (.iconst 1, 1) := by decide +kernel
theorem dX12_beside_37 : decode cX12_beside 37 = .ok (.if_icmp .ne 7, 3) := by decide +kernel
theorem dX12_beside_40 : decode cX12_beside 40 = .ok (.iconst (-1), 1) := by decide +kernel
theorem dX12_beside_41 : decode cX12_beside 41 = .ok (.goto 4, 3) := by decide +kernel
theorem dX12_beside_44 : decode cX12_beside 44 = .ok (.iconst 0, 1) := by decide +kernel
theorem dX12_beside_45 : decode cX12_beside 45 = .ok (.iadd, 1) := by decide +kernel
theorem dX12_beside_46 : decode cX12_beside 46 = .ok (.istore 4, 2) := by decide +kernel
theorem dX12_beside_48 : decode cX12_beside 48 = .ok (.aload_n 0, 1) := by decide +kernel
theorem dX12_beside_49 : decode cX12_beside 49 = .ok (.iload_n 3, 1) := by decide +kernel
theorem dX12_beside_50 : decode cX12_beside 50 = .ok (.iload 4, 2) := by decide +kernel
theorem dX12_beside_52 : decode cX12_beside 52 = .ok (.invokevirtual 257, 3) := by decide +kernel
theorem dX12_beside_55 : decode cX12_beside 55 = .ok (.ifCond .eq 12, 3) := by decide +kernel
theorem dX12_beside_58 : decode cX12_beside 58 = .ok (.iconst 5, 1) := by decide +kernel
theorem dX12_beside_59 : decode cX12_beside 59 = .ok (.iload_n 3, 1) := by decide +kernel
theorem dX12_beside_60 : decode cX12_beside 60 = .ok (.imul, 1) := by decide +kernel
theorem dX12_beside_61 : decode cX12_beside 61 = .ok (.iload 4, 2) := by decide +kernel
theorem dX12_beside_63 : decode cX12_beside 63 = .ok (.iadd, 1) := by decide +kernel
theorem dX12_beside_64 : decode cX12_beside 64 = .ok (.goto 5, 3) := by decide +kernel
theorem dX12_beside_67 : decode cX12_beside 67 = .ok (.bipush (-2), 2) := by decide +kernel
theorem dX12_beside_69 : decode cX12_beside 69 = .ok (.ireturn, 1) := by decide +kernel
theorem dX12_airOf_0 : decode cX12_airOf 0 = .ok (.aload_n 0, 1) := by decide +kernel
theorem dX12_airOf_1 : decode cX12_airOf 1 = .ok (.getfield 92, 3) := by decide +kernel
theorem dX12_airOf_4 : decode cX12_airOf 4 = .ok (.iload_n 1, 1) := by decide +kernel
theorem dX12_airOf_5 : decode cX12_airOf 5 = .ok (.iconst 5, 1) := by decide +kernel
theorem dX12_airOf_6 : decode cX12_airOf 6 = .ok (.idiv, 1) := by decide +kernel
theorem dX12_airOf_7 : decode cX12_airOf 7 = .ok (.iaload, 1) := by decide +kernel
theorem dX12_airOf_8 : decode cX12_airOf 8 = .ok (.iconst 1, 1) := by decide +kernel
theorem dX12_airOf_9 : decode cX12_airOf 9 = .ok (.if_icmp .ne 7, 3) := by decide +kernel
theorem dX12_airOf_12 : decode cX12_airOf 12 = .ok (.iconst 2, 1) := by decide +kernel
theorem dX12_airOf_13 : decode cX12_airOf 13 = .ok (.goto 4, 3) := by decide +kernel
theorem dX12_airOf_16 : decode cX12_airOf 16 = .ok (.iconst 0, 1) := by decide +kernel
theorem dX12_airOf_17 : decode cX12_airOf 17 = .ok (.istore_n 2, 1) := by decide +kernel
theorem dX12_airOf_18 : decode cX12_airOf 18 = .ok (.iconst 0, 1) := by decide +kernel
theorem dX12_airOf_19 : decode cX12_airOf 19 = .ok (.istore_n 3, 1) := by decide +kernel
theorem dX12_airOf_20 : decode cX12_airOf 20 = .ok (.iload_n 3, 1) := by decide +kernel
theorem dX12_airOf_21 : decode cX12_airOf 21 = .ok (.iconst 4, 1) := by decide +kernel
theorem dX12_airOf_22 : decode cX12_airOf 22 = .ok (.if_icmp .ge 26, 3) := by decide +kernel
theorem dX12_airOf_25 : decode cX12_airOf 25 = .ok (.iload_n 3, 1) := by decide +kernel
theorem dX12_airOf_26 : decode cX12_airOf 26 = .ok (.iconst 1, 1) := by decide +kernel
theorem dX12_airOf_27 : decode cX12_airOf 27 = .ok (.if_icmp .eq 15, 3) := by decide +kernel
theorem dX12_airOf_30 : decode cX12_airOf 30 = .ok (.aload_n 0, 1) := by decide +kernel
theorem dX12_airOf_31 : decode cX12_airOf 31 = .ok (.iload_n 1, 1) := by decide +kernel
theorem dX12_airOf_32 : decode cX12_airOf 32 = .ok (.iload_n 3, 1) := by decide +kernel
theorem dX12_airOf_33 : decode cX12_airOf 33 = .ok (.invokevirtual 260, 3) := by decide +kernel
theorem dX12_airOf_36 : decode cX12_airOf 36 = .ok (.ifCond .ge 6, 3) := by decide +kernel
theorem dX12_airOf_39 : decode cX12_airOf 39 = .ok (.iinc 2 1, 3) := by decide +kernel
theorem dX12_airOf_42 : decode cX12_airOf 42 = .ok (.iinc 3 1, 3) := by decide +kernel
theorem dX12_airOf_45 : decode cX12_airOf 45 = .ok (.goto (-25), 3) := by decide +kernel
theorem dX12_airOf_48 : decode cX12_airOf 48 = .ok (.iload_n 2, 1) := by decide +kernel
theorem dX12_airOf_49 : decode cX12_airOf 49 = .ok (.ireturn, 1) := by decide +kernel
theorem dX12_meanBeside_0 : decode cX12_meanBeside 0 = .ok (.iconst 0, 1) := by decide +kernel
theorem dX12_meanBeside_1 : decode cX12_meanBeside 1 = .ok (.istore_n 2, 1) := by decide +kernel
theorem dX12_meanBeside_2 : decode cX12_meanBeside 2 = .ok (.iconst 0, 1) := by decide +kernel
theorem dX12_meanBeside_3 : decode cX12_meanBeside 3 = .ok (.istore_n 3, 1) := by decide +kernel
theorem dX12_meanBeside_4 : decode cX12_meanBeside 4 = .ok (.iconst 0, 1) := by decide +kernel
theorem dX12_meanBeside_5 : decode cX12_meanBeside 5 = .ok (.istore 4, 2) := by decide +kernel
theorem dX12_meanBeside_7 : decode cX12_meanBeside 7 = .ok (.iload 4, 2) := by decide +kernel
theorem dX12_meanBeside_9 : decode cX12_meanBeside 9 = .ok (.iconst 4, 1) := by decide +kernel
theorem dX12_meanBeside_10 : decode cX12_meanBeside 10 = .ok (.if_icmp .ge 39, 3) := by decide +kernel
theorem dX12_meanBeside_13 : decode cX12_meanBeside 13 = .ok (.aload_n 0, 1) := by decide +kernel
theorem dX12_meanBeside_14 : decode cX12_meanBeside 14 = .ok (.iload_n 1, 1) := by decide +kernel
theorem dX12_meanBeside_15 : decode cX12_meanBeside 15 = .ok (.iload 4, 2) := by decide +kernel
theorem dX12_meanBeside_17 : decode cX12_meanBeside 17 = .ok (.invokevirtual 260, 3) := by decide +kernel
theorem dX12_meanBeside_20 : decode cX12_meanBeside 20 = .ok (.istore 5, 2) := by decide +kernel
theorem dX12_meanBeside_22 : decode cX12_meanBeside 22 = .ok (.iload 5, 2) := by decide +kernel
theorem dX12_meanBeside_24 : decode cX12_meanBeside 24 = .ok (.ifCond .ge 6, 3) := by decide +kernel
theorem dX12_meanBeside_27 : decode cX12_meanBeside 27 = .ok (.goto 16, 3) := by decide +kernel
theorem dX12_meanBeside_30 : decode cX12_meanBeside 30 = .ok (.iinc 2 1, 3) := by decide +kernel
theorem dX12_meanBeside_33 : decode cX12_meanBeside 33 = .ok (.iload_n 3, 1) := by decide +kernel
theorem dX12_meanBeside_34 : decode cX12_meanBeside 34 = .ok (.aload_n 0, 1) := by decide +kernel
theorem dX12_meanBeside_35 : decode cX12_meanBeside 35 = .ok (.getfield 83, 3) := by decide +kernel
theorem dX12_meanBeside_38 : decode cX12_meanBeside 38 = .ok (.iload 5, 2) := by decide +kernel
theorem dX12_meanBeside_40 : decode cX12_meanBeside 40 = .ok (.iaload, 1) := by decide +kernel
theorem dX12_meanBeside_41 : decode cX12_meanBeside 41 = .ok (.iadd, 1) := by decide +kernel
theorem dX12_meanBeside_42 : decode cX12_meanBeside 42 = .ok (.istore_n 3, 1) := by decide +kernel
theorem dX12_meanBeside_43 : decode cX12_meanBeside 43 = .ok (.iinc 4 1, 3) := by decide +kernel
theorem dX12_meanBeside_46 : decode cX12_meanBeside 46 = .ok (.goto (-39), 3) := by decide +kernel
theorem dX12_meanBeside_49 : decode cX12_meanBeside 49 = .ok (.iload_n 2, 1) := by decide +kernel
theorem dX12_meanBeside_50 : decode cX12_meanBeside 50 = .ok (.ifCond .ne 8, 3) := by decide +kernel
theorem dX12_meanBeside_53 : decode cX12_meanBeside 53 = .ok (.bipush 20, 2) := by decide +kernel
theorem dX12_meanBeside_55 : decode cX12_meanBeside 55 = .ok (.goto 6, 3) := by decide +kernel
theorem dX12_meanBeside_58 : decode cX12_meanBeside 58 = .ok (.iload_n 3, 1) := by decide +kernel
theorem dX12_meanBeside_59 : decode cX12_meanBeside 59 = .ok (.iload_n 2, 1) := by decide +kernel
theorem dX12_meanBeside_60 : decode cX12_meanBeside 60 = .ok (.idiv, 1) := by decide +kernel
theorem dX12_meanBeside_61 : decode cX12_meanBeside 61 = .ok (.ireturn, 1) := by decide +kernel
theorem dX12_heatsBy_0 : decode cX12_heatsBy 0 = .ok (.iconst 2, 1) := by decide +kernel
theorem dX12_heatsBy_1 : decode cX12_heatsBy 1 = .ok (.aload_n 0, 1) := by decide +kernel
theorem dX12_heatsBy_2 : decode cX12_heatsBy 2 = .ok (.getfield 80, 3) := by decide +kernel
theorem dX12_heatsBy_5 : decode cX12_heatsBy 5 = .ok (.iload_n 1, 1) := by decide +kernel
theorem dX12_heatsBy_6 : decode cX12_heatsBy 6 = .ok (.iaload, 1) := by decide +kernel
theorem dX12_heatsBy_7 : decode cX12_heatsBy 7 = .ok (.imul, 1) := by decide +kernel
theorem dX12_heatsBy_8 : decode cX12_heatsBy 8 = .ok (.aload_n 0, 1) := by decide +kernel
theorem dX12_heatsBy_9 : decode cX12_heatsBy 9 = .ok (.iload_n 1, 1) := by decide +kernel
theorem dX12_heatsBy_10 : decode cX12_heatsBy 10 = .ok (.invokevirtual 263, 3) := by decide +kernel
theorem dX12_heatsBy_13 : decode cX12_heatsBy 13 = .ok (.isub, 1) := by decide +kernel
theorem dX12_heatsBy_14 : decode cX12_heatsBy 14 = .ok (.iconst 4, 1) := by decide +kernel
theorem dX12_heatsBy_15 : decode cX12_heatsBy 15 = .ok (.aload_n 0, 1) := by decide +kernel
theorem dX12_heatsBy_16 : decode cX12_heatsBy 16 = .ok (.getfield 89, 3) := by decide +kernel
theorem dX12_heatsBy_19 : decode cX12_heatsBy 19 = .ok (.iload_n 1, 1) := by decide +kernel
theorem dX12_heatsBy_20 : decode cX12_heatsBy 20 = .ok (.iaload, 1) := by decide +kernel
theorem dX12_heatsBy_21 : decode cX12_heatsBy 21 = .ok (.imul, 1) := by decide +kernel
theorem dX12_heatsBy_22 : decode cX12_heatsBy 22 = .ok (.isub, 1) := by decide +kernel
theorem dX12_heatsBy_23 : decode cX12_heatsBy 23 = .ok (.aload_n 0, 1) := by decide +kernel
theorem dX12_heatsBy_24 : decode cX12_heatsBy 24 = .ok (.iload_n 1, 1) := by decide +kernel
theorem dX12_heatsBy_25 : decode cX12_heatsBy 25 = .ok (.invokevirtual 266, 3) := by decide +kernel
theorem dX12_heatsBy_28 : decode cX12_heatsBy 28 = .ok (.aload_n 0, 1) := by decide +kernel
theorem dX12_heatsBy_29 : decode cX12_heatsBy 29 = .ok (.getfield 83, 3) := by decide +kernel
theorem dX12_heatsBy_32 : decode cX12_heatsBy 32 = .ok (.iload_n 1, 1) := by decide +kernel
theorem dX12_heatsBy_33 : decode cX12_heatsBy 33 = .ok (.iaload, 1) := by decide +kernel
theorem dX12_heatsBy_34 : decode cX12_heatsBy 34 = .ok (.isub, 1) := by decide +kernel
theorem dX12_heatsBy_35 : decode cX12_heatsBy 35 = .ok (.iconst 4, 1) := by decide +kernel
theorem dX12_heatsBy_36 : decode cX12_heatsBy 36 = .ok (.idiv, 1) := by decide +kernel
theorem dX12_heatsBy_37 : decode cX12_heatsBy 37 = .ok (.iadd, 1) := by decide +kernel
theorem dX12_heatsBy_38 : decode cX12_heatsBy 38 = .ok (.istore_n 2, 1) := by decide +kernel
theorem dX12_heatsBy_39 : decode cX12_heatsBy 39 = .ok (.aload_n 0, 1) := by decide +kernel
theorem dX12_heatsBy_40 : decode cX12_heatsBy 40 = .ok (.getfield 253, 3) := by decide +kernel
theorem dX12_heatsBy_43 : decode cX12_heatsBy 43 = .ok (.ifCond .eq 76, 3) := by decide +kernel
theorem dX12_heatsBy_46 : decode cX12_heatsBy 46 = .ok (.aload_n 0, 1) := by decide +kernel
theorem dX12_heatsBy_47 : decode cX12_heatsBy 47 = .ok (.getfield 71, 3) := by decide +kernel
theorem dX12_heatsBy_50 : decode cX12_heatsBy 50 = .ok (.iconst 0, 1) := by decide +kernel
theorem dX12_heatsBy_51 : decode cX12_heatsBy 51 = .ok (.aload_n 0, 1) := by decide +kernel
theorem dX12_heatsBy_52 : decode cX12_heatsBy 52 = .ok (.getfield 80, 3) := by decide +kernel
theorem dX12_heatsBy_55 : decode cX12_heatsBy 55 = .ok (.iload_n 1, 1) := by decide +kernel
theorem dX12_heatsBy_56 : decode cX12_heatsBy 56 = .ok (.iaload, 1) := by decide +kernel
theorem dX12_heatsBy_57 : decode cX12_heatsBy 57 = .ok (.iastore, 1) := by decide +kernel
theorem dX12_heatsBy_58 : decode cX12_heatsBy 58 = .ok (.aload_n 0, 1) := by decide +kernel
theorem dX12_heatsBy_59 : decode cX12_heatsBy 59 = .ok (.getfield 71, 3) := by decide +kernel
theorem dX12_heatsBy_62 : decode cX12_heatsBy 62 = .ok (.iconst 1, 1) := by decide +kernel
theorem dX12_heatsBy_63 : decode cX12_heatsBy 63 = .ok (.aload_n 0, 1) := by decide +kernel
theorem dX12_heatsBy_64 : decode cX12_heatsBy 64 = .ok (.getfield 83, 3) := by decide +kernel
theorem dX12_heatsBy_67 : decode cX12_heatsBy 67 = .ok (.iload_n 1, 1) := by decide +kernel
theorem dX12_heatsBy_68 : decode cX12_heatsBy 68 = .ok (.iaload, 1) := by decide +kernel
theorem dX12_heatsBy_69 : decode cX12_heatsBy 69 = .ok (.iastore, 1) := by decide +kernel
theorem dX12_heatsBy_70 : decode cX12_heatsBy 70 = .ok (.aload_n 0, 1) := by decide +kernel
theorem dX12_heatsBy_71 : decode cX12_heatsBy 71 = .ok (.getfield 71, 3) := by decide +kernel
theorem dX12_heatsBy_74 : decode cX12_heatsBy 74 = .ok (.iconst 2, 1) := by decide +kernel
theorem dX12_heatsBy_75 : decode cX12_heatsBy 75 = .ok (.aload_n 0, 1) := by decide +kernel
theorem dX12_heatsBy_76 : decode cX12_heatsBy 76 = .ok (.iload_n 1, 1) := by decide +kernel
theorem dX12_heatsBy_77 : decode cX12_heatsBy 77 = .ok (.invokevirtual 263, 3) := by decide +kernel
theorem dX12_heatsBy_80 : decode cX12_heatsBy 80 = .ok (.iastore, 1) := by decide +kernel
theorem dX12_heatsBy_81 : decode cX12_heatsBy 81 = .ok (.aload_n 0, 1) := by decide +kernel
theorem dX12_heatsBy_82 : decode cX12_heatsBy 82 = .ok (.getfield 71, 3) := by decide +kernel
theorem dX12_heatsBy_85 : decode cX12_heatsBy 85 = .ok (.iconst 3, 1) := by decide +kernel
theorem dX12_heatsBy_86 : decode cX12_heatsBy 86 = .ok (.aload_n 0, 1) := by decide +kernel
theorem dX12_heatsBy_87 : decode cX12_heatsBy 87 = .ok (.getfield 89, 3) := by decide +kernel
theorem dX12_heatsBy_90 : decode cX12_heatsBy 90 = .ok (.iload_n 1, 1) := by decide +kernel
theorem dX12_heatsBy_91 : decode cX12_heatsBy 91 = .ok (.iaload, 1) := by decide +kernel
theorem dX12_heatsBy_92 : decode cX12_heatsBy 92 = .ok (.iastore, 1) := by decide +kernel
theorem dX12_heatsBy_93 : decode cX12_heatsBy 93 = .ok (.aload_n 0, 1) := by decide +kernel
theorem dX12_heatsBy_94 : decode cX12_heatsBy 94 = .ok (.getfield 71, 3) := by decide +kernel
theorem dX12_heatsBy_97 : decode cX12_heatsBy 97 = .ok (.iconst 4, 1) := by decide +kernel
theorem dX12_heatsBy_98 : decode cX12_heatsBy 98 = .ok (.aload_n 0, 1) := by decide +kernel
theorem dX12_heatsBy_99 : decode cX12_heatsBy 99 = .ok (.iload_n 1, 1) := by decide +kernel
theorem dX12_heatsBy_100 : decode cX12_heatsBy 100 = .ok (.invokevirtual 266, 3) := by decide +kernel
theorem dX12_heatsBy_103 : decode cX12_heatsBy 103 = .ok (.iastore, 1) := by decide +kernel
theorem dX12_heatsBy_104 : decode cX12_heatsBy 104 = .ok (.aload_n 0, 1) := by decide +kernel
theorem dX12_heatsBy_105 : decode cX12_heatsBy 105 = .ok (.getfield 71, 3) := by decide +kernel
theorem dX12_heatsBy_108 : decode cX12_heatsBy 108 = .ok (.iconst 5, 1) := by decide +kernel
theorem dX12_heatsBy_109 : decode cX12_heatsBy 109 = .ok (.iload_n 1, 1) := by decide +kernel
theorem dX12_heatsBy_110 : decode cX12_heatsBy 110 = .ok (.iconst 5, 1) := by decide +kernel
theorem dX12_heatsBy_111 : decode cX12_heatsBy 111 = .ok (.irem, 1) := by decide +kernel
theorem dX12_heatsBy_112 : decode cX12_heatsBy 112 = .ok (.iastore, 1) := by decide +kernel
theorem dX12_heatsBy_113 : decode cX12_heatsBy 113 = .ok (.aload_n 0, 1) := by decide +kernel
theorem dX12_heatsBy_114 : decode cX12_heatsBy 114 = .ok (.iconst 0, 1) := by decide +kernel
theorem dX12_heatsBy_115 : decode cX12_heatsBy 115 = .ok (.invokevirtual 269, 3) := by decide +kernel
theorem dX12_heatsBy_118 : decode cX12_heatsBy 118 = .ok (.istore_n 2, 1) := by decide +kernel
theorem dX12_heatsBy_119 : decode cX12_heatsBy 119 = .ok (.iload_n 2, 1) := by decide +kernel
theorem dX12_heatsBy_120 : decode cX12_heatsBy 120 = .ok (.bipush (-20), 2) := by decide +kernel
theorem dX12_heatsBy_122 : decode cX12_heatsBy 122 = .ok (.if_icmp .ge 8, 3) := by decide +kernel
theorem dX12_heatsBy_125 : decode cX12_heatsBy 125 = .ok (.bipush (-20), 2) := by decide +kernel
theorem dX12_heatsBy_127 : decode cX12_heatsBy 127 = .ok (.goto 15, 3) := by decide +kernel
theorem dX12_heatsBy_130 : decode cX12_heatsBy 130 = .ok (.iload_n 2, 1) := by decide +kernel
theorem dX12_heatsBy_131 : decode cX12_heatsBy 131 = .ok (.bipush 20, 2) := by decide +kernel
theorem dX12_heatsBy_133 : decode cX12_heatsBy 133 = .ok (.if_icmp .le 8, 3) := by decide +kernel
theorem dX12_heatsBy_136 : decode cX12_heatsBy 136 = .ok (.bipush 20, 2) := by decide +kernel
theorem dX12_heatsBy_138 : decode cX12_heatsBy 138 = .ok (.goto 4, 3) := by decide +kernel
theorem dX12_heatsBy_141 : decode cX12_heatsBy 141 = .ok (.iload_n 2, 1) := by decide +kernel
theorem dX12_heatsBy_142 : decode cX12_heatsBy 142 = .ok (.ireturn, 1) := by decide +kernel
theorem dX12_heats_0 : decode cX12_heats 0 = .ok (.aload_n 0, 1) := by decide +kernel
theorem dX12_heats_1 : decode cX12_heats 1 = .ok (.iload_n 1, 1) := by decide +kernel
theorem dX12_heats_2 : decode cX12_heats 2 = .ok (.invokevirtual 173, 3) := by decide +kernel
theorem dX12_heats_5 : decode cX12_heats 5 = .ok (.ifCond .ne 7, 3) := by decide +kernel
theorem dX12_heats_8 : decode cX12_heats 8 = .ok (.ldc_w 272, 3) := by decide +kernel
theorem dX12_heats_11 : decode cX12_heats 11 = .ok (.ireturn, 1) := by decide +kernel
theorem dX12_heats_12 : decode cX12_heats 12 = .ok (.aload_n 0, 1) := by decide +kernel
theorem dX12_heats_13 : decode cX12_heats 13 = .ok (.invokevirtual 273, 3) := by decide +kernel
theorem dX12_heats_16 : decode cX12_heats 16 = .ok (.aload_n 0, 1) := by decide +kernel
theorem dX12_heats_17 : decode cX12_heats 17 = .ok (.iload_n 1, 1) := by decide +kernel
theorem dX12_heats_18 : decode cX12_heats 18 = .ok (.invokevirtual 276, 3) := by decide +kernel
theorem dX12_heats_21 : decode cX12_heats 21 = .ok (.ireturn, 1) := by decide +kernel
theorem dX12_isThereNow_0 : decode cX12_isThereNow 0 = .ok (.iload_n 1, 1) := by decide +kernel
theorem dX12_isThereNow_1 : decode cX12_isThereNow 1 = .ok (.iconst 5, 1) := by decide +kernel
theorem dX12_isThereNow_2 : decode cX12_isThereNow 2 = .ok (.irem, 1) := by decide +kernel
theorem dX12_isThereNow_3 : decode cX12_isThereNow 3 = .ok (.aload_n 0, 1) := by decide +kernel
theorem dX12_isThereNow_4 : decode cX12_isThereNow 4 = .ok (.getfield 77, 3) := by decide +kernel
theorem dX12_isThereNow_7 : decode cX12_isThereNow 7 = .ok (.iload_n 1, 1) := by decide +kernel
theorem dX12_isThereNow_8 : decode cX12_isThereNow 8 = .ok (.iconst 5, 1) := by decide +kernel
theorem dX12_isThereNow_9 : decode cX12_isThereNow 9 = .ok (.idiv, 1) := by decide +kernel
theorem dX12_isThereNow_10 : decode cX12_isThereNow 10 = .ok (.iaload, 1) := by decide +kernel
theorem dX12_isThereNow_11 : decode cX12_isThereNow 11 = .ok (.if_icmp .ge 7, 3) := by decide +kernel
theorem dX12_isThereNow_14 : decode cX12_isThereNow 14 = .ok (.iconst 1, 1) := by decide +kernel
theorem dX12_isThereNow_15 : decode cX12_isThereNow 15 = .ok (.goto 4, 3) := by decide +kernel
theorem dX12_isThereNow_18 : decode cX12_isThereNow 18 = .ok (.iconst 0, 1) := by decide +kernel
theorem dX12_isThereNow_19 : decode cX12_isThereNow 19 = .ok (.ireturn, 1) := by decide +kernel
theorem dX12_goDay_0 : decode cX12_goDay 0 = .ok (.iconst 0, 1) := by decide +kernel
theorem dX12_goDay_1 : decode cX12_goDay 1 = .ok (.istore_n 1, 1) := by decide +kernel
theorem dX12_goDay_2 : decode cX12_goDay 2 = .ok (.iload_n 1, 1) := by decide +kernel
theorem dX12_goDay_3 : decode cX12_goDay 3 = .ok (.bipush 30, 2) := by decide +kernel
theorem dX12_goDay_5 : decode cX12_goDay 5 = .ok (.if_icmp .ge 59, 3) := by decide +kernel
theorem dX12_goDay_8 : decode cX12_goDay 8 = .ok (.aload_n 0, 1) := by decide +kernel
theorem dX12_goDay_9 : decode cX12_goDay 9 = .ok (.iload_n 1, 1) := by decide +kernel
theorem dX12_goDay_10 : decode cX12_goDay 10 = .ok (.invokevirtual 279, 3) := by decide +kernel
theorem dX12_goDay_13 : decode cX12_goDay 13 = .ok (.ifCond .ne 6, 3) := by decide +kernel
theorem dX12_goDay_16 : decode cX12_goDay 16 = .ok (.goto 42, 3) := by decide +kernel
theorem dX12_goDay_19 : decode cX12_goDay 19 = .ok (.aload_n 0, 1) := by decide +kernel
theorem dX12_goDay_20 : decode cX12_goDay 20 = .ok (.getfield 83, 3) := by decide +kernel
theorem dX12_goDay_23 : decode cX12_goDay 23 = .ok (.iload_n 1, 1) := by decide +kernel
theorem dX12_goDay_24 : decode cX12_goDay 24 = .ok (.iaload, 1) := by decide +kernel
theorem dX12_goDay_25 : decode cX12_goDay 25 = .ok (.aload_n 0, 1) := by decide +kernel
theorem dX12_goDay_26 : decode cX12_goDay 26 = .ok (.iload_n 1, 1) := by decide +kernel
theorem dX12_goDay_27 : decode cX12_goDay 27 = .ok (.invokevirtual 276, 3) := by decide +kernel
theorem dX12_goDay_30 : decode cX12_goDay 30 = .ok (.iadd, 1) := by decide +kernel
theorem dX12_goDay_31 : decode cX12_goDay 31 = .ok (.istore_n 2, 1) := by decide +kernel
theorem dX12_goDay_32 : decode cX12_goDay 32 = .ok (.aload_n 0, 1) := by decide +kernel
theorem dX12_goDay_33 : decode cX12_goDay 33 = .ok (.getfield 95, 3) := by decide +kernel
theorem dX12_goDay_36 : decode cX12_goDay 36 = .ok (.iload_n 1, 1) := by decide +kernel
theorem dX12_goDay_37 : decode cX12_goDay 37 = .ok (.iload_n 2, 1) := by decide +kernel
theorem dX12_goDay_38 : decode cX12_goDay 38 = .ok (.ifCond .ge 7, 3) := by decide +kernel
theorem dX12_goDay_41 : decode cX12_goDay 41 = .ok (.iconst 0, 1) := by decide +kernel
theorem dX12_goDay_42 : decode cX12_goDay 42 = .ok (.goto 15, 3) := by decide +kernel
theorem dX12_goDay_45 : decode cX12_goDay 45 = .ok (.iload_n 2, 1) := by decide +kernel
theorem dX12_goDay_46 : decode cX12_goDay 46 = .ok (.bipush 99, 2) := by decide +kernel
theorem dX12_goDay_48 : decode cX12_goDay 48 = .ok (.if_icmp .le 8, 3) := by decide +kernel
theorem dX12_goDay_51 : decode cX12_goDay 51 = .ok (.bipush 99, 2) := by decide +kernel
theorem dX12_goDay_53 : decode cX12_goDay 53 = .ok (.goto 4, 3) := by decide +kernel
theorem dX12_goDay_56 : decode cX12_goDay 56 = .ok (.iload_n 2, 1) := by decide +kernel
theorem dX12_goDay_57 : decode cX12_goDay 57 = .ok (.iastore, 1) := by decide +kernel
theorem dX12_goDay_58 : decode cX12_goDay 58 = .ok (.iinc 1 1, 3) := by decide +kernel
theorem dX12_goDay_61 : decode cX12_goDay 61 = .ok (.goto (-59), 3) := by decide +kernel
theorem dX12_goDay_64 : decode cX12_goDay 64 = .ok (.iconst 0, 1) := by decide +kernel
theorem dX12_goDay_65 : decode cX12_goDay 65 = .ok (.istore_n 1, 1) := by decide +kernel
theorem dX12_goDay_66 : decode cX12_goDay 66 = .ok (.iload_n 1, 1) := by decide +kernel
theorem dX12_goDay_67 : decode cX12_goDay 67 = .ok (.bipush 30, 2) := by decide +kernel
theorem dX12_goDay_69 : decode cX12_goDay 69 = .ok (.if_icmp .ge 117, 3) := by decide +kernel
theorem dX12_goDay_72 : decode cX12_goDay 72 = .ok (.aload_n 0, 1) := by decide +kernel
theorem dX12_goDay_73 : decode cX12_goDay 73 = .ok (.iload_n 1, 1) := by decide +kernel
theorem dX12_goDay_74 : decode cX12_goDay 74 = .ok (.invokevirtual 279, 3) := by decide +kernel
theorem dX12_goDay_77 : decode cX12_goDay 77 = .ok (.ifCond .ne 6, 3) := by decide +kernel
theorem dX12_goDay_80 : decode cX12_goDay 80 = .ok (.goto 100, 3) := by decide +kernel
theorem dX12_goDay_83 : decode cX12_goDay 83 = .ok (.aload_n 0, 1) := by decide +kernel
theorem dX12_goDay_84 : decode cX12_goDay 84 = .ok (.getfield 83, 3) := by decide +kernel
theorem dX12_goDay_87 : decode cX12_goDay 87 = .ok (.iload_n 1, 1) := by decide +kernel
theorem dX12_goDay_88 : decode cX12_goDay 88 = .ok (.aload_n 0, 1) := by decide +kernel
theorem dX12_goDay_89 : decode cX12_goDay 89 = .ok (.getfield 95, 3) := by decide +kernel
theorem dX12_goDay_92 : decode cX12_goDay 92 = .ok (.iload_n 1, 1) := by decide +kernel
theorem dX12_goDay_93 : decode cX12_goDay 93 = .ok (.iaload, 1) := by decide +kernel
theorem dX12_goDay_94 : decode cX12_goDay 94 = .ok (.iastore, 1) := by decide +kernel
theorem dX12_goDay_95 : decode cX12_goDay 95 = .ok (.aload_n 0, 1) := by decide +kernel
theorem dX12_goDay_96 : decode cX12_goDay 96 = .ok (.getfield 83, 3) := by decide +kernel
theorem dX12_goDay_99 : decode cX12_goDay 99 = .ok (.iload_n 1, 1) := by decide +kernel
theorem dX12_goDay_100 : decode cX12_goDay 100 = .ok (.iaload, 1) := by decide +kernel
theorem dX12_goDay_101 : decode cX12_goDay 101 = .ok (.bipush 40, 2) := by decide +kernel
theorem dX12_goDay_103 : decode cX12_goDay 103 = .ok (.if_icmp .lt 47, 3) := by decide +kernel
theorem dX12_goDay_106 : decode cX12_goDay 106 = .ok (.aload_n 0, 1) := by decide +kernel
theorem dX12_goDay_107 : decode cX12_goDay 107 = .ok (.getfield 86, 3) := by decide +kernel
theorem dX12_goDay_110 : decode cX12_goDay 110 = .ok (.iload_n 1, 1) := by decide +kernel
theorem dX12_goDay_111 : decode cX12_goDay 111 = .ok (.aload_n 0, 1) := by decide +kernel
theorem dX12_goDay_112 : decode cX12_goDay 112 = .ok (.getfield 86, 3) := by decide +kernel
theorem dX12_goDay_115 : decode cX12_goDay 115 = .ok (.iload_n 1, 1) := by decide +kernel
theorem dX12_goDay_116 : decode cX12_goDay 116 = .ok (.iaload, 1) := by decide +kernel
theorem dX12_goDay_117 : decode cX12_goDay 117 = .ok (.aload_n 0, 1) := by decide +kernel
theorem dX12_goDay_118 : decode cX12_goDay 118 = .ok (.getfield 83, 3) := by decide +kernel
theorem dX12_goDay_121 : decode cX12_goDay 121 = .ok (.iload_n 1, 1) := by decide +kernel
theorem dX12_goDay_122 : decode cX12_goDay 122 = .ok (.iaload, 1) := by decide +kernel
theorem dX12_goDay_123 : decode cX12_goDay 123 = .ok (.bipush 20, 2) := by decide +kernel
theorem dX12_goDay_125 : decode cX12_goDay 125 = .ok (.idiv, 1) := by decide +kernel
theorem dX12_goDay_126 : decode cX12_goDay 126 = .ok (.if_icmp .le 22, 3) := by decide +kernel
theorem dX12_goDay_129 : decode cX12_goDay 129 = .ok (.aload_n 0, 1) := by decide +kernel
theorem dX12_goDay_130 : decode cX12_goDay 130 = .ok (.getfield 86, 3) := by decide +kernel
theorem dX12_goDay_133 : decode cX12_goDay 133 = .ok (.iload_n 1, 1) := by decide +kernel
theorem dX12_goDay_134 : decode cX12_goDay 134 = .ok (.iaload, 1) := by decide +kernel
theorem dX12_goDay_135 : decode cX12_goDay 135 = .ok (.aload_n 0, 1) := by decide +kernel
theorem dX12_goDay_136 : decode cX12_goDay 136 = .ok (.getfield 83, 3) := by decide +kernel
theorem dX12_goDay_139 : decode cX12_goDay 139 = .ok (.iload_n 1, 1) := by decide +kernel
theorem dX12_goDay_140 : decode cX12_goDay 140 = .ok (.iaload, 1) := by decide +kernel
theorem dX12_goDay_141 : decode cX12_goDay 141 = .ok (.bipush 20, 2) := by decide +kernel
theorem dX12_goDay_143 : decode cX12_goDay 143 = .ok (.idiv, 1) := by decide +kernel
theorem dX12_goDay_144 : decode cX12_goDay 144 = .ok (.isub, 1) := by decide +kernel
theorem dX12_goDay_145 : decode cX12_goDay 145 = .ok (.goto 4, 3) := by decide +kernel
theorem dX12_goDay_148 : decode cX12_goDay 148 = .ok (.iconst 0, 1) := by decide +kernel
theorem dX12_goDay_149 : decode cX12_goDay 149 = .ok (.iastore, 1) := by decide +kernel
theorem dX12_goDay_150 : decode cX12_goDay 150 = .ok (.aload_n 0, 1) := by decide +kernel
theorem dX12_goDay_151 : decode cX12_goDay 151 = .ok (.getfield 83, 3) := by decide +kernel
theorem dX12_goDay_154 : decode cX12_goDay 154 = .ok (.iload_n 1, 1) := by decide +kernel
theorem dX12_goDay_155 : decode cX12_goDay 155 = .ok (.iaload, 1) := by decide +kernel
theorem dX12_goDay_156 : decode cX12_goDay 156 = .ok (.bipush 50, 2) := by decide +kernel
theorem dX12_goDay_158 : decode cX12_goDay 158 = .ok (.if_icmp .lt 22, 3) := by decide +kernel
theorem dX12_goDay_161 : decode cX12_goDay 161 = .ok (.aload_n 0, 1) := by decide +kernel
theorem dX12_goDay_162 : decode cX12_goDay 162 = .ok (.getfield 80, 3) := by decide +kernel
theorem dX12_goDay_165 : decode cX12_goDay 165 = .ok (.iload_n 1, 1) := by decide +kernel
theorem dX12_goDay_166 : decode cX12_goDay 166 = .ok (.iaload, 1) := by decide +kernel
theorem dX12_goDay_167 : decode cX12_goDay 167 = .ok (.ifCond .le 13, 3) := by decide +kernel
theorem dX12_goDay_170 : decode cX12_goDay 170 = .ok (.aload_n 0, 1) := by decide +kernel
theorem dX12_goDay_171 : decode cX12_goDay 171 = .ok (.getfield 80, 3) := by decide +kernel
theorem dX12_goDay_174 : decode cX12_goDay 174 = .ok (.iload_n 1, 1) := by decide +kernel
theorem dX12_goDay_175 : decode cX12_goDay 175 = .ok (.dup2, 1) := by decide +kernel
theorem dX12_goDay_176 : decode cX12_goDay 176 = .ok (.iaload, 1) := by decide +kernel
theorem dX12_goDay_177 : decode cX12_goDay 177 = .ok (.iconst 1, 1) := by decide +kernel
theorem dX12_goDay_178 : decode cX12_goDay 178 = .ok (.isub, 1) := by decide +kernel
theorem dX12_goDay_179 : decode cX12_goDay 179 = .ok (.iastore, 1) := by decide +kernel
theorem dX12_goDay_180 : decode cX12_goDay 180 = .ok (.iinc 1 1, 3) := by decide +kernel
theorem dX12_goDay_183 : decode cX12_goDay 183 = .ok (.goto (-117), 3) := by decide +kernel
theorem dX12_goDay_186 : decode cX12_goDay 186 = .ok (.return_, 1) := by decide +kernel
theorem dX12_goDays_0 : decode cX12_goDays 0 = .ok (.iconst 0, 1) := by decide +kernel
theorem dX12_goDays_1 : decode cX12_goDays 1 = .ok (.istore_n 2, 1) := by decide +kernel
theorem dX12_goDays_2 : decode cX12_goDays 2 = .ok (.iload_n 2, 1) := by decide +kernel
theorem dX12_goDays_3 : decode cX12_goDays 3 = .ok (.iload_n 1, 1) := by decide +kernel
theorem dX12_goDays_4 : decode cX12_goDays 4 = .ok (.if_icmp .ge 13, 3) := by decide +kernel
theorem dX12_goDays_7 : decode cX12_goDays 7 = .ok (.aload_n 0, 1) := by decide +kernel
theorem dX12_goDays_8 : decode cX12_goDays 8 = .ok (.invokevirtual 282, 3) := by decide +kernel
theorem dX12_goDays_11 : decode cX12_goDays 11 = .ok (.iinc 2 1, 3) := by decide +kernel
theorem dX12_goDays_14 : decode cX12_goDays 14 = .ok (.goto (-12), 3) := by decide +kernel
theorem dX12_goDays_17 : decode cX12_goDays 17 = .ok (.return_, 1) := by decide +kernel
theorem dX12_hottest_0 : decode cX12_hottest 0 = .ok (.bipush (-2), 2) := by decide +kernel
theorem dX12_hottest_2 : decode cX12_hottest 2 = .ok (.istore_n 1, 1) := by decide +kernel
theorem dX12_hottest_3 : decode cX12_hottest 3 = .ok (.iconst 0, 1) := by decide +kernel
theorem dX12_hottest_4 : decode cX12_hottest 4 = .ok (.istore_n 2, 1) := by decide +kernel
theorem dX12_hottest_5 : decode cX12_hottest 5 = .ok (.iload_n 2, 1) := by decide +kernel
theorem dX12_hottest_6 : decode cX12_hottest 6 = .ok (.bipush 30, 2) := by decide +kernel
theorem dX12_hottest_8 : decode cX12_hottest 8 = .ok (.if_icmp .ge 38, 3) := by decide +kernel
theorem dX12_hottest_11 : decode cX12_hottest 11 = .ok (.aload_n 0, 1) := by decide +kernel
theorem dX12_hottest_12 : decode cX12_hottest 12 = .ok (.iload_n 2, 1) := by decide +kernel
theorem dX12_hottest_13 : decode cX12_hottest 13 = .ok (.invokevirtual 279, 3) := by decide +kernel
theorem dX12_hottest_16 : decode cX12_hottest 16 = .ok (.ifCond .eq 24, 3) := by decide +kernel
theorem dX12_hottest_19 : decode cX12_hottest 19 = .ok (.iload_n 1, 1) := by decide +kernel
theorem dX12_hottest_20 : decode cX12_hottest 20 = .ok (.ifCond .lt 18, 3) := by decide +kernel
theorem dX12_hottest_23 : decode cX12_hottest 23 = .ok (.aload_n 0, 1) := by decide +kernel
theorem dX12_hottest_24 : decode cX12_hottest 24 = .ok (.getfield 83, 3) := by decide +kernel
theorem dX12_hottest_27 : decode cX12_hottest 27 = .ok (.iload_n 2, 1) := by decide +kernel
theorem dX12_hottest_28 : decode cX12_hottest 28 = .ok (.iaload, 1) := by decide +kernel
theorem dX12_hottest_29 : decode cX12_hottest 29 = .ok (.aload_n 0, 1) := by decide +kernel
theorem dX12_hottest_30 : decode cX12_hottest 30 = .ok (.getfield 83, 3) := by decide +kernel
theorem dX12_hottest_33 : decode cX12_hottest 33 = .ok (.iload_n 1, 1) := by decide +kernel
theorem dX12_hottest_34 : decode cX12_hottest 34 = .ok (.iaload, 1) := by decide +kernel
theorem dX12_hottest_35 : decode cX12_hottest 35 = .ok (.if_icmp .le 5, 3) := by decide +kernel
theorem dX12_hottest_38 : decode cX12_hottest 38 = .ok (.iload_n 2, 1) := by decide +kernel
theorem dX12_hottest_39 : decode cX12_hottest 39 = .ok (.istore_n 1, 1) := by decide +kernel
theorem dX12_hottest_40 : decode cX12_hottest 40 = .ok (.iinc 2 1, 3) := by decide +kernel
theorem dX12_hottest_43 : decode cX12_hottest 43 = .ok (.goto (-38), 3) := by decide +kernel
theorem dX12_hottest_46 : decode cX12_hottest 46 = .ok (.iload_n 1, 1) := by decide +kernel
theorem dX12_hottest_47 : decode cX12_hottest 47 = .ok (.ireturn, 1) := by decide +kernel
theorem dX12_hottestHeat_0 : decode cX12_hottestHeat 0 = .ok (.aload_n 0, 1) := by decide +kernel
theorem dX12_hottestHeat_1 : decode cX12_hottestHeat 1 = .ok (.invokevirtual 285, 3) := by decide +kernel
theorem dX12_hottestHeat_4 : decode cX12_hottestHeat 4 = .ok (.ifCond .ge 8, 3) := by decide +kernel
theorem dX12_hottestHeat_7 : decode cX12_hottestHeat 7 = .ok (.bipush (-2), 2) := by decide +kernel
theorem dX12_hottestHeat_9 : decode cX12_hottestHeat 9 = .ok (.goto 12, 3) := by decide +kernel
theorem dX12_hottestHeat_12 : decode cX12_hottestHeat 12 = .ok (.aload_n 0, 1) := by decide +kernel
theorem dX12_hottestHeat_13 : decode cX12_hottestHeat 13 = .ok (.getfield 83, 3) := by decide +kernel
theorem dX12_hottestHeat_16 : decode cX12_hottestHeat 16 = .ok (.aload_n 0, 1) := by decide +kernel
theorem dX12_hottestHeat_17 : decode cX12_hottestHeat 17 = .ok (.invokevirtual 285, 3) := by decide +kernel
theorem dX12_hottestHeat_20 : decode cX12_hottestHeat 20 = .ok (.iaload, 1) := by decide +kernel
theorem dX12_hottestHeat_21 : decode cX12_hottestHeat 21 = .ok (.ireturn, 1) := by decide +kernel
theorem dX12_glowMany_0 : decode cX12_glowMany 0 = .ok (.iconst 0, 1) := by decide +kernel
theorem dX12_glowMany_1 : decode cX12_glowMany 1 = .ok (.istore_n 1, 1) := by decide +kernel
theorem dX12_glowMany_2 : decode cX12_glowMany 2 = .ok (.iconst 0, 1) := by decide +kernel
theorem dX12_glowMany_3 : decode cX12_glowMany 3 = .ok (.istore_n 2, 1) := by decide +kernel
theorem dX12_glowMany_4 : decode cX12_glowMany 4 = .ok (.iload_n 2, 1) := by decide +kernel
theorem dX12_glowMany_5 : decode cX12_glowMany 5 = .ok (.bipush 30, 2) := by decide +kernel
theorem dX12_glowMany_7 : decode cX12_glowMany 7 = .ok (.if_icmp .ge 35, 3) := by decide +kernel
theorem dX12_glowMany_10 : decode cX12_glowMany 10 = .ok (.aload_n 0, 1) := by decide +kernel
theorem dX12_glowMany_11 : decode cX12_glowMany 11 = .ok (.iload_n 2, 1) := by decide +kernel
theorem dX12_glowMany_12 : decode cX12_glowMany 12 = .ok (.invokevirtual 279, 3) := by decide +kernel
theorem dX12_glowMany_15 : decode cX12_glowMany 15 = .ok (.ifCond .eq 21, 3) := by decide +kernel
theorem dX12_glowMany_18 : decode cX12_glowMany 18 = .ok (.aload_n 0, 1) := by decide +kernel
theorem dX12_glowMany_19 : decode cX12_glowMany 19 = .ok (.getfield 83, 3) := by decide +kernel
theorem dX12_glowMany_22 : decode cX12_glowMany 22 = .ok (.iload_n 2, 1) := by decide +kernel
theorem dX12_glowMany_23 : decode cX12_glowMany 23 = .ok (.iaload, 1) := by decide +kernel
theorem dX12_glowMany_24 : decode cX12_glowMany 24 = .ok (.aload_n 0, 1) := by decide +kernel
theorem dX12_glowMany_25 : decode cX12_glowMany 25 = .ok (.getfield 33, 3) := by decide +kernel
theorem dX12_glowMany_28 : decode cX12_glowMany 28 = .ok (.iconst 0, 1) := by decide +kernel
theorem dX12_glowMany_29 : decode cX12_glowMany 29 = .ok (.iaload, 1) := by decide +kernel
theorem dX12_glowMany_30 : decode cX12_glowMany 30 = .ok (.if_icmp .lt 6, 3) := by decide +kernel
theorem dX12_glowMany_33 : decode cX12_glowMany 33 = .ok (.iinc 1 1, 3) := by decide +kernel
theorem dX12_glowMany_36 : decode cX12_glowMany 36 = .ok (.iinc 2 1, 3) := by decide +kernel
theorem dX12_glowMany_39 : decode cX12_glowMany 39 = .ok (.goto (-35), 3) := by decide +kernel
theorem dX12_glowMany_42 : decode cX12_glowMany 42 = .ok (.iload_n 1, 1) := by decide +kernel
theorem dX12_glowMany_43 : decode cX12_glowMany 43 = .ok (.ireturn, 1) := by decide +kernel
theorem dX12_allGood_0 : decode cX12_allGood 0 = .ok (.iconst 0, 1) := by decide +kernel
theorem dX12_allGood_1 : decode cX12_allGood 1 = .ok (.istore_n 1, 1) := by decide +kernel
theorem dX12_allGood_2 : decode cX12_allGood 2 = .ok (.iconst 0, 1) := by decide +kernel
theorem dX12_allGood_3 : decode cX12_allGood 3 = .ok (.istore_n 2, 1) := by decide +kernel
theorem dX12_allGood_4 : decode cX12_allGood 4 = .ok (.iload_n 2, 1) := by decide +kernel
theorem dX12_allGood_5 : decode cX12_allGood 5 = .ok (.bipush 30, 2) := by decide +kernel
theorem dX12_allGood_7 : decode cX12_allGood 7 = .ok (.if_icmp .ge 26, 3) := by decide +kernel
theorem dX12_allGood_10 : decode cX12_allGood 10 = .ok (.aload_n 0, 1) := by decide +kernel
theorem dX12_allGood_11 : decode cX12_allGood 11 = .ok (.iload_n 2, 1) := by decide +kernel
theorem dX12_allGood_12 : decode cX12_allGood 12 = .ok (.invokevirtual 279, 3) := by decide +kernel
theorem dX12_allGood_15 : decode cX12_allGood 15 = .ok (.ifCond .eq 12, 3) := by decide +kernel
theorem dX12_allGood_18 : decode cX12_allGood 18 = .ok (.iload_n 1, 1) := by decide +kernel
theorem dX12_allGood_19 : decode cX12_allGood 19 = .ok (.aload_n 0, 1) := by decide +kernel
theorem dX12_allGood_20 : decode cX12_allGood 20 = .ok (.getfield 86, 3) := by decide +kernel
theorem dX12_allGood_23 : decode cX12_allGood 23 = .ok (.iload_n 2, 1) := by decide +kernel
theorem dX12_allGood_24 : decode cX12_allGood 24 = .ok (.iaload, 1) := by decide +kernel
theorem dX12_allGood_25 : decode cX12_allGood 25 = .ok (.iadd, 1) := by decide +kernel
theorem dX12_allGood_26 : decode cX12_allGood 26 = .ok (.istore_n 1, 1) := by decide +kernel
theorem dX12_allGood_27 : decode cX12_allGood 27 = .ok (.iinc 2 1, 3) := by decide +kernel
theorem dX12_allGood_30 : decode cX12_allGood 30 = .ok (.goto (-26), 3) := by decide +kernel
theorem dX12_allGood_33 : decode cX12_allGood 33 = .ok (.iload_n 1, 1) := by decide +kernel
theorem dX12_allGood_34 : decode cX12_allGood 34 = .ok (.ireturn, 1) := by decide +kernel
theorem dX12_areDays_0 : decode cX12_areDays 0 = .ok (.iload_n 0, 1) := by decide +kernel
theorem dX12_areDays_1 : decode cX12_areDays 1 = .ok (.iconst 0, 1) := by decide +kernel
theorem dX12_areDays_2 : decode cX12_areDays 2 = .ok (.bipush 40, 2) := by decide +kernel
theorem dX12_areDays_4 : decode cX12_areDays 4 = .ok (.invokestatic 142, 3) := by decide +kernel
theorem dX12_areDays_7 : decode cX12_areDays 7 = .ok (.ireturn, 1) := by decide +kernel
theorem dX12_later_0 : decode cX12_later 0 = .ok (.iload_n 1, 1) := by decide +kernel
theorem dX12_later_1 : decode cX12_later 1 = .ok (.invokestatic 288, 3) := by decide +kernel
theorem dX12_later_4 : decode cX12_later 4 = .ok (.ifCond .eq 20, 3) := by decide +kernel
theorem dX12_later_7 : decode cX12_later 7 = .ok (.aload_n 0, 1) := by decide +kernel
theorem dX12_later_8 : decode cX12_later 8 = .ok (.iload_n 2, 1) := by decide +kernel
theorem dX12_later_9 : decode cX12_later 9 = .ok (.invokevirtual 173, 3) := by decide +kernel
theorem dX12_later_12 : decode cX12_later 12 = .ok (.ifCond .eq 12, 3) := by decide +kernel
theorem dX12_later_15 : decode cX12_later 15 = .ok (.iload_n 3, 1) := by decide +kernel
theorem dX12_later_16 : decode cX12_later 16 = .ok (.iconst 0, 1) := by decide +kernel
theorem dX12_later_17 : decode cX12_later 17 = .ok (.iconst 2, 1) := by decide +kernel
theorem dX12_later_18 : decode cX12_later 18 = .ok (.invokestatic 142, 3) := by decide +kernel
theorem dX12_later_21 : decode cX12_later 21 = .ok (.ifCond .ne 5, 3) := by decide +kernel
theorem dX12_later_24 : decode cX12_later 24 = .ok (.iconst (-1), 1) := by decide +kernel
theorem dX12_later_25 : decode cX12_later 25 = .ok (.ireturn, 1) := by decide +kernel
theorem dX12_later_26 : decode cX12_later 26 = .ok (.aload_n 0, 1) := by decide +kernel
theorem dX12_later_27 : decode cX12_later 27 = .ok (.invokevirtual 273, 3) := by decide +kernel
theorem dX12_later_30 : decode cX12_later 30 = .ok (.aload_n 0, 1) := by decide +kernel
theorem dX12_later_31 : decode cX12_later 31 = .ok (.iload_n 1, 1) := by decide +kernel
theorem dX12_later_32 : decode cX12_later 32 = .ok (.invokevirtual 291, 3) := by decide +kernel
theorem dX12_later_35 : decode cX12_later 35 = .ok (.iload_n 3, 1) := by decide +kernel
theorem dX12_later_36 : decode cX12_later 36 = .ok (.ifCond .ne 12, 3) := by decide +kernel
theorem dX12_later_39 : decode cX12_later 39 = .ok (.aload_n 0, 1) := by decide +kernel
theorem dX12_later_40 : decode cX12_later 40 = .ok (.getfield 83, 3) := by decide +kernel
theorem dX12_later_43 : decode cX12_later 43 = .ok (.iload_n 2, 1) := by decide +kernel
theorem dX12_later_44 : decode cX12_later 44 = .ok (.iaload, 1) := by decide +kernel
theorem dX12_later_45 : decode cX12_later 45 = .ok (.goto 23, 3) := by decide +kernel
theorem dX12_later_48 : decode cX12_later 48 = .ok (.iload_n 3, 1) := by decide +kernel
theorem dX12_later_49 : decode cX12_later 49 = .ok (.iconst 1, 1) := by decide +kernel
theorem dX12_later_50 : decode cX12_later 50 = .ok (.if_icmp .ne 12, 3) := by decide +kernel
theorem dX12_later_53 : decode cX12_later 53 = .ok (.aload_n 0, 1) := by decide +kernel
theorem dX12_later_54 : decode cX12_later 54 = .ok (.getfield 80, 3) := by decide +kernel
theorem dX12_later_57 : decode cX12_later 57 = .ok (.iload_n 2, 1) := by decide +kernel
theorem dX12_later_58 : decode cX12_later 58 = .ok (.iaload, 1) := by decide +kernel
theorem dX12_later_59 : decode cX12_later 59 = .ok (.goto 9, 3) := by decide +kernel
theorem dX12_later_62 : decode cX12_later 62 = .ok (.aload_n 0, 1) := by decide +kernel
theorem dX12_later_63 : decode cX12_later 63 = .ok (.getfield 86, 3) := by decide +kernel
theorem dX12_later_66 : decode cX12_later 66 = .ok (.iload_n 2, 1) := by decide +kernel
theorem dX12_later_67 : decode cX12_later 67 = .ok (.iaload, 1) := by decide +kernel
theorem dX12_later_68 : decode cX12_later 68 = .ok (.ireturn, 1) := by decide +kernel
theorem dX12_stack_0 : decode cX12_stack 0 = .ok (.iload_n 1, 1) := by decide +kernel
theorem dX12_stack_1 : decode cX12_stack 1 = .ok (.invokestatic 288, 3) := by decide +kernel
theorem dX12_stack_4 : decode cX12_stack 4 = .ok (.ifCond .eq 12, 3) := by decide +kernel
theorem dX12_stack_7 : decode cX12_stack 7 = .ok (.iload_n 2, 1) := by decide +kernel
theorem dX12_stack_8 : decode cX12_stack 8 = .ok (.iconst 0, 1) := by decide +kernel
theorem dX12_stack_9 : decode cX12_stack 9 = .ok (.iconst 3, 1) := by decide +kernel
theorem dX12_stack_10 : decode cX12_stack 10 = .ok (.invokestatic 142, 3) := by decide +kernel
theorem dX12_stack_13 : decode cX12_stack 13 = .ok (.ifCond .ne 5, 3) := by decide +kernel
theorem dX12_stack_16 : decode cX12_stack 16 = .ok (.iconst (-1), 1) := by decide +kernel
theorem dX12_stack_17 : decode cX12_stack 17 = .ok (.ireturn, 1) := by decide +kernel
theorem dX12_stack_18 : decode cX12_stack 18 = .ok (.aload_n 0, 1) := by decide +kernel
theorem dX12_stack_19 : decode cX12_stack 19 = .ok (.invokevirtual 273, 3) := by decide +kernel
theorem dX12_stack_22 : decode cX12_stack 22 = .ok (.aload_n 0, 1) := by decide +kernel
theorem dX12_stack_23 : decode cX12_stack 23 = .ok (.iload_n 1, 1) := by decide +kernel
theorem dX12_stack_24 : decode cX12_stack 24 = .ok (.invokevirtual 291, 3) := by decide +kernel
theorem dX12_stack_27 : decode cX12_stack 27 = .ok (.iload_n 2, 1) := by decide +kernel
theorem dX12_stack_28 : decode cX12_stack 28 = .ok (.tableswitch 43 0 2 #[28, 33, 38], 28) := by decide +kernel
theorem dX12_stack_56 : decode cX12_stack 56 = .ok (.aload_n 0, 1) := by decide +kernel
theorem dX12_stack_57 : decode cX12_stack 57 = .ok (.invokevirtual 285, 3) := by decide +kernel
theorem dX12_stack_60 : decode cX12_stack 60 = .ok (.ireturn, 1) := by decide +kernel
theorem dX12_stack_61 : decode cX12_stack 61 = .ok (.aload_n 0, 1) := by decide +kernel
theorem dX12_stack_62 : decode cX12_stack 62 = .ok (.invokevirtual 295, 3) := by decide +kernel
theorem dX12_stack_65 : decode cX12_stack 65 = .ok (.ireturn, 1) := by decide +kernel
theorem dX12_stack_66 : decode cX12_stack 66 = .ok (.aload_n 0, 1) := by decide +kernel
theorem dX12_stack_67 : decode cX12_stack 67 = .ok (.invokevirtual 298, 3) := by decide +kernel
theorem dX12_stack_70 : decode cX12_stack 70 = .ok (.ireturn, 1) := by decide +kernel
theorem dX12_stack_71 : decode cX12_stack 71 = .ok (.aload_n 0, 1) := by decide +kernel
theorem dX12_stack_72 : decode cX12_stack 72 = .ok (.invokevirtual 301, 3) := by decide +kernel
theorem dX12_stack_75 : decode cX12_stack 75 = .ok (.ireturn, 1) := by decide +kernel
theorem dX12_first_0 : decode cX12_first 0 = .ok (.iload_n 1, 1) := by decide +kernel
theorem dX12_first_1 : decode cX12_first 1 = .ok (.iconst (-1), 1) := by decide +kernel
theorem dX12_first_2 : decode cX12_first 2 = .ok (.if_icmp .eq 11, 3) := by decide +kernel
theorem dX12_first_5 : decode cX12_first 5 = .ok (.aload_n 0, 1) := by decide +kernel
theorem dX12_first_6 : decode cX12_first 6 = .ok (.iload_n 1, 1) := by decide +kernel
theorem dX12_first_7 : decode cX12_first 7 = .ok (.invokevirtual 173, 3) := by decide +kernel
theorem dX12_first_10 : decode cX12_first 10 = .ok (.ifCond .eq 13, 3) := by decide +kernel
theorem dX12_first_13 : decode cX12_first 13 = .ok (.iload_n 2, 1) := by decide +kernel
theorem dX12_first_14 : decode cX12_first 14 = .ok (.iconst 0, 1) := by decide +kernel
theorem dX12_first_15 : decode cX12_first 15 = .ok (.bipush 99, 2) := by decide +kernel
theorem dX12_first_17 : decode cX12_first 17 = .ok (.invokestatic 142, 3) := by decide +kernel
theorem dX12_first_20 : decode cX12_first 20 = .ok (.ifCond .ne 5, 3) := by decide +kernel
theorem dX12_first_23 : decode cX12_first 23 = .ok (.iconst (-1), 1) := by decide +kernel
theorem dX12_first_24 : decode cX12_first 24 = .ok (.ireturn, 1) := by decide +kernel
theorem dX12_first_25 : decode cX12_first 25 = .ok (.aload_n 0, 1) := by decide +kernel
theorem dX12_first_26 : decode cX12_first 26 = .ok (.invokevirtual 273, 3) := by decide +kernel
theorem dX12_first_29 : decode cX12_first 29 = .ok (.iconst 0, 1) := by decide +kernel
theorem dX12_first_30 : decode cX12_first 30 = .ok (.istore_n 3, 1) := by decide +kernel
theorem dX12_first_31 : decode cX12_first 31 = .ok (.iload_n 3, 1) := by decide +kernel
theorem dX12_first_32 : decode cX12_first 32 = .ok (.bipush 40, 2) := by decide +kernel
theorem dX12_first_34 : decode cX12_first 34 = .ok (.if_icmp .gt 36, 3) := by decide +kernel
theorem dX12_first_37 : decode cX12_first 37 = .ok (.iload_n 1, 1) := by decide +kernel
theorem dX12_first_38 : decode cX12_first 38 = .ok (.ifCond .ge 10, 3) := by decide +kernel
theorem dX12_first_41 : decode cX12_first 41 = .ok (.aload_n 0, 1) := by decide +kernel
theorem dX12_first_42 : decode cX12_first 42 = .ok (.invokevirtual 295, 3) := by decide +kernel
theorem dX12_first_45 : decode cX12_first 45 = .ok (.goto 9, 3) := by decide +kernel
theorem dX12_first_48 : decode cX12_first 48 = .ok (.aload_n 0, 1) := by decide +kernel
theorem dX12_first_49 : decode cX12_first 49 = .ok (.getfield 83, 3) := by decide +kernel
theorem dX12_first_52 : decode cX12_first 52 = .ok (.iload_n 1, 1) := by decide +kernel
theorem dX12_first_53 : decode cX12_first 53 = .ok (.iaload, 1) := by decide +kernel
theorem dX12_first_54 : decode cX12_first 54 = .ok (.iload_n 2, 1) := by decide +kernel
theorem dX12_first_55 : decode cX12_first 55 = .ok (.if_icmp .lt 5, 3) := by decide +kernel
theorem dX12_first_58 : decode cX12_first 58 = .ok (.iload_n 3, 1) := by decide +kernel
theorem dX12_first_59 : decode cX12_first 59 = .ok (.ireturn, 1) := by decide +kernel
theorem dX12_first_60 : decode cX12_first 60 = .ok (.aload_n 0, 1) := by decide +kernel
theorem dX12_first_61 : decode cX12_first 61 = .ok (.invokevirtual 282, 3) := by decide +kernel
theorem dX12_first_64 : decode cX12_first 64 = .ok (.iinc 3 1, 3) := by decide +kernel
theorem dX12_first_67 : decode cX12_first 67 = .ok (.goto (-36), 3) := by decide +kernel
theorem dX12_first_70 : decode cX12_first 70 = .ok (.bipush (-2), 2) := by decide +kernel
theorem dX12_first_72 : decode cX12_first 72 = .ok (.ireturn, 1) := by decide +kernel
theorem dX12_reachOf_0 : decode cX12_reachOf 0 = .ok (.lconst 1, 1) := by decide +kernel
theorem dX12_reachOf_1 : decode cX12_reachOf 1 = .ok (.iload_n 1, 1) := by decide +kernel
theorem dX12_reachOf_2 : decode cX12_reachOf 2 = .ok (.lshl, 1) := by decide +kernel
theorem dX12_reachOf_3 : decode cX12_reachOf 3 = .ok (.lstore_n 2, 1) := by decide +kernel
theorem dX12_reachOf_4 : decode cX12_reachOf 4 = .ok (.iconst 0, 1) := by decide +kernel
theorem dX12_reachOf_5 : decode cX12_reachOf 5 = .ok (.istore 4, 2) := by decide +kernel
theorem dX12_reachOf_7 : decode cX12_reachOf 7 = .ok (.iload 4, 2) := by decide +kernel
theorem dX12_reachOf_9 : decode cX12_reachOf 9 = .ok (.iconst 4, 1) := by decide +kernel
theorem dX12_reachOf_10 : decode cX12_reachOf 10 = .ok (.if_icmp .ge 31, 3) := by decide +kernel
theorem dX12_reachOf_13 : decode cX12_reachOf 13 = .ok (.aload_n 0, 1) := by decide +kernel
theorem dX12_reachOf_14 : decode cX12_reachOf 14 = .ok (.iload_n 1, 1) := by decide +kernel
theorem dX12_reachOf_15 : decode cX12_reachOf 15 = .ok (.iload 4, 2) := by decide +kernel
theorem dX12_reachOf_17 : decode cX12_reachOf 17 = .ok (.invokevirtual 260, 3) := by decide +kernel
theorem dX12_reachOf_20 : decode cX12_reachOf 20 = .ok (.ifCond .lt 15, 3) := by decide +kernel
theorem dX12_reachOf_23 : decode cX12_reachOf 23 = .ok (.lload_n 2, 1) := by decide +kernel
theorem dX12_reachOf_24 : decode cX12_reachOf 24 = .ok (.lconst 1, 1) := by decide +kernel
theorem dX12_reachOf_25 : decode cX12_reachOf 25 = .ok (.aload_n 0, 1) := by decide +kernel
theorem dX12_reachOf_26 : decode cX12_reachOf 26 = .ok (.iload_n 1, 1) := by decide +kernel
theorem dX12_reachOf_27 : decode cX12_reachOf 27 = .ok (.iload 4, 2) := by decide +kernel
theorem dX12_reachOf_29 : decode cX12_reachOf 29 = .ok (.invokevirtual 260, 3) := by decide +kernel
theorem dX12_reachOf_32 : decode cX12_reachOf 32 = .ok (.lshl, 1) := by decide +kernel
theorem dX12_reachOf_33 : decode cX12_reachOf 33 = .ok (.lor, 1) := by decide +kernel
theorem dX12_reachOf_34 : decode cX12_reachOf 34 = .ok (.lstore_n 2, 1) := by decide +kernel
theorem dX12_reachOf_35 : decode cX12_reachOf 35 = .ok (.iinc 4 1, 3) := by decide +kernel
theorem dX12_reachOf_38 : decode cX12_reachOf 38 = .ok (.goto (-31), 3) := by decide +kernel
theorem dX12_reachOf_41 : decode cX12_reachOf 41 = .ok (.lload_n 2, 1) := by decide +kernel
theorem dX12_reachOf_42 : decode cX12_reachOf 42 = .ok (.lreturn, 1) := by decide +kernel
theorem dX12_goRods_0 : decode cX12_goRods 0 = .ok (.aload_n 0, 1) := by decide +kernel
theorem dX12_goRods_1 : decode cX12_goRods 1 = .ok (.getfield 304, 3) := by decide +kernel
theorem dX12_goRods_4 : decode cX12_goRods 4 = .ok (.lload 5, 2) := by decide +kernel
theorem dX12_goRods_6 : decode cX12_goRods 6 = .ok (.ldc2_w 308, 3) := by decide +kernel
theorem dX12_goRods_9 : decode cX12_goRods 9 = .ok (.lxor, 1) := by decide +kernel
theorem dX12_goRods_10 : decode cX12_goRods 10 = .ok (.land, 1) := by decide +kernel
theorem dX12_goRods_11 : decode cX12_goRods 11 = .ok (.lconst 0, 1) := by decide +kernel
theorem dX12_goRods_12 : decode cX12_goRods 12 = .ok (.lcmp, 1) := by decide +kernel
theorem dX12_goRods_13 : decode cX12_goRods 13 = .ok (.ifCond .ne 31, 3) := by decide +kernel
theorem dX12_goRods_16 : decode cX12_goRods 16 = .ok (.iload_n 1, 1) := by decide +kernel
theorem dX12_goRods_17 : decode cX12_goRods 17 = .ok (.ifCond .ne 27, 3) := by decide +kernel
theorem dX12_goRods_20 : decode cX12_goRods 20 = .ok (.aload_n 0, 1) := by decide +kernel
theorem dX12_goRods_21 : decode cX12_goRods 21 = .ok (.getfield 310, 3) := by decide +kernel
theorem dX12_goRods_24 : decode cX12_goRods 24 = .ok (.lconst 0, 1) := by decide +kernel
theorem dX12_goRods_25 : decode cX12_goRods 25 = .ok (.lcmp, 1) := by decide +kernel
theorem dX12_goRods_26 : decode cX12_goRods 26 = .ok (.ifCond .lt 12, 3) := by decide +kernel
theorem dX12_goRods_29 : decode cX12_goRods 29 = .ok (.lload_n 3, 1) := by decide +kernel
theorem dX12_goRods_30 : decode cX12_goRods 30 = .ok (.aload_n 0, 1) := by decide +kernel
theorem dX12_goRods_31 : decode cX12_goRods 31 = .ok (.getfield 310, 3) := by decide +kernel
theorem dX12_goRods_34 : decode cX12_goRods 34 = .ok (.lcmp, 1) := by decide +kernel
theorem dX12_goRods_35 : decode cX12_goRods 35 = .ok (.ifCond .ge 8, 3) := by decide +kernel
theorem dX12_goRods_38 : decode cX12_goRods 38 = .ok (.aload_n 0, 1) := by decide +kernel
theorem dX12_goRods_39 : decode cX12_goRods 39 = .ok (.lload_n 3, 1) := by decide +kernel
theorem dX12_goRods_40 : decode cX12_goRods 40 = .ok (.putfield 310, 3) := by decide +kernel
theorem dX12_goRods_43 : decode cX12_goRods 43 = .ok (.return_, 1) := by decide +kernel
theorem dX12_goRods_44 : decode cX12_goRods 44 = .ok (.iload_n 1, 1) := by decide +kernel
theorem dX12_goRods_45 : decode cX12_goRods 45 = .ok (.ifCond .ne 4, 3) := by decide +kernel
theorem dX12_goRods_48 : decode cX12_goRods 48 = .ok (.return_, 1) := by decide +kernel
theorem dX12_goRods_49 : decode cX12_goRods 49 = .ok (.iload_n 2, 1) := by decide +kernel
theorem dX12_goRods_50 : decode cX12_goRods 50 = .ok (.istore 7, 2) := by decide +kernel
theorem dX12_goRods_52 : decode cX12_goRods 52 = .ok (.iload 7, 2) := by decide +kernel
theorem dX12_goRods_54 : decode cX12_goRods 54 = .ok (.bipush 30, 2) := by decide +kernel
theorem dX12_goRods_56 : decode cX12_goRods 56 = .ok (.if_icmp .ge 44, 3) := by decide +kernel
theorem dX12_goRods_59 : decode cX12_goRods 59 = .ok (.aload_n 0, 1) := by decide +kernel
theorem dX12_goRods_60 : decode cX12_goRods 60 = .ok (.iload 7, 2) := by decide +kernel
theorem dX12_goRods_62 : decode cX12_goRods 62 = .ok (.invokevirtual 279, 3) := by decide +kernel
theorem dX12_goRods_65 : decode cX12_goRods 65 = .ok (.ifCond .eq 29, 3) := by decide +kernel
theorem dX12_goRods_68 : decode cX12_goRods 68 = .ok (.aload_n 0, 1) := by decide +kernel
theorem dX12_goRods_69 : decode cX12_goRods 69 = .ok (.iload_n 1, 1) := by decide +kernel
theorem dX12_goRods_70 : decode cX12_goRods 70 = .ok (.iconst 1, 1) := by decide +kernel
theorem dX12_goRods_71 : decode cX12_goRods 71 = .ok (.isub, 1) := by decide +kernel
theorem dX12_goRods_72 : decode cX12_goRods 72 = .ok (.iload 7, 2) := by decide +kernel
theorem dX12_goRods_74 : decode cX12_goRods 74 = .ok (.iconst 1, 1) := by decide +kernel
theorem dX12_goRods_75 : decode cX12_goRods 75 = .ok (.iadd, 1) := by decide +kernel
theorem dX12_goRods_76 : decode cX12_goRods 76 = .ok (.lload_n 3, 1) := by decide +kernel
theorem dX12_goRods_77 : decode cX12_goRods 77 = .ok (.lconst 1, 1) := by decide +kernel
theorem dX12_goRods_78 : decode cX12_goRods 78 = .ok (.iload 7, 2) := by decide +kernel
theorem dX12_goRods_80 : decode cX12_goRods 80 = .ok (.lshl, 1) := by decide +kernel
theorem dX12_goRods_81 : decode cX12_goRods 81 = .ok (.lor, 1) := by decide +kernel
theorem dX12_goRods_82 : decode cX12_goRods 82 = .ok (.lload 5, 2) := by decide +kernel
theorem dX12_goRods_84 : decode cX12_goRods 84 = .ok (.aload_n 0, 1) := by decide +kernel
theorem dX12_goRods_85 : decode cX12_goRods 85 = .ok (.iload 7, 2) := by decide +kernel
theorem dX12_goRods_87 : decode cX12_goRods 87 = .ok (.invokevirtual 313, 3) := by decide +kernel
theorem dX12_goRods_90 : decode cX12_goRods 90 = .ok (.lor, 1) := by decide +kernel
theorem dX12_goRods_91 : decode cX12_goRods 91 = .ok (.invokevirtual 317, 3) := by decide +kernel
theorem dX12_goRods_94 : decode cX12_goRods 94 = .ok (.iinc 7 1, 3) := by decide +kernel
theorem dX12_goRods_97 : decode cX12_goRods 97 = .ok (.goto (-45), 3) := by decide +kernel
theorem dX12_goRods_100 : decode cX12_goRods 100 = .ok (.return_, 1) := by decide +kernel
theorem dX12_findRods_0 : decode cX12_findRods 0 = .ok (.aload_n 0, 1) := by decide +kernel
theorem dX12_findRods_1 : decode cX12_findRods 1 = .ok (.invokevirtual 273, 3) := by decide +kernel
theorem dX12_findRods_4 : decode cX12_findRods 4 = .ok (.aload_n 0, 1) := by decide +kernel
theorem dX12_findRods_5 : decode cX12_findRods 5 = .ok (.lconst 0, 1) := by decide +kernel
theorem dX12_findRods_6 : decode cX12_findRods 6 = .ok (.putfield 304, 3) := by decide +kernel
theorem dX12_findRods_9 : decode cX12_findRods 9 = .ok (.iconst 0, 1) := by decide +kernel
theorem dX12_findRods_10 : decode cX12_findRods 10 = .ok (.istore_n 2, 1) := by decide +kernel
theorem dX12_findRods_11 : decode cX12_findRods 11 = .ok (.iload_n 2, 1) := by decide +kernel
theorem dX12_findRods_12 : decode cX12_findRods 12 = .ok (.bipush 30, 2) := by decide +kernel
theorem dX12_findRods_14 : decode cX12_findRods 14 = .ok (.if_icmp .ge 39, 3) := by decide +kernel
theorem dX12_findRods_17 : decode cX12_findRods 17 = .ok (.aload_n 0, 1) := by decide +kernel
theorem dX12_findRods_18 : decode cX12_findRods 18 = .ok (.iload_n 2, 1) := by decide +kernel
theorem dX12_findRods_19 : decode cX12_findRods 19 = .ok (.invokevirtual 279, 3) := by decide +kernel
theorem dX12_findRods_22 : decode cX12_findRods 22 = .ok (.ifCond .eq 25, 3) := by decide +kernel
theorem dX12_findRods_25 : decode cX12_findRods 25 = .ok (.aload_n 0, 1) := by decide +kernel
theorem dX12_findRods_26 : decode cX12_findRods 26 = .ok (.getfield 83, 3) := by decide +kernel
theorem dX12_findRods_29 : decode cX12_findRods 29 = .ok (.iload_n 2, 1) := by decide +kernel
theorem dX12_findRods_30 : decode cX12_findRods 30 = .ok (.iaload, 1) := by decide +kernel
theorem dX12_findRods_31 : decode cX12_findRods 31 = .ok (.iload_n 1, 1) := by decide +kernel
theorem dX12_findRods_32 : decode cX12_findRods 32 = .ok (.if_icmp .lt 15, 3) := by decide +kernel
theorem dX12_findRods_35 : decode cX12_findRods 35 = .ok (.aload_n 0, 1) := by decide +kernel
theorem dX12_findRods_36 : decode cX12_findRods 36 = .ok (.dup, 1) := by decide +kernel
theorem dX12_findRods_37 : decode cX12_findRods 37 = .ok (.getfield 304, 3) := by decide +kernel
theorem dX12_findRods_40 : decode cX12_findRods 40 = .ok (.lconst 1, 1) := by decide +kernel
theorem dX12_findRods_41 : decode cX12_findRods 41 = .ok (.iload_n 2, 1) := by decide +kernel
theorem dX12_findRods_42 : decode cX12_findRods 42 = .ok (.lshl, 1) := by decide +kernel
theorem dX12_findRods_43 : decode cX12_findRods 43 = .ok (.lor, 1) := by decide +kernel
theorem dX12_findRods_44 : decode cX12_findRods 44 = .ok (.putfield 304, 3) := by decide +kernel
theorem dX12_findRods_47 : decode cX12_findRods 47 = .ok (.iinc 2 1, 3) := by decide +kernel
theorem dX12_findRods_50 : decode cX12_findRods 50 = .ok (.goto (-39), 3) := by decide +kernel
theorem dX12_findRods_53 : decode cX12_findRods 53 = .ok (.aload_n 0, 1) := by decide +kernel
theorem dX12_findRods_54 : decode cX12_findRods 54 = .ok (.ldc2_w 308, 3) := by decide +kernel
theorem dX12_findRods_57 : decode cX12_findRods 57 = .ok (.putfield 310, 3) := by decide +kernel
theorem dX12_findRods_60 : decode cX12_findRods 60 = .ok (.iconst 0, 1) := by decide +kernel
theorem dX12_findRods_61 : decode cX12_findRods 61 = .ok (.istore_n 2, 1) := by decide +kernel
theorem dX12_findRods_62 : decode cX12_findRods 62 = .ok (.iload_n 2, 1) := by decide +kernel
theorem dX12_findRods_63 : decode cX12_findRods 63 = .ok (.iconst 4, 1) := by decide +kernel
theorem dX12_findRods_64 : decode cX12_findRods 64 = .ok (.if_icmp .gt 28, 3) := by decide +kernel
theorem dX12_findRods_67 : decode cX12_findRods 67 = .ok (.aload_n 0, 1) := by decide +kernel
theorem dX12_findRods_68 : decode cX12_findRods 68 = .ok (.iload_n 2, 1) := by decide +kernel
theorem dX12_findRods_69 : decode cX12_findRods 69 = .ok (.iconst 0, 1) := by decide +kernel
theorem dX12_findRods_70 : decode cX12_findRods 70 = .ok (.lconst 0, 1) := by decide +kernel
theorem dX12_findRods_71 : decode cX12_findRods 71 = .ok (.lconst 0, 1) := by decide +kernel
theorem dX12_findRods_72 : decode cX12_findRods 72 = .ok (.invokevirtual 317, 3) := by decide +kernel
theorem dX12_findRods_75 : decode cX12_findRods 75 = .ok (.aload_n 0, 1) := by decide +kernel
theorem dX12_findRods_76 : decode cX12_findRods 76 = .ok (.getfield 310, 3) := by decide +kernel
theorem dX12_findRods_79 : decode cX12_findRods 79 = .ok (.lconst 0, 1) := by decide +kernel
theorem dX12_findRods_80 : decode cX12_findRods 80 = .ok (.lcmp, 1) := by decide +kernel
theorem dX12_findRods_81 : decode cX12_findRods 81 = .ok (.ifCond .lt 5, 3) := by decide +kernel
theorem dX12_findRods_84 : decode cX12_findRods 84 = .ok (.iload_n 2, 1) := by decide +kernel
theorem dX12_findRods_85 : decode cX12_findRods 85 = .ok (.ireturn, 1) := by decide +kernel
theorem dX12_findRods_86 : decode cX12_findRods 86 = .ok (.iinc 2 1, 3) := by decide +kernel
theorem dX12_findRods_89 : decode cX12_findRods 89 = .ok (.goto (-27), 3) := by decide +kernel
theorem dX12_findRods_92 : decode cX12_findRods 92 = .ok (.bipush (-2), 2) := by decide +kernel
theorem dX12_findRods_94 : decode cX12_findRods 94 = .ok (.ireturn, 1) := by decide +kernel
theorem dX12_rods_0 : decode cX12_rods 0 = .ok (.iload_n 1, 1) := by decide +kernel
theorem dX12_rods_1 : decode cX12_rods 1 = .ok (.iconst 0, 1) := by decide +kernel
theorem dX12_rods_2 : decode cX12_rods 2 = .ok (.bipush 99, 2) := by decide +kernel
theorem dX12_rods_4 : decode cX12_rods 4 = .ok (.invokestatic 142, 3) := by decide +kernel
theorem dX12_rods_7 : decode cX12_rods 7 = .ok (.ifCond .eq 11, 3) := by decide +kernel
theorem dX12_rods_10 : decode cX12_rods 10 = .ok (.aload_n 0, 1) := by decide +kernel
theorem dX12_rods_11 : decode cX12_rods 11 = .ok (.iload_n 1, 1) := by decide +kernel
theorem dX12_rods_12 : decode cX12_rods 12 = .ok (.invokevirtual 321, 3) := by decide +kernel
theorem dX12_rods_15 : decode cX12_rods 15 = .ok (.goto 4, 3) := by decide +kernel
theorem dX12_rods_18 : decode cX12_rods 18 = .ok (.iconst (-1), 1) := by decide +kernel
theorem dX12_rods_19 : decode cX12_rods 19 = .ok (.ireturn, 1) := by decide +kernel
theorem dX12_rodsAt_0 : decode cX12_rodsAt 0 = .ok (.iload_n 1, 1) := by decide +kernel
theorem dX12_rodsAt_1 : decode cX12_rodsAt 1 = .ok (.iconst 0, 1) := by decide +kernel
theorem dX12_rodsAt_2 : decode cX12_rodsAt 2 = .ok (.bipush 99, 2) := by decide +kernel
theorem dX12_rodsAt_4 : decode cX12_rodsAt 4 = .ok (.invokestatic 142, 3) := by decide +kernel
theorem dX12_rodsAt_7 : decode cX12_rodsAt 7 = .ok (.ifCond .ne 7, 3) := by decide +kernel
theorem dX12_rodsAt_10 : decode cX12_rodsAt 10 = .ok (.ldc2_w 324, 3) := by decide +kernel
theorem dX12_rodsAt_13 : decode cX12_rodsAt 13 = .ok (.lreturn, 1) := by decide +kernel
theorem dX12_rodsAt_14 : decode cX12_rodsAt 14 = .ok (.aload_n 0, 1) := by decide +kernel
theorem dX12_rodsAt_15 : decode cX12_rodsAt 15 = .ok (.iload_n 1, 1) := by decide +kernel
theorem dX12_rodsAt_16 : decode cX12_rodsAt 16 = .ok (.invokevirtual 321, 3) := by decide +kernel
theorem dX12_rodsAt_19 : decode cX12_rodsAt 19 = .ok (.ifCond .ge 9, 3) := by decide +kernel
theorem dX12_rodsAt_22 : decode cX12_rodsAt 22 = .ok (.ldc2_w 326, 3) := by decide +kernel
theorem dX12_rodsAt_25 : decode cX12_rodsAt 25 = .ok (.goto 7, 3) := by decide +kernel
theorem dX12_rodsAt_28 : decode cX12_rodsAt 28 = .ok (.aload_n 0, 1) := by decide +kernel
theorem dX12_rodsAt_29 : decode cX12_rodsAt 29 = .ok (.getfield 310, 3) := by decide +kernel
theorem dX12_rodsAt_32 : decode cX12_rodsAt 32 = .ok (.lreturn, 1) := by decide +kernel
theorem dX12_turnNow_0 : decode cX12_turnNow 0 = .ok (.iconst 5, 1) := by decide +kernel
theorem dX12_turnNow_1 : decode cX12_turnNow 1 = .ok (.iload_n 1, 1) := by decide +kernel
theorem dX12_turnNow_2 : decode cX12_turnNow 2 = .ok (.imul, 1) := by decide +kernel
theorem dX12_turnNow_3 : decode cX12_turnNow 3 = .ok (.istore_n 2, 1) := by decide +kernel
theorem dX12_turnNow_4 : decode cX12_turnNow 4 = .ok (.iload_n 2, 1) := by decide +kernel
theorem dX12_turnNow_5 : decode cX12_turnNow 5 = .ok (.iconst 5, 1) := by decide +kernel
theorem dX12_turnNow_6 : decode cX12_turnNow 6 = .ok (.iload_n 1, 1) := by decide +kernel
theorem dX12_turnNow_7 : decode cX12_turnNow 7 = .ok (.imul, 1) := by decide +kernel
theorem dX12_turnNow_8 : decode cX12_turnNow 8 = .ok (.aload_n 0, 1) := by decide +kernel
theorem dX12_turnNow_9 : decode cX12_turnNow 9 = .ok (.getfield 77, 3) := by decide +kernel
theorem dX12_turnNow_12 : decode cX12_turnNow 12 = .ok (.iload_n 1, 1) := by decide +kernel
theorem dX12_turnNow_13 : decode cX12_turnNow 13 = .ok (.iaload, 1) := by decide +kernel
theorem dX12_turnNow_14 : decode cX12_turnNow 14 = .ok (.iadd, 1) := by decide +kernel
theorem dX12_turnNow_15 : decode cX12_turnNow 15 = .ok (.if_icmp .ge 36, 3) := by decide +kernel
theorem dX12_turnNow_18 : decode cX12_turnNow 18 = .ok (.aload_n 0, 1) := by decide +kernel
theorem dX12_turnNow_19 : decode cX12_turnNow 19 = .ok (.getfield 83, 3) := by decide +kernel
theorem dX12_turnNow_22 : decode cX12_turnNow 22 = .ok (.iload_n 2, 1) := by decide +kernel
theorem dX12_turnNow_23 : decode cX12_turnNow 23 = .ok (.bipush 20, 2) := by decide +kernel
theorem dX12_turnNow_25 : decode cX12_turnNow 25 = .ok (.iastore, 1) := by decide +kernel
theorem dX12_turnNow_26 : decode cX12_turnNow 26 = .ok (.aload_n 0, 1) := by decide +kernel
theorem dX12_turnNow_27 : decode cX12_turnNow 27 = .ok (.getfield 80, 3) := by decide +kernel
theorem dX12_turnNow_30 : decode cX12_turnNow 30 = .ok (.iload_n 2, 1) := by decide +kernel
theorem dX12_turnNow_31 : decode cX12_turnNow 31 = .ok (.iaload, 1) := by decide +kernel
theorem dX12_turnNow_32 : decode cX12_turnNow 32 = .ok (.ifCond .le 13, 3) := by decide +kernel
theorem dX12_turnNow_35 : decode cX12_turnNow 35 = .ok (.aload_n 0, 1) := by decide +kernel
theorem dX12_turnNow_36 : decode cX12_turnNow 36 = .ok (.getfield 80, 3) := by decide +kernel
theorem dX12_turnNow_39 : decode cX12_turnNow 39 = .ok (.iload_n 2, 1) := by decide +kernel
theorem dX12_turnNow_40 : decode cX12_turnNow 40 = .ok (.dup2, 1) := by decide +kernel
theorem dX12_turnNow_41 : decode cX12_turnNow 41 = .ok (.iaload, 1) := by decide +kernel
theorem dX12_turnNow_42 : decode cX12_turnNow 42 = .ok (.iconst 1, 1) := by decide +kernel
theorem dX12_turnNow_43 : decode cX12_turnNow 43 = .ok (.isub, 1) := by decide +kernel
theorem dX12_turnNow_44 : decode cX12_turnNow 44 = .ok (.iastore, 1) := by decide +kernel
theorem dX12_turnNow_45 : decode cX12_turnNow 45 = .ok (.iinc 2 1, 3) := by decide +kernel
theorem dX12_turnNow_48 : decode cX12_turnNow 48 = .ok (.goto (-44), 3) := by decide +kernel
theorem dX12_turnNow_51 : decode cX12_turnNow 51 = .ok (.return_, 1) := by decide +kernel
theorem dX12_hottestBy_0 : decode cX12_hottestBy 0 = .ok (.aload_n 0, 1) := by decide +kernel
theorem dX12_hottestBy_1 : decode cX12_hottestBy 1 = .ok (.invokevirtual 273, 3) := by decide +kernel
theorem dX12_hottestBy_4 : decode cX12_hottestBy 4 = .ok (.iconst 0, 1) := by decide +kernel
theorem dX12_hottestBy_5 : decode cX12_hottestBy 5 = .ok (.istore_n 3, 1) := by decide +kernel
theorem dX12_hottestBy_6 : decode cX12_hottestBy 6 = .ok (.iload_n 3, 1) := by decide +kernel
theorem dX12_hottestBy_7 : decode cX12_hottestBy 7 = .ok (.bipush 6, 2) := by decide +kernel
theorem dX12_hottestBy_9 : decode cX12_hottestBy 9 = .ok (.if_icmp .ge 22, 3) := by decide +kernel
theorem dX12_hottestBy_12 : decode cX12_hottestBy 12 = .ok (.iload_n 1, 1) := by decide +kernel
theorem dX12_hottestBy_13 : decode cX12_hottestBy 13 = .ok (.iload_n 3, 1) := by decide +kernel
theorem dX12_hottestBy_14 : decode cX12_hottestBy 14 = .ok (.invokestatic 328, 3) := by decide +kernel
theorem dX12_hottestBy_17 : decode cX12_hottestBy 17 = .ok (.ifCond .eq 8, 3) := by decide +kernel
theorem dX12_hottestBy_20 : decode cX12_hottestBy 20 = .ok (.aload_n 0, 1) := by decide +kernel
theorem dX12_hottestBy_21 : decode cX12_hottestBy 21 = .ok (.iload_n 3, 1) := by decide +kernel
theorem dX12_hottestBy_22 : decode cX12_hottestBy 22 = .ok (.invokevirtual 331, 3) := by decide +kernel
theorem dX12_hottestBy_25 : decode cX12_hottestBy 25 = .ok (.iinc 3 1, 3) := by decide +kernel
theorem dX12_hottestBy_28 : decode cX12_hottestBy 28 = .ok (.goto (-22), 3) := by decide +kernel
theorem dX12_hottestBy_31 : decode cX12_hottestBy 31 = .ok (.aload_n 0, 1) := by decide +kernel
theorem dX12_hottestBy_32 : decode cX12_hottestBy 32 = .ok (.iload_n 2, 1) := by decide +kernel
theorem dX12_hottestBy_33 : decode cX12_hottestBy 33 = .ok (.invokevirtual 291, 3) := by decide +kernel
theorem dX12_hottestBy_36 : decode cX12_hottestBy 36 = .ok (.aload_n 0, 1) := by decide +kernel
theorem dX12_hottestBy_37 : decode cX12_hottestBy 37 = .ok (.invokevirtual 295, 3) := by decide +kernel
theorem dX12_hottestBy_40 : decode cX12_hottestBy 40 = .ok (.ireturn, 1) := by decide +kernel
theorem dX12_turn_0 : decode cX12_turn 0 = .ok (.iload_n 1, 1) := by decide +kernel
theorem dX12_turn_1 : decode cX12_turn 1 = .ok (.iconst 0, 1) := by decide +kernel
theorem dX12_turn_2 : decode cX12_turn 2 = .ok (.iconst 3, 1) := by decide +kernel
theorem dX12_turn_3 : decode cX12_turn 3 = .ok (.invokestatic 142, 3) := by decide +kernel
theorem dX12_turn_6 : decode cX12_turn 6 = .ok (.ifCond .eq 22, 3) := by decide +kernel
theorem dX12_turn_9 : decode cX12_turn 9 = .ok (.iload_n 2, 1) := by decide +kernel
theorem dX12_turn_10 : decode cX12_turn 10 = .ok (.iconst 0, 1) := by decide +kernel
theorem dX12_turn_11 : decode cX12_turn 11 = .ok (.bipush 20, 2) := by decide +kernel
theorem dX12_turn_13 : decode cX12_turn 13 = .ok (.invokestatic 142, 3) := by decide +kernel
theorem dX12_turn_16 : decode cX12_turn 16 = .ok (.ifCond .eq 12, 3) := by decide +kernel
theorem dX12_turn_19 : decode cX12_turn 19 = .ok (.iload_n 3, 1) := by decide +kernel
theorem dX12_turn_20 : decode cX12_turn 20 = .ok (.iconst 0, 1) := by decide +kernel
theorem dX12_turn_21 : decode cX12_turn 21 = .ok (.iconst 1, 1) := by decide +kernel
theorem dX12_turn_22 : decode cX12_turn 22 = .ok (.invokestatic 142, 3) := by decide +kernel
theorem dX12_turn_25 : decode cX12_turn 25 = .ok (.ifCond .ne 5, 3) := by decide +kernel
theorem dX12_turn_28 : decode cX12_turn 28 = .ok (.iconst (-1), 1) := by decide +kernel
theorem dX12_turn_29 : decode cX12_turn 29 = .ok (.ireturn, 1) := by decide +kernel
theorem dX12_turn_30 : decode cX12_turn 30 = .ok (.bipush (-2), 2) := by decide +kernel
theorem dX12_turn_32 : decode cX12_turn 32 = .ok (.istore 4, 2) := by decide +kernel
theorem dX12_turn_34 : decode cX12_turn 34 = .ok (.bipush (-2), 2) := by decide +kernel
theorem dX12_turn_36 : decode cX12_turn 36 = .ok (.istore 5, 2) := by decide +kernel
theorem dX12_turn_38 : decode cX12_turn 38 = .ok (.iconst 0, 1) := by decide +kernel
theorem dX12_turn_39 : decode cX12_turn 39 = .ok (.istore 6, 2) := by decide +kernel
theorem dX12_turn_41 : decode cX12_turn 41 = .ok (.iload 6, 2) := by decide +kernel
theorem dX12_turn_43 : decode cX12_turn 43 = .ok (.bipush 64, 2) := by decide +kernel
theorem dX12_turn_45 : decode cX12_turn 45 = .ok (.if_icmp .ge 61, 3) := by decide +kernel
theorem dX12_turn_48 : decode cX12_turn 48 = .ok (.iload 6, 2) := by decide +kernel
theorem dX12_turn_50 : decode cX12_turn 50 = .ok (.invokestatic 334, 3) := by decide +kernel
theorem dX12_turn_53 : decode cX12_turn 53 = .ok (.iload_n 1, 1) := by decide +kernel
theorem dX12_turn_54 : decode cX12_turn 54 = .ok (.if_icmp .eq 6, 3) := by decide +kernel
theorem dX12_turn_57 : decode cX12_turn 57 = .ok (.goto 43, 3) := by decide +kernel
theorem dX12_turn_60 : decode cX12_turn 60 = .ok (.aload_n 0, 1) := by decide +kernel
theorem dX12_turn_61 : decode cX12_turn 61 = .ok (.iload 6, 2) := by decide +kernel
theorem dX12_turn_63 : decode cX12_turn 63 = .ok (.iload_n 2, 1) := by decide +kernel
theorem dX12_turn_64 : decode cX12_turn 64 = .ok (.invokevirtual 337, 3) := by decide +kernel
theorem dX12_turn_67 : decode cX12_turn 67 = .ok (.istore 7, 2) := by decide +kernel
theorem dX12_turn_69 : decode cX12_turn 69 = .ok (.iload 7, 2) := by decide +kernel
theorem dX12_turn_71 : decode cX12_turn 71 = .ok (.ifCond .ge 6, 3) := by decide +kernel
theorem dX12_turn_74 : decode cX12_turn 74 = .ok (.bipush (-2), 2) := by decide +kernel
theorem dX12_turn_76 : decode cX12_turn 76 = .ok (.ireturn, 1) := by decide +kernel
theorem dX12_turn_77 : decode cX12_turn 77 = .ok (.iload 4, 2) := by decide +kernel
theorem dX12_turn_79 : decode cX12_turn 79 = .ok (.ifCond .lt 13, 3) := by decide +kernel
theorem dX12_turn_82 : decode cX12_turn 82 = .ok (.iload 7, 2) := by decide +kernel
theorem dX12_turn_84 : decode cX12_turn 84 = .ok (.iload 5, 2) := by decide +kernel
theorem dX12_turn_86 : decode cX12_turn 86 = .ok (.if_icmp .lt 6, 3) := by decide +kernel
theorem dX12_turn_89 : decode cX12_turn 89 = .ok (.goto 11, 3) := by decide +kernel
theorem dX12_turn_92 : decode cX12_turn 92 = .ok (.iload 6, 2) := by decide +kernel
theorem dX12_turn_94 : decode cX12_turn 94 = .ok (.istore 4, 2) := by decide +kernel
theorem dX12_turn_96 : decode cX12_turn 96 = .ok (.iload 7, 2) := by decide +kernel
theorem dX12_turn_98 : decode cX12_turn 98 = .ok (.istore 5, 2) := by decide +kernel
theorem dX12_turn_100 : decode cX12_turn 100 = .ok (.iinc 6 1, 3) := by decide +kernel
theorem dX12_turn_103 : decode cX12_turn 103 = .ok (.goto (-62), 3) := by decide +kernel
theorem dX12_turn_106 : decode cX12_turn 106 = .ok (.iload_n 3, 1) := by decide +kernel
theorem dX12_turn_107 : decode cX12_turn 107 = .ok (.ifCond .ne 8, 3) := by decide +kernel
theorem dX12_turn_110 : decode cX12_turn 110 = .ok (.iload 5, 2) := by decide +kernel
theorem dX12_turn_112 : decode cX12_turn 112 = .ok (.goto 5, 3) := by decide +kernel
theorem dX12_turn_115 : decode cX12_turn 115 = .ok (.iload 4, 2) := by decide +kernel
theorem dX12_turn_117 : decode cX12_turn 117 = .ok (.ireturn, 1) := by decide +kernel
theorem dX12_chimney_0 : decode cX12_chimney 0 = .ok (.iload_n 1, 1) := by decide +kernel
theorem dX12_chimney_1 : decode cX12_chimney 1 = .ok (.iconst 0, 1) := by decide +kernel
theorem dX12_chimney_2 : decode cX12_chimney 2 = .ok (.bipush 20, 2) := by decide +kernel
theorem dX12_chimney_4 : decode cX12_chimney 4 = .ok (.invokestatic 142, 3) := by decide +kernel
theorem dX12_chimney_7 : decode cX12_chimney 7 = .ok (.ifCond .eq 12, 3) := by decide +kernel
theorem dX12_chimney_10 : decode cX12_chimney 10 = .ok (.iload_n 2, 1) := by decide +kernel
theorem dX12_chimney_11 : decode cX12_chimney 11 = .ok (.iconst 0, 1) := by decide +kernel
theorem dX12_chimney_12 : decode cX12_chimney 12 = .ok (.iconst 1, 1) := by decide +kernel
theorem dX12_chimney_13 : decode cX12_chimney 13 = .ok (.invokestatic 142, 3) := by decide +kernel
theorem dX12_chimney_16 : decode cX12_chimney 16 = .ok (.ifCond .ne 5, 3) := by decide +kernel
theorem dX12_chimney_19 : decode cX12_chimney 19 = .ok (.iconst (-1), 1) := by decide +kernel
theorem dX12_chimney_20 : decode cX12_chimney 20 = .ok (.ireturn, 1) := by decide +kernel
theorem dX12_chimney_21 : decode cX12_chimney 21 = .ok (.bipush (-2), 2) := by decide +kernel
theorem dX12_chimney_23 : decode cX12_chimney 23 = .ok (.istore_n 3, 1) := by decide +kernel
theorem dX12_chimney_24 : decode cX12_chimney 24 = .ok (.bipush (-2), 2) := by decide +kernel
theorem dX12_chimney_26 : decode cX12_chimney 26 = .ok (.istore 4, 2) := by decide +kernel
theorem dX12_chimney_28 : decode cX12_chimney 28 = .ok (.iconst 0, 1) := by decide +kernel
theorem dX12_chimney_29 : decode cX12_chimney 29 = .ok (.istore 5, 2) := by decide +kernel
theorem dX12_chimney_31 : decode cX12_chimney 31 = .ok (.iload 5, 2) := by decide +kernel
theorem dX12_chimney_33 : decode cX12_chimney 33 = .ok (.bipush 6, 2) := by decide +kernel
theorem dX12_chimney_35 : decode cX12_chimney 35 = .ok (.if_icmp .ge 75, 3) := by decide +kernel
theorem dX12_chimney_38 : decode cX12_chimney 38 = .ok (.aload_n 0, 1) := by decide +kernel
theorem dX12_chimney_39 : decode cX12_chimney 39 = .ok (.getfield 30, 3) := by decide +kernel
theorem dX12_chimney_42 : decode cX12_chimney 42 = .ok (.iload 5, 2) := by decide +kernel
theorem dX12_chimney_44 : decode cX12_chimney 44 = .ok (.iaload, 1) := by decide +kernel
theorem dX12_chimney_45 : decode cX12_chimney 45 = .ok (.iconst 1, 1) := by decide +kernel
theorem dX12_chimney_46 : decode cX12_chimney 46 = .ok (.if_icmp .ne 6, 3) := by decide +kernel
theorem dX12_chimney_49 : decode cX12_chimney 49 = .ok (.goto 55, 3) := by decide +kernel
theorem dX12_chimney_52 : decode cX12_chimney 52 = .ok (.aload_n 0, 1) := by decide +kernel
theorem dX12_chimney_53 : decode cX12_chimney 53 = .ok (.invokevirtual 273, 3) := by decide +kernel
theorem dX12_chimney_56 : decode cX12_chimney 56 = .ok (.aload_n 0, 1) := by decide +kernel
theorem dX12_chimney_57 : decode cX12_chimney 57 = .ok (.getfield 92, 3) := by decide +kernel
theorem dX12_chimney_60 : decode cX12_chimney 60 = .ok (.iload 5, 2) := by decide +kernel
theorem dX12_chimney_62 : decode cX12_chimney 62 = .ok (.iconst 1, 1) := by decide +kernel
theorem dX12_chimney_63 : decode cX12_chimney 63 = .ok (.iastore, 1) := by decide +kernel
theorem dX12_chimney_64 : decode cX12_chimney 64 = .ok (.aload_n 0, 1) := by decide +kernel
theorem dX12_chimney_65 : decode cX12_chimney 65 = .ok (.iload_n 1, 1) := by decide +kernel
theorem dX12_chimney_66 : decode cX12_chimney 66 = .ok (.invokevirtual 291, 3) := by decide +kernel
theorem dX12_chimney_69 : decode cX12_chimney 69 = .ok (.aload_n 0, 1) := by decide +kernel
theorem dX12_chimney_70 : decode cX12_chimney 70 = .ok (.invokevirtual 295, 3) := by decide +kernel
theorem dX12_chimney_73 : decode cX12_chimney 73 = .ok (.istore 6, 2) := by decide +kernel
theorem dX12_chimney_75 : decode cX12_chimney 75 = .ok (.iload 6, 2) := by decide +kernel
theorem dX12_chimney_77 : decode cX12_chimney 77 = .ok (.ifCond .ge 6, 3) := by decide +kernel
theorem dX12_chimney_80 : decode cX12_chimney 80 = .ok (.bipush (-2), 2) := by decide +kernel
theorem dX12_chimney_82 : decode cX12_chimney 82 = .ok (.ireturn, 1) := by decide +kernel
theorem dX12_chimney_83 : decode cX12_chimney 83 = .ok (.iload_n 3, 1) := by decide +kernel
theorem dX12_chimney_84 : decode cX12_chimney 84 = .ok (.ifCond .lt 13, 3) := by decide +kernel
theorem dX12_chimney_87 : decode cX12_chimney 87 = .ok (.iload 6, 2) := by decide +kernel
theorem dX12_chimney_89 : decode cX12_chimney 89 = .ok (.iload 4, 2) := by decide +kernel
theorem dX12_chimney_91 : decode cX12_chimney 91 = .ok (.if_icmp .lt 6, 3) := by decide +kernel
theorem dX12_chimney_94 : decode cX12_chimney 94 = .ok (.goto 10, 3) := by decide +kernel
theorem dX12_chimney_97 : decode cX12_chimney 97 = .ok (.iload 5, 2) := by decide +kernel
theorem dX12_chimney_99 : decode cX12_chimney 99 = .ok (.istore_n 3, 1) := by decide +kernel
theorem dX12_chimney_100 : decode cX12_chimney 100 = .ok (.iload 6, 2) := by decide +kernel
theorem dX12_chimney_102 : decode cX12_chimney 102 = .ok (.istore 4, 2) := by decide +kernel
theorem dX12_chimney_104 : decode cX12_chimney 104 = .ok (.iinc 5 1, 3) := by decide +kernel
theorem dX12_chimney_107 : decode cX12_chimney 107 = .ok (.goto (-76), 3) := by decide +kernel
theorem dX12_chimney_110 : decode cX12_chimney 110 = .ok (.iload_n 2, 1) := by decide +kernel
theorem dX12_chimney_111 : decode cX12_chimney 111 = .ok (.ifCond .ne 7, 3) := by decide +kernel
theorem dX12_chimney_114 : decode cX12_chimney 114 = .ok (.iload_n 3, 1) := by decide +kernel
theorem dX12_chimney_115 : decode cX12_chimney 115 = .ok (.goto 5, 3) := by decide +kernel
theorem dX12_chimney_118 : decode cX12_chimney 118 = .ok (.iload 4, 2) := by decide +kernel
theorem dX12_chimney_120 : decode cX12_chimney 120 = .ok (.ireturn, 1) := by decide +kernel
theorem dX12_staysCool_0 : decode cX12_staysCool 0 = .ok (.aload_n 0, 1) := by decide +kernel
theorem dX12_staysCool_1 : decode cX12_staysCool 1 = .ok (.invokevirtual 273, 3) := by decide +kernel
theorem dX12_staysCool_4 : decode cX12_staysCool 4 = .ok (.iconst 0, 1) := by decide +kernel
theorem dX12_staysCool_5 : decode cX12_staysCool 5 = .ok (.istore_n 2, 1) := by decide +kernel
theorem dX12_staysCool_6 : decode cX12_staysCool 6 = .ok (.iload_n 2, 1) := by decide +kernel
theorem dX12_staysCool_7 : decode cX12_staysCool 7 = .ok (.bipush 40, 2) := by decide +kernel
theorem dX12_staysCool_9 : decode cX12_staysCool 9 = .ok (.if_icmp .gt 55, 3) := by decide +kernel
theorem dX12_staysCool_12 : decode cX12_staysCool 12 = .ok (.aload_n 0, 1) := by decide +kernel
theorem dX12_staysCool_13 : decode cX12_staysCool 13 = .ok (.invokevirtual 298, 3) := by decide +kernel
theorem dX12_staysCool_16 : decode cX12_staysCool 16 = .ok (.ifCond .le 5, 3) := by decide +kernel
theorem dX12_staysCool_19 : decode cX12_staysCool 19 = .ok (.iconst 0, 1) := by decide +kernel
theorem dX12_staysCool_20 : decode cX12_staysCool 20 = .ok (.ireturn, 1) := by decide +kernel
theorem dX12_staysCool_21 : decode cX12_staysCool 21 = .ok (.iload_n 2, 1) := by decide +kernel
theorem dX12_staysCool_22 : decode cX12_staysCool 22 = .ok (.iload_n 1, 1) := by decide +kernel
theorem dX12_staysCool_23 : decode cX12_staysCool 23 = .ok (.if_icmp .ne 31, 3) := by decide +kernel
theorem dX12_staysCool_26 : decode cX12_staysCool 26 = .ok (.iconst 0, 1) := by decide +kernel
theorem dX12_staysCool_27 : decode cX12_staysCool 27 = .ok (.istore_n 3, 1) := by decide +kernel
theorem dX12_staysCool_28 : decode cX12_staysCool 28 = .ok (.iload_n 3, 1) := by decide +kernel
theorem dX12_staysCool_29 : decode cX12_staysCool 29 = .ok (.bipush 6, 2) := by decide +kernel
theorem dX12_staysCool_31 : decode cX12_staysCool 31 = .ok (.if_icmp .ge 14, 3) := by decide +kernel
theorem dX12_staysCool_34 : decode cX12_staysCool 34 = .ok (.aload_n 0, 1) := by decide +kernel
theorem dX12_staysCool_35 : decode cX12_staysCool 35 = .ok (.iload_n 3, 1) := by decide +kernel
theorem dX12_staysCool_36 : decode cX12_staysCool 36 = .ok (.invokevirtual 331, 3) := by decide +kernel
theorem dX12_staysCool_39 : decode cX12_staysCool 39 = .ok (.iinc 3 1, 3) := by decide +kernel
theorem dX12_staysCool_42 : decode cX12_staysCool 42 = .ok (.goto (-14), 3) := by decide +kernel
theorem dX12_staysCool_45 : decode cX12_staysCool 45 = .ok (.aload_n 0, 1) := by decide +kernel
theorem dX12_staysCool_46 : decode cX12_staysCool 46 = .ok (.invokevirtual 298, 3) := by decide +kernel
theorem dX12_staysCool_49 : decode cX12_staysCool 49 = .ok (.ifCond .le 5, 3) := by decide +kernel
theorem dX12_staysCool_52 : decode cX12_staysCool 52 = .ok (.iconst 0, 1) := by decide +kernel
theorem dX12_staysCool_53 : decode cX12_staysCool 53 = .ok (.ireturn, 1) := by decide +kernel
theorem dX12_staysCool_54 : decode cX12_staysCool 54 = .ok (.aload_n 0, 1) := by decide +kernel
theorem dX12_staysCool_55 : decode cX12_staysCool 55 = .ok (.invokevirtual 282, 3) := by decide +kernel
theorem dX12_staysCool_58 : decode cX12_staysCool 58 = .ok (.iinc 2 1, 3) := by decide +kernel
theorem dX12_staysCool_61 : decode cX12_staysCool 61 = .ok (.goto (-55), 3) := by decide +kernel
theorem dX12_staysCool_64 : decode cX12_staysCool 64 = .ok (.iconst 1, 1) := by decide +kernel
theorem dX12_staysCool_65 : decode cX12_staysCool 65 = .ok (.ireturn, 1) := by decide +kernel
theorem dX12_latest_0 : decode cX12_latest 0 = .ok (.aload_n 0, 1) := by decide +kernel
theorem dX12_latest_1 : decode cX12_latest 1 = .ok (.bipush 41, 2) := by decide +kernel
theorem dX12_latest_3 : decode cX12_latest 3 = .ok (.invokevirtual 340, 3) := by decide +kernel
theorem dX12_latest_6 : decode cX12_latest 6 = .ok (.ifCond .eq 6, 3) := by decide +kernel
theorem dX12_latest_9 : decode cX12_latest 9 = .ok (.bipush (-2), 2) := by decide +kernel
theorem dX12_latest_11 : decode cX12_latest 11 = .ok (.ireturn, 1) := by decide +kernel
theorem dX12_latest_12 : decode cX12_latest 12 = .ok (.bipush 20, 2) := by decide +kernel
theorem dX12_latest_14 : decode cX12_latest 14 = .ok (.istore_n 1, 1) := by decide +kernel
theorem dX12_latest_15 : decode cX12_latest 15 = .ok (.iload_n 1, 1) := by decide +kernel
theorem dX12_latest_16 : decode cX12_latest 16 = .ok (.ifCond .lt 19, 3) := by decide +kernel
theorem dX12_latest_19 : decode cX12_latest 19 = .ok (.aload_n 0, 1) := by decide +kernel
theorem dX12_latest_20 : decode cX12_latest 20 = .ok (.iload_n 1, 1) := by decide +kernel
theorem dX12_latest_21 : decode cX12_latest 21 = .ok (.invokevirtual 340, 3) := by decide +kernel
theorem dX12_latest_24 : decode cX12_latest 24 = .ok (.ifCond .eq 5, 3) := by decide +kernel
theorem dX12_latest_27 : decode cX12_latest 27 = .ok (.iload_n 1, 1) := by decide +kernel
theorem dX12_latest_28 : decode cX12_latest 28 = .ok (.ireturn, 1) := by decide +kernel
theorem dX12_latest_29 : decode cX12_latest 29 = .ok (.iinc 1 (-1), 3) := by decide +kernel
theorem dX12_latest_32 : decode cX12_latest 32 = .ok (.goto (-17), 3) := by decide +kernel
theorem dX12_latest_35 : decode cX12_latest 35 = .ok (.bipush (-2), 2) := by decide +kernel
theorem dX12_latest_37 : decode cX12_latest 37 = .ok (.ireturn, 1) := by decide +kernel
theorem dX12_rowFault_0 : decode cX12_rowFault 0 = .ok (.aload_n 0, 1) := by decide +kernel
theorem dX12_rowFault_1 : decode cX12_rowFault 1 = .ok (.getfield 126, 3) := by decide +kernel
theorem dX12_rowFault_4 : decode cX12_rowFault 4 = .ok (.iload_n 1, 1) := by decide +kernel
theorem dX12_rowFault_5 : decode cX12_rowFault 5 = .ok (.iaload, 1) := by decide +kernel
theorem dX12_rowFault_6 : decode cX12_rowFault 6 = .ok (.iconst (-1), 1) := by decide +kernel
theorem dX12_rowFault_7 : decode cX12_rowFault 7 = .ok (.if_icmp .ne 8, 3) := by decide +kernel
theorem dX12_rowFault_10 : decode cX12_rowFault 10 = .ok (.bipush (-11), 2) := by decide +kernel
theorem dX12_rowFault_12 : decode cX12_rowFault 12 = .ok (.goto 20, 3) := by decide +kernel
theorem dX12_rowFault_15 : decode cX12_rowFault 15 = .ok (.aload_n 0, 1) := by decide +kernel
theorem dX12_rowFault_16 : decode cX12_rowFault 16 = .ok (.getfield 126, 3) := by decide +kernel
theorem dX12_rowFault_19 : decode cX12_rowFault 19 = .ok (.iload_n 1, 1) := by decide +kernel
theorem dX12_rowFault_20 : decode cX12_rowFault 20 = .ok (.iaload, 1) := by decide +kernel
theorem dX12_rowFault_21 : decode cX12_rowFault 21 = .ok (.bipush (-2), 2) := by decide +kernel
theorem dX12_rowFault_23 : decode cX12_rowFault 23 = .ok (.if_icmp .ne 7, 3) := by decide +kernel
theorem dX12_rowFault_26 : decode cX12_rowFault 26 = .ok (.iconst 0, 1) := by decide +kernel
theorem dX12_rowFault_27 : decode cX12_rowFault 27 = .ok (.goto 5, 3) := by decide +kernel
theorem dX12_rowFault_30 : decode cX12_rowFault 30 = .ok (.bipush (-12), 2) := by decide +kernel
theorem dX12_rowFault_32 : decode cX12_rowFault 32 = .ok (.ireturn, 1) := by decide +kernel
theorem dX12_at_0 : decode cX12_at 0 = .ok (.aload_n 0, 1) := by decide +kernel
theorem dX12_at_1 : decode cX12_at 1 = .ok (.getfield 132, 3) := by decide +kernel
theorem dX12_at_4 : decode cX12_at 4 = .ok (.bipush 60, 2) := by decide +kernel
theorem dX12_at_6 : decode cX12_at 6 = .ok (.iload_n 1, 1) := by decide +kernel
theorem dX12_at_7 : decode cX12_at 7 = .ok (.imul, 1) := by decide +kernel
theorem dX12_at_8 : decode cX12_at 8 = .ok (.iload_n 2, 1) := by decide +kernel
theorem dX12_at_9 : decode cX12_at 9 = .ok (.iadd, 1) := by decide +kernel
theorem dX12_at_10 : decode cX12_at 10 = .ok (.laload, 1) := by decide +kernel
theorem dX12_at_11 : decode cX12_at 11 = .ok (.l2i, 1) := by decide +kernel
theorem dX12_at_12 : decode cX12_at 12 = .ok (.ireturn, 1) := by decide +kernel
theorem dX12_goLay_0 : decode cX12_goLay 0 = .ok (.iload_n 3, 1) := by decide +kernel
theorem dX12_goLay_1 : decode cX12_goLay 1 = .ok (.aload_n 0, 1) := by decide +kernel
theorem dX12_goLay_2 : decode cX12_goLay 2 = .ok (.getfield 343, 3) := by decide +kernel
theorem dX12_goLay_5 : decode cX12_goLay 5 = .ok (.if_icmp .ge 59, 3) := by decide +kernel
theorem dX12_goLay_8 : decode cX12_goLay 8 = .ok (.iconst 0, 1) := by decide +kernel
theorem dX12_goLay_9 : decode cX12_goLay 9 = .ok (.istore 5, 2) := by decide +kernel
theorem dX12_goLay_11 : decode cX12_goLay 11 = .ok (.iload 5, 2) := by decide +kernel
theorem dX12_goLay_13 : decode cX12_goLay 13 = .ok (.aload_n 0, 1) := by decide +kernel
theorem dX12_goLay_14 : decode cX12_goLay 14 = .ok (.getfield 343, 3) := by decide +kernel
theorem dX12_goLay_17 : decode cX12_goLay 17 = .ok (.if_icmp .ge 46, 3) := by decide +kernel
theorem dX12_goLay_20 : decode cX12_goLay 20 = .ok (.iload 4, 2) := by decide +kernel
theorem dX12_goLay_22 : decode cX12_goLay 22 = .ok (.iload 5, 2) := by decide +kernel
theorem dX12_goLay_24 : decode cX12_goLay 24 = .ok (.invokestatic 328, 3) := by decide +kernel
theorem dX12_goLay_27 : decode cX12_goLay 27 = .ok (.ifCond .eq 6, 3) := by decide +kernel
theorem dX12_goLay_30 : decode cX12_goLay 30 = .ok (.goto 27, 3) := by decide +kernel
theorem dX12_goLay_33 : decode cX12_goLay 33 = .ok (.aload_n 0, 1) := by decide +kernel
theorem dX12_goLay_34 : decode cX12_goLay 34 = .ok (.getfield 98, 3) := by decide +kernel
theorem dX12_goLay_37 : decode cX12_goLay 37 = .ok (.iload_n 3, 1) := by decide +kernel
theorem dX12_goLay_38 : decode cX12_goLay 38 = .ok (.iload 5, 2) := by decide +kernel
theorem dX12_goLay_40 : decode cX12_goLay 40 = .ok (.iastore, 1) := by decide +kernel
theorem dX12_goLay_41 : decode cX12_goLay 41 = .ok (.aload_n 0, 1) := by decide +kernel
theorem dX12_goLay_42 : decode cX12_goLay 42 = .ok (.iload_n 1, 1) := by decide +kernel
theorem dX12_goLay_43 : decode cX12_goLay 43 = .ok (.iload_n 2, 1) := by decide +kernel
theorem dX12_goLay_44 : decode cX12_goLay 44 = .ok (.iload_n 3, 1) := by decide +kernel
theorem dX12_goLay_45 : decode cX12_goLay 45 = .ok (.iconst 1, 1) := by decide +kernel
theorem dX12_goLay_46 : decode cX12_goLay 46 = .ok (.iadd, 1) := by decide +kernel
theorem dX12_goLay_47 : decode cX12_goLay 47 = .ok (.iload 4, 2) := by decide +kernel
theorem dX12_goLay_49 : decode cX12_goLay 49 = .ok (.iconst 1, 1) := by decide +kernel
theorem dX12_goLay_50 : decode cX12_goLay 50 = .ok (.iload 5, 2) := by decide +kernel
theorem dX12_goLay_52 : decode cX12_goLay 52 = .ok (.ishl, 1) := by decide +kernel
theorem dX12_goLay_53 : decode cX12_goLay 53 = .ok (.ior, 1) := by decide +kernel
theorem dX12_goLay_54 : decode cX12_goLay 54 = .ok (.invokevirtual 346, 3) := by decide +kernel
theorem dX12_goLay_57 : decode cX12_goLay 57 = .ok (.iinc 5 1, 3) := by decide +kernel
theorem dX12_goLay_60 : decode cX12_goLay 60 = .ok (.goto (-49), 3) := by decide +kernel
theorem dX12_goLay_63 : decode cX12_goLay 63 = .ok (.return_, 1) := by decide +kernel
theorem dX12_goLay_64 : decode cX12_goLay 64 = .ok (.aload_n 0, 1) := by decide +kernel
theorem dX12_goLay_65 : decode cX12_goLay 65 = .ok (.invokevirtual 273, 3) := by decide +kernel
theorem dX12_goLay_68 : decode cX12_goLay 68 = .ok (.iconst 0, 1) := by decide +kernel
theorem dX12_goLay_69 : decode cX12_goLay 69 = .ok (.istore 5, 2) := by decide +kernel
theorem dX12_goLay_71 : decode cX12_goLay 71 = .ok (.iload 5, 2) := by decide +kernel
theorem dX12_goLay_73 : decode cX12_goLay 73 = .ok (.aload_n 0, 1) := by decide +kernel
theorem dX12_goLay_74 : decode cX12_goLay 74 = .ok (.getfield 343, 3) := by decide +kernel
theorem dX12_goLay_77 : decode cX12_goLay 77 = .ok (.if_icmp .ge 79, 3) := by decide +kernel
theorem dX12_goLay_80 : decode cX12_goLay 80 = .ok (.iconst 5, 1) := by decide +kernel
theorem dX12_goLay_81 : decode cX12_goLay 81 = .ok (.iload 5, 2) := by decide +kernel
theorem dX12_goLay_83 : decode cX12_goLay 83 = .ok (.imul, 1) := by decide +kernel
theorem dX12_goLay_84 : decode cX12_goLay 84 = .ok (.aload_n 0, 1) := by decide +kernel
theorem dX12_goLay_85 : decode cX12_goLay 85 = .ok (.getfield 77, 3) := by decide +kernel
theorem dX12_goLay_88 : decode cX12_goLay 88 = .ok (.iload 5, 2) := by decide +kernel
theorem dX12_goLay_90 : decode cX12_goLay 90 = .ok (.iaload, 1) := by decide +kernel
theorem dX12_goLay_91 : decode cX12_goLay 91 = .ok (.iadd, 1) := by decide +kernel
theorem dX12_goLay_92 : decode cX12_goLay 92 = .ok (.istore 6, 2) := by decide +kernel
theorem dX12_goLay_94 : decode cX12_goLay 94 = .ok (.aload_n 0, 1) := by decide +kernel
theorem dX12_goLay_95 : decode cX12_goLay 95 = .ok (.getfield 80, 3) := by decide +kernel
theorem dX12_goLay_98 : decode cX12_goLay 98 = .ok (.iload 6, 2) := by decide +kernel
theorem dX12_goLay_100 : decode cX12_goLay 100 = .ok (.aload_n 0, 1) := by decide +kernel
theorem dX12_goLay_101 : decode cX12_goLay 101 = .ok (.iload_n 1, 1) := by decide +kernel
theorem dX12_goLay_102 : decode cX12_goLay 102 = .ok (.aload_n 0, 1) := by decide +kernel
theorem dX12_goLay_103 : decode cX12_goLay 103 = .ok (.getfield 98, 3) := by decide +kernel
theorem dX12_goLay_106 : decode cX12_goLay 106 = .ok (.iload 5, 2) := by decide +kernel
theorem dX12_goLay_108 : decode cX12_goLay 108 = .ok (.iaload, 1) := by decide +kernel
theorem dX12_goLay_109 : decode cX12_goLay 109 = .ok (.invokevirtual 350, 3) := by decide +kernel
theorem dX12_goLay_112 : decode cX12_goLay 112 = .ok (.iastore, 1) := by decide +kernel
theorem dX12_goLay_113 : decode cX12_goLay 113 = .ok (.aload_n 0, 1) := by decide +kernel
theorem dX12_goLay_114 : decode cX12_goLay 114 = .ok (.getfield 83, 3) := by decide +kernel
theorem dX12_goLay_117 : decode cX12_goLay 117 = .ok (.iload 6, 2) := by decide +kernel
theorem dX12_goLay_119 : decode cX12_goLay 119 = .ok (.bipush 20, 2) := by decide +kernel
theorem dX12_goLay_121 : decode cX12_goLay 121 = .ok (.iastore, 1) := by decide +kernel
theorem dX12_goLay_122 : decode cX12_goLay 122 = .ok (.aload_n 0, 1) := by decide +kernel
theorem dX12_goLay_123 : decode cX12_goLay 123 = .ok (.getfield 86, 3) := by decide +kernel
theorem dX12_goLay_126 : decode cX12_goLay 126 = .ok (.iload 6, 2) := by decide +kernel
theorem dX12_goLay_128 : decode cX12_goLay 128 = .ok (.bipush 99, 2) := by decide +kernel
theorem dX12_goLay_130 : decode cX12_goLay 130 = .ok (.iastore, 1) := by decide +kernel
theorem dX12_goLay_131 : decode cX12_goLay 131 = .ok (.aload_n 0, 1) := by decide +kernel
theorem dX12_goLay_132 : decode cX12_goLay 132 = .ok (.getfield 89, 3) := by decide +kernel
theorem dX12_goLay_135 : decode cX12_goLay 135 = .ok (.iload 6, 2) := by decide +kernel
theorem dX12_goLay_137 : decode cX12_goLay 137 = .ok (.iconst 0, 1) := by decide +kernel
theorem dX12_goLay_138 : decode cX12_goLay 138 = .ok (.iastore, 1) := by decide +kernel
theorem dX12_goLay_139 : decode cX12_goLay 139 = .ok (.aload_n 0, 1) := by decide +kernel
theorem dX12_goLay_140 : decode cX12_goLay 140 = .ok (.getfield 77, 3) := by decide +kernel
theorem dX12_goLay_143 : decode cX12_goLay 143 = .ok (.iload 5, 2) := by decide +kernel
theorem dX12_goLay_145 : decode cX12_goLay 145 = .ok (.dup2, 1) := by decide +kernel
theorem dX12_goLay_146 : decode cX12_goLay 146 = .ok (.iaload, 1) := by decide +kernel
theorem dX12_goLay_147 : decode cX12_goLay 147 = .ok (.iconst 1, 1) := by decide +kernel
theorem dX12_goLay_148 : decode cX12_goLay 148 = .ok (.iadd, 1) := by decide +kernel
theorem dX12_goLay_149 : decode cX12_goLay 149 = .ok (.iastore, 1) := by decide +kernel
theorem dX12_goLay_150 : decode cX12_goLay 150 = .ok (.iinc 5 1, 3) := by decide +kernel
theorem dX12_goLay_153 : decode cX12_goLay 153 = .ok (.goto (-82), 3) := by decide +kernel
theorem dX12_goLay_156 : decode cX12_goLay 156 = .ok (.aload_n 0, 1) := by decide +kernel
theorem dX12_goLay_157 : decode cX12_goLay 157 = .ok (.iload_n 2, 1) := by decide +kernel
theorem dX12_goLay_158 : decode cX12_goLay 158 = .ok (.invokevirtual 291, 3) := by decide +kernel
theorem dX12_goLay_161 : decode cX12_goLay 161 = .ok (.aload_n 0, 1) := by decide +kernel
theorem dX12_goLay_162 : decode cX12_goLay 162 = .ok (.invokevirtual 295, 3) := by decide +kernel
theorem dX12_goLay_165 : decode cX12_goLay 165 = .ok (.istore 5, 2) := by decide +kernel
theorem dX12_goLay_167 : decode cX12_goLay 167 = .ok (.iload 5, 2) := by decide +kernel
theorem dX12_goLay_169 : decode cX12_goLay 169 = .ok (.ifCond .lt 19, 3) := by decide +kernel
theorem dX12_goLay_172 : decode cX12_goLay 172 = .ok (.aload_n 0, 1) := by decide +kernel
theorem dX12_goLay_173 : decode cX12_goLay 173 = .ok (.getfield 353, 3) := by decide +kernel
theorem dX12_goLay_176 : decode cX12_goLay 176 = .ok (.ifCond .lt 13, 3) := by decide +kernel
theorem dX12_goLay_179 : decode cX12_goLay 179 = .ok (.iload 5, 2) := by decide +kernel
theorem dX12_goLay_181 : decode cX12_goLay 181 = .ok (.aload_n 0, 1) := by decide +kernel
theorem dX12_goLay_182 : decode cX12_goLay 182 = .ok (.getfield 353, 3) := by decide +kernel
theorem dX12_goLay_185 : decode cX12_goLay 185 = .ok (.if_icmp .lt 4, 3) := by decide +kernel
theorem dX12_goLay_188 : decode cX12_goLay 188 = .ok (.return_, 1) := by decide +kernel
theorem dX12_goLay_189 : decode cX12_goLay 189 = .ok (.aload_n 0, 1) := by decide +kernel
theorem dX12_goLay_190 : decode cX12_goLay 190 = .ok (.iload 5, 2) := by decide +kernel
theorem dX12_goLay_192 : decode cX12_goLay 192 = .ok (.putfield 353, 3) := by decide +kernel
theorem dX12_goLay_195 : decode cX12_goLay 195 = .ok (.iconst 0, 1) := by decide +kernel
theorem dX12_goLay_196 : decode cX12_goLay 196 = .ok (.istore 6, 2) := by decide +kernel
theorem dX12_goLay_198 : decode cX12_goLay 198 = .ok (.iload 6, 2) := by decide +kernel
theorem dX12_goLay_200 : decode cX12_goLay 200 = .ok (.aload_n 0, 1) := by decide +kernel
theorem dX12_goLay_201 : decode cX12_goLay 201 = .ok (.getfield 343, 3) := by decide +kernel
theorem dX12_goLay_204 : decode cX12_goLay 204 = .ok (.if_icmp .ge 23, 3) := by decide +kernel
theorem dX12_goLay_207 : decode cX12_goLay 207 = .ok (.aload_n 0, 1) := by decide +kernel
theorem dX12_goLay_208 : decode cX12_goLay 208 = .ok (.getfield 101, 3) := by decide +kernel
theorem dX12_goLay_211 : decode cX12_goLay 211 = .ok (.iload 6, 2) := by decide +kernel
theorem dX12_goLay_213 : decode cX12_goLay 213 = .ok (.aload_n 0, 1) := by decide +kernel
theorem dX12_goLay_214 : decode cX12_goLay 214 = .ok (.getfield 98, 3) := by decide +kernel
theorem dX12_goLay_217 : decode cX12_goLay 217 = .ok (.iload 6, 2) := by decide +kernel
theorem dX12_goLay_219 : decode cX12_goLay 219 = .ok (.iaload, 1) := by decide +kernel
theorem dX12_goLay_220 : decode cX12_goLay 220 = .ok (.iastore, 1) := by decide +kernel
theorem dX12_goLay_221 : decode cX12_goLay 221 = .ok (.iinc 6 1, 3) := by decide +kernel
theorem dX12_goLay_224 : decode cX12_goLay 224 = .ok (.goto (-26), 3) := by decide +kernel
theorem dX12_goLay_227 : decode cX12_goLay 227 = .ok (.return_, 1) := by decide +kernel
theorem dX12_lay_0 : decode cX12_lay 0 = .ok (.iload_n 1, 1) := by decide +kernel
theorem dX12_lay_1 : decode cX12_lay 1 = .ok (.invokestatic 154, 3) := by decide +kernel
theorem dX12_lay_4 : decode cX12_lay 4 = .ok (.ifCond .eq 18, 3) := by decide +kernel
theorem dX12_lay_7 : decode cX12_lay 7 = .ok (.iload_n 2, 1) := by decide +kernel
theorem dX12_lay_8 : decode cX12_lay 8 = .ok (.iconst 0, 1) := by decide +kernel
theorem dX12_lay_9 : decode cX12_lay 9 = .ok (.bipush 8, 2) := by decide +kernel
theorem dX12_lay_11 : decode cX12_lay 11 = .ok (.invokestatic 142, 3) := by decide +kernel
theorem dX12_lay_14 : decode cX12_lay 14 = .ok (.ifCond .eq 8, 3) := by decide +kernel
theorem dX12_lay_17 : decode cX12_lay 17 = .ok (.iload_n 3, 1) := by decide +kernel
theorem dX12_lay_18 : decode cX12_lay 18 = .ok (.iconst (-1), 1) := by decide +kernel
theorem dX12_lay_19 : decode cX12_lay 19 = .ok (.if_icmp .ge 5, 3) := by decide +kernel
theorem dX12_lay_22 : decode cX12_lay 22 = .ok (.iconst (-1), 1) := by decide +kernel
theorem dX12_lay_23 : decode cX12_lay 23 = .ok (.ireturn, 1) := by decide +kernel
theorem dX12_lay_24 : decode cX12_lay 24 = .ok (.aload_n 0, 1) := by decide +kernel
theorem dX12_lay_25 : decode cX12_lay 25 = .ok (.iload_n 1, 1) := by decide +kernel
theorem dX12_lay_26 : decode cX12_lay 26 = .ok (.invokevirtual 356, 3) := by decide +kernel
theorem dX12_lay_29 : decode cX12_lay 29 = .ok (.ifCond .ge 9, 3) := by decide +kernel
theorem dX12_lay_32 : decode cX12_lay 32 = .ok (.aload_n 0, 1) := by decide +kernel
theorem dX12_lay_33 : decode cX12_lay 33 = .ok (.iload_n 1, 1) := by decide +kernel
theorem dX12_lay_34 : decode cX12_lay 34 = .ok (.invokevirtual 356, 3) := by decide +kernel
theorem dX12_lay_37 : decode cX12_lay 37 = .ok (.ireturn, 1) := by decide +kernel
theorem dX12_lay_38 : decode cX12_lay 38 = .ok (.aload_n 0, 1) := by decide +kernel
theorem dX12_lay_39 : decode cX12_lay 39 = .ok (.iconst 0, 1) := by decide +kernel
theorem dX12_lay_40 : decode cX12_lay 40 = .ok (.putfield 343, 3) := by decide +kernel
theorem dX12_lay_43 : decode cX12_lay 43 = .ok (.aload_n 0, 1) := by decide +kernel
theorem dX12_lay_44 : decode cX12_lay 44 = .ok (.getfield 343, 3) := by decide +kernel
theorem dX12_lay_47 : decode cX12_lay 47 = .ok (.bipush 6, 2) := by decide +kernel
theorem dX12_lay_49 : decode cX12_lay 49 = .ok (.if_icmp .ge 47, 3) := by decide +kernel
theorem dX12_lay_52 : decode cX12_lay 52 = .ok (.aload_n 0, 1) := by decide +kernel
theorem dX12_lay_53 : decode cX12_lay 53 = .ok (.getfield 343, 3) := by decide +kernel
theorem dX12_lay_56 : decode cX12_lay 56 = .ok (.aload_n 0, 1) := by decide +kernel
theorem dX12_lay_57 : decode cX12_lay 57 = .ok (.getfield 129, 3) := by decide +kernel
theorem dX12_lay_60 : decode cX12_lay 60 = .ok (.iload_n 1, 1) := by decide +kernel
theorem dX12_lay_61 : decode cX12_lay 61 = .ok (.iaload, 1) := by decide +kernel
theorem dX12_lay_62 : decode cX12_lay 62 = .ok (.if_icmp .ge 34, 3) := by decide +kernel
theorem dX12_lay_65 : decode cX12_lay 65 = .ok (.aload_n 0, 1) := by decide +kernel
theorem dX12_lay_66 : decode cX12_lay 66 = .ok (.iload_n 1, 1) := by decide +kernel
theorem dX12_lay_67 : decode cX12_lay 67 = .ok (.aload_n 0, 1) := by decide +kernel
theorem dX12_lay_68 : decode cX12_lay 68 = .ok (.getfield 343, 3) := by decide +kernel
theorem dX12_lay_71 : decode cX12_lay 71 = .ok (.invokevirtual 350, 3) := by decide +kernel
theorem dX12_lay_74 : decode cX12_lay 74 = .ok (.iconst 0, 1) := by decide +kernel
theorem dX12_lay_75 : decode cX12_lay 75 = .ok (.bipush 9, 2) := by decide +kernel
theorem dX12_lay_77 : decode cX12_lay 77 = .ok (.invokestatic 142, 3) := by decide +kernel
theorem dX12_lay_80 : decode cX12_lay 80 = .ok (.ifCond .eq 16, 3) := by decide +kernel
theorem dX12_lay_83 : decode cX12_lay 83 = .ok (.aload_n 0, 1) := by decide +kernel
theorem dX12_lay_84 : decode cX12_lay 84 = .ok (.dup, 1) := by decide +kernel
theorem dX12_lay_85 : decode cX12_lay 85 = .ok (.getfield 343, 3) := by decide +kernel
theorem dX12_lay_88 : decode cX12_lay 88 = .ok (.iconst 1, 1) := by decide +kernel
theorem dX12_lay_89 : decode cX12_lay 89 = .ok (.iadd, 1) := by decide +kernel
theorem dX12_lay_90 : decode cX12_lay 90 = .ok (.putfield 343, 3) := by decide +kernel
theorem dX12_lay_93 : decode cX12_lay 93 = .ok (.goto (-50), 3) := by decide +kernel
theorem dX12_lay_96 : decode cX12_lay 96 = .ok (.iconst 0, 1) := by decide +kernel
theorem dX12_lay_97 : decode cX12_lay 97 = .ok (.istore 4, 2) := by decide +kernel
theorem dX12_lay_99 : decode cX12_lay 99 = .ok (.iload 4, 2) := by decide +kernel
theorem dX12_lay_101 : decode cX12_lay 101 = .ok (.aload_n 0, 1) := by decide +kernel
theorem dX12_lay_102 : decode cX12_lay 102 = .ok (.getfield 343, 3) := by decide +kernel
theorem dX12_lay_105 : decode cX12_lay 105 = .ok (.if_icmp .ge 23, 3) := by decide +kernel
theorem dX12_lay_108 : decode cX12_lay 108 = .ok (.aload_n 0, 1) := by decide +kernel
theorem dX12_lay_109 : decode cX12_lay 109 = .ok (.getfield 9, 3) := by decide +kernel
theorem dX12_lay_112 : decode cX12_lay 112 = .ok (.iload 4, 2) := by decide +kernel
theorem dX12_lay_114 : decode cX12_lay 114 = .ok (.iaload, 1) := by decide +kernel
theorem dX12_lay_115 : decode cX12_lay 115 = .ok (.iconst 5, 1) := by decide +kernel
theorem dX12_lay_116 : decode cX12_lay 116 = .ok (.if_icmp .ne 6, 3) := by decide +kernel
theorem dX12_lay_119 : decode cX12_lay 119 = .ok (.bipush (-2), 2) := by decide +kernel
theorem dX12_lay_121 : decode cX12_lay 121 = .ok (.ireturn, 1) := by decide +kernel
theorem dX12_lay_122 : decode cX12_lay 122 = .ok (.iinc 4 1, 3) := by decide +kernel
theorem dX12_lay_125 : decode cX12_lay 125 = .ok (.goto (-26), 3) := by decide +kernel
theorem dX12_lay_128 : decode cX12_lay 128 = .ok (.aload_n 0, 1) := by decide +kernel
theorem dX12_lay_129 : decode cX12_lay 129 = .ok (.bipush (-2), 2) := by decide +kernel
theorem dX12_lay_131 : decode cX12_lay 131 = .ok (.putfield 353, 3) := by decide +kernel
theorem dX12_lay_134 : decode cX12_lay 134 = .ok (.aload_n 0, 1) := by decide +kernel
theorem dX12_lay_135 : decode cX12_lay 135 = .ok (.iload_n 1, 1) := by decide +kernel
theorem dX12_lay_136 : decode cX12_lay 136 = .ok (.iload_n 2, 1) := by decide +kernel
theorem dX12_lay_137 : decode cX12_lay 137 = .ok (.iconst 0, 1) := by decide +kernel
theorem dX12_lay_138 : decode cX12_lay 138 = .ok (.iconst 0, 1) := by decide +kernel
theorem dX12_lay_139 : decode cX12_lay 139 = .ok (.invokevirtual 346, 3) := by decide +kernel
theorem dX12_lay_142 : decode cX12_lay 142 = .ok (.aload_n 0, 1) := by decide +kernel
theorem dX12_lay_143 : decode cX12_lay 143 = .ok (.getfield 353, 3) := by decide +kernel
theorem dX12_lay_146 : decode cX12_lay 146 = .ok (.ifCond .lt 11, 3) := by decide +kernel
theorem dX12_lay_149 : decode cX12_lay 149 = .ok (.iload_n 3, 1) := by decide +kernel
theorem dX12_lay_150 : decode cX12_lay 150 = .ok (.aload_n 0, 1) := by decide +kernel
theorem dX12_lay_151 : decode cX12_lay 151 = .ok (.getfield 343, 3) := by decide +kernel
theorem dX12_lay_154 : decode cX12_lay 154 = .ok (.if_icmp .lt 6, 3) := by decide +kernel
theorem dX12_lay_157 : decode cX12_lay 157 = .ok (.bipush (-2), 2) := by decide +kernel
theorem dX12_lay_159 : decode cX12_lay 159 = .ok (.ireturn, 1) := by decide +kernel
theorem dX12_lay_160 : decode cX12_lay 160 = .ok (.iload_n 3, 1) := by decide +kernel
theorem dX12_lay_161 : decode cX12_lay 161 = .ok (.ifCond .ge 10, 3) := by decide +kernel
theorem dX12_lay_164 : decode cX12_lay 164 = .ok (.aload_n 0, 1) := by decide +kernel
theorem dX12_lay_165 : decode cX12_lay 165 = .ok (.getfield 353, 3) := by decide +kernel
theorem dX12_lay_168 : decode cX12_lay 168 = .ok (.goto 9, 3) := by decide +kernel
theorem dX12_lay_171 : decode cX12_lay 171 = .ok (.aload_n 0, 1) := by decide +kernel
theorem dX12_lay_172 : decode cX12_lay 172 = .ok (.getfield 101, 3) := by decide +kernel
theorem dX12_lay_175 : decode cX12_lay 175 = .ok (.iload_n 3, 1) := by decide +kernel
theorem dX12_lay_176 : decode cX12_lay 176 = .ok (.iaload, 1) := by decide +kernel
theorem dX12_lay_177 : decode cX12_lay 177 = .ok (.ireturn, 1) := by decide +kernel
theorem dX12_worthNow_0 : decode cX12_worthNow 0 = .ok (.iconst 0, 1) := by decide +kernel
theorem dX12_worthNow_1 : decode cX12_worthNow 1 = .ok (.istore_n 1, 1) := by decide +kernel
theorem dX12_worthNow_2 : decode cX12_worthNow 2 = .ok (.iconst 0, 1) := by decide +kernel
theorem dX12_worthNow_3 : decode cX12_worthNow 3 = .ok (.istore_n 2, 1) := by decide +kernel
theorem dX12_worthNow_4 : decode cX12_worthNow 4 = .ok (.iload_n 2, 1) := by decide +kernel
theorem dX12_worthNow_5 : decode cX12_worthNow 5 = .ok (.bipush 30, 2) := by decide +kernel
theorem dX12_worthNow_7 : decode cX12_worthNow 7 = .ok (.if_icmp .ge 44, 3) := by decide +kernel
theorem dX12_worthNow_10 : decode cX12_worthNow 10 = .ok (.aload_n 0, 1) := by decide +kernel
theorem dX12_worthNow_11 : decode cX12_worthNow 11 = .ok (.iload_n 2, 1) := by decide +kernel
theorem dX12_worthNow_12 : decode cX12_worthNow 12 = .ok (.invokevirtual 279, 3) := by decide +kernel
theorem dX12_worthNow_15 : decode cX12_worthNow 15 = .ok (.ifCond .eq 30, 3) := by decide +kernel
theorem dX12_worthNow_18 : decode cX12_worthNow 18 = .ok (.aload_n 0, 1) := by decide +kernel
theorem dX12_worthNow_19 : decode cX12_worthNow 19 = .ok (.getfield 83, 3) := by decide +kernel
theorem dX12_worthNow_22 : decode cX12_worthNow 22 = .ok (.iload_n 2, 1) := by decide +kernel
theorem dX12_worthNow_23 : decode cX12_worthNow 23 = .ok (.iaload, 1) := by decide +kernel
theorem dX12_worthNow_24 : decode cX12_worthNow 24 = .ok (.aload_n 0, 1) := by decide +kernel
theorem dX12_worthNow_25 : decode cX12_worthNow 25 = .ok (.getfield 33, 3) := by decide +kernel
theorem dX12_worthNow_28 : decode cX12_worthNow 28 = .ok (.iconst 0, 1) := by decide +kernel
theorem dX12_worthNow_29 : decode cX12_worthNow 29 = .ok (.iaload, 1) := by decide +kernel
theorem dX12_worthNow_30 : decode cX12_worthNow 30 = .ok (.if_icmp .ge 15, 3) := by decide +kernel
theorem dX12_worthNow_33 : decode cX12_worthNow 33 = .ok (.iload_n 1, 1) := by decide +kernel
theorem dX12_worthNow_34 : decode cX12_worthNow 34 = .ok (.aload_n 0, 1) := by decide +kernel
theorem dX12_worthNow_35 : decode cX12_worthNow 35 = .ok (.getfield 86, 3) := by decide +kernel
theorem dX12_worthNow_38 : decode cX12_worthNow 38 = .ok (.iload_n 2, 1) := by decide +kernel
theorem dX12_worthNow_39 : decode cX12_worthNow 39 = .ok (.iaload, 1) := by decide +kernel
theorem dX12_worthNow_40 : decode cX12_worthNow 40 = .ok (.bipush 9, 2) := by decide +kernel
theorem dX12_worthNow_42 : decode cX12_worthNow 42 = .ok (.idiv, 1) := by decide +kernel
theorem dX12_worthNow_43 : decode cX12_worthNow 43 = .ok (.iadd, 1) := by decide +kernel
theorem dX12_worthNow_44 : decode cX12_worthNow 44 = .ok (.istore_n 1, 1) := by decide +kernel
theorem dX12_worthNow_45 : decode cX12_worthNow 45 = .ok (.iinc 2 1, 3) := by decide +kernel
theorem dX12_worthNow_48 : decode cX12_worthNow 48 = .ok (.goto (-44), 3) := by decide +kernel
theorem dX12_worthNow_51 : decode cX12_worthNow 51 = .ok (.iload_n 1, 1) := by decide +kernel
theorem dX12_worthNow_52 : decode cX12_worthNow 52 = .ok (.ireturn, 1) := by decide +kernel
theorem dX12_worth_0 : decode cX12_worth 0 = .ok (.aload_n 0, 1) := by decide +kernel
theorem dX12_worth_1 : decode cX12_worth 1 = .ok (.invokevirtual 273, 3) := by decide +kernel
theorem dX12_worth_4 : decode cX12_worth 4 = .ok (.aload_n 0, 1) := by decide +kernel
theorem dX12_worth_5 : decode cX12_worth 5 = .ok (.invokevirtual 359, 3) := by decide +kernel
theorem dX12_worth_8 : decode cX12_worth 8 = .ok (.ireturn, 1) := by decide +kernel
theorem dX12_sell_0 : decode cX12_sell 0 = .ok (.iload_n 1, 1) := by decide +kernel
theorem dX12_sell_1 : decode cX12_sell 1 = .ok (.invokestatic 288, 3) := by decide +kernel
theorem dX12_sell_4 : decode cX12_sell 4 = .ok (.ifCond .eq 22, 3) := by decide +kernel
theorem dX12_sell_7 : decode cX12_sell 7 = .ok (.iload_n 2, 1) := by decide +kernel
theorem dX12_sell_8 : decode cX12_sell 8 = .ok (.iconst 0, 1) := by decide +kernel
theorem dX12_sell_9 : decode cX12_sell 9 = .ok (.bipush 99, 2) := by decide +kernel
theorem dX12_sell_11 : decode cX12_sell 11 = .ok (.invokestatic 142, 3) := by decide +kernel
theorem dX12_sell_14 : decode cX12_sell 14 = .ok (.ifCond .eq 12, 3) := by decide +kernel
theorem dX12_sell_17 : decode cX12_sell 17 = .ok (.iload_n 3, 1) := by decide +kernel
theorem dX12_sell_18 : decode cX12_sell 18 = .ok (.iconst 0, 1) := by decide +kernel
theorem dX12_sell_19 : decode cX12_sell 19 = .ok (.iconst 1, 1) := by decide +kernel
theorem dX12_sell_20 : decode cX12_sell 20 = .ok (.invokestatic 142, 3) := by decide +kernel
theorem dX12_sell_23 : decode cX12_sell 23 = .ok (.ifCond .ne 7, 3) := by decide +kernel
theorem dX12_sell_26 : decode cX12_sell 26 = .ok (.ldc_w 272, 3) := by decide +kernel
theorem dX12_sell_29 : decode cX12_sell 29 = .ok (.ireturn, 1) := by decide +kernel
theorem dX12_sell_30 : decode cX12_sell 30 = .ok (.aload_n 0, 1) := by decide +kernel
theorem dX12_sell_31 : decode cX12_sell 31 = .ok (.invokevirtual 273, 3) := by decide +kernel
theorem dX12_sell_34 : decode cX12_sell 34 = .ok (.iconst 0, 1) := by decide +kernel
theorem dX12_sell_35 : decode cX12_sell 35 = .ok (.istore 4, 2) := by decide +kernel
theorem dX12_sell_37 : decode cX12_sell 37 = .ok (.aload_n 0, 1) := by decide +kernel
theorem dX12_sell_38 : decode cX12_sell 38 = .ok (.invokevirtual 359, 3) := by decide +kernel
theorem dX12_sell_41 : decode cX12_sell 41 = .ok (.istore 5, 2) := by decide +kernel
theorem dX12_sell_43 : decode cX12_sell 43 = .ok (.iconst 1, 1) := by decide +kernel
theorem dX12_sell_44 : decode cX12_sell 44 = .ok (.istore 6, 2) := by decide +kernel
theorem dX12_sell_46 : decode cX12_sell 46 = .ok (.iload 6, 2) := by decide +kernel
theorem dX12_sell_48 : decode cX12_sell 48 = .ok (.iload_n 1, 1) := by decide +kernel
theorem dX12_sell_49 : decode cX12_sell 49 = .ok (.if_icmp .gt 42, 3) := by decide +kernel
theorem dX12_sell_52 : decode cX12_sell 52 = .ok (.aload_n 0, 1) := by decide +kernel
theorem dX12_sell_53 : decode cX12_sell 53 = .ok (.invokevirtual 282, 3) := by decide +kernel
theorem dX12_sell_56 : decode cX12_sell 56 = .ok (.aload_n 0, 1) := by decide +kernel
theorem dX12_sell_57 : decode cX12_sell 57 = .ok (.invokevirtual 359, 3) := by decide +kernel
theorem dX12_sell_60 : decode cX12_sell 60 = .ok (.iload_n 2, 1) := by decide +kernel
theorem dX12_sell_61 : decode cX12_sell 61 = .ok (.iload 6, 2) := by decide +kernel
theorem dX12_sell_63 : decode cX12_sell 63 = .ok (.imul, 1) := by decide +kernel
theorem dX12_sell_64 : decode cX12_sell 64 = .ok (.isub, 1) := by decide +kernel
theorem dX12_sell_65 : decode cX12_sell 65 = .ok (.istore 7, 2) := by decide +kernel
theorem dX12_sell_67 : decode cX12_sell 67 = .ok (.iload 7, 2) := by decide +kernel
theorem dX12_sell_69 : decode cX12_sell 69 = .ok (.iload 5, 2) := by decide +kernel
theorem dX12_sell_71 : decode cX12_sell 71 = .ok (.if_icmp .gt 6, 3) := by decide +kernel
theorem dX12_sell_74 : decode cX12_sell 74 = .ok (.goto 11, 3) := by decide +kernel
theorem dX12_sell_77 : decode cX12_sell 77 = .ok (.iload 6, 2) := by decide +kernel
theorem dX12_sell_79 : decode cX12_sell 79 = .ok (.istore 4, 2) := by decide +kernel
theorem dX12_sell_81 : decode cX12_sell 81 = .ok (.iload 7, 2) := by decide +kernel
theorem dX12_sell_83 : decode cX12_sell 83 = .ok (.istore 5, 2) := by decide +kernel
theorem dX12_sell_85 : decode cX12_sell 85 = .ok (.iinc 6 1, 3) := by decide +kernel
theorem dX12_sell_88 : decode cX12_sell 88 = .ok (.goto (-42), 3) := by decide +kernel
theorem dX12_sell_91 : decode cX12_sell 91 = .ok (.iload_n 3, 1) := by decide +kernel
theorem dX12_sell_92 : decode cX12_sell 92 = .ok (.ifCond .ne 8, 3) := by decide +kernel
theorem dX12_sell_95 : decode cX12_sell 95 = .ok (.iload 4, 2) := by decide +kernel
theorem dX12_sell_97 : decode cX12_sell 97 = .ok (.goto 5, 3) := by decide +kernel
theorem dX12_sell_100 : decode cX12_sell 100 = .ok (.iload 5, 2) := by decide +kernel
theorem dX12_sell_102 : decode cX12_sell 102 = .ok (.ireturn, 1) := by decide +kernel
theorem dX12_goneOf_0 : decode cX12_goneOf 0 = .ok (.iconst 0, 1) := by decide +kernel
theorem dX12_goneOf_1 : decode cX12_goneOf 1 = .ok (.istore_n 2, 1) := by decide +kernel
theorem dX12_goneOf_2 : decode cX12_goneOf 2 = .ok (.iconst 0, 1) := by decide +kernel
theorem dX12_goneOf_3 : decode cX12_goneOf 3 = .ok (.istore_n 3, 1) := by decide +kernel
theorem dX12_goneOf_4 : decode cX12_goneOf 4 = .ok (.iload_n 3, 1) := by decide +kernel
theorem dX12_goneOf_5 : decode cX12_goneOf 5 = .ok (.bipush 30, 2) := by decide +kernel
theorem dX12_goneOf_7 : decode cX12_goneOf 7 = .ok (.if_icmp .ge 39, 3) := by decide +kernel
theorem dX12_goneOf_10 : decode cX12_goneOf 10 = .ok (.aload_n 0, 1) := by decide +kernel
theorem dX12_goneOf_11 : decode cX12_goneOf 11 = .ok (.iload_n 3, 1) := by decide +kernel
theorem dX12_goneOf_12 : decode cX12_goneOf 12 = .ok (.invokevirtual 173, 3) := by decide +kernel
theorem dX12_goneOf_15 : decode cX12_goneOf 15 = .ok (.ifCond .eq 25, 3) := by decide +kernel
theorem dX12_goneOf_18 : decode cX12_goneOf 18 = .ok (.aload_n 0, 1) := by decide +kernel
theorem dX12_goneOf_19 : decode cX12_goneOf 19 = .ok (.getfield 27, 3) := by decide +kernel
theorem dX12_goneOf_22 : decode cX12_goneOf 22 = .ok (.iload_n 3, 1) := by decide +kernel
theorem dX12_goneOf_23 : decode cX12_goneOf 23 = .ok (.iaload, 1) := by decide +kernel
theorem dX12_goneOf_24 : decode cX12_goneOf 24 = .ok (.iload_n 1, 1) := by decide +kernel
theorem dX12_goneOf_25 : decode cX12_goneOf 25 = .ok (.if_icmp .ne 15, 3) := by decide +kernel
theorem dX12_goneOf_28 : decode cX12_goneOf 28 = .ok (.iload_n 2, 1) := by decide +kernel
theorem dX12_goneOf_29 : decode cX12_goneOf 29 = .ok (.bipush 99, 2) := by decide +kernel
theorem dX12_goneOf_31 : decode cX12_goneOf 31 = .ok (.aload_n 0, 1) := by decide +kernel
theorem dX12_goneOf_32 : decode cX12_goneOf 32 = .ok (.getfield 21, 3) := by decide +kernel
theorem dX12_goneOf_35 : decode cX12_goneOf 35 = .ok (.iload_n 3, 1) := by decide +kernel
theorem dX12_goneOf_36 : decode cX12_goneOf 36 = .ok (.iaload, 1) := by decide +kernel
theorem dX12_goneOf_37 : decode cX12_goneOf 37 = .ok (.isub, 1) := by decide +kernel
theorem dX12_goneOf_38 : decode cX12_goneOf 38 = .ok (.iadd, 1) := by decide +kernel
theorem dX12_goneOf_39 : decode cX12_goneOf 39 = .ok (.istore_n 2, 1) := by decide +kernel
theorem dX12_goneOf_40 : decode cX12_goneOf 40 = .ok (.iinc 3 1, 3) := by decide +kernel
theorem dX12_goneOf_43 : decode cX12_goneOf 43 = .ok (.goto (-39), 3) := by decide +kernel
theorem dX12_goneOf_46 : decode cX12_goneOf 46 = .ok (.iload_n 2, 1) := by decide +kernel
theorem dX12_goneOf_47 : decode cX12_goneOf 47 = .ok (.ireturn, 1) := by decide +kernel
theorem dX12_whose_0 : decode cX12_whose 0 = .ok (.bipush (-2), 2) := by decide +kernel
theorem dX12_whose_2 : decode cX12_whose 2 = .ok (.istore_n 1, 1) := by decide +kernel
theorem dX12_whose_3 : decode cX12_whose 3 = .ok (.iconst 0, 1) := by decide +kernel
theorem dX12_whose_4 : decode cX12_whose 4 = .ok (.istore_n 2, 1) := by decide +kernel
theorem dX12_whose_5 : decode cX12_whose 5 = .ok (.iconst 0, 1) := by decide +kernel
theorem dX12_whose_6 : decode cX12_whose 6 = .ok (.istore_n 3, 1) := by decide +kernel
theorem dX12_whose_7 : decode cX12_whose 7 = .ok (.iload_n 3, 1) := by decide +kernel
theorem dX12_whose_8 : decode cX12_whose 8 = .ok (.bipush 10, 2) := by decide +kernel
theorem dX12_whose_10 : decode cX12_whose 10 = .ok (.if_icmp .ge 29, 3) := by decide +kernel
theorem dX12_whose_13 : decode cX12_whose 13 = .ok (.aload_n 0, 1) := by decide +kernel
theorem dX12_whose_14 : decode cX12_whose 14 = .ok (.iload_n 3, 1) := by decide +kernel
theorem dX12_whose_15 : decode cX12_whose 15 = .ok (.invokevirtual 362, 3) := by decide +kernel
theorem dX12_whose_18 : decode cX12_whose 18 = .ok (.iload_n 2, 1) := by decide +kernel
theorem dX12_whose_19 : decode cX12_whose 19 = .ok (.if_icmp .gt 6, 3) := by decide +kernel
theorem dX12_whose_22 : decode cX12_whose 22 = .ok (.goto 11, 3) := by decide +kernel
theorem dX12_whose_25 : decode cX12_whose 25 = .ok (.iload_n 3, 1) := by decide +kernel
theorem dX12_whose_26 : decode cX12_whose 26 = .ok (.istore_n 1, 1) := by decide +kernel
theorem dX12_whose_27 : decode cX12_whose 27 = .ok (.aload_n 0, 1) := by decide +kernel
theorem dX12_whose_28 : decode cX12_whose 28 = .ok (.iload_n 3, 1) := by decide +kernel
theorem dX12_whose_29 : decode cX12_whose 29 = .ok (.invokevirtual 362, 3) := by decide +kernel
theorem dX12_whose_32 : decode cX12_whose 32 = .ok (.istore_n 2, 1) := by decide +kernel
theorem dX12_whose_33 : decode cX12_whose 33 = .ok (.iinc 3 1, 3) := by decide +kernel
theorem dX12_whose_36 : decode cX12_whose 36 = .ok (.goto (-29), 3) := by decide +kernel
theorem dX12_whose_39 : decode cX12_whose 39 = .ok (.iload_n 1, 1) := by decide +kernel
theorem dX12_whose_40 : decode cX12_whose 40 = .ok (.ireturn, 1) := by decide +kernel
theorem dX12_wrongDay_0 : decode cX12_wrongDay 0 = .ok (.aload_n 0, 1) := by decide +kernel
theorem dX12_wrongDay_1 : decode cX12_wrongDay 1 = .ok (.invokevirtual 273, 3) := by decide +kernel
theorem dX12_wrongDay_4 : decode cX12_wrongDay 4 = .ok (.iconst 0, 1) := by decide +kernel
theorem dX12_wrongDay_5 : decode cX12_wrongDay 5 = .ok (.istore_n 3, 1) := by decide +kernel
theorem dX12_wrongDay_6 : decode cX12_wrongDay 6 = .ok (.iload_n 3, 1) := by decide +kernel
theorem dX12_wrongDay_7 : decode cX12_wrongDay 7 = .ok (.bipush 41, 2) := by decide +kernel
theorem dX12_wrongDay_9 : decode cX12_wrongDay 9 = .ok (.if_icmp .ge 51, 3) := by decide +kernel
theorem dX12_wrongDay_12 : decode cX12_wrongDay 12 = .ok (.iload_n 3, 1) := by decide +kernel
theorem dX12_wrongDay_13 : decode cX12_wrongDay 13 = .ok (.aload_n 0, 1) := by decide +kernel
theorem dX12_wrongDay_14 : decode cX12_wrongDay 14 = .ok (.getfield 129, 3) := by decide +kernel
theorem dX12_wrongDay_17 : decode cX12_wrongDay 17 = .ok (.iload_n 1, 1) := by decide +kernel
theorem dX12_wrongDay_18 : decode cX12_wrongDay 18 = .ok (.iaload, 1) := by decide +kernel
theorem dX12_wrongDay_19 : decode cX12_wrongDay 19 = .ok (.if_icmp .ge 41, 3) := by decide +kernel
theorem dX12_wrongDay_22 : decode cX12_wrongDay 22 = .ok (.aload_n 0, 1) := by decide +kernel
theorem dX12_wrongDay_23 : decode cX12_wrongDay 23 = .ok (.iload_n 1, 1) := by decide +kernel
theorem dX12_wrongDay_24 : decode cX12_wrongDay 24 = .ok (.iload_n 3, 1) := by decide +kernel
theorem dX12_wrongDay_25 : decode cX12_wrongDay 25 = .ok (.invokevirtual 350, 3) := by decide +kernel
theorem dX12_wrongDay_28 : decode cX12_wrongDay 28 = .ok (.istore 4, 2) := by decide +kernel
theorem dX12_wrongDay_30 : decode cX12_wrongDay 30 = .ok (.iload 4, 2) := by decide +kernel
theorem dX12_wrongDay_32 : decode cX12_wrongDay 32 = .ok (.bipush 100, 2) := by decide +kernel
theorem dX12_wrongDay_34 : decode cX12_wrongDay 34 = .ok (.if_icmp .eq 16, 3) := by decide +kernel
theorem dX12_wrongDay_37 : decode cX12_wrongDay 37 = .ok (.iload 4, 2) := by decide +kernel
theorem dX12_wrongDay_39 : decode cX12_wrongDay 39 = .ok (.aload_n 0, 1) := by decide +kernel
theorem dX12_wrongDay_40 : decode cX12_wrongDay 40 = .ok (.getfield 83, 3) := by decide +kernel
theorem dX12_wrongDay_43 : decode cX12_wrongDay 43 = .ok (.iload_n 2, 1) := by decide +kernel
theorem dX12_wrongDay_44 : decode cX12_wrongDay 44 = .ok (.iaload, 1) := by decide +kernel
theorem dX12_wrongDay_45 : decode cX12_wrongDay 45 = .ok (.if_icmp .eq 5, 3) := by decide +kernel
theorem dX12_wrongDay_48 : decode cX12_wrongDay 48 = .ok (.iload_n 3, 1) := by decide +kernel
theorem dX12_wrongDay_49 : decode cX12_wrongDay 49 = .ok (.ireturn, 1) := by decide +kernel
theorem dX12_wrongDay_50 : decode cX12_wrongDay 50 = .ok (.aload_n 0, 1) := by decide +kernel
theorem dX12_wrongDay_51 : decode cX12_wrongDay 51 = .ok (.invokevirtual 282, 3) := by decide +kernel
theorem dX12_wrongDay_54 : decode cX12_wrongDay 54 = .ok (.iinc 3 1, 3) := by decide +kernel
theorem dX12_wrongDay_57 : decode cX12_wrongDay 57 = .ok (.goto (-51), 3) := by decide +kernel
theorem dX12_wrongDay_60 : decode cX12_wrongDay 60 = .ok (.bipush (-2), 2) := by decide +kernel
theorem dX12_wrongDay_62 : decode cX12_wrongDay 62 = .ok (.ireturn, 1) := by decide +kernel
theorem dX12_judge_0 : decode cX12_judge 0 = .ok (.iload_n 1, 1) := by decide +kernel
theorem dX12_judge_1 : decode cX12_judge 1 = .ok (.invokestatic 154, 3) := by decide +kernel
theorem dX12_judge_4 : decode cX12_judge 4 = .ok (.ifCond .eq 11, 3) := by decide +kernel
theorem dX12_judge_7 : decode cX12_judge 7 = .ok (.aload_n 0, 1) := by decide +kernel
theorem dX12_judge_8 : decode cX12_judge 8 = .ok (.iload_n 2, 1) := by decide +kernel
theorem dX12_judge_9 : decode cX12_judge 9 = .ok (.invokevirtual 173, 3) := by decide +kernel
theorem dX12_judge_12 : decode cX12_judge 12 = .ok (.ifCond .ne 5, 3) := by decide +kernel
theorem dX12_judge_15 : decode cX12_judge 15 = .ok (.iconst (-1), 1) := by decide +kernel
theorem dX12_judge_16 : decode cX12_judge 16 = .ok (.ireturn, 1) := by decide +kernel
theorem dX12_judge_17 : decode cX12_judge 17 = .ok (.aload_n 0, 1) := by decide +kernel
theorem dX12_judge_18 : decode cX12_judge 18 = .ok (.iload_n 1, 1) := by decide +kernel
theorem dX12_judge_19 : decode cX12_judge 19 = .ok (.invokevirtual 356, 3) := by decide +kernel
theorem dX12_judge_22 : decode cX12_judge 22 = .ok (.ifCond .ge 11, 3) := by decide +kernel
theorem dX12_judge_25 : decode cX12_judge 25 = .ok (.aload_n 0, 1) := by decide +kernel
theorem dX12_judge_26 : decode cX12_judge 26 = .ok (.iload_n 1, 1) := by decide +kernel
theorem dX12_judge_27 : decode cX12_judge 27 = .ok (.invokevirtual 356, 3) := by decide +kernel
theorem dX12_judge_30 : decode cX12_judge 30 = .ok (.goto 9, 3) := by decide +kernel
theorem dX12_judge_33 : decode cX12_judge 33 = .ok (.aload_n 0, 1) := by decide +kernel
theorem dX12_judge_34 : decode cX12_judge 34 = .ok (.iload_n 1, 1) := by decide +kernel
theorem dX12_judge_35 : decode cX12_judge 35 = .ok (.iload_n 2, 1) := by decide +kernel
theorem dX12_judge_36 : decode cX12_judge 36 = .ok (.invokevirtual 365, 3) := by decide +kernel
theorem dX12_judge_39 : decode cX12_judge 39 = .ok (.ireturn, 1) := by decide +kernel
theorem dX12_saltedBits_0 : decode cX12_saltedBits 0 = .ok (.aload_n 0, 1) := by decide +kernel
theorem dX12_saltedBits_1 : decode cX12_saltedBits 1 = .ok (.getfield 24, 3) := by decide +kernel
theorem dX12_saltedBits_4 : decode cX12_saltedBits 4 = .ok (.iload_n 3, 1) := by decide +kernel
theorem dX12_saltedBits_5 : decode cX12_saltedBits 5 = .ok (.iaload, 1) := by decide +kernel
theorem dX12_saltedBits_6 : decode cX12_saltedBits 6 = .ok (.istore 4, 2) := by decide +kernel
theorem dX12_saltedBits_8 : decode cX12_saltedBits 8 = .ok (.iconst 0, 1) := by decide +kernel
theorem dX12_saltedBits_9 : decode cX12_saltedBits 9 = .ok (.istore 5, 2) := by decide +kernel
theorem dX12_saltedBits_11 : decode cX12_saltedBits 11 = .ok (.iconst 0, 1) := by decide +kernel
theorem dX12_saltedBits_12 : decode cX12_saltedBits 12 = .ok (.istore 6, 2) := by decide +kernel
theorem dX12_saltedBits_14 : decode cX12_saltedBits 14 = .ok (.iload 6, 2) := by decide +kernel
theorem dX12_saltedBits_16 : decode cX12_saltedBits 16 = .ok (.iconst 2, 1) := by decide +kernel
theorem dX12_saltedBits_17 : decode cX12_saltedBits 17 = .ok (.if_icmp .ge 35, 3) := by decide +kernel
theorem dX12_saltedBits_20 : decode cX12_saltedBits 20 = .ok (.aload_n 0, 1) := by decide +kernel
theorem dX12_saltedBits_21 : decode cX12_saltedBits 21 = .ok (.getfield 24, 3) := by decide +kernel
theorem dX12_saltedBits_24 : decode cX12_saltedBits 24 = .ok (.iload_n 3, 1) := by decide +kernel
theorem dX12_saltedBits_25 : decode cX12_saltedBits 25 = .ok (.iload 6, 2) := by decide +kernel
theorem dX12_saltedBits_27 : decode cX12_saltedBits 27 = .ok (.iastore, 1) := by decide +kernel
theorem dX12_saltedBits_28 : decode cX12_saltedBits 28 = .ok (.aload_n 0, 1) := by decide +kernel
theorem dX12_saltedBits_29 : decode cX12_saltedBits 29 = .ok (.iload_n 1, 1) := by decide +kernel
theorem dX12_saltedBits_30 : decode cX12_saltedBits 30 = .ok (.iload_n 2, 1) := by decide +kernel
theorem dX12_saltedBits_31 : decode cX12_saltedBits 31 = .ok (.invokevirtual 365, 3) := by decide +kernel
theorem dX12_saltedBits_34 : decode cX12_saltedBits 34 = .ok (.ifCond .ge 12, 3) := by decide +kernel
theorem dX12_saltedBits_37 : decode cX12_saltedBits 37 = .ok (.iload 5, 2) := by decide +kernel
theorem dX12_saltedBits_39 : decode cX12_saltedBits 39 = .ok (.iconst 1, 1) := by decide +kernel
theorem dX12_saltedBits_40 : decode cX12_saltedBits 40 = .ok (.iload 6, 2) := by decide +kernel
theorem dX12_saltedBits_42 : decode cX12_saltedBits 42 = .ok (.ishl, 1) := by decide +kernel
theorem dX12_saltedBits_43 : decode cX12_saltedBits 43 = .ok (.ior, 1) := by decide +kernel
theorem dX12_saltedBits_44 : decode cX12_saltedBits 44 = .ok (.istore 5, 2) := by decide +kernel
theorem dX12_saltedBits_46 : decode cX12_saltedBits 46 = .ok (.iinc 6 1, 3) := by decide +kernel
theorem dX12_saltedBits_49 : decode cX12_saltedBits 49 = .ok (.goto (-35), 3) := by decide +kernel
theorem dX12_saltedBits_52 : decode cX12_saltedBits 52 = .ok (.aload_n 0, 1) := by decide +kernel
theorem dX12_saltedBits_53 : decode cX12_saltedBits 53 = .ok (.getfield 24, 3) := by decide +kernel
theorem dX12_saltedBits_56 : decode cX12_saltedBits 56 = .ok (.iload_n 3, 1) := by decide +kernel
theorem dX12_saltedBits_57 : decode cX12_saltedBits 57 = .ok (.iload 4, 2) := by decide +kernel
theorem dX12_saltedBits_59 : decode cX12_saltedBits 59 = .ok (.iastore, 1) := by decide +kernel
theorem dX12_saltedBits_60 : decode cX12_saltedBits 60 = .ok (.iload 5, 2) := by decide +kernel
theorem dX12_saltedBits_62 : decode cX12_saltedBits 62 = .ok (.ireturn, 1) := by decide +kernel
theorem dX12_book_0 : decode cX12_book 0 = .ok (.iload_n 1, 1) := by decide +kernel
theorem dX12_book_1 : decode cX12_book 1 = .ok (.invokestatic 154, 3) := by decide +kernel
theorem dX12_book_4 : decode cX12_book 4 = .ok (.ifCond .eq 38, 3) := by decide +kernel
theorem dX12_book_7 : decode cX12_book 7 = .ok (.iload_n 2, 1) := by decide +kernel
theorem dX12_book_8 : decode cX12_book 8 = .ok (.ifCond .lt 34, 3) := by decide +kernel
theorem dX12_book_11 : decode cX12_book 11 = .ok (.aload_n 0, 1) := by decide +kernel
theorem dX12_book_12 : decode cX12_book 12 = .ok (.iload_n 2, 1) := by decide +kernel
theorem dX12_book_13 : decode cX12_book 13 = .ok (.bipush 100, 2) := by decide +kernel
theorem dX12_book_15 : decode cX12_book 15 = .ok (.idiv, 1) := by decide +kernel
theorem dX12_book_16 : decode cX12_book 16 = .ok (.invokevirtual 173, 3) := by decide +kernel
theorem dX12_book_19 : decode cX12_book 19 = .ok (.ifCond .eq 23, 3) := by decide +kernel
theorem dX12_book_22 : decode cX12_book 22 = .ok (.aload_n 0, 1) := by decide +kernel
theorem dX12_book_23 : decode cX12_book 23 = .ok (.iload_n 2, 1) := by decide +kernel
theorem dX12_book_24 : decode cX12_book 24 = .ok (.bipush 100, 2) := by decide +kernel
theorem dX12_book_26 : decode cX12_book 26 = .ok (.irem, 1) := by decide +kernel
theorem dX12_book_27 : decode cX12_book 27 = .ok (.invokevirtual 173, 3) := by decide +kernel
theorem dX12_book_30 : decode cX12_book 30 = .ok (.ifCond .eq 12, 3) := by decide +kernel
theorem dX12_book_33 : decode cX12_book 33 = .ok (.iload_n 3, 1) := by decide +kernel
theorem dX12_book_34 : decode cX12_book 34 = .ok (.iconst 0, 1) := by decide +kernel
theorem dX12_book_35 : decode cX12_book 35 = .ok (.iconst 2, 1) := by decide +kernel
theorem dX12_book_36 : decode cX12_book 36 = .ok (.invokestatic 142, 3) := by decide +kernel
theorem dX12_book_39 : decode cX12_book 39 = .ok (.ifCond .ne 5, 3) := by decide +kernel
theorem dX12_book_42 : decode cX12_book 42 = .ok (.iconst (-1), 1) := by decide +kernel
theorem dX12_book_43 : decode cX12_book 43 = .ok (.ireturn, 1) := by decide +kernel
theorem dX12_book_44 : decode cX12_book 44 = .ok (.aload_n 0, 1) := by decide +kernel
theorem dX12_book_45 : decode cX12_book 45 = .ok (.iload_n 1, 1) := by decide +kernel
theorem dX12_book_46 : decode cX12_book 46 = .ok (.invokevirtual 356, 3) := by decide +kernel
theorem dX12_book_49 : decode cX12_book 49 = .ok (.ifCond .ge 9, 3) := by decide +kernel
theorem dX12_book_52 : decode cX12_book 52 = .ok (.aload_n 0, 1) := by decide +kernel
theorem dX12_book_53 : decode cX12_book 53 = .ok (.iload_n 1, 1) := by decide +kernel
theorem dX12_book_54 : decode cX12_book 54 = .ok (.invokevirtual 356, 3) := by decide +kernel
theorem dX12_book_57 : decode cX12_book 57 = .ok (.ireturn, 1) := by decide +kernel
theorem dX12_book_58 : decode cX12_book 58 = .ok (.iload_n 2, 1) := by decide +kernel
theorem dX12_book_59 : decode cX12_book 59 = .ok (.bipush 100, 2) := by decide +kernel
theorem dX12_book_61 : decode cX12_book 61 = .ok (.irem, 1) := by decide +kernel
theorem dX12_book_62 : decode cX12_book 62 = .ok (.istore 4, 2) := by decide +kernel
theorem dX12_book_64 : decode cX12_book 64 = .ok (.iload_n 3, 1) := by decide +kernel
theorem dX12_book_65 : decode cX12_book 65 = .ok (.iconst 2, 1) := by decide +kernel
theorem dX12_book_66 : decode cX12_book 66 = .ok (.if_icmp .ne 15, 3) := by decide +kernel
theorem dX12_book_69 : decode cX12_book 69 = .ok (.aload_n 0, 1) := by decide +kernel
theorem dX12_book_70 : decode cX12_book 70 = .ok (.iload_n 1, 1) := by decide +kernel
theorem dX12_book_71 : decode cX12_book 71 = .ok (.iload_n 2, 1) := by decide +kernel
theorem dX12_book_72 : decode cX12_book 72 = .ok (.bipush 100, 2) := by decide +kernel
theorem dX12_book_74 : decode cX12_book 74 = .ok (.idiv, 1) := by decide +kernel
theorem dX12_book_75 : decode cX12_book 75 = .ok (.iload 4, 2) := by decide +kernel
theorem dX12_book_77 : decode cX12_book 77 = .ok (.invokevirtual 368, 3) := by decide +kernel
theorem dX12_book_80 : decode cX12_book 80 = .ok (.ireturn, 1) := by decide +kernel
theorem dX12_book_81 : decode cX12_book 81 = .ok (.aload_n 0, 1) := by decide +kernel
theorem dX12_book_82 : decode cX12_book 82 = .ok (.getfield 15, 3) := by decide +kernel
theorem dX12_book_85 : decode cX12_book 85 = .ok (.iload 4, 2) := by decide +kernel
theorem dX12_book_87 : decode cX12_book 87 = .ok (.iaload, 1) := by decide +kernel
theorem dX12_book_88 : decode cX12_book 88 = .ok (.istore 5, 2) := by decide +kernel
theorem dX12_book_90 : decode cX12_book 90 = .ok (.iconst 0, 1) := by decide +kernel
theorem dX12_book_91 : decode cX12_book 91 = .ok (.istore 6, 2) := by decide +kernel
theorem dX12_book_93 : decode cX12_book 93 = .ok (.bipush (-2), 2) := by decide +kernel
theorem dX12_book_95 : decode cX12_book 95 = .ok (.istore 7, 2) := by decide +kernel
theorem dX12_book_97 : decode cX12_book 97 = .ok (.iconst 0, 1) := by decide +kernel
theorem dX12_book_98 : decode cX12_book 98 = .ok (.istore 8, 2) := by decide +kernel
theorem dX12_book_100 : decode cX12_book 100 = .ok (.iload 8, 2) := by decide +kernel
theorem dX12_book_102 : decode cX12_book 102 = .ok (.bipush 9, 2) := by decide +kernel
theorem dX12_book_104 : decode cX12_book 104 = .ok (.if_icmp .gt 45, 3) := by decide +kernel
theorem dX12_book_107 : decode cX12_book 107 = .ok (.aload_n 0, 1) := by decide +kernel
theorem dX12_book_108 : decode cX12_book 108 = .ok (.getfield 15, 3) := by decide +kernel
theorem dX12_book_111 : decode cX12_book 111 = .ok (.iload 4, 2) := by decide +kernel
theorem dX12_book_113 : decode cX12_book 113 = .ok (.iload 8, 2) := by decide +kernel
theorem dX12_book_115 : decode cX12_book 115 = .ok (.iastore, 1) := by decide +kernel
theorem dX12_book_116 : decode cX12_book 116 = .ok (.aload_n 0, 1) := by decide +kernel
theorem dX12_book_117 : decode cX12_book 117 = .ok (.iload_n 1, 1) := by decide +kernel
theorem dX12_book_118 : decode cX12_book 118 = .ok (.iload_n 2, 1) := by decide +kernel
theorem dX12_book_119 : decode cX12_book 119 = .ok (.bipush 100, 2) := by decide +kernel
theorem dX12_book_121 : decode cX12_book 121 = .ok (.idiv, 1) := by decide +kernel
theorem dX12_book_122 : decode cX12_book 122 = .ok (.invokevirtual 365, 3) := by decide +kernel
theorem dX12_book_125 : decode cX12_book 125 = .ok (.ifCond .lt 6, 3) := by decide +kernel
theorem dX12_book_128 : decode cX12_book 128 = .ok (.goto 15, 3) := by decide +kernel
theorem dX12_book_131 : decode cX12_book 131 = .ok (.iload 6, 2) := by decide +kernel
theorem dX12_book_133 : decode cX12_book 133 = .ok (.ifCond .ne 7, 3) := by decide +kernel
theorem dX12_book_136 : decode cX12_book 136 = .ok (.iload 8, 2) := by decide +kernel
theorem dX12_book_138 : decode cX12_book 138 = .ok (.istore 7, 2) := by decide +kernel
theorem dX12_book_140 : decode cX12_book 140 = .ok (.iinc 6 1, 3) := by decide +kernel
theorem dX12_book_143 : decode cX12_book 143 = .ok (.iinc 8 1, 3) := by decide +kernel
theorem dX12_book_146 : decode cX12_book 146 = .ok (.goto (-46), 3) := by decide +kernel
theorem dX12_book_149 : decode cX12_book 149 = .ok (.aload_n 0, 1) := by decide +kernel
theorem dX12_book_150 : decode cX12_book 150 = .ok (.getfield 15, 3) := by decide +kernel
theorem dX12_book_153 : decode cX12_book 153 = .ok (.iload 4, 2) := by decide +kernel
theorem dX12_book_155 : decode cX12_book 155 = .ok (.iload 5, 2) := by decide +kernel
theorem dX12_book_157 : decode cX12_book 157 = .ok (.iastore, 1) := by decide +kernel
theorem dX12_book_158 : decode cX12_book 158 = .ok (.iload_n 3, 1) := by decide +kernel
theorem dX12_book_159 : decode cX12_book 159 = .ok (.ifCond .ne 8, 3) := by decide +kernel
theorem dX12_book_162 : decode cX12_book 162 = .ok (.iload 6, 2) := by decide +kernel
theorem dX12_book_164 : decode cX12_book 164 = .ok (.goto 5, 3) := by decide +kernel
theorem dX12_book_167 : decode cX12_book 167 = .ok (.iload 7, 2) := by decide +kernel
theorem dX12_book_169 : decode cX12_book 169 = .ok (.ireturn, 1) := by decide +kernel
theorem dX12_wetNow_0 : decode cX12_wetNow 0 = .ok (.aload_n 0, 1) := by decide +kernel
theorem dX12_wetNow_1 : decode cX12_wetNow 1 = .ok (.getfield 77, 3) := by decide +kernel
theorem dX12_wetNow_4 : decode cX12_wetNow 4 = .ok (.iload_n 1, 1) := by decide +kernel
theorem dX12_wetNow_5 : decode cX12_wetNow 5 = .ok (.iaload, 1) := by decide +kernel
theorem dX12_wetNow_6 : decode cX12_wetNow 6 = .ok (.ifCond .ne 4, 3) := by decide +kernel
theorem dX12_wetNow_9 : decode cX12_wetNow 9 = .ok (.return_, 1) := by decide +kernel
theorem dX12_wetNow_10 : decode cX12_wetNow 10 = .ok (.iconst 5, 1) := by decide +kernel
theorem dX12_wetNow_11 : decode cX12_wetNow 11 = .ok (.iload_n 1, 1) := by decide +kernel
theorem dX12_wetNow_12 : decode cX12_wetNow 12 = .ok (.imul, 1) := by decide +kernel
theorem dX12_wetNow_13 : decode cX12_wetNow 13 = .ok (.aload_n 0, 1) := by decide +kernel
theorem dX12_wetNow_14 : decode cX12_wetNow 14 = .ok (.getfield 77, 3) := by decide +kernel
theorem dX12_wetNow_17 : decode cX12_wetNow 17 = .ok (.iload_n 1, 1) := by decide +kernel
theorem dX12_wetNow_18 : decode cX12_wetNow 18 = .ok (.iaload, 1) := by decide +kernel
theorem dX12_wetNow_19 : decode cX12_wetNow 19 = .ok (.iadd, 1) := by decide +kernel
theorem dX12_wetNow_20 : decode cX12_wetNow 20 = .ok (.iconst 1, 1) := by decide +kernel
theorem dX12_wetNow_21 : decode cX12_wetNow 21 = .ok (.isub, 1) := by decide +kernel
theorem dX12_wetNow_22 : decode cX12_wetNow 22 = .ok (.istore_n 2, 1) := by decide +kernel
theorem dX12_wetNow_23 : decode cX12_wetNow 23 = .ok (.aload_n 0, 1) := by decide +kernel
theorem dX12_wetNow_24 : decode cX12_wetNow 24 = .ok (.getfield 80, 3) := by decide +kernel
theorem dX12_wetNow_27 : decode cX12_wetNow 27 = .ok (.iload_n 2, 1) := by decide +kernel
theorem dX12_wetNow_28 : decode cX12_wetNow 28 = .ok (.aload_n 0, 1) := by decide +kernel
theorem dX12_wetNow_29 : decode cX12_wetNow 29 = .ok (.getfield 80, 3) := by decide +kernel
theorem dX12_wetNow_32 : decode cX12_wetNow 32 = .ok (.iload_n 2, 1) := by decide +kernel
theorem dX12_wetNow_33 : decode cX12_wetNow 33 = .ok (.iaload, 1) := by decide +kernel
theorem dX12_wetNow_34 : decode cX12_wetNow 34 = .ok (.bipush 7, 2) := by decide +kernel
theorem dX12_wetNow_36 : decode cX12_wetNow 36 = .ok (.if_icmp .le 8, 3) := by decide +kernel
theorem dX12_wetNow_39 : decode cX12_wetNow 39 = .ok (.bipush 9, 2) := by decide +kernel
theorem dX12_wetNow_41 : decode cX12_wetNow 41 = .ok (.goto 11, 3) := by decide +kernel
theorem dX12_wetNow_44 : decode cX12_wetNow 44 = .ok (.aload_n 0, 1) := by decide +kernel
theorem dX12_wetNow_45 : decode cX12_wetNow 45 = .ok (.getfield 80, 3) := by decide +kernel
theorem dX12_wetNow_48 : decode cX12_wetNow 48 = .ok (.iload_n 2, 1) := by decide +kernel
theorem dX12_wetNow_49 : decode cX12_wetNow 49 = .ok (.iaload, 1) := by decide +kernel
theorem dX12_wetNow_50 : decode cX12_wetNow 50 = .ok (.iconst 2, 1) := by decide +kernel
theorem dX12_wetNow_51 : decode cX12_wetNow 51 = .ok (.iadd, 1) := by decide +kernel
theorem dX12_wetNow_52 : decode cX12_wetNow 52 = .ok (.iastore, 1) := by decide +kernel
theorem dX12_wetNow_53 : decode cX12_wetNow 53 = .ok (.return_, 1) := by decide +kernel
theorem dX12_endsHot_0 : decode cX12_endsHot 0 = .ok (.aload_n 0, 1) := by decide +kernel
theorem dX12_endsHot_1 : decode cX12_endsHot 1 = .ok (.invokevirtual 273, 3) := by decide +kernel
theorem dX12_endsHot_4 : decode cX12_endsHot 4 = .ok (.iconst 0, 1) := by decide +kernel
theorem dX12_endsHot_5 : decode cX12_endsHot 5 = .ok (.istore_n 1, 1) := by decide +kernel
theorem dX12_endsHot_6 : decode cX12_endsHot 6 = .ok (.iload_n 1, 1) := by decide +kernel
theorem dX12_endsHot_7 : decode cX12_endsHot 7 = .ok (.aload_n 0, 1) := by decide +kernel
theorem dX12_endsHot_8 : decode cX12_endsHot 8 = .ok (.getfield 371, 3) := by decide +kernel
theorem dX12_endsHot_11 : decode cX12_endsHot 11 = .ok (.if_icmp .ge 52, 3) := by decide +kernel
theorem dX12_endsHot_14 : decode cX12_endsHot 14 = .ok (.aload_n 0, 1) := by decide +kernel
theorem dX12_endsHot_15 : decode cX12_endsHot 15 = .ok (.getfield 104, 3) := by decide +kernel
theorem dX12_endsHot_18 : decode cX12_endsHot 18 = .ok (.iload_n 1, 1) := by decide +kernel
theorem dX12_endsHot_19 : decode cX12_endsHot 19 = .ok (.iaload, 1) := by decide +kernel
theorem dX12_endsHot_20 : decode cX12_endsHot 20 = .ok (.bipush 6, 2) := by decide +kernel
theorem dX12_endsHot_22 : decode cX12_endsHot 22 = .ok (.if_icmp .ne 6, 3) := by decide +kernel
theorem dX12_endsHot_25 : decode cX12_endsHot 25 = .ok (.goto 32, 3) := by decide +kernel
theorem dX12_endsHot_28 : decode cX12_endsHot 28 = .ok (.iload_n 1, 1) := by decide +kernel
theorem dX12_endsHot_29 : decode cX12_endsHot 29 = .ok (.iconst 2, 1) := by decide +kernel
theorem dX12_endsHot_30 : decode cX12_endsHot 30 = .ok (.irem, 1) := by decide +kernel
theorem dX12_endsHot_31 : decode cX12_endsHot 31 = .ok (.ifCond .ne 16, 3) := by decide +kernel
theorem dX12_endsHot_34 : decode cX12_endsHot 34 = .ok (.aload_n 0, 1) := by decide +kernel
theorem dX12_endsHot_35 : decode cX12_endsHot 35 = .ok (.aload_n 0, 1) := by decide +kernel
theorem dX12_endsHot_36 : decode cX12_endsHot 36 = .ok (.getfield 104, 3) := by decide +kernel
theorem dX12_endsHot_39 : decode cX12_endsHot 39 = .ok (.iload_n 1, 1) := by decide +kernel
theorem dX12_endsHot_40 : decode cX12_endsHot 40 = .ok (.iaload, 1) := by decide +kernel
theorem dX12_endsHot_41 : decode cX12_endsHot 41 = .ok (.invokevirtual 331, 3) := by decide +kernel
theorem dX12_endsHot_44 : decode cX12_endsHot 44 = .ok (.goto 13, 3) := by decide +kernel
theorem dX12_endsHot_47 : decode cX12_endsHot 47 = .ok (.aload_n 0, 1) := by decide +kernel
theorem dX12_endsHot_48 : decode cX12_endsHot 48 = .ok (.aload_n 0, 1) := by decide +kernel
theorem dX12_endsHot_49 : decode cX12_endsHot 49 = .ok (.getfield 104, 3) := by decide +kernel
theorem dX12_endsHot_52 : decode cX12_endsHot 52 = .ok (.iload_n 1, 1) := by decide +kernel
theorem dX12_endsHot_53 : decode cX12_endsHot 53 = .ok (.iaload, 1) := by decide +kernel
theorem dX12_endsHot_54 : decode cX12_endsHot 54 = .ok (.invokevirtual 374, 3) := by decide +kernel
theorem dX12_endsHot_57 : decode cX12_endsHot 57 = .ok (.iinc 1 1, 3) := by decide +kernel
theorem dX12_endsHot_60 : decode cX12_endsHot 60 = .ok (.goto (-54), 3) := by decide +kernel
theorem dX12_endsHot_63 : decode cX12_endsHot 63 = .ok (.aload_n 0, 1) := by decide +kernel
theorem dX12_endsHot_64 : decode cX12_endsHot 64 = .ok (.aload_n 0, 1) := by decide +kernel
theorem dX12_endsHot_65 : decode cX12_endsHot 65 = .ok (.getfield 377, 3) := by decide +kernel
theorem dX12_endsHot_68 : decode cX12_endsHot 68 = .ok (.invokevirtual 291, 3) := by decide +kernel
theorem dX12_endsHot_71 : decode cX12_endsHot 71 = .ok (.aload_n 0, 1) := by decide +kernel
theorem dX12_endsHot_72 : decode cX12_endsHot 72 = .ok (.invokevirtual 295, 3) := by decide +kernel
theorem dX12_endsHot_75 : decode cX12_endsHot 75 = .ok (.ireturn, 1) := by decide +kernel
theorem dX12_byDeed_0 : decode cX12_byDeed 0 = .ok (.aload_n 0, 1) := by decide +kernel
theorem dX12_byDeed_1 : decode cX12_byDeed 1 = .ok (.getfield 104, 3) := by decide +kernel
theorem dX12_byDeed_4 : decode cX12_byDeed 4 = .ok (.iload_n 1, 1) := by decide +kernel
theorem dX12_byDeed_5 : decode cX12_byDeed 5 = .ok (.iload_n 2, 1) := by decide +kernel
theorem dX12_byDeed_6 : decode cX12_byDeed 6 = .ok (.iastore, 1) := by decide +kernel
theorem dX12_byDeed_7 : decode cX12_byDeed 7 = .ok (.aload_n 0, 1) := by decide +kernel
theorem dX12_byDeed_8 : decode cX12_byDeed 8 = .ok (.iload_n 1, 1) := by decide +kernel
theorem dX12_byDeed_9 : decode cX12_byDeed 9 = .ok (.iconst 1, 1) := by decide +kernel
theorem dX12_byDeed_10 : decode cX12_byDeed 10 = .ok (.iadd, 1) := by decide +kernel
theorem dX12_byDeed_11 : decode cX12_byDeed 11 = .ok (.invokevirtual 380, 3) := by decide +kernel
theorem dX12_byDeed_14 : decode cX12_byDeed 14 = .ok (.ireturn, 1) := by decide +kernel
theorem dX12_bestOf_0 : decode cX12_bestOf 0 = .ok (.iload_n 1, 1) := by decide +kernel
theorem dX12_bestOf_1 : decode cX12_bestOf 1 = .ok (.aload_n 0, 1) := by decide +kernel
theorem dX12_bestOf_2 : decode cX12_bestOf 2 = .ok (.getfield 371, 3) := by decide +kernel
theorem dX12_bestOf_5 : decode cX12_bestOf 5 = .ok (.if_icmp .ne 8, 3) := by decide +kernel
theorem dX12_bestOf_8 : decode cX12_bestOf 8 = .ok (.aload_n 0, 1) := by decide +kernel
theorem dX12_bestOf_9 : decode cX12_bestOf 9 = .ok (.invokevirtual 383, 3) := by decide +kernel
theorem dX12_bestOf_12 : decode cX12_bestOf 12 = .ok (.ireturn, 1) := by decide +kernel
theorem dX12_bestOf_13 : decode cX12_bestOf 13 = .ok (.aload_n 0, 1) := by decide +kernel
theorem dX12_bestOf_14 : decode cX12_bestOf 14 = .ok (.iload_n 1, 1) := by decide +kernel
theorem dX12_bestOf_15 : decode cX12_bestOf 15 = .ok (.bipush 6, 2) := by decide +kernel
theorem dX12_bestOf_17 : decode cX12_bestOf 17 = .ok (.invokevirtual 386, 3) := by decide +kernel
theorem dX12_bestOf_20 : decode cX12_bestOf 20 = .ok (.istore_n 2, 1) := by decide +kernel
theorem dX12_bestOf_21 : decode cX12_bestOf 21 = .ok (.iconst 0, 1) := by decide +kernel
theorem dX12_bestOf_22 : decode cX12_bestOf 22 = .ok (.istore_n 3, 1) := by decide +kernel
theorem dX12_bestOf_23 : decode cX12_bestOf 23 = .ok (.iload_n 3, 1) := by decide +kernel
theorem dX12_bestOf_24 : decode cX12_bestOf 24 = .ok (.bipush 6, 2) := by decide +kernel
theorem dX12_bestOf_26 : decode cX12_bestOf 26 = .ok (.if_icmp .ge 41, 3) := by decide +kernel
theorem dX12_bestOf_29 : decode cX12_bestOf 29 = .ok (.aload_n 0, 1) := by decide +kernel
theorem dX12_bestOf_30 : decode cX12_bestOf 30 = .ok (.iload_n 1, 1) := by decide +kernel
theorem dX12_bestOf_31 : decode cX12_bestOf 31 = .ok (.iload_n 3, 1) := by decide +kernel
theorem dX12_bestOf_32 : decode cX12_bestOf 32 = .ok (.invokevirtual 386, 3) := by decide +kernel
theorem dX12_bestOf_35 : decode cX12_bestOf 35 = .ok (.istore 4, 2) := by decide +kernel
theorem dX12_bestOf_37 : decode cX12_bestOf 37 = .ok (.iload_n 1, 1) := by decide +kernel
theorem dX12_bestOf_38 : decode cX12_bestOf 38 = .ok (.iconst 2, 1) := by decide +kernel
theorem dX12_bestOf_39 : decode cX12_bestOf 39 = .ok (.irem, 1) := by decide +kernel
theorem dX12_bestOf_40 : decode cX12_bestOf 40 = .ok (.ifCond .ne 12, 3) := by decide +kernel
theorem dX12_bestOf_43 : decode cX12_bestOf 43 = .ok (.iload 4, 2) := by decide +kernel
theorem dX12_bestOf_45 : decode cX12_bestOf 45 = .ok (.iload_n 2, 1) := by decide +kernel
theorem dX12_bestOf_46 : decode cX12_bestOf 46 = .ok (.if_icmp .ge 15, 3) := by decide +kernel
theorem dX12_bestOf_49 : decode cX12_bestOf 49 = .ok (.goto 9, 3) := by decide +kernel
theorem dX12_bestOf_52 : decode cX12_bestOf 52 = .ok (.iload 4, 2) := by decide +kernel
theorem dX12_bestOf_54 : decode cX12_bestOf 54 = .ok (.iload_n 2, 1) := by decide +kernel
theorem dX12_bestOf_55 : decode cX12_bestOf 55 = .ok (.if_icmp .le 6, 3) := by decide +kernel
theorem dX12_bestOf_58 : decode cX12_bestOf 58 = .ok (.iload 4, 2) := by decide +kernel
theorem dX12_bestOf_60 : decode cX12_bestOf 60 = .ok (.istore_n 2, 1) := by decide +kernel
theorem dX12_bestOf_61 : decode cX12_bestOf 61 = .ok (.iinc 3 1, 3) := by decide +kernel
theorem dX12_bestOf_64 : decode cX12_bestOf 64 = .ok (.goto (-41), 3) := by decide +kernel
theorem dX12_bestOf_67 : decode cX12_bestOf 67 = .ok (.iload_n 2, 1) := by decide +kernel
theorem dX12_bestOf_68 : decode cX12_bestOf 68 = .ok (.ireturn, 1) := by decide +kernel
theorem dX12_byTurns_0 : decode cX12_byTurns 0 = .ok (.iload_n 1, 1) := by decide +kernel
theorem dX12_byTurns_1 : decode cX12_byTurns 1 = .ok (.bipush 10, 2) := by decide +kernel
theorem dX12_byTurns_3 : decode cX12_byTurns 3 = .ok (.idiv, 1) := by decide +kernel
theorem dX12_byTurns_4 : decode cX12_byTurns 4 = .ok (.iconst 1, 1) := by decide +kernel
theorem dX12_byTurns_5 : decode cX12_byTurns 5 = .ok (.iconst 3, 1) := by decide +kernel
theorem dX12_byTurns_6 : decode cX12_byTurns 6 = .ok (.invokestatic 142, 3) := by decide +kernel
theorem dX12_byTurns_9 : decode cX12_byTurns 9 = .ok (.ifCond .eq 25, 3) := by decide +kernel
theorem dX12_byTurns_12 : decode cX12_byTurns 12 = .ok (.iload_n 1, 1) := by decide +kernel
theorem dX12_byTurns_13 : decode cX12_byTurns 13 = .ok (.bipush 10, 2) := by decide +kernel
theorem dX12_byTurns_15 : decode cX12_byTurns 15 = .ok (.irem, 1) := by decide +kernel
theorem dX12_byTurns_16 : decode cX12_byTurns 16 = .ok (.iconst 0, 1) := by decide +kernel
theorem dX12_byTurns_17 : decode cX12_byTurns 17 = .ok (.bipush 9, 2) := by decide +kernel
theorem dX12_byTurns_19 : decode cX12_byTurns 19 = .ok (.invokestatic 142, 3) := by decide +kernel
theorem dX12_byTurns_22 : decode cX12_byTurns 22 = .ok (.ifCond .eq 12, 3) := by decide +kernel
theorem dX12_byTurns_25 : decode cX12_byTurns 25 = .ok (.iload_n 2, 1) := by decide +kernel
theorem dX12_byTurns_26 : decode cX12_byTurns 26 = .ok (.iconst 0, 1) := by decide +kernel
theorem dX12_byTurns_27 : decode cX12_byTurns 27 = .ok (.iconst 1, 1) := by decide +kernel
theorem dX12_byTurns_28 : decode cX12_byTurns 28 = .ok (.invokestatic 142, 3) := by decide +kernel
theorem dX12_byTurns_31 : decode cX12_byTurns 31 = .ok (.ifCond .ne 5, 3) := by decide +kernel
theorem dX12_byTurns_34 : decode cX12_byTurns 34 = .ok (.iconst (-1), 1) := by decide +kernel
theorem dX12_byTurns_35 : decode cX12_byTurns 35 = .ok (.ireturn, 1) := by decide +kernel
theorem dX12_byTurns_36 : decode cX12_byTurns 36 = .ok (.aload_n 0, 1) := by decide +kernel
theorem dX12_byTurns_37 : decode cX12_byTurns 37 = .ok (.iload_n 1, 1) := by decide +kernel
theorem dX12_byTurns_38 : decode cX12_byTurns 38 = .ok (.bipush 10, 2) := by decide +kernel
theorem dX12_byTurns_40 : decode cX12_byTurns 40 = .ok (.idiv, 1) := by decide +kernel
theorem dX12_byTurns_41 : decode cX12_byTurns 41 = .ok (.putfield 371, 3) := by decide +kernel
theorem dX12_byTurns_44 : decode cX12_byTurns 44 = .ok (.aload_n 0, 1) := by decide +kernel
theorem dX12_byTurns_45 : decode cX12_byTurns 45 = .ok (.iload_n 1, 1) := by decide +kernel
theorem dX12_byTurns_46 : decode cX12_byTurns 46 = .ok (.bipush 10, 2) := by decide +kernel
theorem dX12_byTurns_48 : decode cX12_byTurns 48 = .ok (.irem, 1) := by decide +kernel
theorem dX12_byTurns_49 : decode cX12_byTurns 49 = .ok (.putfield 377, 3) := by decide +kernel
theorem dX12_byTurns_52 : decode cX12_byTurns 52 = .ok (.aload_n 0, 1) := by decide +kernel
theorem dX12_byTurns_53 : decode cX12_byTurns 53 = .ok (.iconst 0, 1) := by decide +kernel
theorem dX12_byTurns_54 : decode cX12_byTurns 54 = .ok (.invokevirtual 380, 3) := by decide +kernel
theorem dX12_byTurns_57 : decode cX12_byTurns 57 = .ok (.istore_n 3, 1) := by decide +kernel
theorem dX12_byTurns_58 : decode cX12_byTurns 58 = .ok (.iload_n 2, 1) := by decide +kernel
theorem dX12_byTurns_59 : decode cX12_byTurns 59 = .ok (.ifCond .eq 7, 3) := by decide +kernel
theorem dX12_byTurns_62 : decode cX12_byTurns 62 = .ok (.iload_n 3, 1) := by decide +kernel
theorem dX12_byTurns_63 : decode cX12_byTurns 63 = .ok (.ifCond .ge 5, 3) := by decide +kernel
theorem dX12_byTurns_66 : decode cX12_byTurns 66 = .ok (.iload_n 3, 1) := by decide +kernel
theorem dX12_byTurns_67 : decode cX12_byTurns 67 = .ok (.ireturn, 1) := by decide +kernel
theorem dX12_byTurns_68 : decode cX12_byTurns 68 = .ok (.aload_n 0, 1) := by decide +kernel
theorem dX12_byTurns_69 : decode cX12_byTurns 69 = .ok (.iconst 0, 1) := by decide +kernel
theorem dX12_byTurns_70 : decode cX12_byTurns 70 = .ok (.bipush 6, 2) := by decide +kernel
theorem dX12_byTurns_72 : decode cX12_byTurns 72 = .ok (.invokevirtual 386, 3) := by decide +kernel
theorem dX12_byTurns_75 : decode cX12_byTurns 75 = .ok (.iload_n 3, 1) := by decide +kernel
theorem dX12_byTurns_76 : decode cX12_byTurns 76 = .ok (.if_icmp .ne 6, 3) := by decide +kernel
theorem dX12_byTurns_79 : decode cX12_byTurns 79 = .ok (.bipush 6, 2) := by decide +kernel
theorem dX12_byTurns_81 : decode cX12_byTurns 81 = .ok (.ireturn, 1) := by decide +kernel
theorem dX12_byTurns_82 : decode cX12_byTurns 82 = .ok (.iconst 0, 1) := by decide +kernel
theorem dX12_byTurns_83 : decode cX12_byTurns 83 = .ok (.istore 4, 2) := by decide +kernel
theorem dX12_byTurns_85 : decode cX12_byTurns 85 = .ok (.aload_n 0, 1) := by decide +kernel
theorem dX12_byTurns_86 : decode cX12_byTurns 86 = .ok (.iconst 0, 1) := by decide +kernel
theorem dX12_byTurns_87 : decode cX12_byTurns 87 = .ok (.iload 4, 2) := by decide +kernel
theorem dX12_byTurns_89 : decode cX12_byTurns 89 = .ok (.invokevirtual 386, 3) := by decide +kernel
theorem dX12_byTurns_92 : decode cX12_byTurns 92 = .ok (.iload_n 3, 1) := by decide +kernel
theorem dX12_byTurns_93 : decode cX12_byTurns 93 = .ok (.if_icmp .eq 9, 3) := by decide +kernel
theorem dX12_byTurns_96 : decode cX12_byTurns 96 = .ok (.iinc 4 1, 3) := by decide +kernel
theorem dX12_byTurns_99 : decode cX12_byTurns 99 = .ok (.goto (-14), 3) := by decide +kernel
theorem dX12_byTurns_102 : decode cX12_byTurns 102 = .ok (.iload 4, 2) := by decide +kernel
theorem dX12_byTurns_104 : decode cX12_byTurns 104 = .ok (.ireturn, 1) := by decide +kernel
theorem dX12_drawn_0 : decode cX12_drawn 0 = .ok (.iload_n 2, 1) := by decide +kernel
theorem dX12_drawn_1 : decode cX12_drawn 1 = .ok (.bipush 100, 2) := by decide +kernel
theorem dX12_drawn_3 : decode cX12_drawn 3 = .ok (.idiv, 1) := by decide +kernel
theorem dX12_drawn_4 : decode cX12_drawn 4 = .ok (.bipush 100, 2) := by decide +kernel
theorem dX12_drawn_6 : decode cX12_drawn 6 = .ok (.irem, 1) := by decide +kernel
theorem dX12_drawn_7 : decode cX12_drawn 7 = .ok (.istore 4, 2) := by decide +kernel
theorem dX12_drawn_9 : decode cX12_drawn 9 = .ok (.iload_n 2, 1) := by decide +kernel
theorem dX12_drawn_10 : decode cX12_drawn 10 = .ok (.ifCond .lt 46, 3) := by decide +kernel
theorem dX12_drawn_13 : decode cX12_drawn 13 = .ok (.iload_n 2, 1) := by decide +kernel
theorem dX12_drawn_14 : decode cX12_drawn 14 = .ok (.sipush 10000, 3) := by decide +kernel
theorem dX12_drawn_17 : decode cX12_drawn 17 = .ok (.idiv, 1) := by decide +kernel
theorem dX12_drawn_18 : decode cX12_drawn 18 = .ok (.iconst 1, 1) := by decide +kernel
theorem dX12_drawn_19 : decode cX12_drawn 19 = .ok (.bipush 30, 2) := by decide +kernel
theorem dX12_drawn_21 : decode cX12_drawn 21 = .ok (.invokestatic 142, 3) := by decide +kernel
theorem dX12_drawn_24 : decode cX12_drawn 24 = .ok (.ifCond .eq 32, 3) := by decide +kernel
theorem dX12_drawn_27 : decode cX12_drawn 27 = .ok (.iload 4, 2) := by decide +kernel
theorem dX12_drawn_29 : decode cX12_drawn 29 = .ok (.iconst 1, 1) := by decide +kernel
theorem dX12_drawn_30 : decode cX12_drawn 30 = .ok (.bipush 30, 2) := by decide +kernel
theorem dX12_drawn_32 : decode cX12_drawn 32 = .ok (.invokestatic 142, 3) := by decide +kernel
theorem dX12_drawn_35 : decode cX12_drawn 35 = .ok (.ifCond .eq 21, 3) := by decide +kernel
theorem dX12_drawn_38 : decode cX12_drawn 38 = .ok (.iload_n 2, 1) := by decide +kernel
theorem dX12_drawn_39 : decode cX12_drawn 39 = .ok (.bipush 100, 2) := by decide +kernel
theorem dX12_drawn_41 : decode cX12_drawn 41 = .ok (.irem, 1) := by decide +kernel
theorem dX12_drawn_42 : decode cX12_drawn 42 = .ok (.bipush 12, 2) := by decide +kernel
theorem dX12_drawn_44 : decode cX12_drawn 44 = .ok (.if_icmp .gt 12, 3) := by decide +kernel
theorem dX12_drawn_47 : decode cX12_drawn 47 = .ok (.iload_n 3, 1) := by decide +kernel
theorem dX12_drawn_48 : decode cX12_drawn 48 = .ok (.iconst 0, 1) := by decide +kernel
theorem dX12_drawn_49 : decode cX12_drawn 49 = .ok (.iconst 1, 1) := by decide +kernel
theorem dX12_drawn_50 : decode cX12_drawn 50 = .ok (.invokestatic 142, 3) := by decide +kernel
theorem dX12_drawn_53 : decode cX12_drawn 53 = .ok (.ifCond .ne 5, 3) := by decide +kernel
theorem dX12_drawn_56 : decode cX12_drawn 56 = .ok (.iconst (-1), 1) := by decide +kernel
theorem dX12_drawn_57 : decode cX12_drawn 57 = .ok (.ireturn, 1) := by decide +kernel
theorem dX12_drawn_58 : decode cX12_drawn 58 = .ok (.iload_n 1, 1) := by decide +kernel
theorem dX12_drawn_59 : decode cX12_drawn 59 = .ok (.istore 5, 2) := by decide +kernel
theorem dX12_drawn_61 : decode cX12_drawn 61 = .ok (.iconst 0, 1) := by decide +kernel
theorem dX12_drawn_62 : decode cX12_drawn 62 = .ok (.istore 6, 2) := by decide +kernel
theorem dX12_drawn_64 : decode cX12_drawn 64 = .ok (.iconst 0, 1) := by decide +kernel
theorem dX12_drawn_65 : decode cX12_drawn 65 = .ok (.istore 7, 2) := by decide +kernel
theorem dX12_drawn_67 : decode cX12_drawn 67 = .ok (.iload 7, 2) := by decide +kernel
theorem dX12_drawn_69 : decode cX12_drawn 69 = .ok (.iload_n 2, 1) := by decide +kernel
theorem dX12_drawn_70 : decode cX12_drawn 70 = .ok (.sipush 10000, 3) := by decide +kernel
theorem dX12_drawn_73 : decode cX12_drawn 73 = .ok (.idiv, 1) := by decide +kernel
theorem dX12_drawn_74 : decode cX12_drawn 74 = .ok (.if_icmp .ge 101, 3) := by decide +kernel
theorem dX12_drawn_77 : decode cX12_drawn 77 = .ok (.aload_n 0, 1) := by decide +kernel
theorem dX12_drawn_78 : decode cX12_drawn 78 = .ok (.invokevirtual 273, 3) := by decide +kernel
theorem dX12_drawn_81 : decode cX12_drawn 81 = .ok (.iconst 0, 1) := by decide +kernel
theorem dX12_drawn_82 : decode cX12_drawn 82 = .ok (.istore 8, 2) := by decide +kernel
theorem dX12_drawn_84 : decode cX12_drawn 84 = .ok (.iload 8, 2) := by decide +kernel
theorem dX12_drawn_86 : decode cX12_drawn 86 = .ok (.iload 4, 2) := by decide +kernel
theorem dX12_drawn_88 : decode cX12_drawn 88 = .ok (.if_icmp .ge 52, 3) := by decide +kernel
theorem dX12_drawn_91 : decode cX12_drawn 91 = .ok (.iload 5, 2) := by decide +kernel
theorem dX12_drawn_93 : decode cX12_drawn 93 = .ok (.ldc_w 389, 3) := by decide +kernel
theorem dX12_drawn_96 : decode cX12_drawn 96 = .ok (.imul, 1) := by decide +kernel
theorem dX12_drawn_97 : decode cX12_drawn 97 = .ok (.sipush 12345, 3) := by decide +kernel
theorem dX12_drawn_100 : decode cX12_drawn 100 = .ok (.iadd, 1) := by decide +kernel
theorem dX12_drawn_101 : decode cX12_drawn 101 = .ok (.istore 5, 2) := by decide +kernel
theorem dX12_drawn_103 : decode cX12_drawn 103 = .ok (.iload 5, 2) := by decide +kernel
theorem dX12_drawn_105 : decode cX12_drawn 105 = .ok (.bipush 16, 2) := by decide +kernel
theorem dX12_drawn_107 : decode cX12_drawn 107 = .ok (.iushr, 1) := by decide +kernel
theorem dX12_drawn_108 : decode cX12_drawn 108 = .ok (.bipush 12, 2) := by decide +kernel
theorem dX12_drawn_110 : decode cX12_drawn 110 = .ok (.irem, 1) := by decide +kernel
theorem dX12_drawn_111 : decode cX12_drawn 111 = .ok (.iload_n 2, 1) := by decide +kernel
theorem dX12_drawn_112 : decode cX12_drawn 112 = .ok (.bipush 100, 2) := by decide +kernel
theorem dX12_drawn_114 : decode cX12_drawn 114 = .ok (.irem, 1) := by decide +kernel
theorem dX12_drawn_115 : decode cX12_drawn 115 = .ok (.if_icmp .ge 15, 3) := by decide +kernel
theorem dX12_drawn_118 : decode cX12_drawn 118 = .ok (.aload_n 0, 1) := by decide +kernel
theorem dX12_drawn_119 : decode cX12_drawn 119 = .ok (.iload 5, 2) := by decide +kernel
theorem dX12_drawn_121 : decode cX12_drawn 121 = .ok (.bipush 8, 2) := by decide +kernel
theorem dX12_drawn_123 : decode cX12_drawn 123 = .ok (.iushr, 1) := by decide +kernel
theorem dX12_drawn_124 : decode cX12_drawn 124 = .ok (.bipush 6, 2) := by decide +kernel
theorem dX12_drawn_126 : decode cX12_drawn 126 = .ok (.irem, 1) := by decide +kernel
theorem dX12_drawn_127 : decode cX12_drawn 127 = .ok (.invokevirtual 374, 3) := by decide +kernel
theorem dX12_drawn_130 : decode cX12_drawn 130 = .ok (.aload_n 0, 1) := by decide +kernel
theorem dX12_drawn_131 : decode cX12_drawn 131 = .ok (.invokevirtual 282, 3) := by decide +kernel
theorem dX12_drawn_134 : decode cX12_drawn 134 = .ok (.iinc 8 1, 3) := by decide +kernel
theorem dX12_drawn_137 : decode cX12_drawn 137 = .ok (.goto (-53), 3) := by decide +kernel
theorem dX12_drawn_140 : decode cX12_drawn 140 = .ok (.iload 6, 2) := by decide +kernel
theorem dX12_drawn_142 : decode cX12_drawn 142 = .ok (.iload_n 3, 1) := by decide +kernel
theorem dX12_drawn_143 : decode cX12_drawn 143 = .ok (.iconst 1, 1) := by decide +kernel
theorem dX12_drawn_144 : decode cX12_drawn 144 = .ok (.if_icmp .ne 10, 3) := by decide +kernel
theorem dX12_drawn_147 : decode cX12_drawn 147 = .ok (.aload_n 0, 1) := by decide +kernel
theorem dX12_drawn_148 : decode cX12_drawn 148 = .ok (.invokevirtual 301, 3) := by decide +kernel
theorem dX12_drawn_151 : decode cX12_drawn 151 = .ok (.goto 15, 3) := by decide +kernel
theorem dX12_drawn_154 : decode cX12_drawn 154 = .ok (.aload_n 0, 1) := by decide +kernel
theorem dX12_drawn_155 : decode cX12_drawn 155 = .ok (.invokevirtual 298, 3) := by decide +kernel
theorem dX12_drawn_158 : decode cX12_drawn 158 = .ok (.ifCond .le 7, 3) := by decide +kernel
theorem dX12_drawn_161 : decode cX12_drawn 161 = .ok (.iconst 1, 1) := by decide +kernel
theorem dX12_drawn_162 : decode cX12_drawn 162 = .ok (.goto 4, 3) := by decide +kernel
theorem dX12_drawn_165 : decode cX12_drawn 165 = .ok (.iconst 0, 1) := by decide +kernel
theorem dX12_drawn_166 : decode cX12_drawn 166 = .ok (.iadd, 1) := by decide +kernel
theorem dX12_drawn_167 : decode cX12_drawn 167 = .ok (.istore 6, 2) := by decide +kernel
theorem dX12_drawn_169 : decode cX12_drawn 169 = .ok (.iinc 7 1, 3) := by decide +kernel
theorem dX12_drawn_172 : decode cX12_drawn 172 = .ok (.goto (-105), 3) := by decide +kernel
theorem dX12_drawn_175 : decode cX12_drawn 175 = .ok (.iload 6, 2) := by decide +kernel
theorem dX12_drawn_177 : decode cX12_drawn 177 = .ok (.ireturn, 1) := by decide +kernel
theorem dX12_layBack_0 : decode cX12_layBack 0 = .ok (.iconst 0, 1) := by decide +kernel
theorem dX12_layBack_1 : decode cX12_layBack 1 = .ok (.istore_n 1, 1) := by decide +kernel
theorem dX12_layBack_2 : decode cX12_layBack 2 = .ok (.iload_n 1, 1) := by decide +kernel
theorem dX12_layBack_3 : decode cX12_layBack 3 = .ok (.bipush 30, 2) := by decide +kernel
theorem dX12_layBack_5 : decode cX12_layBack 5 = .ok (.if_icmp .ge 45, 3) := by decide +kernel
theorem dX12_layBack_8 : decode cX12_layBack 8 = .ok (.aload_n 0, 1) := by decide +kernel
theorem dX12_layBack_9 : decode cX12_layBack 9 = .ok (.getfield 15, 3) := by decide +kernel
theorem dX12_layBack_12 : decode cX12_layBack 12 = .ok (.iload_n 1, 1) := by decide +kernel
theorem dX12_layBack_13 : decode cX12_layBack 13 = .ok (.aload_n 0, 1) := by decide +kernel
theorem dX12_layBack_14 : decode cX12_layBack 14 = .ok (.getfield 80, 3) := by decide +kernel
theorem dX12_layBack_17 : decode cX12_layBack 17 = .ok (.iload_n 1, 1) := by decide +kernel
theorem dX12_layBack_18 : decode cX12_layBack 18 = .ok (.iaload, 1) := by decide +kernel
theorem dX12_layBack_19 : decode cX12_layBack 19 = .ok (.iastore, 1) := by decide +kernel
theorem dX12_layBack_20 : decode cX12_layBack 20 = .ok (.aload_n 0, 1) := by decide +kernel
theorem dX12_layBack_21 : decode cX12_layBack 21 = .ok (.getfield 18, 3) := by decide +kernel
theorem dX12_layBack_24 : decode cX12_layBack 24 = .ok (.iload_n 1, 1) := by decide +kernel
theorem dX12_layBack_25 : decode cX12_layBack 25 = .ok (.aload_n 0, 1) := by decide +kernel
theorem dX12_layBack_26 : decode cX12_layBack 26 = .ok (.getfield 83, 3) := by decide +kernel
theorem dX12_layBack_29 : decode cX12_layBack 29 = .ok (.iload_n 1, 1) := by decide +kernel
theorem dX12_layBack_30 : decode cX12_layBack 30 = .ok (.iaload, 1) := by decide +kernel
theorem dX12_layBack_31 : decode cX12_layBack 31 = .ok (.iastore, 1) := by decide +kernel
theorem dX12_layBack_32 : decode cX12_layBack 32 = .ok (.aload_n 0, 1) := by decide +kernel
theorem dX12_layBack_33 : decode cX12_layBack 33 = .ok (.getfield 21, 3) := by decide +kernel
theorem dX12_layBack_36 : decode cX12_layBack 36 = .ok (.iload_n 1, 1) := by decide +kernel
theorem dX12_layBack_37 : decode cX12_layBack 37 = .ok (.aload_n 0, 1) := by decide +kernel
theorem dX12_layBack_38 : decode cX12_layBack 38 = .ok (.getfield 86, 3) := by decide +kernel
theorem dX12_layBack_41 : decode cX12_layBack 41 = .ok (.iload_n 1, 1) := by decide +kernel
theorem dX12_layBack_42 : decode cX12_layBack 42 = .ok (.iaload, 1) := by decide +kernel
theorem dX12_layBack_43 : decode cX12_layBack 43 = .ok (.iastore, 1) := by decide +kernel
theorem dX12_layBack_44 : decode cX12_layBack 44 = .ok (.iinc 1 1, 3) := by decide +kernel
theorem dX12_layBack_47 : decode cX12_layBack 47 = .ok (.goto (-45), 3) := by decide +kernel
theorem dX12_layBack_50 : decode cX12_layBack 50 = .ok (.return_, 1) := by decide +kernel
theorem dX12_turned_0 : decode cX12_turned 0 = .ok (.iload_n 1, 1) := by decide +kernel
theorem dX12_turned_1 : decode cX12_turned 1 = .ok (.invokestatic 146, 3) := by decide +kernel
theorem dX12_turned_4 : decode cX12_turned 4 = .ok (.ifCond .ne 5, 3) := by decide +kernel
theorem dX12_turned_7 : decode cX12_turned 7 = .ok (.iconst (-1), 1) := by decide +kernel
theorem dX12_turned_8 : decode cX12_turned 8 = .ok (.ireturn, 1) := by decide +kernel
theorem dX12_turned_9 : decode cX12_turned 9 = .ok (.aload_n 0, 1) := by decide +kernel
theorem dX12_turned_10 : decode cX12_turned 10 = .ok (.invokevirtual 273, 3) := by decide +kernel
theorem dX12_turned_13 : decode cX12_turned 13 = .ok (.aload_n 0, 1) := by decide +kernel
theorem dX12_turned_14 : decode cX12_turned 14 = .ok (.iload_n 1, 1) := by decide +kernel
theorem dX12_turned_15 : decode cX12_turned 15 = .ok (.invokevirtual 331, 3) := by decide +kernel
theorem dX12_turned_18 : decode cX12_turned 18 = .ok (.aload_n 0, 1) := by decide +kernel
theorem dX12_turned_19 : decode cX12_turned 19 = .ok (.invokevirtual 390, 3) := by decide +kernel
theorem dX12_turned_22 : decode cX12_turned 22 = .ok (.aload_n 0, 1) := by decide +kernel
theorem dX12_turned_23 : decode cX12_turned 23 = .ok (.getfield 36, 3) := by decide +kernel
theorem dX12_turned_26 : decode cX12_turned 26 = .ok (.iconst 1, 1) := by decide +kernel
theorem dX12_turned_27 : decode cX12_turned 27 = .ok (.dup2, 1) := by decide +kernel
theorem dX12_turned_28 : decode cX12_turned 28 = .ok (.iaload, 1) := by decide +kernel
theorem dX12_turned_29 : decode cX12_turned 29 = .ok (.iconst 1, 1) := by decide +kernel
theorem dX12_turned_30 : decode cX12_turned 30 = .ok (.iadd, 1) := by decide +kernel
theorem dX12_turned_31 : decode cX12_turned 31 = .ok (.iastore, 1) := by decide +kernel
theorem dX12_turned_32 : decode cX12_turned 32 = .ok (.aload_n 0, 1) := by decide +kernel
theorem dX12_turned_33 : decode cX12_turned 33 = .ok (.getfield 9, 3) := by decide +kernel
theorem dX12_turned_36 : decode cX12_turned 36 = .ok (.iload_n 1, 1) := by decide +kernel
theorem dX12_turned_37 : decode cX12_turned 37 = .ok (.iaload, 1) := by decide +kernel
theorem dX12_turned_38 : decode cX12_turned 38 = .ok (.ireturn, 1) := by decide +kernel
theorem dX12_salt_0 : decode cX12_salt 0 = .ok (.iload_n 1, 1) := by decide +kernel
theorem dX12_salt_1 : decode cX12_salt 1 = .ok (.invokestatic 146, 3) := by decide +kernel
theorem dX12_salt_4 : decode cX12_salt 4 = .ok (.ifCond .ne 5, 3) := by decide +kernel
theorem dX12_salt_7 : decode cX12_salt 7 = .ok (.iconst (-1), 1) := by decide +kernel
theorem dX12_salt_8 : decode cX12_salt 8 = .ok (.ireturn, 1) := by decide +kernel
theorem dX12_salt_9 : decode cX12_salt 9 = .ok (.iconst 5, 1) := by decide +kernel
theorem dX12_salt_10 : decode cX12_salt 10 = .ok (.iload_n 1, 1) := by decide +kernel
theorem dX12_salt_11 : decode cX12_salt 11 = .ok (.imul, 1) := by decide +kernel
theorem dX12_salt_12 : decode cX12_salt 12 = .ok (.istore_n 2, 1) := by decide +kernel
theorem dX12_salt_13 : decode cX12_salt 13 = .ok (.iload_n 2, 1) := by decide +kernel
theorem dX12_salt_14 : decode cX12_salt 14 = .ok (.iconst 5, 1) := by decide +kernel
theorem dX12_salt_15 : decode cX12_salt 15 = .ok (.iload_n 1, 1) := by decide +kernel
theorem dX12_salt_16 : decode cX12_salt 16 = .ok (.imul, 1) := by decide +kernel
theorem dX12_salt_17 : decode cX12_salt 17 = .ok (.aload_n 0, 1) := by decide +kernel
theorem dX12_salt_18 : decode cX12_salt 18 = .ok (.getfield 9, 3) := by decide +kernel
theorem dX12_salt_21 : decode cX12_salt 21 = .ok (.iload_n 1, 1) := by decide +kernel
theorem dX12_salt_22 : decode cX12_salt 22 = .ok (.iaload, 1) := by decide +kernel
theorem dX12_salt_23 : decode cX12_salt 23 = .ok (.iadd, 1) := by decide +kernel
theorem dX12_salt_24 : decode cX12_salt 24 = .ok (.if_icmp .ge 16, 3) := by decide +kernel
theorem dX12_salt_27 : decode cX12_salt 27 = .ok (.aload_n 0, 1) := by decide +kernel
theorem dX12_salt_28 : decode cX12_salt 28 = .ok (.getfield 24, 3) := by decide +kernel
theorem dX12_salt_31 : decode cX12_salt 31 = .ok (.iload_n 2, 1) := by decide +kernel
theorem dX12_salt_32 : decode cX12_salt 32 = .ok (.iconst 1, 1) := by decide +kernel
theorem dX12_salt_33 : decode cX12_salt 33 = .ok (.iastore, 1) := by decide +kernel
theorem dX12_salt_34 : decode cX12_salt 34 = .ok (.iinc 2 1, 3) := by decide +kernel
theorem dX12_salt_37 : decode cX12_salt 37 = .ok (.goto (-24), 3) := by decide +kernel
theorem dX12_salt_40 : decode cX12_salt 40 = .ok (.aload_n 0, 1) := by decide +kernel
theorem dX12_salt_41 : decode cX12_salt 41 = .ok (.getfield 36, 3) := by decide +kernel
theorem dX12_salt_44 : decode cX12_salt 44 = .ok (.iconst 2, 1) := by decide +kernel
theorem dX12_salt_45 : decode cX12_salt 45 = .ok (.dup2, 1) := by decide +kernel
theorem dX12_salt_46 : decode cX12_salt 46 = .ok (.iaload, 1) := by decide +kernel
theorem dX12_salt_47 : decode cX12_salt 47 = .ok (.iconst 1, 1) := by decide +kernel
theorem dX12_salt_48 : decode cX12_salt 48 = .ok (.iadd, 1) := by decide +kernel
theorem dX12_salt_49 : decode cX12_salt 49 = .ok (.iastore, 1) := by decide +kernel
theorem dX12_salt_50 : decode cX12_salt 50 = .ok (.aload_n 0, 1) := by decide +kernel
theorem dX12_salt_51 : decode cX12_salt 51 = .ok (.getfield 9, 3) := by decide +kernel
theorem dX12_salt_54 : decode cX12_salt 54 = .ok (.iload_n 1, 1) := by decide +kernel
theorem dX12_salt_55 : decode cX12_salt 55 = .ok (.iaload, 1) := by decide +kernel
theorem dX12_salt_56 : decode cX12_salt 56 = .ok (.ireturn, 1) := by decide +kernel
theorem dX12_read_0 : decode cX12_read 0 = .ok (.aload_n 0, 1) := by decide +kernel
theorem dX12_read_1 : decode cX12_read 1 = .ok (.iload_n 1, 1) := by decide +kernel
theorem dX12_read_2 : decode cX12_read 2 = .ok (.invokevirtual 173, 3) := by decide +kernel
theorem dX12_read_5 : decode cX12_read 5 = .ok (.ifCond .ne 5, 3) := by decide +kernel
theorem dX12_read_8 : decode cX12_read 8 = .ok (.iconst (-1), 1) := by decide +kernel
theorem dX12_read_9 : decode cX12_read 9 = .ok (.ireturn, 1) := by decide +kernel
theorem dX12_read_10 : decode cX12_read 10 = .ok (.aload_n 0, 1) := by decide +kernel
theorem dX12_read_11 : decode cX12_read 11 = .ok (.getfield 36, 3) := by decide +kernel
theorem dX12_read_14 : decode cX12_read 14 = .ok (.iconst 3, 1) := by decide +kernel
theorem dX12_read_15 : decode cX12_read 15 = .ok (.dup2, 1) := by decide +kernel
theorem dX12_read_16 : decode cX12_read 16 = .ok (.iaload, 1) := by decide +kernel
theorem dX12_read_17 : decode cX12_read 17 = .ok (.iconst 1, 1) := by decide +kernel
theorem dX12_read_18 : decode cX12_read 18 = .ok (.iadd, 1) := by decide +kernel
theorem dX12_read_19 : decode cX12_read 19 = .ok (.iastore, 1) := by decide +kernel
theorem dX12_read_20 : decode cX12_read 20 = .ok (.aload_n 0, 1) := by decide +kernel
theorem dX12_read_21 : decode cX12_read 21 = .ok (.getfield 18, 3) := by decide +kernel
theorem dX12_read_24 : decode cX12_read 24 = .ok (.iload_n 1, 1) := by decide +kernel
theorem dX12_read_25 : decode cX12_read 25 = .ok (.iaload, 1) := by decide +kernel
theorem dX12_read_26 : decode cX12_read 26 = .ok (.aload_n 0, 1) := by decide +kernel
theorem dX12_read_27 : decode cX12_read 27 = .ok (.getfield 107, 3) := by decide +kernel
theorem dX12_read_30 : decode cX12_read 30 = .ok (.if_icmp .le 13, 3) := by decide +kernel
theorem dX12_read_33 : decode cX12_read 33 = .ok (.aload_n 0, 1) := by decide +kernel
theorem dX12_read_34 : decode cX12_read 34 = .ok (.aload_n 0, 1) := by decide +kernel
theorem dX12_read_35 : decode cX12_read 35 = .ok (.getfield 18, 3) := by decide +kernel
theorem dX12_read_38 : decode cX12_read 38 = .ok (.iload_n 1, 1) := by decide +kernel
theorem dX12_read_39 : decode cX12_read 39 = .ok (.iaload, 1) := by decide +kernel
theorem dX12_read_40 : decode cX12_read 40 = .ok (.putfield 107, 3) := by decide +kernel
theorem dX12_read_43 : decode cX12_read 43 = .ok (.aload_n 0, 1) := by decide +kernel
theorem dX12_read_44 : decode cX12_read 44 = .ok (.getfield 18, 3) := by decide +kernel
theorem dX12_read_47 : decode cX12_read 47 = .ok (.iload_n 1, 1) := by decide +kernel
theorem dX12_read_48 : decode cX12_read 48 = .ok (.iaload, 1) := by decide +kernel
theorem dX12_read_49 : decode cX12_read 49 = .ok (.ireturn, 1) := by decide +kernel
theorem dX12_day_0 : decode cX12_day 0 = .ok (.aload_n 0, 1) := by decide +kernel
theorem dX12_day_1 : decode cX12_day 1 = .ok (.invokevirtual 273, 3) := by decide +kernel
theorem dX12_day_4 : decode cX12_day 4 = .ok (.aload_n 0, 1) := by decide +kernel
theorem dX12_day_5 : decode cX12_day 5 = .ok (.invokevirtual 282, 3) := by decide +kernel
theorem dX12_day_8 : decode cX12_day 8 = .ok (.aload_n 0, 1) := by decide +kernel
theorem dX12_day_9 : decode cX12_day 9 = .ok (.invokevirtual 390, 3) := by decide +kernel
theorem dX12_day_12 : decode cX12_day 12 = .ok (.aload_n 0, 1) := by decide +kernel
theorem dX12_day_13 : decode cX12_day 13 = .ok (.getfield 33, 3) := by decide +kernel
theorem dX12_day_16 : decode cX12_day 16 = .ok (.iconst 1, 1) := by decide +kernel
theorem dX12_day_17 : decode cX12_day 17 = .ok (.iaload, 1) := by decide +kernel
theorem dX12_day_18 : decode cX12_day 18 = .ok (.bipush 99, 2) := by decide +kernel
theorem dX12_day_20 : decode cX12_day 20 = .ok (.if_icmp .ge 13, 3) := by decide +kernel
theorem dX12_day_23 : decode cX12_day 23 = .ok (.aload_n 0, 1) := by decide +kernel
theorem dX12_day_24 : decode cX12_day 24 = .ok (.getfield 33, 3) := by decide +kernel
theorem dX12_day_27 : decode cX12_day 27 = .ok (.iconst 1, 1) := by decide +kernel
theorem dX12_day_28 : decode cX12_day 28 = .ok (.dup2, 1) := by decide +kernel
theorem dX12_day_29 : decode cX12_day 29 = .ok (.iaload, 1) := by decide +kernel
theorem dX12_day_30 : decode cX12_day 30 = .ok (.iconst 1, 1) := by decide +kernel
theorem dX12_day_31 : decode cX12_day 31 = .ok (.iadd, 1) := by decide +kernel
theorem dX12_day_32 : decode cX12_day 32 = .ok (.iastore, 1) := by decide +kernel
theorem dX12_day_33 : decode cX12_day 33 = .ok (.aload_n 0, 1) := by decide +kernel
theorem dX12_day_34 : decode cX12_day 34 = .ok (.getfield 36, 3) := by decide +kernel
theorem dX12_day_37 : decode cX12_day 37 = .ok (.iconst 4, 1) := by decide +kernel
theorem dX12_day_38 : decode cX12_day 38 = .ok (.dup2, 1) := by decide +kernel
theorem dX12_day_39 : decode cX12_day 39 = .ok (.iaload, 1) := by decide +kernel
theorem dX12_day_40 : decode cX12_day 40 = .ok (.iconst 1, 1) := by decide +kernel
theorem dX12_day_41 : decode cX12_day 41 = .ok (.iadd, 1) := by decide +kernel
theorem dX12_day_42 : decode cX12_day 42 = .ok (.iastore, 1) := by decide +kernel
theorem dX12_day_43 : decode cX12_day 43 = .ok (.aload_n 0, 1) := by decide +kernel
theorem dX12_day_44 : decode cX12_day 44 = .ok (.invokevirtual 298, 3) := by decide +kernel
theorem dX12_day_47 : decode cX12_day 47 = .ok (.ireturn, 1) := by decide +kernel
theorem dX12_led_0 : decode cX12_led 0 = .ok (.iload_n 1, 1) := by decide +kernel
theorem dX12_led_1 : decode cX12_led 1 = .ok (.iconst 5, 1) := by decide +kernel
theorem dX12_led_2 : decode cX12_led 2 = .ok (.if_icmp .ne 10, 3) := by decide +kernel
theorem dX12_led_5 : decode cX12_led 5 = .ok (.aload_n 0, 1) := by decide +kernel
theorem dX12_led_6 : decode cX12_led 6 = .ok (.getfield 107, 3) := by decide +kernel
theorem dX12_led_9 : decode cX12_led 9 = .ok (.goto 22, 3) := by decide +kernel
theorem dX12_led_12 : decode cX12_led 12 = .ok (.iload_n 1, 1) := by decide +kernel
theorem dX12_led_13 : decode cX12_led 13 = .ok (.iconst 0, 1) := by decide +kernel
theorem dX12_led_14 : decode cX12_led 14 = .ok (.iconst 4, 1) := by decide +kernel
theorem dX12_led_15 : decode cX12_led 15 = .ok (.invokestatic 142, 3) := by decide +kernel
theorem dX12_led_18 : decode cX12_led 18 = .ok (.ifCond .eq 12, 3) := by decide +kernel
theorem dX12_led_21 : decode cX12_led 21 = .ok (.aload_n 0, 1) := by decide +kernel
theorem dX12_led_22 : decode cX12_led 22 = .ok (.getfield 36, 3) := by decide +kernel
theorem dX12_led_25 : decode cX12_led 25 = .ok (.iload_n 1, 1) := by decide +kernel
theorem dX12_led_26 : decode cX12_led 26 = .ok (.iaload, 1) := by decide +kernel
theorem dX12_led_27 : decode cX12_led 27 = .ok (.goto 4, 3) := by decide +kernel
theorem dX12_led_30 : decode cX12_led 30 = .ok (.iconst (-1), 1) := by decide +kernel
theorem dX12_led_31 : decode cX12_led 31 = .ok (.ireturn, 1) := by decide +kernel
theorem dX12_image_0 : decode cX12_image 0 = .ok (.aload_n 0, 1) := by decide +kernel
theorem dX12_image_1 : decode cX12_image 1 = .ok (.iconst 1, 1) := by decide +kernel
theorem dX12_image_2 : decode cX12_image 2 = .ok (.putfield 393, 3) := by decide +kernel
theorem dX12_image_5 : decode cX12_image 5 = .ok (.aload_n 0, 1) := by decide +kernel
theorem dX12_image_6 : decode cX12_image 6 = .ok (.aload_n 0, 1) := by decide +kernel
theorem dX12_image_7 : decode cX12_image 7 = .ok (.getfield 33, 3) := by decide +kernel
theorem dX12_image_10 : decode cX12_image 10 = .ok (.iconst 1, 1) := by decide +kernel
theorem dX12_image_11 : decode cX12_image 11 = .ok (.iaload, 1) := by decide +kernel
theorem dX12_image_12 : decode cX12_image 12 = .ok (.putfield 396, 3) := by decide +kernel
theorem dX12_image_15 : decode cX12_image 15 = .ok (.aload_n 0, 1) := by decide +kernel
theorem dX12_image_16 : decode cX12_image 16 = .ok (.aload_n 0, 1) := by decide +kernel
theorem dX12_image_17 : decode cX12_image 17 = .ok (.getfield 107, 3) := by decide +kernel
theorem dX12_image_20 : decode cX12_image 20 = .ok (.putfield 399, 3) := by decide +kernel
theorem dX12_image_23 : decode cX12_image 23 = .ok (.iconst 0, 1) := by decide +kernel
theorem dX12_image_24 : decode cX12_image 24 = .ok (.istore_n 1, 1) := by decide +kernel
theorem dX12_image_25 : decode cX12_image 25 = .ok (.iload_n 1, 1) := by decide +kernel
theorem dX12_image_26 : decode cX12_image 26 = .ok (.bipush 6, 2) := by decide +kernel
theorem dX12_image_28 : decode cX12_image 28 = .ok (.if_icmp .ge 21, 3) := by decide +kernel
theorem dX12_image_31 : decode cX12_image 31 = .ok (.aload_n 0, 1) := by decide +kernel
theorem dX12_image_32 : decode cX12_image 32 = .ok (.getfield 111, 3) := by decide +kernel
theorem dX12_image_35 : decode cX12_image 35 = .ok (.iload_n 1, 1) := by decide +kernel
theorem dX12_image_36 : decode cX12_image 36 = .ok (.aload_n 0, 1) := by decide +kernel
theorem dX12_image_37 : decode cX12_image 37 = .ok (.getfield 9, 3) := by decide +kernel
theorem dX12_image_40 : decode cX12_image 40 = .ok (.iload_n 1, 1) := by decide +kernel
theorem dX12_image_41 : decode cX12_image 41 = .ok (.iaload, 1) := by decide +kernel
theorem dX12_image_42 : decode cX12_image 42 = .ok (.iastore, 1) := by decide +kernel
theorem dX12_image_43 : decode cX12_image 43 = .ok (.iinc 1 1, 3) := by decide +kernel
theorem dX12_image_46 : decode cX12_image 46 = .ok (.goto (-21), 3) := by decide +kernel
theorem dX12_image_49 : decode cX12_image 49 = .ok (.iconst 0, 1) := by decide +kernel
theorem dX12_image_50 : decode cX12_image 50 = .ok (.istore_n 1, 1) := by decide +kernel
theorem dX12_image_51 : decode cX12_image 51 = .ok (.iload_n 1, 1) := by decide +kernel
theorem dX12_image_52 : decode cX12_image 52 = .ok (.bipush 30, 2) := by decide +kernel
theorem dX12_image_54 : decode cX12_image 54 = .ok (.if_icmp .ge 38, 3) := by decide +kernel
theorem dX12_image_57 : decode cX12_image 57 = .ok (.iconst 0, 1) := by decide +kernel
theorem dX12_image_58 : decode cX12_image 58 = .ok (.istore_n 2, 1) := by decide +kernel
theorem dX12_image_59 : decode cX12_image 59 = .ok (.iload_n 2, 1) := by decide +kernel
theorem dX12_image_60 : decode cX12_image 60 = .ok (.iconst 5, 1) := by decide +kernel
theorem dX12_image_61 : decode cX12_image 61 = .ok (.if_icmp .ge 25, 3) := by decide +kernel
theorem dX12_image_64 : decode cX12_image 64 = .ok (.aload_n 0, 1) := by decide +kernel
theorem dX12_image_65 : decode cX12_image 65 = .ok (.getfield 114, 3) := by decide +kernel
theorem dX12_image_68 : decode cX12_image 68 = .ok (.iconst 5, 1) := by decide +kernel
theorem dX12_image_69 : decode cX12_image 69 = .ok (.iload_n 1, 1) := by decide +kernel
theorem dX12_image_70 : decode cX12_image 70 = .ok (.imul, 1) := by decide +kernel
theorem dX12_image_71 : decode cX12_image 71 = .ok (.iload_n 2, 1) := by decide +kernel
theorem dX12_image_72 : decode cX12_image 72 = .ok (.iadd, 1) := by decide +kernel
theorem dX12_image_73 : decode cX12_image 73 = .ok (.aload_n 0, 1) := by decide +kernel
theorem dX12_image_74 : decode cX12_image 74 = .ok (.iload_n 2, 1) := by decide +kernel
theorem dX12_image_75 : decode cX12_image 75 = .ok (.iload_n 1, 1) := by decide +kernel
theorem dX12_image_76 : decode cX12_image 76 = .ok (.invokevirtual 159, 3) := by decide +kernel
theorem dX12_image_79 : decode cX12_image 79 = .ok (.iastore, 1) := by decide +kernel
theorem dX12_image_80 : decode cX12_image 80 = .ok (.iinc 2 1, 3) := by decide +kernel
theorem dX12_image_83 : decode cX12_image 83 = .ok (.goto (-24), 3) := by decide +kernel
theorem dX12_image_86 : decode cX12_image 86 = .ok (.iinc 1 1, 3) := by decide +kernel
theorem dX12_image_89 : decode cX12_image 89 = .ok (.goto (-38), 3) := by decide +kernel
theorem dX12_image_92 : decode cX12_image 92 = .ok (.iconst 0, 1) := by decide +kernel
theorem dX12_image_93 : decode cX12_image 93 = .ok (.istore_n 1, 1) := by decide +kernel
theorem dX12_image_94 : decode cX12_image 94 = .ok (.iload_n 1, 1) := by decide +kernel
theorem dX12_image_95 : decode cX12_image 95 = .ok (.iconst 5, 1) := by decide +kernel
theorem dX12_image_96 : decode cX12_image 96 = .ok (.if_icmp .ge 21, 3) := by decide +kernel
theorem dX12_image_99 : decode cX12_image 99 = .ok (.aload_n 0, 1) := by decide +kernel
theorem dX12_image_100 : decode cX12_image 100 = .ok (.getfield 117, 3) := by decide +kernel
theorem dX12_image_103 : decode cX12_image 103 = .ok (.iload_n 1, 1) := by decide +kernel
theorem dX12_image_104 : decode cX12_image 104 = .ok (.aload_n 0, 1) := by decide +kernel
theorem dX12_image_105 : decode cX12_image 105 = .ok (.getfield 36, 3) := by decide +kernel
theorem dX12_image_108 : decode cX12_image 108 = .ok (.iload_n 1, 1) := by decide +kernel
theorem dX12_image_109 : decode cX12_image 109 = .ok (.iaload, 1) := by decide +kernel
theorem dX12_image_110 : decode cX12_image 110 = .ok (.iastore, 1) := by decide +kernel
theorem dX12_image_111 : decode cX12_image 111 = .ok (.iinc 1 1, 3) := by decide +kernel
theorem dX12_image_114 : decode cX12_image 114 = .ok (.goto (-20), 3) := by decide +kernel
theorem dX12_image_117 : decode cX12_image 117 = .ok (.aload_n 0, 1) := by decide +kernel
theorem dX12_image_118 : decode cX12_image 118 = .ok (.getfield 36, 3) := by decide +kernel
theorem dX12_image_121 : decode cX12_image 121 = .ok (.iconst 4, 1) := by decide +kernel
theorem dX12_image_122 : decode cX12_image 122 = .ok (.iaload, 1) := by decide +kernel
theorem dX12_image_123 : decode cX12_image 123 = .ok (.ireturn, 1) := by decide +kernel
theorem dX12_back_0 : decode cX12_back 0 = .ok (.aload_n 0, 1) := by decide +kernel
theorem dX12_back_1 : decode cX12_back 1 = .ok (.getfield 393, 3) := by decide +kernel
theorem dX12_back_4 : decode cX12_back 4 = .ok (.ifCond .ne 6, 3) := by decide +kernel
theorem dX12_back_7 : decode cX12_back 7 = .ok (.bipush (-5), 2) := by decide +kernel
theorem dX12_back_9 : decode cX12_back 9 = .ok (.ireturn, 1) := by decide +kernel
theorem dX12_back_10 : decode cX12_back 10 = .ok (.aload_n 0, 1) := by decide +kernel
theorem dX12_back_11 : decode cX12_back 11 = .ok (.getfield 33, 3) := by decide +kernel
theorem dX12_back_14 : decode cX12_back 14 = .ok (.iconst 1, 1) := by decide +kernel
theorem dX12_back_15 : decode cX12_back 15 = .ok (.aload_n 0, 1) := by decide +kernel
theorem dX12_back_16 : decode cX12_back 16 = .ok (.getfield 396, 3) := by decide +kernel
theorem dX12_back_19 : decode cX12_back 19 = .ok (.iastore, 1) := by decide +kernel
theorem dX12_back_20 : decode cX12_back 20 = .ok (.aload_n 0, 1) := by decide +kernel
theorem dX12_back_21 : decode cX12_back 21 = .ok (.aload_n 0, 1) := by decide +kernel
theorem dX12_back_22 : decode cX12_back 22 = .ok (.getfield 399, 3) := by decide +kernel
theorem dX12_back_25 : decode cX12_back 25 = .ok (.putfield 107, 3) := by decide +kernel
theorem dX12_back_28 : decode cX12_back 28 = .ok (.iconst 0, 1) := by decide +kernel
theorem dX12_back_29 : decode cX12_back 29 = .ok (.istore_n 1, 1) := by decide +kernel
theorem dX12_back_30 : decode cX12_back 30 = .ok (.iload_n 1, 1) := by decide +kernel
theorem dX12_back_31 : decode cX12_back 31 = .ok (.bipush 6, 2) := by decide +kernel
theorem dX12_back_33 : decode cX12_back 33 = .ok (.if_icmp .ge 21, 3) := by decide +kernel
theorem dX12_back_36 : decode cX12_back 36 = .ok (.aload_n 0, 1) := by decide +kernel
theorem dX12_back_37 : decode cX12_back 37 = .ok (.getfield 9, 3) := by decide +kernel
theorem dX12_back_40 : decode cX12_back 40 = .ok (.iload_n 1, 1) := by decide +kernel
theorem dX12_back_41 : decode cX12_back 41 = .ok (.aload_n 0, 1) := by decide +kernel
theorem dX12_back_42 : decode cX12_back 42 = .ok (.getfield 111, 3) := by decide +kernel
theorem dX12_back_45 : decode cX12_back 45 = .ok (.iload_n 1, 1) := by decide +kernel
theorem dX12_back_46 : decode cX12_back 46 = .ok (.iaload, 1) := by decide +kernel
theorem dX12_back_47 : decode cX12_back 47 = .ok (.iastore, 1) := by decide +kernel
theorem dX12_back_48 : decode cX12_back 48 = .ok (.iinc 1 1, 3) := by decide +kernel
theorem dX12_back_51 : decode cX12_back 51 = .ok (.goto (-21), 3) := by decide +kernel
theorem dX12_back_54 : decode cX12_back 54 = .ok (.iconst 0, 1) := by decide +kernel
theorem dX12_back_55 : decode cX12_back 55 = .ok (.istore_n 1, 1) := by decide +kernel
theorem dX12_back_56 : decode cX12_back 56 = .ok (.iload_n 1, 1) := by decide +kernel
theorem dX12_back_57 : decode cX12_back 57 = .ok (.bipush 30, 2) := by decide +kernel
theorem dX12_back_59 : decode cX12_back 59 = .ok (.if_icmp .ge 38, 3) := by decide +kernel
theorem dX12_back_62 : decode cX12_back 62 = .ok (.iconst 0, 1) := by decide +kernel
theorem dX12_back_63 : decode cX12_back 63 = .ok (.istore_n 2, 1) := by decide +kernel
theorem dX12_back_64 : decode cX12_back 64 = .ok (.iload_n 2, 1) := by decide +kernel
theorem dX12_back_65 : decode cX12_back 65 = .ok (.iconst 5, 1) := by decide +kernel
theorem dX12_back_66 : decode cX12_back 66 = .ok (.if_icmp .ge 25, 3) := by decide +kernel
theorem dX12_back_69 : decode cX12_back 69 = .ok (.aload_n 0, 1) := by decide +kernel
theorem dX12_back_70 : decode cX12_back 70 = .ok (.iload_n 2, 1) := by decide +kernel
theorem dX12_back_71 : decode cX12_back 71 = .ok (.iload_n 1, 1) := by decide +kernel
theorem dX12_back_72 : decode cX12_back 72 = .ok (.aload_n 0, 1) := by decide +kernel
theorem dX12_back_73 : decode cX12_back 73 = .ok (.getfield 114, 3) := by decide +kernel
theorem dX12_back_76 : decode cX12_back 76 = .ok (.iconst 5, 1) := by decide +kernel
theorem dX12_back_77 : decode cX12_back 77 = .ok (.iload_n 1, 1) := by decide +kernel
theorem dX12_back_78 : decode cX12_back 78 = .ok (.imul, 1) := by decide +kernel
theorem dX12_back_79 : decode cX12_back 79 = .ok (.iload_n 2, 1) := by decide +kernel
theorem dX12_back_80 : decode cX12_back 80 = .ok (.iadd, 1) := by decide +kernel
theorem dX12_back_81 : decode cX12_back 81 = .ok (.iaload, 1) := by decide +kernel
theorem dX12_back_82 : decode cX12_back 82 = .ok (.invokevirtual 169, 3) := by decide +kernel
theorem dX12_back_85 : decode cX12_back 85 = .ok (.iinc 2 1, 3) := by decide +kernel
theorem dX12_back_88 : decode cX12_back 88 = .ok (.goto (-24), 3) := by decide +kernel
theorem dX12_back_91 : decode cX12_back 91 = .ok (.iinc 1 1, 3) := by decide +kernel
theorem dX12_back_94 : decode cX12_back 94 = .ok (.goto (-38), 3) := by decide +kernel
theorem dX12_back_97 : decode cX12_back 97 = .ok (.iconst 0, 1) := by decide +kernel
theorem dX12_back_98 : decode cX12_back 98 = .ok (.istore_n 1, 1) := by decide +kernel
theorem dX12_back_99 : decode cX12_back 99 = .ok (.iload_n 1, 1) := by decide +kernel
theorem dX12_back_100 : decode cX12_back 100 = .ok (.iconst 5, 1) := by decide +kernel
theorem dX12_back_101 : decode cX12_back 101 = .ok (.if_icmp .ge 21, 3) := by decide +kernel
theorem dX12_back_104 : decode cX12_back 104 = .ok (.aload_n 0, 1) := by decide +kernel
theorem dX12_back_105 : decode cX12_back 105 = .ok (.getfield 36, 3) := by decide +kernel
theorem dX12_back_108 : decode cX12_back 108 = .ok (.iload_n 1, 1) := by decide +kernel
theorem dX12_back_109 : decode cX12_back 109 = .ok (.aload_n 0, 1) := by decide +kernel
theorem dX12_back_110 : decode cX12_back 110 = .ok (.getfield 117, 3) := by decide +kernel
theorem dX12_back_113 : decode cX12_back 113 = .ok (.iload_n 1, 1) := by decide +kernel
theorem dX12_back_114 : decode cX12_back 114 = .ok (.iaload, 1) := by decide +kernel
theorem dX12_back_115 : decode cX12_back 115 = .ok (.iastore, 1) := by decide +kernel
theorem dX12_back_116 : decode cX12_back 116 = .ok (.iinc 1 1, 3) := by decide +kernel
theorem dX12_back_119 : decode cX12_back 119 = .ok (.goto (-20), 3) := by decide +kernel
theorem dX12_back_122 : decode cX12_back 122 = .ok (.aload_n 0, 1) := by decide +kernel
theorem dX12_back_123 : decode cX12_back 123 = .ok (.getfield 36, 3) := by decide +kernel
theorem dX12_back_126 : decode cX12_back 126 = .ok (.iconst 4, 1) := by decide +kernel
theorem dX12_back_127 : decode cX12_back 127 = .ok (.iaload, 1) := by decide +kernel
theorem dX12_back_128 : decode cX12_back 128 = .ok (.ireturn, 1) := by decide +kernel
theorem dX12_isBody_0 : decode cX12_isBody 0 = .ok (.iload_n 1, 1) := by decide +kernel
theorem dX12_isBody_1 : decode cX12_isBody 1 = .ok (.iconst 0, 1) := by decide +kernel
theorem dX12_isBody_2 : decode cX12_isBody 2 = .ok (.aload_n 0, 1) := by decide +kernel
theorem dX12_isBody_3 : decode cX12_isBody 3 = .ok (.getfield 402, 3) := by decide +kernel
theorem dX12_isBody_6 : decode cX12_isBody 6 = .ok (.iconst 1, 1) := by decide +kernel
theorem dX12_isBody_7 : decode cX12_isBody 7 = .ok (.isub, 1) := by decide +kernel
theorem dX12_isBody_8 : decode cX12_isBody 8 = .ok (.invokestatic 142, 3) := by decide +kernel
theorem dX12_isBody_11 : decode cX12_isBody 11 = .ok (.ireturn, 1) := by decide +kernel
theorem dX12_ran_0 : decode cX12_ran 0 = .ok (.aload_n 0, 1) := by decide +kernel
theorem dX12_ran_1 : decode cX12_ran 1 = .ok (.getfield 405, 3) := by decide +kernel
theorem dX12_ran_4 : decode cX12_ran 4 = .ok (.bipush 24, 2) := by decide +kernel
theorem dX12_ran_6 : decode cX12_ran 6 = .ok (.if_icmp .ge 13, 3) := by decide +kernel
theorem dX12_ran_9 : decode cX12_ran 9 = .ok (.aload_n 0, 1) := by decide +kernel
theorem dX12_ran_10 : decode cX12_ran 10 = .ok (.getfield 123, 3) := by decide +kernel
theorem dX12_ran_13 : decode cX12_ran 13 = .ok (.aload_n 0, 1) := by decide +kernel
theorem dX12_ran_14 : decode cX12_ran 14 = .ok (.getfield 405, 3) := by decide +kernel
theorem dX12_ran_17 : decode cX12_ran 17 = .ok (.iload_n 1, 1) := by decide +kernel
theorem dX12_ran_18 : decode cX12_ran 18 = .ok (.iastore, 1) := by decide +kernel
theorem dX12_ran_19 : decode cX12_ran 19 = .ok (.aload_n 0, 1) := by decide +kernel
theorem dX12_ran_20 : decode cX12_ran 20 = .ok (.dup, 1) := by decide +kernel
theorem dX12_ran_21 : decode cX12_ran 21 = .ok (.getfield 405, 3) := by decide +kernel
theorem dX12_ran_24 : decode cX12_ran 24 = .ok (.iconst 1, 1) := by decide +kernel
theorem dX12_ran_25 : decode cX12_ran 25 = .ok (.iadd, 1) := by decide +kernel
theorem dX12_ran_26 : decode cX12_ran 26 = .ok (.putfield 405, 3) := by decide +kernel
theorem dX12_ran_29 : decode cX12_ran 29 = .ok (.return_, 1) := by decide +kernel
theorem dX12_trace_0 : decode cX12_trace 0 = .ok (.iload_n 1, 1) := by decide +kernel
theorem dX12_trace_1 : decode cX12_trace 1 = .ok (.ifCond .lt 26, 3) := by decide +kernel
theorem dX12_trace_4 : decode cX12_trace 4 = .ok (.iload_n 1, 1) := by decide +kernel
theorem dX12_trace_5 : decode cX12_trace 5 = .ok (.aload_n 0, 1) := by decide +kernel
theorem dX12_trace_6 : decode cX12_trace 6 = .ok (.getfield 405, 3) := by decide +kernel
theorem dX12_trace_9 : decode cX12_trace 9 = .ok (.if_icmp .ge 18, 3) := by decide +kernel
theorem dX12_trace_12 : decode cX12_trace 12 = .ok (.iload_n 1, 1) := by decide +kernel
theorem dX12_trace_13 : decode cX12_trace 13 = .ok (.bipush 24, 2) := by decide +kernel
theorem dX12_trace_15 : decode cX12_trace 15 = .ok (.if_icmp .ge 12, 3) := by decide +kernel
theorem dX12_trace_18 : decode cX12_trace 18 = .ok (.aload_n 0, 1) := by decide +kernel
theorem dX12_trace_19 : decode cX12_trace 19 = .ok (.getfield 123, 3) := by decide +kernel
theorem dX12_trace_22 : decode cX12_trace 22 = .ok (.iload_n 1, 1) := by decide +kernel
theorem dX12_trace_23 : decode cX12_trace 23 = .ok (.iaload, 1) := by decide +kernel
theorem dX12_trace_24 : decode cX12_trace 24 = .ok (.goto 4, 3) := by decide +kernel
theorem dX12_trace_27 : decode cX12_trace 27 = .ok (.iconst (-1), 1) := by decide +kernel
theorem dX12_trace_28 : decode cX12_trace 28 = .ok (.ireturn, 1) := by decide +kernel
theorem dX12_body_0 : decode cX12_body 0 = .ok (.iload_n 1, 1) := by decide +kernel
theorem dX12_body_1 : decode cX12_body 1 = .ok (.iconst 0, 1) := by decide +kernel
theorem dX12_body_2 : decode cX12_body 2 = .ok (.bipush 7, 2) := by decide +kernel
theorem dX12_body_4 : decode cX12_body 4 = .ok (.invokestatic 142, 3) := by decide +kernel
theorem dX12_body_7 : decode cX12_body 7 = .ok (.ifCond .ne 5, 3) := by decide +kernel
theorem dX12_body_10 : decode cX12_body 10 = .ok (.iconst (-1), 1) := by decide +kernel
theorem dX12_body_11 : decode cX12_body 11 = .ok (.ireturn, 1) := by decide +kernel
theorem dX12_body_12 : decode cX12_body 12 = .ok (.aload_n 0, 1) := by decide +kernel
theorem dX12_body_13 : decode cX12_body 13 = .ok (.getfield 402, 3) := by decide +kernel
theorem dX12_body_16 : decode cX12_body 16 = .ok (.bipush 50, 2) := by decide +kernel
theorem dX12_body_18 : decode cX12_body 18 = .ok (.if_icmp .ne 6, 3) := by decide +kernel
theorem dX12_body_21 : decode cX12_body 21 = .ok (.bipush (-3), 2) := by decide +kernel
theorem dX12_body_23 : decode cX12_body 23 = .ok (.ireturn, 1) := by decide +kernel
theorem dX12_body_24 : decode cX12_body 24 = .ok (.aload_n 0, 1) := by decide +kernel
theorem dX12_body_25 : decode cX12_body 25 = .ok (.getfield 120, 3) := by decide +kernel
theorem dX12_body_28 : decode cX12_body 28 = .ok (.aload_n 0, 1) := by decide +kernel
theorem dX12_body_29 : decode cX12_body 29 = .ok (.getfield 402, 3) := by decide +kernel
theorem dX12_body_32 : decode cX12_body 32 = .ok (.iload_n 1, 1) := by decide +kernel
theorem dX12_body_33 : decode cX12_body 33 = .ok (.iastore, 1) := by decide +kernel
theorem dX12_body_34 : decode cX12_body 34 = .ok (.aload_n 0, 1) := by decide +kernel
theorem dX12_body_35 : decode cX12_body 35 = .ok (.dup, 1) := by decide +kernel
theorem dX12_body_36 : decode cX12_body 36 = .ok (.getfield 402, 3) := by decide +kernel
theorem dX12_body_39 : decode cX12_body 39 = .ok (.iconst 1, 1) := by decide +kernel
theorem dX12_body_40 : decode cX12_body 40 = .ok (.iadd, 1) := by decide +kernel
theorem dX12_body_41 : decode cX12_body 41 = .ok (.putfield 402, 3) := by decide +kernel
theorem dX12_body_44 : decode cX12_body 44 = .ok (.aload_n 0, 1) := by decide +kernel
theorem dX12_body_45 : decode cX12_body 45 = .ok (.getfield 402, 3) := by decide +kernel
theorem dX12_body_48 : decode cX12_body 48 = .ok (.iconst 1, 1) := by decide +kernel
theorem dX12_body_49 : decode cX12_body 49 = .ok (.isub, 1) := by decide +kernel
theorem dX12_body_50 : decode cX12_body 50 = .ok (.ireturn, 1) := by decide +kernel
theorem dX12_isUnder_0 : decode cX12_isUnder 0 = .ok (.iload_n 1, 1) := by decide +kernel
theorem dX12_isUnder_1 : decode cX12_isUnder 1 = .ok (.ifCond .eq 55, 3) := by decide +kernel
theorem dX12_isUnder_4 : decode cX12_isUnder 4 = .ok (.iload_n 0, 1) := by decide +kernel
theorem dX12_isUnder_5 : decode cX12_isUnder 5 = .ok (.iload_n 1, 1) := by decide +kernel
theorem dX12_isUnder_6 : decode cX12_isUnder 6 = .ok (.if_icmp .eq 50, 3) := by decide +kernel
theorem dX12_isUnder_9 : decode cX12_isUnder 9 = .ok (.iload_n 1, 1) := by decide +kernel
theorem dX12_isUnder_10 : decode cX12_isUnder 10 = .ok (.iconst 1, 1) := by decide +kernel
theorem dX12_isUnder_11 : decode cX12_isUnder 11 = .ok (.if_icmp .ne 8, 3) := by decide +kernel
theorem dX12_isUnder_14 : decode cX12_isUnder 14 = .ok (.iload_n 0, 1) := by decide +kernel
theorem dX12_isUnder_15 : decode cX12_isUnder 15 = .ok (.iconst 4, 1) := by decide +kernel
theorem dX12_isUnder_16 : decode cX12_isUnder 16 = .ok (.if_icmp .eq 40, 3) := by decide +kernel
theorem dX12_isUnder_19 : decode cX12_isUnder 19 = .ok (.iload_n 1, 1) := by decide +kernel
theorem dX12_isUnder_20 : decode cX12_isUnder 20 = .ok (.iconst 2, 1) := by decide +kernel
theorem dX12_isUnder_21 : decode cX12_isUnder 21 = .ok (.if_icmp .ne 13, 3) := by decide +kernel
theorem dX12_isUnder_24 : decode cX12_isUnder 24 = .ok (.iload_n 0, 1) := by decide +kernel
theorem dX12_isUnder_25 : decode cX12_isUnder 25 = .ok (.iconst 3, 1) := by decide +kernel
theorem dX12_isUnder_26 : decode cX12_isUnder 26 = .ok (.if_icmp .eq 30, 3) := by decide +kernel
theorem dX12_isUnder_29 : decode cX12_isUnder 29 = .ok (.iload_n 0, 1) := by decide +kernel
theorem dX12_isUnder_30 : decode cX12_isUnder 30 = .ok (.iconst 5, 1) := by decide +kernel
theorem dX12_isUnder_31 : decode cX12_isUnder 31 = .ok (.if_icmp .eq 25, 3) := by decide +kernel
theorem dX12_isUnder_34 : decode cX12_isUnder 34 = .ok (.iload_n 1, 1) := by decide +kernel
theorem dX12_isUnder_35 : decode cX12_isUnder 35 = .ok (.iconst 3, 1) := by decide +kernel
theorem dX12_isUnder_36 : decode cX12_isUnder 36 = .ok (.if_icmp .ne 8, 3) := by decide +kernel
theorem dX12_isUnder_39 : decode cX12_isUnder 39 = .ok (.iload_n 0, 1) := by decide +kernel
theorem dX12_isUnder_40 : decode cX12_isUnder 40 = .ok (.iconst 5, 1) := by decide +kernel
theorem dX12_isUnder_41 : decode cX12_isUnder 41 = .ok (.if_icmp .eq 15, 3) := by decide +kernel
theorem dX12_isUnder_44 : decode cX12_isUnder 44 = .ok (.iload_n 1, 1) := by decide +kernel
theorem dX12_isUnder_45 : decode cX12_isUnder 45 = .ok (.bipush 6, 2) := by decide +kernel
theorem dX12_isUnder_47 : decode cX12_isUnder 47 = .ok (.if_icmp .ne 13, 3) := by decide +kernel
theorem dX12_isUnder_50 : decode cX12_isUnder 50 = .ok (.iload_n 0, 1) := by decide +kernel
theorem dX12_isUnder_51 : decode cX12_isUnder 51 = .ok (.bipush 7, 2) := by decide +kernel
theorem dX12_isUnder_53 : decode cX12_isUnder 53 = .ok (.if_icmp .ne 7, 3) := by decide +kernel
theorem dX12_isUnder_56 : decode cX12_isUnder 56 = .ok (.iconst 1, 1) := by decide +kernel
theorem dX12_isUnder_57 : decode cX12_isUnder 57 = .ok (.goto 4, 3) := by decide +kernel
theorem dX12_isUnder_60 : decode cX12_isUnder 60 = .ok (.iconst 0, 1) := by decide +kernel
theorem dX12_isUnder_61 : decode cX12_isUnder 61 = .ok (.ireturn, 1) := by decide +kernel
theorem dX12_plainReads_0 : decode cX12_plainReads 0 = .ok (.aload_n 0, 1) := by decide +kernel
theorem dX12_plainReads_1 : decode cX12_plainReads 1 = .ok (.iconst 1, 1) := by decide +kernel
theorem dX12_plainReads_2 : decode cX12_plainReads 2 = .ok (.invokevirtual 408, 3) := by decide +kernel
theorem dX12_plainReads_5 : decode cX12_plainReads 5 = .ok (.iload_n 2, 1) := by decide +kernel
theorem dX12_plainReads_6 : decode cX12_plainReads 6 = .ok (.iload_n 1, 1) := by decide +kernel
theorem dX12_plainReads_7 : decode cX12_plainReads 7 = .ok (.iadd, 1) := by decide +kernel
theorem dX12_plainReads_8 : decode cX12_plainReads 8 = .ok (.ireturn, 1) := by decide +kernel
theorem dX12_saltReads_0 : decode cX12_saltReads 0 = .ok (.aload_n 0, 1) := by decide +kernel
theorem dX12_saltReads_1 : decode cX12_saltReads 1 = .ok (.bipush 70, 2) := by decide +kernel
theorem dX12_saltReads_3 : decode cX12_saltReads 3 = .ok (.invokevirtual 408, 3) := by decide +kernel
theorem dX12_saltReads_6 : decode cX12_saltReads 6 = .ok (.aload_n 0, 1) := by decide +kernel
theorem dX12_saltReads_7 : decode cX12_saltReads 7 = .ok (.iload_n 1, 1) := by decide +kernel
theorem dX12_saltReads_8 : decode cX12_saltReads 8 = .ok (.iload_n 2, 1) := by decide +kernel
theorem dX12_saltReads_9 : decode cX12_saltReads 9 = .ok (.invokevirtual 411, 3) := by decide +kernel
theorem dX12_saltReads_12 : decode cX12_saltReads 12 = .ok (.iconst 2, 1) := by decide +kernel
theorem dX12_saltReads_13 : decode cX12_saltReads 13 = .ok (.imul, 1) := by decide +kernel
theorem dX12_saltReads_14 : decode cX12_saltReads 14 = .ok (.ireturn, 1) := by decide +kernel
theorem dX12_reading_0 : decode cX12_reading 0 = .ok (.aload_n 0, 1) := by decide +kernel
theorem dX12_reading_1 : decode cX12_reading 1 = .ok (.getfield 120, 3) := by decide +kernel
theorem dX12_reading_4 : decode cX12_reading 4 = .ok (.iload_n 1, 1) := by decide +kernel
theorem dX12_reading_5 : decode cX12_reading 5 = .ok (.iaload, 1) := by decide +kernel
theorem dX12_reading_6 : decode cX12_reading 6 = .ok (.iconst 1, 1) := by decide +kernel
theorem dX12_reading_7 : decode cX12_reading 7 = .ok (.invokestatic 414, 3) := by decide +kernel
theorem dX12_reading_10 : decode cX12_reading 10 = .ok (.ifCond .eq 18, 3) := by decide +kernel
theorem dX12_reading_13 : decode cX12_reading 13 = .ok (.aload_n 0, 1) := by decide +kernel
theorem dX12_reading_14 : decode cX12_reading 14 = .ok (.bipush 20, 2) := by decide +kernel
theorem dX12_reading_16 : decode cX12_reading 16 = .ok (.invokevirtual 408, 3) := by decide +kernel
theorem dX12_reading_19 : decode cX12_reading 19 = .ok (.aload_n 0, 1) := by decide +kernel
theorem dX12_reading_20 : decode cX12_reading 20 = .ok (.iload_n 1, 1) := by decide +kernel
theorem dX12_reading_21 : decode cX12_reading 21 = .ok (.iload_n 2, 1) := by decide +kernel
theorem dX12_reading_22 : decode cX12_reading 22 = .ok (.invokevirtual 411, 3) := by decide +kernel
theorem dX12_reading_25 : decode cX12_reading 25 = .ok (.iconst 3, 1) := by decide +kernel
theorem dX12_reading_26 : decode cX12_reading 26 = .ok (.iadd, 1) := by decide +kernel
theorem dX12_reading_27 : decode cX12_reading 27 = .ok (.ireturn, 1) := by decide +kernel
theorem dX12_reading_28 : decode cX12_reading 28 = .ok (.aload_n 0, 1) := by decide +kernel
theorem dX12_reading_29 : decode cX12_reading 29 = .ok (.getfield 120, 3) := by decide +kernel
theorem dX12_reading_32 : decode cX12_reading 32 = .ok (.iload_n 1, 1) := by decide +kernel
theorem dX12_reading_33 : decode cX12_reading 33 = .ok (.iaload, 1) := by decide +kernel
theorem dX12_reading_34 : decode cX12_reading 34 = .ok (.bipush 7, 2) := by decide +kernel
theorem dX12_reading_36 : decode cX12_reading 36 = .ok (.if_icmp .ne 18, 3) := by decide +kernel
theorem dX12_reading_39 : decode cX12_reading 39 = .ok (.aload_n 0, 1) := by decide +kernel
theorem dX12_reading_40 : decode cX12_reading 40 = .ok (.bipush 81, 2) := by decide +kernel
theorem dX12_reading_42 : decode cX12_reading 42 = .ok (.invokevirtual 408, 3) := by decide +kernel
theorem dX12_reading_45 : decode cX12_reading 45 = .ok (.aload_n 0, 1) := by decide +kernel
theorem dX12_reading_46 : decode cX12_reading 46 = .ok (.iload_n 1, 1) := by decide +kernel
theorem dX12_reading_47 : decode cX12_reading 47 = .ok (.iload_n 2, 1) := by decide +kernel
theorem dX12_reading_48 : decode cX12_reading 48 = .ok (.invokevirtual 417, 3) := by decide +kernel
theorem dX12_reading_51 : decode cX12_reading 51 = .ok (.iconst 1, 1) := by decide +kernel
theorem dX12_reading_52 : decode cX12_reading 52 = .ok (.isub, 1) := by decide +kernel
theorem dX12_reading_53 : decode cX12_reading 53 = .ok (.ireturn, 1) := by decide +kernel
theorem dX12_reading_54 : decode cX12_reading 54 = .ok (.aload_n 0, 1) := by decide +kernel
theorem dX12_reading_55 : decode cX12_reading 55 = .ok (.getfield 120, 3) := by decide +kernel
theorem dX12_reading_58 : decode cX12_reading 58 = .ok (.iload_n 1, 1) := by decide +kernel
theorem dX12_reading_59 : decode cX12_reading 59 = .ok (.iaload, 1) := by decide +kernel
theorem dX12_reading_60 : decode cX12_reading 60 = .ok (.bipush 6, 2) := by decide +kernel
theorem dX12_reading_62 : decode cX12_reading 62 = .ok (.if_icmp .ne 12, 3) := by decide +kernel
theorem dX12_reading_65 : decode cX12_reading 65 = .ok (.aload_n 0, 1) := by decide +kernel
theorem dX12_reading_66 : decode cX12_reading 66 = .ok (.iload_n 1, 1) := by decide +kernel
theorem dX12_reading_67 : decode cX12_reading 67 = .ok (.iload_n 2, 1) := by decide +kernel
theorem dX12_reading_68 : decode cX12_reading 68 = .ok (.invokevirtual 417, 3) := by decide +kernel
theorem dX12_reading_71 : decode cX12_reading 71 = .ok (.goto 9, 3) := by decide +kernel
theorem dX12_reading_74 : decode cX12_reading 74 = .ok (.aload_n 0, 1) := by decide +kernel
theorem dX12_reading_75 : decode cX12_reading 75 = .ok (.iload_n 1, 1) := by decide +kernel
theorem dX12_reading_76 : decode cX12_reading 76 = .ok (.iload_n 2, 1) := by decide +kernel
theorem dX12_reading_77 : decode cX12_reading 77 = .ok (.invokevirtual 411, 3) := by decide +kernel
theorem dX12_reading_80 : decode cX12_reading 80 = .ok (.ireturn, 1) := by decide +kernel
theorem dX12_plainHeats_0 : decode cX12_plainHeats 0 = .ok (.aload_n 0, 1) := by decide +kernel
theorem dX12_plainHeats_1 : decode cX12_plainHeats 1 = .ok (.bipush 10, 2) := by decide +kernel
theorem dX12_plainHeats_3 : decode cX12_plainHeats 3 = .ok (.invokevirtual 408, 3) := by decide +kernel
theorem dX12_plainHeats_6 : decode cX12_plainHeats 6 = .ok (.aload_n 0, 1) := by decide +kernel
theorem dX12_plainHeats_7 : decode cX12_plainHeats 7 = .ok (.iload_n 1, 1) := by decide +kernel
theorem dX12_plainHeats_8 : decode cX12_plainHeats 8 = .ok (.iload_n 2, 1) := by decide +kernel
theorem dX12_plainHeats_9 : decode cX12_plainHeats 9 = .ok (.invokevirtual 420, 3) := by decide +kernel
theorem dX12_plainHeats_12 : decode cX12_plainHeats 12 = .ok (.iconst 2, 1) := by decide +kernel
theorem dX12_plainHeats_13 : decode cX12_plainHeats 13 = .ok (.imul, 1) := by decide +kernel
theorem dX12_plainHeats_14 : decode cX12_plainHeats 14 = .ok (.ireturn, 1) := by decide +kernel
theorem dX12_smokeHeats_0 : decode cX12_smokeHeats 0 = .ok (.aload_n 0, 1) := by decide +kernel
theorem dX12_smokeHeats_1 : decode cX12_smokeHeats 1 = .ok (.bipush 30, 2) := by decide +kernel
theorem dX12_smokeHeats_3 : decode cX12_smokeHeats 3 = .ok (.invokevirtual 408, 3) := by decide +kernel
theorem dX12_smokeHeats_6 : decode cX12_smokeHeats 6 = .ok (.aload_n 0, 1) := by decide +kernel
theorem dX12_smokeHeats_7 : decode cX12_smokeHeats 7 = .ok (.iload_n 1, 1) := by decide +kernel
theorem dX12_smokeHeats_8 : decode cX12_smokeHeats 8 = .ok (.iload_n 2, 1) := by decide +kernel
theorem dX12_smokeHeats_9 : decode cX12_smokeHeats 9 = .ok (.invokevirtual 423, 3) := by decide +kernel
theorem dX12_smokeHeats_12 : decode cX12_smokeHeats 12 = .ok (.ineg, 1) := by decide +kernel
theorem dX12_smokeHeats_13 : decode cX12_smokeHeats 13 = .ok (.ireturn, 1) := by decide +kernel
theorem dX12_heating_0 : decode cX12_heating 0 = .ok (.aload_n 0, 1) := by decide +kernel
theorem dX12_heating_1 : decode cX12_heating 1 = .ok (.getfield 120, 3) := by decide +kernel
theorem dX12_heating_4 : decode cX12_heating 4 = .ok (.iload_n 1, 1) := by decide +kernel
theorem dX12_heating_5 : decode cX12_heating 5 = .ok (.iaload, 1) := by decide +kernel
theorem dX12_heating_6 : decode cX12_heating 6 = .ok (.iconst 3, 1) := by decide +kernel
theorem dX12_heating_7 : decode cX12_heating 7 = .ok (.invokestatic 414, 3) := by decide +kernel
theorem dX12_heating_10 : decode cX12_heating 10 = .ok (.ifCond .eq 18, 3) := by decide +kernel
theorem dX12_heating_13 : decode cX12_heating 13 = .ok (.aload_n 0, 1) := by decide +kernel
theorem dX12_heating_14 : decode cX12_heating 14 = .ok (.bipush 41, 2) := by decide +kernel
theorem dX12_heating_16 : decode cX12_heating 16 = .ok (.invokevirtual 408, 3) := by decide +kernel
theorem dX12_heating_19 : decode cX12_heating 19 = .ok (.aload_n 0, 1) := by decide +kernel
theorem dX12_heating_20 : decode cX12_heating 20 = .ok (.iload_n 1, 1) := by decide +kernel
theorem dX12_heating_21 : decode cX12_heating 21 = .ok (.iload_n 2, 1) := by decide +kernel
theorem dX12_heating_22 : decode cX12_heating 22 = .ok (.iconst 1, 1) := by decide +kernel
theorem dX12_heating_23 : decode cX12_heating 23 = .ok (.iadd, 1) := by decide +kernel
theorem dX12_heating_24 : decode cX12_heating 24 = .ok (.invokevirtual 426, 3) := by decide +kernel
theorem dX12_heating_27 : decode cX12_heating 27 = .ok (.ireturn, 1) := by decide +kernel
theorem dX12_heating_28 : decode cX12_heating 28 = .ok (.aload_n 0, 1) := by decide +kernel
theorem dX12_heating_29 : decode cX12_heating 29 = .ok (.getfield 120, 3) := by decide +kernel
theorem dX12_heating_32 : decode cX12_heating 32 = .ok (.iload_n 1, 1) := by decide +kernel
theorem dX12_heating_33 : decode cX12_heating 33 = .ok (.iaload, 1) := by decide +kernel
theorem dX12_heating_34 : decode cX12_heating 34 = .ok (.bipush 7, 2) := by decide +kernel
theorem dX12_heating_36 : decode cX12_heating 36 = .ok (.if_icmp .ne 25, 3) := by decide +kernel
theorem dX12_heating_39 : decode cX12_heating 39 = .ok (.aload_n 0, 1) := by decide +kernel
theorem dX12_heating_40 : decode cX12_heating 40 = .ok (.bipush 80, 2) := by decide +kernel
theorem dX12_heating_42 : decode cX12_heating 42 = .ok (.invokevirtual 408, 3) := by decide +kernel
theorem dX12_heating_45 : decode cX12_heating 45 = .ok (.aload_n 0, 1) := by decide +kernel
theorem dX12_heating_46 : decode cX12_heating 46 = .ok (.iload_n 1, 1) := by decide +kernel
theorem dX12_heating_47 : decode cX12_heating 47 = .ok (.iload_n 2, 1) := by decide +kernel
theorem dX12_heating_48 : decode cX12_heating 48 = .ok (.invokevirtual 423, 3) := by decide +kernel
theorem dX12_heating_51 : decode cX12_heating 51 = .ok (.istore_n 3, 1) := by decide +kernel
theorem dX12_heating_52 : decode cX12_heating 52 = .ok (.iload_n 3, 1) := by decide +kernel
theorem dX12_heating_53 : decode cX12_heating 53 = .ok (.aload_n 0, 1) := by decide +kernel
theorem dX12_heating_54 : decode cX12_heating 54 = .ok (.iload_n 1, 1) := by decide +kernel
theorem dX12_heating_55 : decode cX12_heating 55 = .ok (.iconst 2, 1) := by decide +kernel
theorem dX12_heating_56 : decode cX12_heating 56 = .ok (.invokevirtual 429, 3) := by decide +kernel
theorem dX12_heating_59 : decode cX12_heating 59 = .ok (.iadd, 1) := by decide +kernel
theorem dX12_heating_60 : decode cX12_heating 60 = .ok (.ireturn, 1) := by decide +kernel
theorem dX12_heating_61 : decode cX12_heating 61 = .ok (.aload_n 0, 1) := by decide +kernel
theorem dX12_heating_62 : decode cX12_heating 62 = .ok (.getfield 120, 3) := by decide +kernel
theorem dX12_heating_65 : decode cX12_heating 65 = .ok (.iload_n 1, 1) := by decide +kernel
theorem dX12_heating_66 : decode cX12_heating 66 = .ok (.iaload, 1) := by decide +kernel
theorem dX12_heating_67 : decode cX12_heating 67 = .ok (.iconst 2, 1) := by decide +kernel
theorem dX12_heating_68 : decode cX12_heating 68 = .ok (.if_icmp .ne 12, 3) := by decide +kernel
theorem dX12_heating_71 : decode cX12_heating 71 = .ok (.aload_n 0, 1) := by decide +kernel
theorem dX12_heating_72 : decode cX12_heating 72 = .ok (.iload_n 1, 1) := by decide +kernel
theorem dX12_heating_73 : decode cX12_heating 73 = .ok (.iload_n 2, 1) := by decide +kernel
theorem dX12_heating_74 : decode cX12_heating 74 = .ok (.invokevirtual 426, 3) := by decide +kernel
theorem dX12_heating_77 : decode cX12_heating 77 = .ok (.goto 9, 3) := by decide +kernel
theorem dX12_heating_80 : decode cX12_heating 80 = .ok (.aload_n 0, 1) := by decide +kernel
theorem dX12_heating_81 : decode cX12_heating 81 = .ok (.iload_n 1, 1) := by decide +kernel
theorem dX12_heating_82 : decode cX12_heating 82 = .ok (.iload_n 2, 1) := by decide +kernel
theorem dX12_heating_83 : decode cX12_heating 83 = .ok (.invokevirtual 423, 3) := by decide +kernel
theorem dX12_heating_86 : decode cX12_heating 86 = .ok (.ireturn, 1) := by decide +kernel
theorem dX12_plainOpens_0 : decode cX12_plainOpens 0 = .ok (.aload_n 0, 1) := by decide +kernel
theorem dX12_plainOpens_1 : decode cX12_plainOpens 1 = .ok (.bipush 11, 2) := by decide +kernel
theorem dX12_plainOpens_3 : decode cX12_plainOpens 3 = .ok (.invokevirtual 408, 3) := by decide +kernel
theorem dX12_plainOpens_6 : decode cX12_plainOpens 6 = .ok (.iload_n 2, 1) := by decide +kernel
theorem dX12_plainOpens_7 : decode cX12_plainOpens 7 = .ok (.iload_n 1, 1) := by decide +kernel
theorem dX12_plainOpens_8 : decode cX12_plainOpens 8 = .ok (.ixor, 1) := by decide +kernel
theorem dX12_plainOpens_9 : decode cX12_plainOpens 9 = .ok (.ireturn, 1) := by decide +kernel
theorem dX12_chimneyOpens_0 : decode cX12_chimneyOpens 0 = .ok (.aload_n 0, 1) := by decide +kernel
theorem dX12_chimneyOpens_1 : decode cX12_chimneyOpens 1 = .ok (.bipush 40, 2) := by decide +kernel
theorem dX12_chimneyOpens_3 : decode cX12_chimneyOpens 3 = .ok (.invokevirtual 408, 3) := by decide +kernel
theorem dX12_chimneyOpens_6 : decode cX12_chimneyOpens 6 = .ok (.aload_n 0, 1) := by decide +kernel
theorem dX12_chimneyOpens_7 : decode cX12_chimneyOpens 7 = .ok (.iload_n 1, 1) := by decide +kernel
theorem dX12_chimneyOpens_8 : decode cX12_chimneyOpens 8 = .ok (.iload_n 2, 1) := by decide +kernel
theorem dX12_chimneyOpens_9 : decode cX12_chimneyOpens 9 = .ok (.invokevirtual 432, 3) := by decide +kernel
theorem dX12_chimneyOpens_12 : decode cX12_chimneyOpens 12 = .ok (.iconst 3, 1) := by decide +kernel
theorem dX12_chimneyOpens_13 : decode cX12_chimneyOpens 13 = .ok (.imul, 1) := by decide +kernel
theorem dX12_chimneyOpens_14 : decode cX12_chimneyOpens 14 = .ok (.ireturn, 1) := by decide +kernel
theorem dX12_opening_0 : decode cX12_opening 0 = .ok (.aload_n 0, 1) := by decide +kernel
theorem dX12_opening_1 : decode cX12_opening 1 = .ok (.getfield 120, 3) := by decide +kernel
theorem dX12_opening_4 : decode cX12_opening 4 = .ok (.iload_n 1, 1) := by decide +kernel
theorem dX12_opening_5 : decode cX12_opening 5 = .ok (.iaload, 1) := by decide +kernel
theorem dX12_opening_6 : decode cX12_opening 6 = .ok (.iconst 5, 1) := by decide +kernel
theorem dX12_opening_7 : decode cX12_opening 7 = .ok (.if_icmp .ne 25, 3) := by decide +kernel
theorem dX12_opening_10 : decode cX12_opening 10 = .ok (.aload_n 0, 1) := by decide +kernel
theorem dX12_opening_11 : decode cX12_opening 11 = .ok (.bipush 60, 2) := by decide +kernel
theorem dX12_opening_13 : decode cX12_opening 13 = .ok (.invokevirtual 408, 3) := by decide +kernel
theorem dX12_opening_16 : decode cX12_opening 16 = .ok (.aload_n 0, 1) := by decide +kernel
theorem dX12_opening_17 : decode cX12_opening 17 = .ok (.iload_n 1, 1) := by decide +kernel
theorem dX12_opening_18 : decode cX12_opening 18 = .ok (.iload_n 2, 1) := by decide +kernel
theorem dX12_opening_19 : decode cX12_opening 19 = .ok (.invokevirtual 435, 3) := by decide +kernel
theorem dX12_opening_22 : decode cX12_opening 22 = .ok (.istore_n 3, 1) := by decide +kernel
theorem dX12_opening_23 : decode cX12_opening 23 = .ok (.iload_n 3, 1) := by decide +kernel
theorem dX12_opening_24 : decode cX12_opening 24 = .ok (.aload_n 0, 1) := by decide +kernel
theorem dX12_opening_25 : decode cX12_opening 25 = .ok (.iload_n 1, 1) := by decide +kernel
theorem dX12_opening_26 : decode cX12_opening 26 = .ok (.iconst 2, 1) := by decide +kernel
theorem dX12_opening_27 : decode cX12_opening 27 = .ok (.invokevirtual 420, 3) := by decide +kernel
theorem dX12_opening_30 : decode cX12_opening 30 = .ok (.isub, 1) := by decide +kernel
theorem dX12_opening_31 : decode cX12_opening 31 = .ok (.ireturn, 1) := by decide +kernel
theorem dX12_opening_32 : decode cX12_opening 32 = .ok (.aload_n 0, 1) := by decide +kernel
theorem dX12_opening_33 : decode cX12_opening 33 = .ok (.getfield 120, 3) := by decide +kernel
theorem dX12_opening_36 : decode cX12_opening 36 = .ok (.iload_n 1, 1) := by decide +kernel
theorem dX12_opening_37 : decode cX12_opening 37 = .ok (.iaload, 1) := by decide +kernel
theorem dX12_opening_38 : decode cX12_opening 38 = .ok (.iconst 3, 1) := by decide +kernel
theorem dX12_opening_39 : decode cX12_opening 39 = .ok (.if_icmp .ne 12, 3) := by decide +kernel
theorem dX12_opening_42 : decode cX12_opening 42 = .ok (.aload_n 0, 1) := by decide +kernel
theorem dX12_opening_43 : decode cX12_opening 43 = .ok (.iload_n 1, 1) := by decide +kernel
theorem dX12_opening_44 : decode cX12_opening 44 = .ok (.iload_n 2, 1) := by decide +kernel
theorem dX12_opening_45 : decode cX12_opening 45 = .ok (.invokevirtual 435, 3) := by decide +kernel
theorem dX12_opening_48 : decode cX12_opening 48 = .ok (.goto 9, 3) := by decide +kernel
theorem dX12_opening_51 : decode cX12_opening 51 = .ok (.aload_n 0, 1) := by decide +kernel
theorem dX12_opening_52 : decode cX12_opening 52 = .ok (.iload_n 1, 1) := by decide +kernel
theorem dX12_opening_53 : decode cX12_opening 53 = .ok (.iload_n 2, 1) := by decide +kernel
theorem dX12_opening_54 : decode cX12_opening 54 = .ok (.invokevirtual 432, 3) := by decide +kernel
theorem dX12_opening_57 : decode cX12_opening 57 = .ok (.ireturn, 1) := by decide +kernel
theorem dX12_plainTells_0 : decode cX12_plainTells 0 = .ok (.aload_n 0, 1) := by decide +kernel
theorem dX12_plainTells_1 : decode cX12_plainTells 1 = .ok (.iconst 2, 1) := by decide +kernel
theorem dX12_plainTells_2 : decode cX12_plainTells 2 = .ok (.invokevirtual 408, 3) := by decide +kernel
theorem dX12_plainTells_5 : decode cX12_plainTells 5 = .ok (.aload_n 0, 1) := by decide +kernel
theorem dX12_plainTells_6 : decode cX12_plainTells 6 = .ok (.iload_n 1, 1) := by decide +kernel
theorem dX12_plainTells_7 : decode cX12_plainTells 7 = .ok (.iload_n 2, 1) := by decide +kernel
theorem dX12_plainTells_8 : decode cX12_plainTells 8 = .ok (.invokevirtual 438, 3) := by decide +kernel
theorem dX12_plainTells_11 : decode cX12_plainTells 11 = .ok (.istore_n 3, 1) := by decide +kernel
theorem dX12_plainTells_12 : decode cX12_plainTells 12 = .ok (.iload_n 3, 1) := by decide +kernel
theorem dX12_plainTells_13 : decode cX12_plainTells 13 = .ok (.aload_n 0, 1) := by decide +kernel
theorem dX12_plainTells_14 : decode cX12_plainTells 14 = .ok (.iload_n 1, 1) := by decide +kernel
theorem dX12_plainTells_15 : decode cX12_plainTells 15 = .ok (.iconst 1, 1) := by decide +kernel
theorem dX12_plainTells_16 : decode cX12_plainTells 16 = .ok (.invokevirtual 429, 3) := by decide +kernel
theorem dX12_plainTells_19 : decode cX12_plainTells 19 = .ok (.isub, 1) := by decide +kernel
theorem dX12_plainTells_20 : decode cX12_plainTells 20 = .ok (.ireturn, 1) := by decide +kernel
theorem dX12_telling_0 : decode cX12_telling 0 = .ok (.aload_n 0, 1) := by decide +kernel
theorem dX12_telling_1 : decode cX12_telling 1 = .ok (.getfield 120, 3) := by decide +kernel
theorem dX12_telling_4 : decode cX12_telling 4 = .ok (.iload_n 1, 1) := by decide +kernel
theorem dX12_telling_5 : decode cX12_telling 5 = .ok (.iaload, 1) := by decide +kernel
theorem dX12_telling_6 : decode cX12_telling 6 = .ok (.iconst 4, 1) := by decide +kernel
theorem dX12_telling_7 : decode cX12_telling 7 = .ok (.if_icmp .ne 18, 3) := by decide +kernel
theorem dX12_telling_10 : decode cX12_telling 10 = .ok (.aload_n 0, 1) := by decide +kernel
theorem dX12_telling_11 : decode cX12_telling 11 = .ok (.bipush 50, 2) := by decide +kernel
theorem dX12_telling_13 : decode cX12_telling 13 = .ok (.invokevirtual 408, 3) := by decide +kernel
theorem dX12_telling_16 : decode cX12_telling 16 = .ok (.aload_n 0, 1) := by decide +kernel
theorem dX12_telling_17 : decode cX12_telling 17 = .ok (.iload_n 1, 1) := by decide +kernel
theorem dX12_telling_18 : decode cX12_telling 18 = .ok (.iload_n 2, 1) := by decide +kernel
theorem dX12_telling_19 : decode cX12_telling 19 = .ok (.invokevirtual 441, 3) := by decide +kernel
theorem dX12_telling_22 : decode cX12_telling 22 = .ok (.iconst 5, 1) := by decide +kernel
theorem dX12_telling_23 : decode cX12_telling 23 = .ok (.ixor, 1) := by decide +kernel
theorem dX12_telling_24 : decode cX12_telling 24 = .ok (.ireturn, 1) := by decide +kernel
theorem dX12_telling_25 : decode cX12_telling 25 = .ok (.aload_n 0, 1) := by decide +kernel
theorem dX12_telling_26 : decode cX12_telling 26 = .ok (.getfield 120, 3) := by decide +kernel
theorem dX12_telling_29 : decode cX12_telling 29 = .ok (.iload_n 1, 1) := by decide +kernel
theorem dX12_telling_30 : decode cX12_telling 30 = .ok (.iaload, 1) := by decide +kernel
theorem dX12_telling_31 : decode cX12_telling 31 = .ok (.iconst 5, 1) := by decide +kernel
theorem dX12_telling_32 : decode cX12_telling 32 = .ok (.if_icmp .ne 18, 3) := by decide +kernel
theorem dX12_telling_35 : decode cX12_telling 35 = .ok (.aload_n 0, 1) := by decide +kernel
theorem dX12_telling_36 : decode cX12_telling 36 = .ok (.bipush 61, 2) := by decide +kernel
theorem dX12_telling_38 : decode cX12_telling 38 = .ok (.invokevirtual 408, 3) := by decide +kernel
theorem dX12_telling_41 : decode cX12_telling 41 = .ok (.aload_n 0, 1) := by decide +kernel
theorem dX12_telling_42 : decode cX12_telling 42 = .ok (.iload_n 1, 1) := by decide +kernel
theorem dX12_telling_43 : decode cX12_telling 43 = .ok (.iload_n 2, 1) := by decide +kernel
theorem dX12_telling_44 : decode cX12_telling 44 = .ok (.invokevirtual 441, 3) := by decide +kernel
theorem dX12_telling_47 : decode cX12_telling 47 = .ok (.iconst 1, 1) := by decide +kernel
theorem dX12_telling_48 : decode cX12_telling 48 = .ok (.iadd, 1) := by decide +kernel
theorem dX12_telling_49 : decode cX12_telling 49 = .ok (.ireturn, 1) := by decide +kernel
theorem dX12_telling_50 : decode cX12_telling 50 = .ok (.aload_n 0, 1) := by decide +kernel
theorem dX12_telling_51 : decode cX12_telling 51 = .ok (.iload_n 1, 1) := by decide +kernel
theorem dX12_telling_52 : decode cX12_telling 52 = .ok (.iload_n 2, 1) := by decide +kernel
theorem dX12_telling_53 : decode cX12_telling 53 = .ok (.invokevirtual 441, 3) := by decide +kernel
theorem dX12_telling_56 : decode cX12_telling 56 = .ok (.ireturn, 1) := by decide +kernel
theorem dX12_act_0 : decode cX12_act 0 = .ok (.aload_n 0, 1) := by decide +kernel
theorem dX12_act_1 : decode cX12_act 1 = .ok (.iconst 0, 1) := by decide +kernel
theorem dX12_act_2 : decode cX12_act 2 = .ok (.putfield 405, 3) := by decide +kernel
theorem dX12_act_5 : decode cX12_act 5 = .ok (.aload_n 0, 1) := by decide +kernel
theorem dX12_act_6 : decode cX12_act 6 = .ok (.iload_n 1, 1) := by decide +kernel
theorem dX12_act_7 : decode cX12_act 7 = .ok (.invokevirtual 444, 3) := by decide +kernel
theorem dX12_act_10 : decode cX12_act 10 = .ok (.ifCond .eq 12, 3) := by decide +kernel
theorem dX12_act_13 : decode cX12_act 13 = .ok (.iload_n 2, 1) := by decide +kernel
theorem dX12_act_14 : decode cX12_act 14 = .ok (.iconst 0, 1) := by decide +kernel
theorem dX12_act_15 : decode cX12_act 15 = .ok (.iconst 3, 1) := by decide +kernel
theorem dX12_act_16 : decode cX12_act 16 = .ok (.invokestatic 142, 3) := by decide +kernel
theorem dX12_act_19 : decode cX12_act 19 = .ok (.ifCond .ne 5, 3) := by decide +kernel
theorem dX12_act_22 : decode cX12_act 22 = .ok (.iconst 0, 1) := by decide +kernel
theorem dX12_act_23 : decode cX12_act 23 = .ok (.ireturn, 1) := by decide +kernel
theorem dX12_act_24 : decode cX12_act 24 = .ok (.iload_n 2, 1) := by decide +kernel
theorem dX12_act_25 : decode cX12_act 25 = .ok (.ifCond .ne 12, 3) := by decide +kernel
theorem dX12_act_28 : decode cX12_act 28 = .ok (.aload_n 0, 1) := by decide +kernel
theorem dX12_act_29 : decode cX12_act 29 = .ok (.iload_n 1, 1) := by decide +kernel
theorem dX12_act_30 : decode cX12_act 30 = .ok (.iload_n 3, 1) := by decide +kernel
theorem dX12_act_31 : decode cX12_act 31 = .ok (.invokevirtual 420, 3) := by decide +kernel
theorem dX12_act_34 : decode cX12_act 34 = .ok (.goto 37, 3) := by decide +kernel
theorem dX12_act_37 : decode cX12_act 37 = .ok (.iload_n 2, 1) := by decide +kernel
theorem dX12_act_38 : decode cX12_act 38 = .ok (.iconst 1, 1) := by decide +kernel
theorem dX12_act_39 : decode cX12_act 39 = .ok (.if_icmp .ne 12, 3) := by decide +kernel
theorem dX12_act_42 : decode cX12_act 42 = .ok (.aload_n 0, 1) := by decide +kernel
theorem dX12_act_43 : decode cX12_act 43 = .ok (.iload_n 1, 1) := by decide +kernel
theorem dX12_act_44 : decode cX12_act 44 = .ok (.iload_n 3, 1) := by decide +kernel
theorem dX12_act_45 : decode cX12_act 45 = .ok (.invokevirtual 438, 3) := by decide +kernel
theorem dX12_act_48 : decode cX12_act 48 = .ok (.goto 23, 3) := by decide +kernel
theorem dX12_act_51 : decode cX12_act 51 = .ok (.iload_n 2, 1) := by decide +kernel
theorem dX12_act_52 : decode cX12_act 52 = .ok (.iconst 2, 1) := by decide +kernel
theorem dX12_act_53 : decode cX12_act 53 = .ok (.if_icmp .ne 12, 3) := by decide +kernel
theorem dX12_act_56 : decode cX12_act 56 = .ok (.aload_n 0, 1) := by decide +kernel
theorem dX12_act_57 : decode cX12_act 57 = .ok (.iload_n 1, 1) := by decide +kernel
theorem dX12_act_58 : decode cX12_act 58 = .ok (.iload_n 3, 1) := by decide +kernel
theorem dX12_act_59 : decode cX12_act 59 = .ok (.invokevirtual 429, 3) := by decide +kernel
theorem dX12_act_62 : decode cX12_act 62 = .ok (.goto 9, 3) := by decide +kernel
theorem dX12_act_65 : decode cX12_act 65 = .ok (.aload_n 0, 1) := by decide +kernel
theorem dX12_act_66 : decode cX12_act 66 = .ok (.iload_n 1, 1) := by decide +kernel
theorem dX12_act_67 : decode cX12_act 67 = .ok (.iload_n 3, 1) := by decide +kernel
theorem dX12_act_68 : decode cX12_act 68 = .ok (.invokevirtual 447, 3) := by decide +kernel
theorem dX12_act_71 : decode cX12_act 71 = .ok (.ireturn, 1) := by decide +kernel
theorem dX12_cellMany_0 : decode cX12_cellMany 0 = .ok (.iconst 0, 1) := by decide +kernel
theorem dX12_cellMany_1 : decode cX12_cellMany 1 = .ok (.istore_n 1, 1) := by decide +kernel
theorem dX12_cellMany_2 : decode cX12_cellMany 2 = .ok (.iconst 0, 1) := by decide +kernel
theorem dX12_cellMany_3 : decode cX12_cellMany 3 = .ok (.istore_n 2, 1) := by decide +kernel
theorem dX12_cellMany_4 : decode cX12_cellMany 4 = .ok (.iload_n 2, 1) := by decide +kernel
theorem dX12_cellMany_5 : decode cX12_cellMany 5 = .ok (.bipush 6, 2) := by decide +kernel
theorem dX12_cellMany_7 : decode cX12_cellMany 7 = .ok (.if_icmp .ge 18, 3) := by decide +kernel
theorem dX12_cellMany_10 : decode cX12_cellMany 10 = .ok (.iload_n 1, 1) := by decide +kernel
theorem dX12_cellMany_11 : decode cX12_cellMany 11 = .ok (.aload_n 0, 1) := by decide +kernel
theorem dX12_cellMany_12 : decode cX12_cellMany 12 = .ok (.getfield 9, 3) := by decide +kernel
theorem dX12_cellMany_15 : decode cX12_cellMany 15 = .ok (.iload_n 2, 1) := by decide +kernel
theorem dX12_cellMany_16 : decode cX12_cellMany 16 = .ok (.iaload, 1) := by decide +kernel
theorem dX12_cellMany_17 : decode cX12_cellMany 17 = .ok (.iadd, 1) := by decide +kernel
theorem dX12_cellMany_18 : decode cX12_cellMany 18 = .ok (.istore_n 1, 1) := by decide +kernel
theorem dX12_cellMany_19 : decode cX12_cellMany 19 = .ok (.iinc 2 1, 3) := by decide +kernel
theorem dX12_cellMany_22 : decode cX12_cellMany 22 = .ok (.goto (-18), 3) := by decide +kernel
theorem dX12_cellMany_25 : decode cX12_cellMany 25 = .ok (.iload_n 1, 1) := by decide +kernel
theorem dX12_cellMany_26 : decode cX12_cellMany 26 = .ok (.ireturn, 1) := by decide +kernel
theorem dX12_glowsNow_0 : decode cX12_glowsNow 0 = .ok (.aload_n 0, 1) := by decide +kernel
theorem dX12_glowsNow_1 : decode cX12_glowsNow 1 = .ok (.invokevirtual 273, 3) := by decide +kernel
theorem dX12_glowsNow_4 : decode cX12_glowsNow 4 = .ok (.aload_n 0, 1) := by decide +kernel
theorem dX12_glowsNow_5 : decode cX12_glowsNow 5 = .ok (.invokevirtual 298, 3) := by decide +kernel
theorem dX12_glowsNow_8 : decode cX12_glowsNow 8 = .ok (.ireturn, 1) := by decide +kernel
theorem dX12_count_0 : decode cX12_count 0 = .ok (.iload_n 1, 1) := by decide +kernel
theorem dX12_count_1 : decode cX12_count 1 = .ok (.tableswitch 69 0 5 #[39, 44, 49, 54, 59, 64], 39) := by decide +kernel
theorem dX12_count_40 : decode cX12_count 40 = .ok (.aload_n 0, 1) := by decide +kernel
theorem dX12_count_41 : decode cX12_count 41 = .ok (.invokevirtual 450, 3) := by decide +kernel
theorem dX12_count_44 : decode cX12_count 44 = .ok (.ireturn, 1) := by decide +kernel
theorem dX12_count_45 : decode cX12_count 45 = .ok (.aload_n 0, 1) := by decide +kernel
theorem dX12_count_46 : decode cX12_count 46 = .ok (.invokevirtual 453, 3) := by decide +kernel
theorem dX12_count_49 : decode cX12_count 49 = .ok (.ireturn, 1) := by decide +kernel
theorem dX12_count_50 : decode cX12_count 50 = .ok (.aload_n 0, 1) := by decide +kernel
theorem dX12_count_51 : decode cX12_count 51 = .ok (.getfield 186, 3) := by decide +kernel
theorem dX12_count_54 : decode cX12_count 54 = .ok (.ireturn, 1) := by decide +kernel
theorem dX12_count_55 : decode cX12_count 55 = .ok (.aload_n 0, 1) := by decide +kernel
theorem dX12_count_56 : decode cX12_count 56 = .ok (.getfield 166, 3) := by decide +kernel
theorem dX12_count_59 : decode cX12_count 59 = .ok (.ireturn, 1) := by decide +kernel
theorem dX12_count_60 : decode cX12_count 60 = .ok (.aload_n 0, 1) := by decide +kernel
theorem dX12_count_61 : decode cX12_count 61 = .ok (.getfield 402, 3) := by decide +kernel
theorem dX12_count_64 : decode cX12_count 64 = .ok (.ireturn, 1) := by decide +kernel
theorem dX12_count_65 : decode cX12_count 65 = .ok (.aload_n 0, 1) := by decide +kernel
theorem dX12_count_66 : decode cX12_count 66 = .ok (.getfield 405, 3) := by decide +kernel
theorem dX12_count_69 : decode cX12_count 69 = .ok (.ireturn, 1) := by decide +kernel
theorem dX12_count_70 : decode cX12_count 70 = .ok (.iconst (-1), 1) := by decide +kernel
theorem dX12_count_71 : decode cX12_count 71 = .ok (.ireturn, 1) := by decide +kernel
theorem dX12_isShelf_0 : decode cX12_isShelf 0 = .ok (.iload_n 0, 1) := by decide +kernel
theorem dX12_isShelf_1 : decode cX12_isShelf 1 = .ok (.iconst 0, 1) := by decide +kernel
theorem dX12_isShelf_2 : decode cX12_isShelf 2 = .ok (.iconst 5, 1) := by decide +kernel
theorem dX12_isShelf_3 : decode cX12_isShelf 3 = .ok (.invokestatic 142, 3) := by decide +kernel
theorem dX12_isShelf_6 : decode cX12_isShelf 6 = .ok (.ireturn, 1) := by decide +kernel
theorem dX12_keep_0 : decode cX12_keep 0 = .ok (.iload_n 1, 1) := by decide +kernel
theorem dX12_keep_1 : decode cX12_keep 1 = .ok (.invokestatic 154, 3) := by decide +kernel
theorem dX12_keep_4 : decode cX12_keep 4 = .ok (.ifCond .eq 16, 3) := by decide +kernel
theorem dX12_keep_7 : decode cX12_keep 7 = .ok (.iload_n 2, 1) := by decide +kernel
theorem dX12_keep_8 : decode cX12_keep 8 = .ok (.iconst (-1), 1) := by decide +kernel
theorem dX12_keep_9 : decode cX12_keep 9 = .ok (.if_icmp .eq 13, 3) := by decide +kernel
theorem dX12_keep_12 : decode cX12_keep 12 = .ok (.aload_n 0, 1) := by decide +kernel
theorem dX12_keep_13 : decode cX12_keep 13 = .ok (.iload_n 2, 1) := by decide +kernel
theorem dX12_keep_14 : decode cX12_keep 14 = .ok (.invokevirtual 444, 3) := by decide +kernel
theorem dX12_keep_17 : decode cX12_keep 17 = .ok (.ifCond .ne 5, 3) := by decide +kernel
theorem dX12_keep_20 : decode cX12_keep 20 = .ok (.iconst (-1), 1) := by decide +kernel
theorem dX12_keep_21 : decode cX12_keep 21 = .ok (.ireturn, 1) := by decide +kernel
theorem dX12_keep_22 : decode cX12_keep 22 = .ok (.aload_n 0, 1) := by decide +kernel
theorem dX12_keep_23 : decode cX12_keep 23 = .ok (.getfield 126, 3) := by decide +kernel
theorem dX12_keep_26 : decode cX12_keep 26 = .ok (.iload_n 1, 1) := by decide +kernel
theorem dX12_keep_27 : decode cX12_keep 27 = .ok (.iload_n 2, 1) := by decide +kernel
theorem dX12_keep_28 : decode cX12_keep 28 = .ok (.iastore, 1) := by decide +kernel
theorem dX12_keep_29 : decode cX12_keep 29 = .ok (.iconst 1, 1) := by decide +kernel
theorem dX12_keep_30 : decode cX12_keep 30 = .ok (.ireturn, 1) := by decide +kernel
theorem dX12_row_0 : decode cX12_row 0 = .ok (.iload_n 1, 1) := by decide +kernel
theorem dX12_row_1 : decode cX12_row 1 = .ok (.invokestatic 154, 3) := by decide +kernel
theorem dX12_row_4 : decode cX12_row 4 = .ok (.ifCond .eq 18, 3) := by decide +kernel
theorem dX12_row_7 : decode cX12_row 7 = .ok (.iload_n 2, 1) := by decide +kernel
theorem dX12_row_8 : decode cX12_row 8 = .ok (.iconst 0, 1) := by decide +kernel
theorem dX12_row_9 : decode cX12_row 9 = .ok (.iconst 4, 1) := by decide +kernel
theorem dX12_row_10 : decode cX12_row 10 = .ok (.invokestatic 142, 3) := by decide +kernel
theorem dX12_row_13 : decode cX12_row 13 = .ok (.ifCond .eq 9, 3) := by decide +kernel
theorem dX12_row_16 : decode cX12_row 16 = .ok (.iload_n 3, 1) := by decide +kernel
theorem dX12_row_17 : decode cX12_row 17 = .ok (.bipush 60, 2) := by decide +kernel
theorem dX12_row_19 : decode cX12_row 19 = .ok (.if_icmp .le 5, 3) := by decide +kernel
theorem dX12_row_22 : decode cX12_row 22 = .ok (.iconst (-1), 1) := by decide +kernel
theorem dX12_row_23 : decode cX12_row 23 = .ok (.ireturn, 1) := by decide +kernel
theorem dX12_row_24 : decode cX12_row 24 = .ok (.iload_n 3, 1) := by decide +kernel
theorem dX12_row_25 : decode cX12_row 25 = .ok (.ifCond .ge 6, 3) := by decide +kernel
theorem dX12_row_28 : decode cX12_row 28 = .ok (.bipush (-14), 2) := by decide +kernel
theorem dX12_row_30 : decode cX12_row 30 = .ok (.ireturn, 1) := by decide +kernel
theorem dX12_row_31 : decode cX12_row 31 = .ok (.aload_n 0, 1) := by decide +kernel
theorem dX12_row_32 : decode cX12_row 32 = .ok (.getfield 126, 3) := by decide +kernel
theorem dX12_row_35 : decode cX12_row 35 = .ok (.iload_n 1, 1) := by decide +kernel
theorem dX12_row_36 : decode cX12_row 36 = .ok (.bipush (-2), 2) := by decide +kernel
theorem dX12_row_38 : decode cX12_row 38 = .ok (.iload_n 2, 1) := by decide +kernel
theorem dX12_row_39 : decode cX12_row 39 = .ok (.isub, 1) := by decide +kernel
theorem dX12_row_40 : decode cX12_row 40 = .ok (.iastore, 1) := by decide +kernel
theorem dX12_row_41 : decode cX12_row 41 = .ok (.aload_n 0, 1) := by decide +kernel
theorem dX12_row_42 : decode cX12_row 42 = .ok (.getfield 129, 3) := by decide +kernel
theorem dX12_row_45 : decode cX12_row 45 = .ok (.iload_n 1, 1) := by decide +kernel
theorem dX12_row_46 : decode cX12_row 46 = .ok (.iload_n 3, 1) := by decide +kernel
theorem dX12_row_47 : decode cX12_row 47 = .ok (.iastore, 1) := by decide +kernel
theorem dX12_row_48 : decode cX12_row 48 = .ok (.bipush 60, 2) := by decide +kernel
theorem dX12_row_50 : decode cX12_row 50 = .ok (.iload_n 1, 1) := by decide +kernel
theorem dX12_row_51 : decode cX12_row 51 = .ok (.imul, 1) := by decide +kernel
theorem dX12_row_52 : decode cX12_row 52 = .ok (.istore 4, 2) := by decide +kernel
theorem dX12_row_54 : decode cX12_row 54 = .ok (.iload 4, 2) := by decide +kernel
theorem dX12_row_56 : decode cX12_row 56 = .ok (.bipush 60, 2) := by decide +kernel
theorem dX12_row_58 : decode cX12_row 58 = .ok (.iload_n 1, 1) := by decide +kernel
theorem dX12_row_59 : decode cX12_row 59 = .ok (.imul, 1) := by decide +kernel
theorem dX12_row_60 : decode cX12_row 60 = .ok (.bipush 60, 2) := by decide +kernel
theorem dX12_row_62 : decode cX12_row 62 = .ok (.iadd, 1) := by decide +kernel
theorem dX12_row_63 : decode cX12_row 63 = .ok (.if_icmp .ge 17, 3) := by decide +kernel
theorem dX12_row_66 : decode cX12_row 66 = .ok (.aload_n 0, 1) := by decide +kernel
theorem dX12_row_67 : decode cX12_row 67 = .ok (.getfield 132, 3) := by decide +kernel
theorem dX12_row_70 : decode cX12_row 70 = .ok (.iload 4, 2) := by decide +kernel
theorem dX12_row_72 : decode cX12_row 72 = .ok (.lconst 0, 1) := by decide +kernel
theorem dX12_row_73 : decode cX12_row 73 = .ok (.lastore, 1) := by decide +kernel
theorem dX12_row_74 : decode cX12_row 74 = .ok (.iinc 4 1, 3) := by decide +kernel
theorem dX12_row_77 : decode cX12_row 77 = .ok (.goto (-23), 3) := by decide +kernel
theorem dX12_row_80 : decode cX12_row 80 = .ok (.iconst 1, 1) := by decide +kernel
theorem dX12_row_81 : decode cX12_row 81 = .ok (.ireturn, 1) := by decide +kernel
theorem dX12_whyNoPlace_0 : decode cX12_whyNoPlace 0 = .ok (.iload_n 1, 1) := by decide +kernel
theorem dX12_whyNoPlace_1 : decode cX12_whyNoPlace 1 = .ok (.invokestatic 154, 3) := by decide +kernel
theorem dX12_whyNoPlace_4 : decode cX12_whyNoPlace 4 = .ok (.ifCond .ne 5, 3) := by decide +kernel
theorem dX12_whyNoPlace_7 : decode cX12_whyNoPlace 7 = .ok (.iconst (-1), 1) := by decide +kernel
theorem dX12_whyNoPlace_8 : decode cX12_whyNoPlace 8 = .ok (.ireturn, 1) := by decide +kernel
theorem dX12_whyNoPlace_9 : decode cX12_whyNoPlace 9 = .ok (.aload_n 0, 1) := by decide +kernel
theorem dX12_whyNoPlace_10 : decode cX12_whyNoPlace 10 = .ok (.getfield 126, 3) := by decide +kernel
theorem dX12_whyNoPlace_13 : decode cX12_whyNoPlace 13 = .ok (.iload_n 1, 1) := by decide +kernel
theorem dX12_whyNoPlace_14 : decode cX12_whyNoPlace 14 = .ok (.iaload, 1) := by decide +kernel
theorem dX12_whyNoPlace_15 : decode cX12_whyNoPlace 15 = .ok (.iconst (-1), 1) := by decide +kernel
theorem dX12_whyNoPlace_16 : decode cX12_whyNoPlace 16 = .ok (.if_icmp .ne 6, 3) := by decide +kernel
theorem dX12_whyNoPlace_19 : decode cX12_whyNoPlace 19 = .ok (.bipush (-11), 2) := by decide +kernel
theorem dX12_whyNoPlace_21 : decode cX12_whyNoPlace 21 = .ok (.ireturn, 1) := by decide +kernel
theorem dX12_whyNoPlace_22 : decode cX12_whyNoPlace 22 = .ok (.aload_n 0, 1) := by decide +kernel
theorem dX12_whyNoPlace_23 : decode cX12_whyNoPlace 23 = .ok (.getfield 126, 3) := by decide +kernel
theorem dX12_whyNoPlace_26 : decode cX12_whyNoPlace 26 = .ok (.iload_n 1, 1) := by decide +kernel
theorem dX12_whyNoPlace_27 : decode cX12_whyNoPlace 27 = .ok (.iaload, 1) := by decide +kernel
theorem dX12_whyNoPlace_28 : decode cX12_whyNoPlace 28 = .ok (.ifCond .lt 6, 3) := by decide +kernel
theorem dX12_whyNoPlace_31 : decode cX12_whyNoPlace 31 = .ok (.bipush (-12), 2) := by decide +kernel
theorem dX12_whyNoPlace_33 : decode cX12_whyNoPlace 33 = .ok (.ireturn, 1) := by decide +kernel
theorem dX12_whyNoPlace_34 : decode cX12_whyNoPlace 34 = .ok (.iload_n 2, 1) := by decide +kernel
theorem dX12_whyNoPlace_35 : decode cX12_whyNoPlace 35 = .ok (.iconst 0, 1) := by decide +kernel
theorem dX12_whyNoPlace_36 : decode cX12_whyNoPlace 36 = .ok (.aload_n 0, 1) := by decide +kernel
theorem dX12_whyNoPlace_37 : decode cX12_whyNoPlace 37 = .ok (.getfield 129, 3) := by decide +kernel
theorem dX12_whyNoPlace_40 : decode cX12_whyNoPlace 40 = .ok (.iload_n 1, 1) := by decide +kernel
theorem dX12_whyNoPlace_41 : decode cX12_whyNoPlace 41 = .ok (.iaload, 1) := by decide +kernel
theorem dX12_whyNoPlace_42 : decode cX12_whyNoPlace 42 = .ok (.iconst 1, 1) := by decide +kernel
theorem dX12_whyNoPlace_43 : decode cX12_whyNoPlace 43 = .ok (.isub, 1) := by decide +kernel
theorem dX12_whyNoPlace_44 : decode cX12_whyNoPlace 44 = .ok (.invokestatic 142, 3) := by decide +kernel
theorem dX12_whyNoPlace_47 : decode cX12_whyNoPlace 47 = .ok (.ifCond .eq 7, 3) := by decide +kernel
theorem dX12_whyNoPlace_50 : decode cX12_whyNoPlace 50 = .ok (.iconst 0, 1) := by decide +kernel
theorem dX12_whyNoPlace_51 : decode cX12_whyNoPlace 51 = .ok (.goto 5, 3) := by decide +kernel
theorem dX12_whyNoPlace_54 : decode cX12_whyNoPlace 54 = .ok (.bipush (-13), 2) := by decide +kernel
theorem dX12_whyNoPlace_56 : decode cX12_whyNoPlace 56 = .ok (.ireturn, 1) := by decide +kernel
theorem dX12_put_0 : decode cX12_put 0 = .ok (.aload_n 0, 1) := by decide +kernel
theorem dX12_put_1 : decode cX12_put 1 = .ok (.iload_n 1, 1) := by decide +kernel
theorem dX12_put_2 : decode cX12_put 2 = .ok (.iload_n 2, 1) := by decide +kernel
theorem dX12_put_3 : decode cX12_put 3 = .ok (.invokevirtual 456, 3) := by decide +kernel
theorem dX12_put_6 : decode cX12_put 6 = .ok (.istore 5, 2) := by decide +kernel
theorem dX12_put_8 : decode cX12_put 8 = .ok (.iload 5, 2) := by decide +kernel
theorem dX12_put_10 : decode cX12_put 10 = .ok (.ifCond .ge 6, 3) := by decide +kernel
theorem dX12_put_13 : decode cX12_put 13 = .ok (.iload 5, 2) := by decide +kernel
theorem dX12_put_15 : decode cX12_put 15 = .ok (.ireturn, 1) := by decide +kernel
theorem dX12_put_16 : decode cX12_put 16 = .ok (.bipush (-2), 2) := by decide +kernel
theorem dX12_put_18 : decode cX12_put 18 = .ok (.aload_n 0, 1) := by decide +kernel
theorem dX12_put_19 : decode cX12_put 19 = .ok (.getfield 126, 3) := by decide +kernel
theorem dX12_put_22 : decode cX12_put 22 = .ok (.iload_n 1, 1) := by decide +kernel
theorem dX12_put_23 : decode cX12_put 23 = .ok (.iaload, 1) := by decide +kernel
theorem dX12_put_24 : decode cX12_put 24 = .ok (.isub, 1) := by decide +kernel
theorem dX12_put_25 : decode cX12_put 25 = .ok (.istore 6, 2) := by decide +kernel
theorem dX12_put_27 : decode cX12_put 27 = .ok (.aload_n 0, 1) := by decide +kernel
theorem dX12_put_28 : decode cX12_put 28 = .ok (.getfield 132, 3) := by decide +kernel
theorem dX12_put_31 : decode cX12_put 31 = .ok (.bipush 60, 2) := by decide +kernel
theorem dX12_put_33 : decode cX12_put 33 = .ok (.iload_n 1, 1) := by decide +kernel
theorem dX12_put_34 : decode cX12_put 34 = .ok (.imul, 1) := by decide +kernel
theorem dX12_put_35 : decode cX12_put 35 = .ok (.iload_n 2, 1) := by decide +kernel
theorem dX12_put_36 : decode cX12_put 36 = .ok (.iadd, 1) := by decide +kernel
theorem dX12_put_37 : decode cX12_put 37 = .ok (.iload 6, 2) := by decide +kernel
theorem dX12_put_39 : decode cX12_put 39 = .ok (.ifCond .ne 10, 3) := by decide +kernel
theorem dX12_put_42 : decode cX12_put 42 = .ok (.lload_n 3, 1) := by decide +kernel
theorem dX12_put_43 : decode cX12_put 43 = .ok (.l2i, 1) := by decide +kernel
theorem dX12_put_44 : decode cX12_put 44 = .ok (.i2b, 1) := by decide +kernel
theorem dX12_put_45 : decode cX12_put 45 = .ok (.i2l, 1) := by decide +kernel
theorem dX12_put_46 : decode cX12_put 46 = .ok (.goto 49, 3) := by decide +kernel
theorem dX12_put_49 : decode cX12_put 49 = .ok (.iload 6, 2) := by decide +kernel
theorem dX12_put_51 : decode cX12_put 51 = .ok (.iconst 1, 1) := by decide +kernel
theorem dX12_put_52 : decode cX12_put 52 = .ok (.if_icmp .ne 10, 3) := by decide +kernel
theorem dX12_put_55 : decode cX12_put 55 = .ok (.lload_n 3, 1) := by decide +kernel
theorem dX12_put_56 : decode cX12_put 56 = .ok (.l2i, 1) := by decide +kernel
theorem dX12_put_57 : decode cX12_put 57 = .ok (.i2s, 1) := by decide +kernel
theorem dX12_put_58 : decode cX12_put 58 = .ok (.i2l, 1) := by decide +kernel
theorem dX12_put_59 : decode cX12_put 59 = .ok (.goto 36, 3) := by decide +kernel
theorem dX12_put_62 : decode cX12_put 62 = .ok (.iload 6, 2) := by decide +kernel
theorem dX12_put_64 : decode cX12_put 64 = .ok (.iconst 2, 1) := by decide +kernel
theorem dX12_put_65 : decode cX12_put 65 = .ok (.if_icmp .ne 9, 3) := by decide +kernel
theorem dX12_put_68 : decode cX12_put 68 = .ok (.lload_n 3, 1) := by decide +kernel
theorem dX12_put_69 : decode cX12_put 69 = .ok (.l2i, 1) := by decide +kernel
theorem dX12_put_70 : decode cX12_put 70 = .ok (.i2l, 1) := by decide +kernel
theorem dX12_put_71 : decode cX12_put 71 = .ok (.goto 24, 3) := by decide +kernel
theorem dX12_put_74 : decode cX12_put 74 = .ok (.iload 6, 2) := by decide +kernel
theorem dX12_put_76 : decode cX12_put 76 = .ok (.iconst 3, 1) := by decide +kernel
theorem dX12_put_77 : decode cX12_put 77 = .ok (.if_icmp .ne 7, 3) := by decide +kernel
theorem dX12_put_80 : decode cX12_put 80 = .ok (.lload_n 3, 1) := by decide +kernel
theorem dX12_put_81 : decode cX12_put 81 = .ok (.goto 14, 3) := by decide +kernel
theorem dX12_put_84 : decode cX12_put 84 = .ok (.lload_n 3, 1) := by decide +kernel
theorem dX12_put_85 : decode cX12_put 85 = .ok (.lconst 0, 1) := by decide +kernel
theorem dX12_put_86 : decode cX12_put 86 = .ok (.lcmp, 1) := by decide +kernel
theorem dX12_put_87 : decode cX12_put 87 = .ok (.ifCond .eq 7, 3) := by decide +kernel
theorem dX12_put_90 : decode cX12_put 90 = .ok (.lconst 1, 1) := by decide +kernel
theorem dX12_put_91 : decode cX12_put 91 = .ok (.goto 4, 3) := by decide +kernel
theorem dX12_put_94 : decode cX12_put 94 = .ok (.lconst 0, 1) := by decide +kernel
theorem dX12_put_95 : decode cX12_put 95 = .ok (.lastore, 1) := by decide +kernel
theorem dX12_put_96 : decode cX12_put 96 = .ok (.iconst 1, 1) := by decide +kernel
theorem dX12_put_97 : decode cX12_put 97 = .ok (.ireturn, 1) := by decide +kernel
theorem dX12_element_0 : decode cX12_element 0 = .ok (.aload_n 0, 1) := by decide +kernel
theorem dX12_element_1 : decode cX12_element 1 = .ok (.iload_n 1, 1) := by decide +kernel
theorem dX12_element_2 : decode cX12_element 2 = .ok (.iload_n 2, 1) := by decide +kernel
theorem dX12_element_3 : decode cX12_element 3 = .ok (.invokevirtual 456, 3) := by decide +kernel
theorem dX12_element_6 : decode cX12_element 6 = .ok (.ifCond .ge 9, 3) := by decide +kernel
theorem dX12_element_9 : decode cX12_element 9 = .ok (.ldc2_w 324, 3) := by decide +kernel
theorem dX12_element_12 : decode cX12_element 12 = .ok (.goto 14, 3) := by decide +kernel
theorem dX12_element_15 : decode cX12_element 15 = .ok (.aload_n 0, 1) := by decide +kernel
theorem dX12_element_16 : decode cX12_element 16 = .ok (.getfield 132, 3) := by decide +kernel
theorem dX12_element_19 : decode cX12_element 19 = .ok (.bipush 60, 2) := by decide +kernel
theorem dX12_element_21 : decode cX12_element 21 = .ok (.iload_n 1, 1) := by decide +kernel
theorem dX12_element_22 : decode cX12_element 22 = .ok (.imul, 1) := by decide +kernel
theorem dX12_element_23 : decode cX12_element 23 = .ok (.iload_n 2, 1) := by decide +kernel
theorem dX12_element_24 : decode cX12_element 24 = .ok (.iadd, 1) := by decide +kernel
theorem dX12_element_25 : decode cX12_element 25 = .ok (.laload, 1) := by decide +kernel
theorem dX12_element_26 : decode cX12_element 26 = .ok (.lreturn, 1) := by decide +kernel
theorem dX12_shift_0 : decode cX12_shift 0 = .ok (.iload_n 1, 1) := by decide +kernel
theorem dX12_shift_1 : decode cX12_shift 1 = .ok (.invokestatic 154, 3) := by decide +kernel
theorem dX12_shift_4 : decode cX12_shift 4 = .ok (.ifCond .eq 10, 3) := by decide +kernel
theorem dX12_shift_7 : decode cX12_shift 7 = .ok (.iload_n 3, 1) := by decide +kernel
theorem dX12_shift_8 : decode cX12_shift 8 = .ok (.invokestatic 154, 3) := by decide +kernel
theorem dX12_shift_11 : decode cX12_shift 11 = .ok (.ifCond .ne 5, 3) := by decide +kernel
theorem dX12_shift_14 : decode cX12_shift 14 = .ok (.iconst (-1), 1) := by decide +kernel
theorem dX12_shift_15 : decode cX12_shift 15 = .ok (.ireturn, 1) := by decide +kernel
theorem dX12_shift_16 : decode cX12_shift 16 = .ok (.aload_n 0, 1) := by decide +kernel
theorem dX12_shift_17 : decode cX12_shift 17 = .ok (.getfield 126, 3) := by decide +kernel
theorem dX12_shift_20 : decode cX12_shift 20 = .ok (.iload_n 1, 1) := by decide +kernel
theorem dX12_shift_21 : decode cX12_shift 21 = .ok (.iaload, 1) := by decide +kernel
theorem dX12_shift_22 : decode cX12_shift 22 = .ok (.iconst (-1), 1) := by decide +kernel
theorem dX12_shift_23 : decode cX12_shift 23 = .ok (.if_icmp .eq 13, 3) := by decide +kernel
theorem dX12_shift_26 : decode cX12_shift 26 = .ok (.aload_n 0, 1) := by decide +kernel
theorem dX12_shift_27 : decode cX12_shift 27 = .ok (.getfield 126, 3) := by decide +kernel
theorem dX12_shift_30 : decode cX12_shift 30 = .ok (.iload_n 3, 1) := by decide +kernel
theorem dX12_shift_31 : decode cX12_shift 31 = .ok (.iaload, 1) := by decide +kernel
theorem dX12_shift_32 : decode cX12_shift 32 = .ok (.iconst (-1), 1) := by decide +kernel
theorem dX12_shift_33 : decode cX12_shift 33 = .ok (.if_icmp .ne 6, 3) := by decide +kernel
theorem dX12_shift_36 : decode cX12_shift 36 = .ok (.bipush (-11), 2) := by decide +kernel
theorem dX12_shift_38 : decode cX12_shift 38 = .ok (.ireturn, 1) := by decide +kernel
theorem dX12_shift_39 : decode cX12_shift 39 = .ok (.aload_n 0, 1) := by decide +kernel
theorem dX12_shift_40 : decode cX12_shift 40 = .ok (.getfield 126, 3) := by decide +kernel
theorem dX12_shift_43 : decode cX12_shift 43 = .ok (.iload_n 1, 1) := by decide +kernel
theorem dX12_shift_44 : decode cX12_shift 44 = .ok (.iaload, 1) := by decide +kernel
theorem dX12_shift_45 : decode cX12_shift 45 = .ok (.ifCond .ge 18, 3) := by decide +kernel
theorem dX12_shift_48 : decode cX12_shift 48 = .ok (.aload_n 0, 1) := by decide +kernel
theorem dX12_shift_49 : decode cX12_shift 49 = .ok (.getfield 126, 3) := by decide +kernel
theorem dX12_shift_52 : decode cX12_shift 52 = .ok (.iload_n 1, 1) := by decide +kernel
theorem dX12_shift_53 : decode cX12_shift 53 = .ok (.iaload, 1) := by decide +kernel
theorem dX12_shift_54 : decode cX12_shift 54 = .ok (.aload_n 0, 1) := by decide +kernel
theorem dX12_shift_55 : decode cX12_shift 55 = .ok (.getfield 126, 3) := by decide +kernel
theorem dX12_shift_58 : decode cX12_shift 58 = .ok (.iload_n 3, 1) := by decide +kernel
theorem dX12_shift_59 : decode cX12_shift 59 = .ok (.iaload, 1) := by decide +kernel
theorem dX12_shift_60 : decode cX12_shift 60 = .ok (.if_icmp .eq 6, 3) := by decide +kernel
theorem dX12_shift_63 : decode cX12_shift 63 = .ok (.bipush (-12), 2) := by decide +kernel
theorem dX12_shift_65 : decode cX12_shift 65 = .ok (.ireturn, 1) := by decide +kernel
theorem dX12_shift_66 : decode cX12_shift 66 = .ok (.iload 5, 2) := by decide +kernel
theorem dX12_shift_68 : decode cX12_shift 68 = .ok (.ifCond .lt 39, 3) := by decide +kernel
theorem dX12_shift_71 : decode cX12_shift 71 = .ok (.iload_n 2, 1) := by decide +kernel
theorem dX12_shift_72 : decode cX12_shift 72 = .ok (.ifCond .lt 35, 3) := by decide +kernel
theorem dX12_shift_75 : decode cX12_shift 75 = .ok (.iload 4, 2) := by decide +kernel
theorem dX12_shift_77 : decode cX12_shift 77 = .ok (.ifCond .lt 30, 3) := by decide +kernel
theorem dX12_shift_80 : decode cX12_shift 80 = .ok (.iload_n 2, 1) := by decide +kernel
theorem dX12_shift_81 : decode cX12_shift 81 = .ok (.aload_n 0, 1) := by decide +kernel
theorem dX12_shift_82 : decode cX12_shift 82 = .ok (.getfield 129, 3) := by decide +kernel
theorem dX12_shift_85 : decode cX12_shift 85 = .ok (.iload_n 1, 1) := by decide +kernel
theorem dX12_shift_86 : decode cX12_shift 86 = .ok (.iaload, 1) := by decide +kernel
theorem dX12_shift_87 : decode cX12_shift 87 = .ok (.iload 5, 2) := by decide +kernel
theorem dX12_shift_89 : decode cX12_shift 89 = .ok (.isub, 1) := by decide +kernel
theorem dX12_shift_90 : decode cX12_shift 90 = .ok (.if_icmp .gt 17, 3) := by decide +kernel
theorem dX12_shift_93 : decode cX12_shift 93 = .ok (.iload 4, 2) := by decide +kernel
theorem dX12_shift_95 : decode cX12_shift 95 = .ok (.aload_n 0, 1) := by decide +kernel
theorem dX12_shift_96 : decode cX12_shift 96 = .ok (.getfield 129, 3) := by decide +kernel
theorem dX12_shift_99 : decode cX12_shift 99 = .ok (.iload_n 3, 1) := by decide +kernel
theorem dX12_shift_100 : decode cX12_shift 100 = .ok (.iaload, 1) := by decide +kernel
theorem dX12_shift_101 : decode cX12_shift 101 = .ok (.iload 5, 2) := by decide +kernel
theorem dX12_shift_103 : decode cX12_shift 103 = .ok (.isub, 1) := by decide +kernel
theorem dX12_shift_104 : decode cX12_shift 104 = .ok (.if_icmp .le 6, 3) := by decide +kernel
theorem dX12_shift_107 : decode cX12_shift 107 = .ok (.bipush (-13), 2) := by decide +kernel
theorem dX12_shift_109 : decode cX12_shift 109 = .ok (.ireturn, 1) := by decide +kernel
theorem dX12_shift_110 : decode cX12_shift 110 = .ok (.iconst 0, 1) := by decide +kernel
theorem dX12_shift_111 : decode cX12_shift 111 = .ok (.istore 6, 2) := by decide +kernel
theorem dX12_shift_113 : decode cX12_shift 113 = .ok (.iload 6, 2) := by decide +kernel
theorem dX12_shift_115 : decode cX12_shift 115 = .ok (.iload 5, 2) := by decide +kernel
theorem dX12_shift_117 : decode cX12_shift 117 = .ok (.if_icmp .ge 30, 3) := by decide +kernel
theorem dX12_shift_120 : decode cX12_shift 120 = .ok (.aload_n 0, 1) := by decide +kernel
theorem dX12_shift_121 : decode cX12_shift 121 = .ok (.getfield 136, 3) := by decide +kernel
theorem dX12_shift_124 : decode cX12_shift 124 = .ok (.iload 6, 2) := by decide +kernel
theorem dX12_shift_126 : decode cX12_shift 126 = .ok (.aload_n 0, 1) := by decide +kernel
theorem dX12_shift_127 : decode cX12_shift 127 = .ok (.getfield 132, 3) := by decide +kernel
theorem dX12_shift_130 : decode cX12_shift 130 = .ok (.bipush 60, 2) := by decide +kernel
theorem dX12_shift_132 : decode cX12_shift 132 = .ok (.iload_n 1, 1) := by decide +kernel
theorem dX12_shift_133 : decode cX12_shift 133 = .ok (.imul, 1) := by decide +kernel
theorem dX12_shift_134 : decode cX12_shift 134 = .ok (.iload_n 2, 1) := by decide +kernel
theorem dX12_shift_135 : decode cX12_shift 135 = .ok (.iadd, 1) := by decide +kernel
theorem dX12_shift_136 : decode cX12_shift 136 = .ok (.iload 6, 2) := by decide +kernel
theorem dX12_shift_138 : decode cX12_shift 138 = .ok (.iadd, 1) := by decide +kernel
theorem dX12_shift_139 : decode cX12_shift 139 = .ok (.laload, 1) := by decide +kernel
theorem dX12_shift_140 : decode cX12_shift 140 = .ok (.lastore, 1) := by decide +kernel
theorem dX12_shift_141 : decode cX12_shift 141 = .ok (.iinc 6 1, 3) := by decide +kernel
theorem dX12_shift_144 : decode cX12_shift 144 = .ok (.goto (-31), 3) := by decide +kernel
theorem dX12_shift_147 : decode cX12_shift 147 = .ok (.iconst 0, 1) := by decide +kernel
theorem dX12_shift_148 : decode cX12_shift 148 = .ok (.istore 6, 2) := by decide +kernel
theorem dX12_shift_150 : decode cX12_shift 150 = .ok (.iload 6, 2) := by decide +kernel
theorem dX12_shift_152 : decode cX12_shift 152 = .ok (.iload 5, 2) := by decide +kernel
theorem dX12_shift_154 : decode cX12_shift 154 = .ok (.if_icmp .ge 31, 3) := by decide +kernel
theorem dX12_shift_157 : decode cX12_shift 157 = .ok (.aload_n 0, 1) := by decide +kernel
theorem dX12_shift_158 : decode cX12_shift 158 = .ok (.getfield 132, 3) := by decide +kernel
theorem dX12_shift_161 : decode cX12_shift 161 = .ok (.bipush 60, 2) := by decide +kernel
theorem dX12_shift_163 : decode cX12_shift 163 = .ok (.iload_n 3, 1) := by decide +kernel
theorem dX12_shift_164 : decode cX12_shift 164 = .ok (.imul, 1) := by decide +kernel
theorem dX12_shift_165 : decode cX12_shift 165 = .ok (.iload 4, 2) := by decide +kernel
theorem dX12_shift_167 : decode cX12_shift 167 = .ok (.iadd, 1) := by decide +kernel
theorem dX12_shift_168 : decode cX12_shift 168 = .ok (.iload 6, 2) := by decide +kernel
theorem dX12_shift_170 : decode cX12_shift 170 = .ok (.iadd, 1) := by decide +kernel
theorem dX12_shift_171 : decode cX12_shift 171 = .ok (.aload_n 0, 1) := by decide +kernel
theorem dX12_shift_172 : decode cX12_shift 172 = .ok (.getfield 136, 3) := by decide +kernel
theorem dX12_shift_175 : decode cX12_shift 175 = .ok (.iload 6, 2) := by decide +kernel
theorem dX12_shift_177 : decode cX12_shift 177 = .ok (.laload, 1) := by decide +kernel
theorem dX12_shift_178 : decode cX12_shift 178 = .ok (.lastore, 1) := by decide +kernel
theorem dX12_shift_179 : decode cX12_shift 179 = .ok (.iinc 6 1, 3) := by decide +kernel
theorem dX12_shift_182 : decode cX12_shift 182 = .ok (.goto (-32), 3) := by decide +kernel
theorem dX12_shift_185 : decode cX12_shift 185 = .ok (.iload 5, 2) := by decide +kernel
theorem dX12_shift_187 : decode cX12_shift 187 = .ok (.ireturn, 1) := by decide +kernel
theorem dX12_taken_0 : decode cX12_taken 0 = .ok (.iload_n 1, 1) := by decide +kernel
theorem dX12_taken_1 : decode cX12_taken 1 = .ok (.invokestatic 154, 3) := by decide +kernel
theorem dX12_taken_4 : decode cX12_taken 4 = .ok (.ifCond .eq 13, 3) := by decide +kernel
theorem dX12_taken_7 : decode cX12_taken 7 = .ok (.iload_n 2, 1) := by decide +kernel
theorem dX12_taken_8 : decode cX12_taken 8 = .ok (.iconst 0, 1) := by decide +kernel
theorem dX12_taken_9 : decode cX12_taken 9 = .ok (.bipush 7, 2) := by decide +kernel
theorem dX12_taken_11 : decode cX12_taken 11 = .ok (.invokestatic 142, 3) := by decide +kernel
theorem dX12_taken_14 : decode cX12_taken 14 = .ok (.ifCond .ne 5, 3) := by decide +kernel
theorem dX12_taken_17 : decode cX12_taken 17 = .ok (.iconst (-1), 1) := by decide +kernel
theorem dX12_taken_18 : decode cX12_taken 18 = .ok (.ireturn, 1) := by decide +kernel
theorem dX12_taken_19 : decode cX12_taken 19 = .ok (.aload_n 0, 1) := by decide +kernel
theorem dX12_taken_20 : decode cX12_taken 20 = .ok (.getfield 126, 3) := by decide +kernel
theorem dX12_taken_23 : decode cX12_taken 23 = .ok (.iload_n 1, 1) := by decide +kernel
theorem dX12_taken_24 : decode cX12_taken 24 = .ok (.iaload, 1) := by decide +kernel
theorem dX12_taken_25 : decode cX12_taken 25 = .ok (.iconst (-1), 1) := by decide +kernel
theorem dX12_taken_26 : decode cX12_taken 26 = .ok (.if_icmp .ne 6, 3) := by decide +kernel
theorem dX12_taken_29 : decode cX12_taken 29 = .ok (.bipush (-11), 2) := by decide +kernel
theorem dX12_taken_31 : decode cX12_taken 31 = .ok (.ireturn, 1) := by decide +kernel
theorem dX12_taken_32 : decode cX12_taken 32 = .ok (.aload_n 0, 1) := by decide +kernel
theorem dX12_taken_33 : decode cX12_taken 33 = .ok (.getfield 126, 3) := by decide +kernel
theorem dX12_taken_36 : decode cX12_taken 36 = .ok (.iload_n 1, 1) := by decide +kernel
theorem dX12_taken_37 : decode cX12_taken 37 = .ok (.iaload, 1) := by decide +kernel
theorem dX12_taken_38 : decode cX12_taken 38 = .ok (.ifCond .lt 35, 3) := by decide +kernel
theorem dX12_taken_41 : decode cX12_taken 41 = .ok (.aload_n 0, 1) := by decide +kernel
theorem dX12_taken_42 : decode cX12_taken 42 = .ok (.getfield 120, 3) := by decide +kernel
theorem dX12_taken_45 : decode cX12_taken 45 = .ok (.aload_n 0, 1) := by decide +kernel
theorem dX12_taken_46 : decode cX12_taken 46 = .ok (.getfield 126, 3) := by decide +kernel
theorem dX12_taken_49 : decode cX12_taken 49 = .ok (.iload_n 1, 1) := by decide +kernel
theorem dX12_taken_50 : decode cX12_taken 50 = .ok (.iaload, 1) := by decide +kernel
theorem dX12_taken_51 : decode cX12_taken 51 = .ok (.iaload, 1) := by decide +kernel
theorem dX12_taken_52 : decode cX12_taken 52 = .ok (.iload_n 2, 1) := by decide +kernel
theorem dX12_taken_53 : decode cX12_taken 53 = .ok (.invokestatic 414, 3) := by decide +kernel
theorem dX12_taken_56 : decode cX12_taken 56 = .ok (.ifCond .eq 17, 3) := by decide +kernel
theorem dX12_taken_59 : decode cX12_taken 59 = .ok (.aload_n 0, 1) := by decide +kernel
theorem dX12_taken_60 : decode cX12_taken 60 = .ok (.getfield 120, 3) := by decide +kernel
theorem dX12_taken_63 : decode cX12_taken 63 = .ok (.aload_n 0, 1) := by decide +kernel
theorem dX12_taken_64 : decode cX12_taken 64 = .ok (.getfield 126, 3) := by decide +kernel
theorem dX12_taken_67 : decode cX12_taken 67 = .ok (.iload_n 1, 1) := by decide +kernel
theorem dX12_taken_68 : decode cX12_taken 68 = .ok (.iaload, 1) := by decide +kernel
theorem dX12_taken_69 : decode cX12_taken 69 = .ok (.iaload, 1) := by decide +kernel
theorem dX12_taken_70 : decode cX12_taken 70 = .ok (.goto 5, 3) := by decide +kernel
theorem dX12_taken_73 : decode cX12_taken 73 = .ok (.bipush (-12), 2) := by decide +kernel
theorem dX12_taken_75 : decode cX12_taken 75 = .ok (.ireturn, 1) := by decide +kernel
