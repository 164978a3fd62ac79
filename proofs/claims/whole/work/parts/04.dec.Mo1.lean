theorem d_Mo_reckon_208 : decode c_Mo_reckon 208 = .ok (.iconst 2, 1) := by decide +kernel
theorem d_Mo_reckon_209 : decode c_Mo_reckon 209 = .ok (.lload_n 2, 1) := by decide +kernel
theorem d_Mo_reckon_210 : decode c_Mo_reckon 210 = .ok (.lload 6, 2) := by decide +kernel
theorem d_Mo_reckon_212 : decode c_Mo_reckon 212 = .ok (.lsub, 1) := by decide +kernel
theorem d_Mo_reckon_213 : decode c_Mo_reckon 213 = .ok (.invokevirtual 71, 3) := by decide +kernel
theorem d_Mo_reckon_216 : decode c_Mo_reckon 216 = .ok (.goto 173, 3) := by decide +kernel
theorem d_Mo_reckon_219 : decode c_Mo_reckon 219 = .ok (.aload_n 0, 1) := by decide +kernel
theorem d_Mo_reckon_220 : decode c_Mo_reckon 220 = .ok (.iconst 0, 1) := by decide +kernel
theorem d_Mo_reckon_221 : decode c_Mo_reckon 221 = .ok (.lload_n 2, 1) := by decide +kernel
theorem d_Mo_reckon_222 : decode c_Mo_reckon 222 = .ok (.lconst 1, 1) := by decide +kernel
theorem d_Mo_reckon_223 : decode c_Mo_reckon 223 = .ok (.lsub, 1) := by decide +kernel
theorem d_Mo_reckon_224 : decode c_Mo_reckon 224 = .ok (.invokevirtual 71, 3) := by decide +kernel
theorem d_Mo_reckon_227 : decode c_Mo_reckon 227 = .ok (.goto 162, 3) := by decide +kernel
theorem d_Mo_reckon_230 : decode c_Mo_reckon 230 = .ok (.aload_n 0, 1) := by decide +kernel
theorem d_Mo_reckon_231 : decode c_Mo_reckon 231 = .ok (.iconst 2, 1) := by decide +kernel
theorem d_Mo_reckon_232 : decode c_Mo_reckon 232 = .ok (.lload 6, 2) := by decide +kernel
theorem d_Mo_reckon_234 : decode c_Mo_reckon 234 = .ok (.lconst 1, 1) := by decide +kernel
theorem d_Mo_reckon_235 : decode c_Mo_reckon 235 = .ok (.lsub, 1) := by decide +kernel
theorem d_Mo_reckon_236 : decode c_Mo_reckon 236 = .ok (.invokevirtual 71, 3) := by decide +kernel
theorem d_Mo_reckon_239 : decode c_Mo_reckon 239 = .ok (.goto 150, 3) := by decide +kernel
theorem d_Mo_reckon_242 : decode c_Mo_reckon 242 = .ok (.aload_n 0, 1) := by decide +kernel
theorem d_Mo_reckon_243 : decode c_Mo_reckon 243 = .ok (.iconst 2, 1) := by decide +kernel
theorem d_Mo_reckon_244 : decode c_Mo_reckon 244 = .ok (.lload 6, 2) := by decide +kernel
theorem d_Mo_reckon_246 : decode c_Mo_reckon 246 = .ok (.lneg, 1) := by decide +kernel
theorem d_Mo_reckon_247 : decode c_Mo_reckon 247 = .ok (.invokevirtual 71, 3) := by decide +kernel
theorem d_Mo_reckon_250 : decode c_Mo_reckon 250 = .ok (.goto 139, 3) := by decide +kernel
theorem d_Mo_reckon_253 : decode c_Mo_reckon 253 = .ok (.aload_n 0, 1) := by decide +kernel
theorem d_Mo_reckon_254 : decode c_Mo_reckon 254 = .ok (.iconst 2, 1) := by decide +kernel
theorem d_Mo_reckon_255 : decode c_Mo_reckon 255 = .ok (.lload 6, 2) := by decide +kernel
theorem d_Mo_reckon_257 : decode c_Mo_reckon 257 = .ok (.lneg, 1) := by decide +kernel
theorem d_Mo_reckon_258 : decode c_Mo_reckon 258 = .ok (.lconst 1, 1) := by decide +kernel
theorem d_Mo_reckon_259 : decode c_Mo_reckon 259 = .ok (.lsub, 1) := by decide +kernel
theorem d_Mo_reckon_260 : decode c_Mo_reckon 260 = .ok (.invokevirtual 71, 3) := by decide +kernel
theorem d_Mo_reckon_263 : decode c_Mo_reckon 263 = .ok (.goto 126, 3) := by decide +kernel
theorem d_Mo_reckon_266 : decode c_Mo_reckon 266 = .ok (.aload_n 0, 1) := by decide +kernel
theorem d_Mo_reckon_267 : decode c_Mo_reckon 267 = .ok (.lload_n 2, 1) := by decide +kernel
theorem d_Mo_reckon_268 : decode c_Mo_reckon 268 = .ok (.lload 4, 2) := by decide +kernel
theorem d_Mo_reckon_270 : decode c_Mo_reckon 270 = .ok (.lcmp, 1) := by decide +kernel
theorem d_Mo_reckon_271 : decode c_Mo_reckon 271 = .ok (.ifCond .ge 7, 3) := by decide +kernel
theorem d_Mo_reckon_274 : decode c_Mo_reckon 274 = .ok (.iconst 1, 1) := by decide +kernel
theorem d_Mo_reckon_275 : decode c_Mo_reckon 275 = .ok (.goto 4, 3) := by decide +kernel
theorem d_Mo_reckon_278 : decode c_Mo_reckon 278 = .ok (.iconst 0, 1) := by decide +kernel
theorem d_Mo_reckon_279 : decode c_Mo_reckon 279 = .ok (.putfield 59, 3) := by decide +kernel
theorem d_Mo_reckon_282 : decode c_Mo_reckon 282 = .ok (.goto 107, 3) := by decide +kernel
theorem d_Mo_reckon_285 : decode c_Mo_reckon 285 = .ok (.aload_n 0, 1) := by decide +kernel
theorem d_Mo_reckon_286 : decode c_Mo_reckon 286 = .ok (.lload_n 2, 1) := by decide +kernel
theorem d_Mo_reckon_287 : decode c_Mo_reckon 287 = .ok (.lload 6, 2) := by decide +kernel
theorem d_Mo_reckon_289 : decode c_Mo_reckon 289 = .ok (.lcmp, 1) := by decide +kernel
theorem d_Mo_reckon_290 : decode c_Mo_reckon 290 = .ok (.ifCond .ge 7, 3) := by decide +kernel
theorem d_Mo_reckon_293 : decode c_Mo_reckon 293 = .ok (.iconst 1, 1) := by decide +kernel
theorem d_Mo_reckon_294 : decode c_Mo_reckon 294 = .ok (.goto 4, 3) := by decide +kernel
theorem d_Mo_reckon_297 : decode c_Mo_reckon 297 = .ok (.iconst 0, 1) := by decide +kernel
theorem d_Mo_reckon_298 : decode c_Mo_reckon 298 = .ok (.putfield 59, 3) := by decide +kernel
theorem d_Mo_reckon_301 : decode c_Mo_reckon 301 = .ok (.goto 88, 3) := by decide +kernel
theorem d_Mo_reckon_304 : decode c_Mo_reckon 304 = .ok (.aload_n 0, 1) := by decide +kernel
theorem d_Mo_reckon_305 : decode c_Mo_reckon 305 = .ok (.lload 4, 2) := by decide +kernel
theorem d_Mo_reckon_307 : decode c_Mo_reckon 307 = .ok (.lconst 0, 1) := by decide +kernel
theorem d_Mo_reckon_308 : decode c_Mo_reckon 308 = .ok (.lcmp, 1) := by decide +kernel
theorem d_Mo_reckon_309 : decode c_Mo_reckon 309 = .ok (.ifCond .eq 7, 3) := by decide +kernel
theorem d_Mo_reckon_312 : decode c_Mo_reckon 312 = .ok (.iconst 1, 1) := by decide +kernel
theorem d_Mo_reckon_313 : decode c_Mo_reckon 313 = .ok (.goto 4, 3) := by decide +kernel
theorem d_Mo_reckon_316 : decode c_Mo_reckon 316 = .ok (.iconst 0, 1) := by decide +kernel
theorem d_Mo_reckon_317 : decode c_Mo_reckon 317 = .ok (.putfield 59, 3) := by decide +kernel
theorem d_Mo_reckon_320 : decode c_Mo_reckon 320 = .ok (.goto 69, 3) := by decide +kernel
theorem d_Mo_reckon_323 : decode c_Mo_reckon 323 = .ok (.aload_n 0, 1) := by decide +kernel
theorem d_Mo_reckon_324 : decode c_Mo_reckon 324 = .ok (.lload 6, 2) := by decide +kernel
theorem d_Mo_reckon_326 : decode c_Mo_reckon 326 = .ok (.lconst 0, 1) := by decide +kernel
theorem d_Mo_reckon_327 : decode c_Mo_reckon 327 = .ok (.lcmp, 1) := by decide +kernel
theorem d_Mo_reckon_328 : decode c_Mo_reckon 328 = .ok (.ifCond .eq 7, 3) := by decide +kernel
theorem d_Mo_reckon_331 : decode c_Mo_reckon 331 = .ok (.iconst 1, 1) := by decide +kernel
theorem d_Mo_reckon_332 : decode c_Mo_reckon 332 = .ok (.goto 4, 3) := by decide +kernel
theorem d_Mo_reckon_335 : decode c_Mo_reckon 335 = .ok (.iconst 0, 1) := by decide +kernel
theorem d_Mo_reckon_336 : decode c_Mo_reckon 336 = .ok (.putfield 59, 3) := by decide +kernel
theorem d_Mo_reckon_339 : decode c_Mo_reckon 339 = .ok (.goto 50, 3) := by decide +kernel
theorem d_Mo_reckon_342 : decode c_Mo_reckon 342 = .ok (.aload_n 0, 1) := by decide +kernel
theorem d_Mo_reckon_343 : decode c_Mo_reckon 343 = .ok (.lload_n 2, 1) := by decide +kernel
theorem d_Mo_reckon_344 : decode c_Mo_reckon 344 = .ok (.lconst 0, 1) := by decide +kernel
theorem d_Mo_reckon_345 : decode c_Mo_reckon 345 = .ok (.lcmp, 1) := by decide +kernel
theorem d_Mo_reckon_346 : decode c_Mo_reckon 346 = .ok (.ifCond .ne 7, 3) := by decide +kernel
theorem d_Mo_reckon_349 : decode c_Mo_reckon 349 = .ok (.iconst 1, 1) := by decide +kernel
theorem d_Mo_reckon_350 : decode c_Mo_reckon 350 = .ok (.goto 4, 3) := by decide +kernel
theorem d_Mo_reckon_353 : decode c_Mo_reckon 353 = .ok (.iconst 0, 1) := by decide +kernel
theorem d_Mo_reckon_354 : decode c_Mo_reckon 354 = .ok (.putfield 59, 3) := by decide +kernel
theorem d_Mo_reckon_357 : decode c_Mo_reckon 357 = .ok (.goto 32, 3) := by decide +kernel
theorem d_Mo_reckon_360 : decode c_Mo_reckon 360 = .ok (.aload_n 0, 1) := by decide +kernel
theorem d_Mo_reckon_361 : decode c_Mo_reckon 361 = .ok (.lload 6, 2) := by decide +kernel
theorem d_Mo_reckon_363 : decode c_Mo_reckon 363 = .ok (.lconst 0, 1) := by decide +kernel
theorem d_Mo_reckon_364 : decode c_Mo_reckon 364 = .ok (.lcmp, 1) := by decide +kernel
theorem d_Mo_reckon_365 : decode c_Mo_reckon 365 = .ok (.ifCond .ne 7, 3) := by decide +kernel
theorem d_Mo_reckon_368 : decode c_Mo_reckon 368 = .ok (.iconst 1, 1) := by decide +kernel
theorem d_Mo_reckon_369 : decode c_Mo_reckon 369 = .ok (.goto 4, 3) := by decide +kernel
theorem d_Mo_reckon_372 : decode c_Mo_reckon 372 = .ok (.iconst 0, 1) := by decide +kernel
theorem d_Mo_reckon_373 : decode c_Mo_reckon 373 = .ok (.putfield 59, 3) := by decide +kernel
theorem d_Mo_reckon_376 : decode c_Mo_reckon 376 = .ok (.goto 13, 3) := by decide +kernel
theorem d_Mo_reckon_379 : decode c_Mo_reckon 379 = .ok (.aload_n 0, 1) := by decide +kernel
theorem d_Mo_reckon_380 : decode c_Mo_reckon 380 = .ok (.iconst 2, 1) := by decide +kernel
theorem d_Mo_reckon_381 : decode c_Mo_reckon 381 = .ok (.lload 6, 2) := by decide +kernel
theorem d_Mo_reckon_383 : decode c_Mo_reckon 383 = .ok (.lload 6, 2) := by decide +kernel
theorem d_Mo_reckon_385 : decode c_Mo_reckon 385 = .ok (.ladd, 1) := by decide +kernel
theorem d_Mo_reckon_386 : decode c_Mo_reckon 386 = .ok (.invokevirtual 71, 3) := by decide +kernel
theorem d_Mo_reckon_389 : decode c_Mo_reckon 389 = .ok (.return_, 1) := by decide +kernel
theorem d_Mo_become_0 : decode c_Mo_become 0 = .ok (.aload_n 0, 1) := by decide +kernel
theorem d_Mo_become_1 : decode c_Mo_become 1 = .ok (.lload_n 2, 1) := by decide +kernel
theorem d_Mo_become_2 : decode c_Mo_become 2 = .ok (.lconst 0, 1) := by decide +kernel
theorem d_Mo_become_3 : decode c_Mo_become 3 = .ok (.lcmp, 1) := by decide +kernel
theorem d_Mo_become_4 : decode c_Mo_become 4 = .ok (.ifCond .lt 12, 3) := by decide +kernel
theorem d_Mo_become_7 : decode c_Mo_become 7 = .ok (.lload_n 2, 1) := by decide +kernel
theorem d_Mo_become_8 : decode c_Mo_become 8 = .ok (.aload_n 0, 1) := by decide +kernel
theorem d_Mo_become_9 : decode c_Mo_become 9 = .ok (.getfield 52, 3) := by decide +kernel
theorem d_Mo_become_12 : decode c_Mo_become 12 = .ok (.lcmp, 1) := by decide +kernel
theorem d_Mo_become_13 : decode c_Mo_become 13 = .ok (.ifCond .lt 7, 3) := by decide +kernel
theorem d_Mo_become_16 : decode c_Mo_become 16 = .ok (.iconst 1, 1) := by decide +kernel
theorem d_Mo_become_17 : decode c_Mo_become 17 = .ok (.goto 4, 3) := by decide +kernel
theorem d_Mo_become_20 : decode c_Mo_become 20 = .ok (.iconst 0, 1) := by decide +kernel
theorem d_Mo_become_21 : decode c_Mo_become 21 = .ok (.putfield 59, 3) := by decide +kernel
theorem d_Mo_become_24 : decode c_Mo_become 24 = .ok (.aload_n 0, 1) := by decide +kernel
theorem d_Mo_become_25 : decode c_Mo_become 25 = .ok (.iload_n 1, 1) := by decide +kernel
theorem d_Mo_become_26 : decode c_Mo_become 26 = .ok (.lload_n 2, 1) := by decide +kernel
theorem d_Mo_become_27 : decode c_Mo_become 27 = .ok (.lconst 0, 1) := by decide +kernel
theorem d_Mo_become_28 : decode c_Mo_become 28 = .ok (.lcmp, 1) := by decide +kernel
theorem d_Mo_become_29 : decode c_Mo_become 29 = .ok (.ifCond .ge 12, 3) := by decide +kernel
theorem d_Mo_become_32 : decode c_Mo_become 32 = .ok (.lload_n 2, 1) := by decide +kernel
theorem d_Mo_become_33 : decode c_Mo_become 33 = .ok (.aload_n 0, 1) := by decide +kernel
theorem d_Mo_become_34 : decode c_Mo_become 34 = .ok (.getfield 52, 3) := by decide +kernel
theorem d_Mo_become_37 : decode c_Mo_become 37 = .ok (.ladd, 1) := by decide +kernel
theorem d_Mo_become_38 : decode c_Mo_become 38 = .ok (.goto 9, 3) := by decide +kernel
theorem d_Mo_become_41 : decode c_Mo_become 41 = .ok (.lload_n 2, 1) := by decide +kernel
theorem d_Mo_become_42 : decode c_Mo_become 42 = .ok (.aload_n 0, 1) := by decide +kernel
theorem d_Mo_become_43 : decode c_Mo_become 43 = .ok (.getfield 52, 3) := by decide +kernel
theorem d_Mo_become_46 : decode c_Mo_become 46 = .ok (.lrem, 1) := by decide +kernel
theorem d_Mo_become_47 : decode c_Mo_become 47 = .ok (.invokevirtual 63, 3) := by decide +kernel
theorem d_Mo_become_50 : decode c_Mo_become 50 = .ok (.return_, 1) := by decide +kernel
theorem d_Mo_mark_0 : decode c_Mo_mark 0 = .ok (.iload_n 1, 1) := by decide +kernel
theorem d_Mo_mark_1 : decode c_Mo_mark 1 = .ok (.tableswitch 243 1 8 #[47, 58, 78, 99, 122, 152, 192, 218], 47) := by decide +kernel
theorem d_Mo_mark_48 : decode c_Mo_mark 48 = .ok (.aload_n 0, 1) := by decide +kernel
theorem d_Mo_mark_49 : decode c_Mo_mark 49 = .ok (.iload_n 2, 1) := by decide +kernel
theorem d_Mo_mark_50 : decode c_Mo_mark 50 = .ok (.bipush 14, 2) := by decide +kernel
theorem d_Mo_mark_52 : decode c_Mo_mark 52 = .ok (.irem, 1) := by decide +kernel
theorem d_Mo_mark_53 : decode c_Mo_mark 53 = .ok (.putfield 45, 3) := by decide +kernel
theorem d_Mo_mark_56 : decode c_Mo_mark 56 = .ok (.goto 188, 3) := by decide +kernel
theorem d_Mo_mark_59 : decode c_Mo_mark 59 = .ok (.aload_n 0, 1) := by decide +kernel
theorem d_Mo_mark_60 : decode c_Mo_mark 60 = .ok (.aload_n 0, 1) := by decide +kernel
theorem d_Mo_mark_61 : decode c_Mo_mark 61 = .ok (.getfield 45, 3) := by decide +kernel
theorem d_Mo_mark_64 : decode c_Mo_mark 64 = .ok (.iload_n 2, 1) := by decide +kernel
theorem d_Mo_mark_65 : decode c_Mo_mark 65 = .ok (.if_icmp .ne 7, 3) := by decide +kernel
theorem d_Mo_mark_68 : decode c_Mo_mark 68 = .ok (.iconst 1, 1) := by decide +kernel
theorem d_Mo_mark_69 : decode c_Mo_mark 69 = .ok (.goto 4, 3) := by decide +kernel
theorem d_Mo_mark_72 : decode c_Mo_mark 72 = .ok (.iconst 0, 1) := by decide +kernel
theorem d_Mo_mark_73 : decode c_Mo_mark 73 = .ok (.putfield 59, 3) := by decide +kernel
theorem d_Mo_mark_76 : decode c_Mo_mark 76 = .ok (.goto 168, 3) := by decide +kernel
theorem d_Mo_mark_79 : decode c_Mo_mark 79 = .ok (.iload_n 2, 1) := by decide +kernel
theorem d_Mo_mark_80 : decode c_Mo_mark 80 = .ok (.bipush 12, 2) := by decide +kernel
theorem d_Mo_mark_82 : decode c_Mo_mark 82 = .ok (.if_icmp .ge 162, 3) := by decide +kernel
theorem d_Mo_mark_85 : decode c_Mo_mark 85 = .ok (.aload_n 0, 1) := by decide +kernel
theorem d_Mo_mark_86 : decode c_Mo_mark 86 = .ok (.aload_n 0, 1) := by decide +kernel
theorem d_Mo_mark_87 : decode c_Mo_mark 87 = .ok (.getfield 74, 3) := by decide +kernel
theorem d_Mo_mark_90 : decode c_Mo_mark 90 = .ok (.iconst 1, 1) := by decide +kernel
theorem d_Mo_mark_91 : decode c_Mo_mark 91 = .ok (.iload_n 2, 1) := by decide +kernel
theorem d_Mo_mark_92 : decode c_Mo_mark 92 = .ok (.ishl, 1) := by decide +kernel
theorem d_Mo_mark_93 : decode c_Mo_mark 93 = .ok (.ior, 1) := by decide +kernel
theorem d_Mo_mark_94 : decode c_Mo_mark 94 = .ok (.putfield 74, 3) := by decide +kernel
theorem d_Mo_mark_97 : decode c_Mo_mark 97 = .ok (.goto 147, 3) := by decide +kernel
theorem d_Mo_mark_100 : decode c_Mo_mark 100 = .ok (.iload_n 2, 1) := by decide +kernel
theorem d_Mo_mark_101 : decode c_Mo_mark 101 = .ok (.bipush 12, 2) := by decide +kernel
theorem d_Mo_mark_103 : decode c_Mo_mark 103 = .ok (.if_icmp .ge 141, 3) := by decide +kernel
theorem d_Mo_mark_106 : decode c_Mo_mark 106 = .ok (.aload_n 0, 1) := by decide +kernel
theorem d_Mo_mark_107 : decode c_Mo_mark 107 = .ok (.aload_n 0, 1) := by decide +kernel
theorem d_Mo_mark_108 : decode c_Mo_mark 108 = .ok (.getfield 74, 3) := by decide +kernel
theorem d_Mo_mark_111 : decode c_Mo_mark 111 = .ok (.iconst 1, 1) := by decide +kernel
theorem d_Mo_mark_112 : decode c_Mo_mark 112 = .ok (.iload_n 2, 1) := by decide +kernel
theorem d_Mo_mark_113 : decode c_Mo_mark 113 = .ok (.ishl, 1) := by decide +kernel
theorem d_Mo_mark_114 : decode c_Mo_mark 114 = .ok (.iconst (-1), 1) := by decide +kernel
theorem d_Mo_mark_115 : decode c_Mo_mark 115 = .ok (.ixor, 1) := by decide +kernel
theorem d_Mo_mark_116 : decode c_Mo_mark 116 = .ok (.iand, 1) := by decide +kernel
theorem d_Mo_mark_117 : decode c_Mo_mark 117 = .ok (.putfield 74, 3) := by decide +kernel
theorem d_Mo_mark_120 : decode c_Mo_mark 120 = .ok (.goto 124, 3) := by decide +kernel
theorem d_Mo_mark_123 : decode c_Mo_mark 123 = .ok (.aload_n 0, 1) := by decide +kernel
theorem d_Mo_mark_124 : decode c_Mo_mark 124 = .ok (.iload_n 2, 1) := by decide +kernel
theorem d_Mo_mark_125 : decode c_Mo_mark 125 = .ok (.bipush 12, 2) := by decide +kernel
theorem d_Mo_mark_127 : decode c_Mo_mark 127 = .ok (.if_icmp .ge 19, 3) := by decide +kernel
theorem d_Mo_mark_130 : decode c_Mo_mark 130 = .ok (.aload_n 0, 1) := by decide +kernel
theorem d_Mo_mark_131 : decode c_Mo_mark 131 = .ok (.getfield 74, 3) := by decide +kernel
theorem d_Mo_mark_134 : decode c_Mo_mark 134 = .ok (.iload_n 2, 1) := by decide +kernel
theorem d_Mo_mark_135 : decode c_Mo_mark 135 = .ok (.ishr, 1) := by decide +kernel
theorem d_Mo_mark_136 : decode c_Mo_mark 136 = .ok (.iconst 1, 1) := by decide +kernel
theorem d_Mo_mark_137 : decode c_Mo_mark 137 = .ok (.iand, 1) := by decide +kernel
theorem d_Mo_mark_138 : decode c_Mo_mark 138 = .ok (.iconst 1, 1) := by decide +kernel
theorem d_Mo_mark_139 : decode c_Mo_mark 139 = .ok (.if_icmp .ne 7, 3) := by decide +kernel
theorem d_Mo_mark_142 : decode c_Mo_mark 142 = .ok (.iconst 1, 1) := by decide +kernel
theorem d_Mo_mark_143 : decode c_Mo_mark 143 = .ok (.goto 4, 3) := by decide +kernel
theorem d_Mo_mark_146 : decode c_Mo_mark 146 = .ok (.iconst 0, 1) := by decide +kernel
theorem d_Mo_mark_147 : decode c_Mo_mark 147 = .ok (.putfield 59, 3) := by decide +kernel
theorem d_Mo_mark_150 : decode c_Mo_mark 150 = .ok (.goto 94, 3) := by decide +kernel
theorem d_Mo_mark_153 : decode c_Mo_mark 153 = .ok (.aload_n 0, 1) := by decide +kernel
theorem d_Mo_mark_154 : decode c_Mo_mark 154 = .ok (.iconst 0, 1) := by decide +kernel
theorem d_Mo_mark_155 : decode c_Mo_mark 155 = .ok (.invokevirtual 77, 3) := by decide +kernel
theorem d_Mo_mark_158 : decode c_Mo_mark 158 = .ok (.aload_n 0, 1) := by decide +kernel
theorem d_Mo_mark_159 : decode c_Mo_mark 159 = .ok (.iconst 2, 1) := by decide +kernel
theorem d_Mo_mark_160 : decode c_Mo_mark 160 = .ok (.iload_n 2, 1) := by decide +kernel
theorem d_Mo_mark_161 : decode c_Mo_mark 161 = .ok (.bipush 10, 2) := by decide +kernel
theorem d_Mo_mark_163 : decode c_Mo_mark 163 = .ok (.irem, 1) := by decide +kernel
theorem d_Mo_mark_164 : decode c_Mo_mark 164 = .ok (.i2l, 1) := by decide +kernel
theorem d_Mo_mark_165 : decode c_Mo_mark 165 = .ok (.invokevirtual 63, 3) := by decide +kernel
theorem d_Mo_mark_168 : decode c_Mo_mark 168 = .ok (.aload_n 0, 1) := by decide +kernel
theorem d_Mo_mark_169 : decode c_Mo_mark 169 = .ok (.aload_n 0, 1) := by decide +kernel
theorem d_Mo_mark_170 : decode c_Mo_mark 170 = .ok (.getfield 45, 3) := by decide +kernel
theorem d_Mo_mark_173 : decode c_Mo_mark 173 = .ok (.ifCond .ne 8, 3) := by decide +kernel
theorem d_Mo_mark_176 : decode c_Mo_mark 176 = .ok (.bipush 13, 2) := by decide +kernel
theorem d_Mo_mark_178 : decode c_Mo_mark 178 = .ok (.goto 9, 3) := by decide +kernel
theorem d_Mo_mark_181 : decode c_Mo_mark 181 = .ok (.aload_n 0, 1) := by decide +kernel
theorem d_Mo_mark_182 : decode c_Mo_mark 182 = .ok (.getfield 45, 3) := by decide +kernel
theorem d_Mo_mark_185 : decode c_Mo_mark 185 = .ok (.iconst 1, 1) := by decide +kernel
theorem d_Mo_mark_186 : decode c_Mo_mark 186 = .ok (.isub, 1) := by decide +kernel
theorem d_Mo_mark_187 : decode c_Mo_mark 187 = .ok (.putfield 45, 3) := by decide +kernel
theorem d_Mo_mark_190 : decode c_Mo_mark 190 = .ok (.goto 54, 3) := by decide +kernel
theorem d_Mo_mark_193 : decode c_Mo_mark 193 = .ok (.aload_n 0, 1) := by decide +kernel
theorem d_Mo_mark_194 : decode c_Mo_mark 194 = .ok (.aload_n 0, 1) := by decide +kernel
theorem d_Mo_mark_195 : decode c_Mo_mark 195 = .ok (.getfield 45, 3) := by decide +kernel
theorem d_Mo_mark_198 : decode c_Mo_mark 198 = .ok (.bipush 13, 2) := by decide +kernel
theorem d_Mo_mark_200 : decode c_Mo_mark 200 = .ok (.if_icmp .ne 7, 3) := by decide +kernel
theorem d_Mo_mark_203 : decode c_Mo_mark 203 = .ok (.iconst 0, 1) := by decide +kernel
theorem d_Mo_mark_204 : decode c_Mo_mark 204 = .ok (.goto 9, 3) := by decide +kernel
theorem d_Mo_mark_207 : decode c_Mo_mark 207 = .ok (.aload_n 0, 1) := by decide +kernel
theorem d_Mo_mark_208 : decode c_Mo_mark 208 = .ok (.getfield 45, 3) := by decide +kernel
theorem d_Mo_mark_211 : decode c_Mo_mark 211 = .ok (.iconst 1, 1) := by decide +kernel
theorem d_Mo_mark_212 : decode c_Mo_mark 212 = .ok (.iadd, 1) := by decide +kernel
theorem d_Mo_mark_213 : decode c_Mo_mark 213 = .ok (.putfield 45, 3) := by decide +kernel
theorem d_Mo_mark_216 : decode c_Mo_mark 216 = .ok (.goto 28, 3) := by decide +kernel
theorem d_Mo_mark_219 : decode c_Mo_mark 219 = .ok (.aload_n 0, 1) := by decide +kernel
theorem d_Mo_mark_220 : decode c_Mo_mark 220 = .ok (.aload_n 0, 1) := by decide +kernel
theorem d_Mo_mark_221 : decode c_Mo_mark 221 = .ok (.getfield 45, 3) := by decide +kernel
theorem d_Mo_mark_224 : decode c_Mo_mark 224 = .ok (.ifCond .ne 8, 3) := by decide +kernel
theorem d_Mo_mark_227 : decode c_Mo_mark 227 = .ok (.bipush 13, 2) := by decide +kernel
theorem d_Mo_mark_229 : decode c_Mo_mark 229 = .ok (.goto 9, 3) := by decide +kernel
theorem d_Mo_mark_232 : decode c_Mo_mark 232 = .ok (.aload_n 0, 1) := by decide +kernel
theorem d_Mo_mark_233 : decode c_Mo_mark 233 = .ok (.getfield 45, 3) := by decide +kernel
theorem d_Mo_mark_236 : decode c_Mo_mark 236 = .ok (.iconst 1, 1) := by decide +kernel
theorem d_Mo_mark_237 : decode c_Mo_mark 237 = .ok (.isub, 1) := by decide +kernel
theorem d_Mo_mark_238 : decode c_Mo_mark 238 = .ok (.putfield 45, 3) := by decide +kernel
theorem d_Mo_mark_241 : decode c_Mo_mark 241 = .ok (.goto 3, 3) := by decide +kernel
theorem d_Mo_mark_244 : decode c_Mo_mark 244 = .ok (.return_, 1) := by decide +kernel
theorem d_Mo_turn_0 : decode c_Mo_turn 0 = .ok (.aload_n 0, 1) := by decide +kernel
theorem d_Mo_turn_1 : decode c_Mo_turn 1 = .ok (.getfield 13, 3) := by decide +kernel
theorem d_Mo_turn_4 : decode c_Mo_turn 4 = .ok (.iconst 2, 1) := by decide +kernel
theorem d_Mo_turn_5 : decode c_Mo_turn 5 = .ok (.laload, 1) := by decide +kernel
theorem d_Mo_turn_6 : decode c_Mo_turn 6 = .ok (.lstore_n 3, 1) := by decide +kernel
theorem d_Mo_turn_7 : decode c_Mo_turn 7 = .ok (.iload_n 1, 1) := by decide +kernel
theorem d_Mo_turn_8 : decode c_Mo_turn 8 = .ok (.tableswitch 125 9 14 #[40, 125, 74, 85, 93, 101], 40) := by decide +kernel
theorem d_Mo_turn_48 : decode c_Mo_turn 48 = .ok (.aload_n 0, 1) := by decide +kernel
theorem d_Mo_turn_49 : decode c_Mo_turn 49 = .ok (.getfield 13, 3) := by decide +kernel
theorem d_Mo_turn_52 : decode c_Mo_turn 52 = .ok (.iconst 5, 1) := by decide +kernel
theorem d_Mo_turn_53 : decode c_Mo_turn 53 = .ok (.aload_n 0, 1) := by decide +kernel
theorem d_Mo_turn_54 : decode c_Mo_turn 54 = .ok (.getfield 13, 3) := by decide +kernel
theorem d_Mo_turn_57 : decode c_Mo_turn 57 = .ok (.iconst 4, 1) := by decide +kernel
theorem d_Mo_turn_58 : decode c_Mo_turn 58 = .ok (.laload, 1) := by decide +kernel
theorem d_Mo_turn_59 : decode c_Mo_turn 59 = .ok (.lastore, 1) := by decide +kernel
theorem d_Mo_turn_60 : decode c_Mo_turn 60 = .ok (.aload_n 0, 1) := by decide +kernel
theorem d_Mo_turn_61 : decode c_Mo_turn 61 = .ok (.getfield 13, 3) := by decide +kernel
theorem d_Mo_turn_64 : decode c_Mo_turn 64 = .ok (.iconst 4, 1) := by decide +kernel
theorem d_Mo_turn_65 : decode c_Mo_turn 65 = .ok (.aload_n 0, 1) := by decide +kernel
theorem d_Mo_turn_66 : decode c_Mo_turn 66 = .ok (.getfield 13, 3) := by decide +kernel
theorem d_Mo_turn_69 : decode c_Mo_turn 69 = .ok (.iconst 3, 1) := by decide +kernel
theorem d_Mo_turn_70 : decode c_Mo_turn 70 = .ok (.laload, 1) := by decide +kernel
theorem d_Mo_turn_71 : decode c_Mo_turn 71 = .ok (.lastore, 1) := by decide +kernel
theorem d_Mo_turn_72 : decode c_Mo_turn 72 = .ok (.aload_n 0, 1) := by decide +kernel
theorem d_Mo_turn_73 : decode c_Mo_turn 73 = .ok (.getfield 13, 3) := by decide +kernel
theorem d_Mo_turn_76 : decode c_Mo_turn 76 = .ok (.iconst 3, 1) := by decide +kernel
theorem d_Mo_turn_77 : decode c_Mo_turn 77 = .ok (.lload_n 3, 1) := by decide +kernel
theorem d_Mo_turn_78 : decode c_Mo_turn 78 = .ok (.lastore, 1) := by decide +kernel
theorem d_Mo_turn_79 : decode c_Mo_turn 79 = .ok (.goto 113, 3) := by decide +kernel
theorem d_Mo_turn_82 : decode c_Mo_turn 82 = .ok (.aload_n 0, 1) := by decide +kernel
theorem d_Mo_turn_83 : decode c_Mo_turn 83 = .ok (.aload_n 0, 1) := by decide +kernel
theorem d_Mo_turn_84 : decode c_Mo_turn 84 = .ok (.getfield 81, 3) := by decide +kernel
theorem d_Mo_turn_87 : decode c_Mo_turn 87 = .ok (.putfield 84, 3) := by decide +kernel
theorem d_Mo_turn_90 : decode c_Mo_turn 90 = .ok (.goto 102, 3) := by decide +kernel
theorem d_Mo_turn_93 : decode c_Mo_turn 93 = .ok (.aload_n 0, 1) := by decide +kernel
theorem d_Mo_turn_94 : decode c_Mo_turn 94 = .ok (.iload_n 2, 1) := by decide +kernel
theorem d_Mo_turn_95 : decode c_Mo_turn 95 = .ok (.invokevirtual 87, 3) := by decide +kernel
theorem d_Mo_turn_98 : decode c_Mo_turn 98 = .ok (.goto 94, 3) := by decide +kernel
theorem d_Mo_turn_101 : decode c_Mo_turn 101 = .ok (.aload_n 0, 1) := by decide +kernel
theorem d_Mo_turn_102 : decode c_Mo_turn 102 = .ok (.iconst 1, 1) := by decide +kernel
theorem d_Mo_turn_103 : decode c_Mo_turn 103 = .ok (.putfield 90, 3) := by decide +kernel
theorem d_Mo_turn_106 : decode c_Mo_turn 106 = .ok (.goto 86, 3) := by decide +kernel
theorem d_Mo_turn_109 : decode c_Mo_turn 109 = .ok (.aload_n 0, 1) := by decide +kernel
theorem d_Mo_turn_110 : decode c_Mo_turn 110 = .ok (.getfield 13, 3) := by decide +kernel
theorem d_Mo_turn_113 : decode c_Mo_turn 113 = .ok (.iconst 2, 1) := by decide +kernel
theorem d_Mo_turn_114 : decode c_Mo_turn 114 = .ok (.aload_n 0, 1) := by decide +kernel
theorem d_Mo_turn_115 : decode c_Mo_turn 115 = .ok (.getfield 13, 3) := by decide +kernel
theorem d_Mo_turn_118 : decode c_Mo_turn 118 = .ok (.bipush 6, 2) := by decide +kernel
theorem d_Mo_turn_120 : decode c_Mo_turn 120 = .ok (.laload, 1) := by decide +kernel
theorem d_Mo_turn_121 : decode c_Mo_turn 121 = .ok (.lastore, 1) := by decide +kernel
theorem d_Mo_turn_122 : decode c_Mo_turn 122 = .ok (.aload_n 0, 1) := by decide +kernel
theorem d_Mo_turn_123 : decode c_Mo_turn 123 = .ok (.getfield 13, 3) := by decide +kernel
theorem d_Mo_turn_126 : decode c_Mo_turn 126 = .ok (.bipush 6, 2) := by decide +kernel
theorem d_Mo_turn_128 : decode c_Mo_turn 128 = .ok (.lload_n 3, 1) := by decide +kernel
theorem d_Mo_turn_129 : decode c_Mo_turn 129 = .ok (.lastore, 1) := by decide +kernel
theorem d_Mo_turn_130 : decode c_Mo_turn 130 = .ok (.goto 62, 3) := by decide +kernel
theorem d_Mo_turn_133 : decode c_Mo_turn 133 = .ok (.aload_n 0, 1) := by decide +kernel
theorem d_Mo_turn_134 : decode c_Mo_turn 134 = .ok (.getfield 13, 3) := by decide +kernel
theorem d_Mo_turn_137 : decode c_Mo_turn 137 = .ok (.iload_n 1, 1) := by decide +kernel
theorem d_Mo_turn_138 : decode c_Mo_turn 138 = .ok (.bipush 10, 2) := by decide +kernel
theorem d_Mo_turn_140 : decode c_Mo_turn 140 = .ok (.if_icmp .ne 7, 3) := by decide +kernel
theorem d_Mo_turn_143 : decode c_Mo_turn 143 = .ok (.iconst 0, 1) := by decide +kernel
theorem d_Mo_turn_144 : decode c_Mo_turn 144 = .ok (.goto 4, 3) := by decide +kernel
theorem d_Mo_turn_147 : decode c_Mo_turn 147 = .ok (.iconst 2, 1) := by decide +kernel
theorem d_Mo_turn_148 : decode c_Mo_turn 148 = .ok (.aload_n 0, 1) := by decide +kernel
theorem d_Mo_turn_149 : decode c_Mo_turn 149 = .ok (.getfield 13, 3) := by decide +kernel
theorem d_Mo_turn_152 : decode c_Mo_turn 152 = .ok (.iconst 3, 1) := by decide +kernel
theorem d_Mo_turn_153 : decode c_Mo_turn 153 = .ok (.laload, 1) := by decide +kernel
theorem d_Mo_turn_154 : decode c_Mo_turn 154 = .ok (.lastore, 1) := by decide +kernel
theorem d_Mo_turn_155 : decode c_Mo_turn 155 = .ok (.iload_n 1, 1) := by decide +kernel
theorem d_Mo_turn_156 : decode c_Mo_turn 156 = .ok (.bipush 15, 2) := by decide +kernel
theorem d_Mo_turn_158 : decode c_Mo_turn 158 = .ok (.if_icmp .ne 10, 3) := by decide +kernel
theorem d_Mo_turn_161 : decode c_Mo_turn 161 = .ok (.aload_n 0, 1) := by decide +kernel
theorem d_Mo_turn_162 : decode c_Mo_turn 162 = .ok (.getfield 13, 3) := by decide +kernel
theorem d_Mo_turn_165 : decode c_Mo_turn 165 = .ok (.iconst 0, 1) := by decide +kernel
theorem d_Mo_turn_166 : decode c_Mo_turn 166 = .ok (.lload_n 3, 1) := by decide +kernel
theorem d_Mo_turn_167 : decode c_Mo_turn 167 = .ok (.lastore, 1) := by decide +kernel
theorem d_Mo_turn_168 : decode c_Mo_turn 168 = .ok (.aload_n 0, 1) := by decide +kernel
theorem d_Mo_turn_169 : decode c_Mo_turn 169 = .ok (.getfield 13, 3) := by decide +kernel
theorem d_Mo_turn_172 : decode c_Mo_turn 172 = .ok (.iconst 3, 1) := by decide +kernel
theorem d_Mo_turn_173 : decode c_Mo_turn 173 = .ok (.aload_n 0, 1) := by decide +kernel
theorem d_Mo_turn_174 : decode c_Mo_turn 174 = .ok (.getfield 13, 3) := by decide +kernel
theorem d_Mo_turn_177 : decode c_Mo_turn 177 = .ok (.iconst 4, 1) := by decide +kernel
theorem d_Mo_turn_178 : decode c_Mo_turn 178 = .ok (.laload, 1) := by decide +kernel
theorem d_Mo_turn_179 : decode c_Mo_turn 179 = .ok (.lastore, 1) := by decide +kernel
theorem d_Mo_turn_180 : decode c_Mo_turn 180 = .ok (.aload_n 0, 1) := by decide +kernel
theorem d_Mo_turn_181 : decode c_Mo_turn 181 = .ok (.getfield 13, 3) := by decide +kernel
theorem d_Mo_turn_184 : decode c_Mo_turn 184 = .ok (.iconst 4, 1) := by decide +kernel
theorem d_Mo_turn_185 : decode c_Mo_turn 185 = .ok (.aload_n 0, 1) := by decide +kernel
theorem d_Mo_turn_186 : decode c_Mo_turn 186 = .ok (.getfield 13, 3) := by decide +kernel
theorem d_Mo_turn_189 : decode c_Mo_turn 189 = .ok (.iconst 5, 1) := by decide +kernel
theorem d_Mo_turn_190 : decode c_Mo_turn 190 = .ok (.laload, 1) := by decide +kernel
theorem d_Mo_turn_191 : decode c_Mo_turn 191 = .ok (.lastore, 1) := by decide +kernel
theorem d_Mo_turn_192 : decode c_Mo_turn 192 = .ok (.return_, 1) := by decide +kernel
theorem d_Mo_pick_0 : decode c_Mo_pick 0 = .ok (.aload_n 0, 1) := by decide +kernel
theorem d_Mo_pick_1 : decode c_Mo_pick 1 = .ok (.getfield 93, 3) := by decide +kernel
theorem d_Mo_pick_4 : decode c_Mo_pick 4 = .ok (.ifCond .ne 14, 3) := by decide +kernel
theorem d_Mo_pick_7 : decode c_Mo_pick 7 = .ok (.aload_n 0, 1) := by decide +kernel
theorem d_Mo_pick_8 : decode c_Mo_pick 8 = .ok (.iload_n 1, 1) := by decide +kernel
theorem d_Mo_pick_9 : decode c_Mo_pick 9 = .ok (.putfield 84, 3) := by decide +kernel
theorem d_Mo_pick_12 : decode c_Mo_pick 12 = .ok (.aload_n 0, 1) := by decide +kernel
theorem d_Mo_pick_13 : decode c_Mo_pick 13 = .ok (.iconst 1, 1) := by decide +kernel
theorem d_Mo_pick_14 : decode c_Mo_pick 14 = .ok (.putfield 90, 3) := by decide +kernel
theorem d_Mo_pick_17 : decode c_Mo_pick 17 = .ok (.return_, 1) := by decide +kernel
theorem d_Mo_pick_18 : decode c_Mo_pick 18 = .ok (.aload_n 0, 1) := by decide +kernel
theorem d_Mo_pick_19 : decode c_Mo_pick 19 = .ok (.bipush 8, 2) := by decide +kernel
theorem d_Mo_pick_21 : decode c_Mo_pick 21 = .ok (.aload_n 0, 1) := by decide +kernel
theorem d_Mo_pick_22 : decode c_Mo_pick 22 = .ok (.getfield 20, 3) := by decide +kernel
theorem d_Mo_pick_25 : decode c_Mo_pick 25 = .ok (.iconst 0, 1) := by decide +kernel
theorem d_Mo_pick_26 : decode c_Mo_pick 26 = .ok (.iaload, 1) := by decide +kernel
theorem d_Mo_pick_27 : decode c_Mo_pick 27 = .ok (.imul, 1) := by decide +kernel
theorem d_Mo_pick_28 : decode c_Mo_pick 28 = .ok (.bipush 64, 2) := by decide +kernel
theorem d_Mo_pick_30 : decode c_Mo_pick 30 = .ok (.irem, 1) := by decide +kernel
theorem d_Mo_pick_31 : decode c_Mo_pick 31 = .ok (.putfield 84, 3) := by decide +kernel
theorem d_Mo_pick_34 : decode c_Mo_pick 34 = .ok (.aload_n 0, 1) := by decide +kernel
theorem d_Mo_pick_35 : decode c_Mo_pick 35 = .ok (.dup, 1) := by decide +kernel
theorem d_Mo_pick_36 : decode c_Mo_pick 36 = .ok (.getfield 93, 3) := by decide +kernel
theorem d_Mo_pick_39 : decode c_Mo_pick 39 = .ok (.iconst 1, 1) := by decide +kernel
theorem d_Mo_pick_40 : decode c_Mo_pick 40 = .ok (.isub, 1) := by decide +kernel
theorem d_Mo_pick_41 : decode c_Mo_pick 41 = .ok (.putfield 93, 3) := by decide +kernel
theorem d_Mo_pick_44 : decode c_Mo_pick 44 = .ok (.aload_n 0, 1) := by decide +kernel
theorem d_Mo_pick_45 : decode c_Mo_pick 45 = .ok (.getfield 20, 3) := by decide +kernel
theorem d_Mo_pick_48 : decode c_Mo_pick 48 = .ok (.iconst 0, 1) := by decide +kernel
theorem d_Mo_pick_49 : decode c_Mo_pick 49 = .ok (.aload_n 0, 1) := by decide +kernel
theorem d_Mo_pick_50 : decode c_Mo_pick 50 = .ok (.getfield 20, 3) := by decide +kernel
theorem d_Mo_pick_53 : decode c_Mo_pick 53 = .ok (.iconst 1, 1) := by decide +kernel
theorem d_Mo_pick_54 : decode c_Mo_pick 54 = .ok (.iaload, 1) := by decide +kernel
theorem d_Mo_pick_55 : decode c_Mo_pick 55 = .ok (.iastore, 1) := by decide +kernel
theorem d_Mo_pick_56 : decode c_Mo_pick 56 = .ok (.aload_n 0, 1) := by decide +kernel
theorem d_Mo_pick_57 : decode c_Mo_pick 57 = .ok (.getfield 20, 3) := by decide +kernel
theorem d_Mo_pick_60 : decode c_Mo_pick 60 = .ok (.iconst 1, 1) := by decide +kernel
theorem d_Mo_pick_61 : decode c_Mo_pick 61 = .ok (.aload_n 0, 1) := by decide +kernel
theorem d_Mo_pick_62 : decode c_Mo_pick 62 = .ok (.getfield 20, 3) := by decide +kernel
theorem d_Mo_pick_65 : decode c_Mo_pick 65 = .ok (.iconst 2, 1) := by decide +kernel
theorem d_Mo_pick_66 : decode c_Mo_pick 66 = .ok (.iaload, 1) := by decide +kernel
theorem d_Mo_pick_67 : decode c_Mo_pick 67 = .ok (.iastore, 1) := by decide +kernel
theorem d_Mo_pick_68 : decode c_Mo_pick 68 = .ok (.return_, 1) := by decide +kernel
theorem d_Mo_type_0 : decode c_Mo_type 0 = .ok (.aload_n 0, 1) := by decide +kernel
theorem d_Mo_type_1 : decode c_Mo_type 1 = .ok (.iconst 0, 1) := by decide +kernel
theorem d_Mo_type_2 : decode c_Mo_type 2 = .ok (.putfield 42, 3) := by decide +kernel
theorem d_Mo_type_5 : decode c_Mo_type 5 = .ok (.iload_n 1, 1) := by decide +kernel
theorem d_Mo_type_6 : decode c_Mo_type 6 = .ok (.bipush 32, 2) := by decide +kernel
theorem d_Mo_type_8 : decode c_Mo_type 8 = .ok (.if_icmp .lt 19, 3) := by decide +kernel
theorem d_Mo_type_11 : decode c_Mo_type 11 = .ok (.iload_n 1, 1) := by decide +kernel
theorem d_Mo_type_12 : decode c_Mo_type 12 = .ok (.bipush 126, 2) := by decide +kernel
theorem d_Mo_type_14 : decode c_Mo_type 14 = .ok (.if_icmp .gt 13, 3) := by decide +kernel
theorem d_Mo_type_17 : decode c_Mo_type 17 = .ok (.aload_n 0, 1) := by decide +kernel
theorem d_Mo_type_18 : decode c_Mo_type 18 = .ok (.getfield 235, 3) := by decide +kernel
theorem d_Mo_type_21 : decode c_Mo_type 21 = .ok (.sipush 240, 3) := by decide +kernel
theorem d_Mo_type_24 : decode c_Mo_type 24 = .ok (.if_icmp .ne 5, 3) := by decide +kernel
theorem d_Mo_type_27 : decode c_Mo_type 27 = .ok (.iconst 0, 1) := by decide +kernel
theorem d_Mo_type_28 : decode c_Mo_type 28 = .ok (.ireturn, 1) := by decide +kernel
theorem d_Mo_type_29 : decode c_Mo_type 29 = .ok (.aload_n 0, 1) := by decide +kernel
theorem d_Mo_type_30 : decode c_Mo_type 30 = .ok (.getfield 23, 3) := by decide +kernel
theorem d_Mo_type_33 : decode c_Mo_type 33 = .ok (.aload_n 0, 1) := by decide +kernel
theorem d_Mo_type_34 : decode c_Mo_type 34 = .ok (.getfield 235, 3) := by decide +kernel
theorem d_Mo_type_37 : decode c_Mo_type 37 = .ok (.iload_n 1, 1) := by decide +kernel
theorem d_Mo_type_38 : decode c_Mo_type 38 = .ok (.castore, 1) := by decide +kernel
theorem d_Mo_type_39 : decode c_Mo_type 39 = .ok (.aload_n 0, 1) := by decide +kernel
theorem d_Mo_type_40 : decode c_Mo_type 40 = .ok (.dup, 1) := by decide +kernel
theorem d_Mo_type_41 : decode c_Mo_type 41 = .ok (.getfield 235, 3) := by decide +kernel
theorem d_Mo_type_44 : decode c_Mo_type 44 = .ok (.iconst 1, 1) := by decide +kernel
theorem d_Mo_type_45 : decode c_Mo_type 45 = .ok (.iadd, 1) := by decide +kernel
theorem d_Mo_type_46 : decode c_Mo_type 46 = .ok (.putfield 235, 3) := by decide +kernel
theorem d_Mo_type_49 : decode c_Mo_type 49 = .ok (.iconst 1, 1) := by decide +kernel
theorem d_Mo_type_50 : decode c_Mo_type 50 = .ok (.ireturn, 1) := by decide +kernel
theorem d_Mo_assemble_0 : decode c_Mo_assemble 0 = .ok (.aload_n 0, 1) := by decide +kernel
theorem d_Mo_assemble_1 : decode c_Mo_assemble 1 = .ok (.aload_n 0, 1) := by decide +kernel
theorem d_Mo_assemble_2 : decode c_Mo_assemble 2 = .ok (.invokevirtual 242, 3) := by decide +kernel
theorem d_Mo_assemble_5 : decode c_Mo_assemble 5 = .ok (.putfield 27, 3) := by decide +kernel
theorem d_Mo_assemble_8 : decode c_Mo_assemble 8 = .ok (.aload_n 0, 1) := by decide +kernel
theorem d_Mo_assemble_9 : decode c_Mo_assemble 9 = .ok (.iconst 0, 1) := by decide +kernel
theorem d_Mo_assemble_10 : decode c_Mo_assemble 10 = .ok (.putfield 235, 3) := by decide +kernel
theorem d_Mo_assemble_13 : decode c_Mo_assemble 13 = .ok (.aload_n 0, 1) := by decide +kernel
theorem d_Mo_assemble_14 : decode c_Mo_assemble 14 = .ok (.aload_n 0, 1) := by decide +kernel
theorem d_Mo_assemble_15 : decode c_Mo_assemble 15 = .ok (.getfield 27, 3) := by decide +kernel
theorem d_Mo_assemble_18 : decode c_Mo_assemble 18 = .ok (.ifCond .lt 7, 3) := by decide +kernel
theorem d_Mo_assemble_21 : decode c_Mo_assemble 21 = .ok (.iconst 1, 1) := by decide +kernel
theorem d_Mo_assemble_22 : decode c_Mo_assemble 22 = .ok (.goto 4, 3) := by decide +kernel
theorem d_Mo_assemble_25 : decode c_Mo_assemble 25 = .ok (.iconst 0, 1) := by decide +kernel
theorem d_Mo_assemble_26 : decode c_Mo_assemble 26 = .ok (.putfield 42, 3) := by decide +kernel
theorem d_Mo_assemble_29 : decode c_Mo_assemble 29 = .ok (.aload_n 0, 1) := by decide +kernel
theorem d_Mo_assemble_30 : decode c_Mo_assemble 30 = .ok (.getfield 42, 3) := by decide +kernel
theorem d_Mo_assemble_33 : decode c_Mo_assemble 33 = .ok (.ifCond .eq 5, 3) := by decide +kernel
theorem d_Mo_assemble_36 : decode c_Mo_assemble 36 = .ok (.iconst 0, 1) := by decide +kernel
theorem d_Mo_assemble_37 : decode c_Mo_assemble 37 = .ok (.ireturn, 1) := by decide +kernel
theorem d_Mo_assemble_38 : decode c_Mo_assemble 38 = .ok (.iconst 0, 1) := by decide +kernel
theorem d_Mo_assemble_39 : decode c_Mo_assemble 39 = .ok (.istore_n 1, 1) := by decide +kernel
theorem d_Mo_assemble_40 : decode c_Mo_assemble 40 = .ok (.iload_n 1, 1) := by decide +kernel
theorem d_Mo_assemble_41 : decode c_Mo_assemble 41 = .ok (.bipush 64, 2) := by decide +kernel
theorem d_Mo_assemble_43 : decode c_Mo_assemble 43 = .ok (.if_icmp .ge 33, 3) := by decide +kernel
theorem d_Mo_assemble_46 : decode c_Mo_assemble 46 = .ok (.aload_n 0, 1) := by decide +kernel
theorem d_Mo_assemble_47 : decode c_Mo_assemble 47 = .ok (.getfield 16, 3) := by decide +kernel
theorem d_Mo_assemble_50 : decode c_Mo_assemble 50 = .ok (.iload_n 1, 1) := by decide +kernel
theorem d_Mo_assemble_51 : decode c_Mo_assemble 51 = .ok (.iload_n 1, 1) := by decide +kernel
theorem d_Mo_assemble_52 : decode c_Mo_assemble 52 = .ok (.aload_n 0, 1) := by decide +kernel
theorem d_Mo_assemble_53 : decode c_Mo_assemble 53 = .ok (.getfield 228, 3) := by decide +kernel
theorem d_Mo_assemble_56 : decode c_Mo_assemble 56 = .ok (.if_icmp .ge 12, 3) := by decide +kernel
theorem d_Mo_assemble_59 : decode c_Mo_assemble 59 = .ok (.aload_n 0, 1) := by decide +kernel
theorem d_Mo_assemble_60 : decode c_Mo_assemble 60 = .ok (.getfield 31, 3) := by decide +kernel
theorem d_Mo_assemble_63 : decode c_Mo_assemble 63 = .ok (.iload_n 1, 1) := by decide +kernel
theorem d_Mo_assemble_64 : decode c_Mo_assemble 64 = .ok (.iaload, 1) := by decide +kernel
theorem d_Mo_assemble_65 : decode c_Mo_assemble 65 = .ok (.goto 4, 3) := by decide +kernel
theorem d_Mo_assemble_68 : decode c_Mo_assemble 68 = .ok (.iconst 0, 1) := by decide +kernel
theorem d_Mo_assemble_69 : decode c_Mo_assemble 69 = .ok (.iastore, 1) := by decide +kernel
theorem d_Mo_assemble_70 : decode c_Mo_assemble 70 = .ok (.iinc 1 1, 3) := by decide +kernel
theorem d_Mo_assemble_73 : decode c_Mo_assemble 73 = .ok (.goto (-33), 3) := by decide +kernel
theorem d_Mo_assemble_76 : decode c_Mo_assemble 76 = .ok (.aload_n 0, 1) := by decide +kernel
theorem d_Mo_assemble_77 : decode c_Mo_assemble 77 = .ok (.iconst 0, 1) := by decide +kernel
