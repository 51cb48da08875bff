theorem dX7_wrong_67 : decode cX7_wrong 67 = .ok (.getfield 7, 3) := by decide +kernel
theorem dX7_wrong_70 : decode cX7_wrong 70 = .ok (.iconst 1, 1) := by decide +kernel
theorem dX7_wrong_71 : decode cX7_wrong 71 = .ok (.iaload, 1) := by decide +kernel
theorem dX7_wrong_72 : decode cX7_wrong 72 = .ok (.imul, 1) := by decide +kernel
theorem dX7_wrong_73 : decode cX7_wrong 73 = .ok (.aload_n 0, 1) := by decide +kernel
theorem dX7_wrong_74 : decode cX7_wrong 74 = .ok (.getfield 7, 3) := by decide +kernel
theorem dX7_wrong_77 : decode cX7_wrong 77 = .ok (.iconst 2, 1) := by decide +kernel
theorem dX7_wrong_78 : decode cX7_wrong 78 = .ok (.iaload, 1) := by decide +kernel
theorem dX7_wrong_79 : decode cX7_wrong 79 = .ok (.iadd, 1) := by decide +kernel
theorem dX7_wrong_80 : decode cX7_wrong 80 = .ok (.iload_n 2, 1) := by decide +kernel
theorem dX7_wrong_81 : decode cX7_wrong 81 = .ok (.iconst (-1), 1) := by decide +kernel
theorem dX7_wrong_82 : decode cX7_wrong 82 = .ok (.if_icmp .ne 7, 3) := by decide +kernel
theorem dX7_wrong_85 : decode cX7_wrong 85 = .ok (.iconst 0, 1) := by decide +kernel
theorem dX7_wrong_86 : decode cX7_wrong 86 = .ok (.goto 8, 3) := by decide +kernel
theorem dX7_wrong_89 : decode cX7_wrong 89 = .ok (.aload_n 0, 1) := by decide +kernel
theorem dX7_wrong_90 : decode cX7_wrong 90 = .ok (.iload_n 2, 1) := by decide +kernel
theorem dX7_wrong_91 : decode cX7_wrong 91 = .ok (.invokevirtual 135, 3) := by decide +kernel
theorem dX7_wrong_94 : decode cX7_wrong 94 = .ok (.if_icmp .eq 5, 3) := by decide +kernel
theorem dX7_wrong_97 : decode cX7_wrong 97 = .ok (.iconst 1, 1) := by decide +kernel
theorem dX7_wrong_98 : decode cX7_wrong 98 = .ok (.ireturn, 1) := by decide +kernel
theorem dX7_wrong_99 : decode cX7_wrong 99 = .ok (.aload_n 0, 1) := by decide +kernel
theorem dX7_wrong_100 : decode cX7_wrong 100 = .ok (.getfield 56, 3) := by decide +kernel
theorem dX7_wrong_103 : decode cX7_wrong 103 = .ok (.iconst 3, 1) := by decide +kernel
theorem dX7_wrong_104 : decode cX7_wrong 104 = .ok (.if_icmp .eq 15, 3) := by decide +kernel
theorem dX7_wrong_107 : decode cX7_wrong 107 = .ok (.aload_n 0, 1) := by decide +kernel
theorem dX7_wrong_108 : decode cX7_wrong 108 = .ok (.getfield 7, 3) := by decide +kernel
theorem dX7_wrong_111 : decode cX7_wrong 111 = .ok (.iconst 3, 1) := by decide +kernel
theorem dX7_wrong_112 : decode cX7_wrong 112 = .ok (.iaload, 1) := by decide +kernel
theorem dX7_wrong_113 : decode cX7_wrong 113 = .ok (.sipush 200, 3) := by decide +kernel
theorem dX7_wrong_116 : decode cX7_wrong 116 = .ok (.if_icmp .le 5, 3) := by decide +kernel
theorem dX7_wrong_119 : decode cX7_wrong 119 = .ok (.iconst 3, 1) := by decide +kernel
theorem dX7_wrong_120 : decode cX7_wrong 120 = .ok (.ireturn, 1) := by decide +kernel
theorem dX7_wrong_121 : decode cX7_wrong 121 = .ok (.aload_n 0, 1) := by decide +kernel
theorem dX7_wrong_122 : decode cX7_wrong 122 = .ok (.iload_n 2, 1) := by decide +kernel
theorem dX7_wrong_123 : decode cX7_wrong 123 = .ok (.iconst (-1), 1) := by decide +kernel
theorem dX7_wrong_124 : decode cX7_wrong 124 = .ok (.invokevirtual 110, 3) := by decide +kernel
theorem dX7_wrong_127 : decode cX7_wrong 127 = .ok (.aload_n 0, 1) := by decide +kernel
theorem dX7_wrong_128 : decode cX7_wrong 128 = .ok (.aload_n 0, 1) := by decide +kernel
theorem dX7_wrong_129 : decode cX7_wrong 129 = .ok (.getfield 7, 3) := by decide +kernel
theorem dX7_wrong_132 : decode cX7_wrong 132 = .ok (.iconst 3, 1) := by decide +kernel
theorem dX7_wrong_133 : decode cX7_wrong 133 = .ok (.iaload, 1) := by decide +kernel
theorem dX7_wrong_134 : decode cX7_wrong 134 = .ok (.putfield 103, 3) := by decide +kernel
theorem dX7_wrong_137 : decode cX7_wrong 137 = .ok (.iconst 4, 1) := by decide +kernel
theorem dX7_wrong_138 : decode cX7_wrong 138 = .ok (.istore_n 3, 1) := by decide +kernel
theorem dX7_wrong_139 : decode cX7_wrong 139 = .ok (.iconst 0, 1) := by decide +kernel
theorem dX7_wrong_140 : decode cX7_wrong 140 = .ok (.istore 4, 2) := by decide +kernel
theorem dX7_wrong_142 : decode cX7_wrong 142 = .ok (.iload 4, 2) := by decide +kernel
theorem dX7_wrong_144 : decode cX7_wrong 144 = .ok (.aload_n 0, 1) := by decide +kernel
theorem dX7_wrong_145 : decode cX7_wrong 145 = .ok (.getfield 103, 3) := by decide +kernel
theorem dX7_wrong_148 : decode cX7_wrong 148 = .ok (.if_icmp .ge 239, 3) := by decide +kernel
theorem dX7_wrong_151 : decode cX7_wrong 151 = .ok (.iload_n 3, 1) := by decide +kernel
theorem dX7_wrong_152 : decode cX7_wrong 152 = .ok (.aload_n 0, 1) := by decide +kernel
theorem dX7_wrong_153 : decode cX7_wrong 153 = .ok (.getfield 56, 3) := by decide +kernel
theorem dX7_wrong_156 : decode cX7_wrong 156 = .ok (.if_icmp .ge 231, 3) := by decide +kernel
theorem dX7_wrong_159 : decode cX7_wrong 159 = .ok (.aload_n 0, 1) := by decide +kernel
theorem dX7_wrong_160 : decode cX7_wrong 160 = .ok (.getfield 7, 3) := by decide +kernel
theorem dX7_wrong_163 : decode cX7_wrong 163 = .ok (.iload_n 3, 1) := by decide +kernel
theorem dX7_wrong_164 : decode cX7_wrong 164 = .ok (.iaload, 1) := by decide +kernel
theorem dX7_wrong_165 : decode cX7_wrong 165 = .ok (.istore 5, 2) := by decide +kernel
theorem dX7_wrong_167 : decode cX7_wrong 167 = .ok (.iload 5, 2) := by decide +kernel
theorem dX7_wrong_169 : decode cX7_wrong 169 = .ok (.bipush 32, 2) := by decide +kernel
theorem dX7_wrong_171 : decode cX7_wrong 171 = .ok (.if_icmp .ge 10, 3) := by decide +kernel
theorem dX7_wrong_174 : decode cX7_wrong 174 = .ok (.iload 5, 2) := by decide +kernel
theorem dX7_wrong_176 : decode cX7_wrong 176 = .ok (.iconst 1, 1) := by decide +kernel
theorem dX7_wrong_177 : decode cX7_wrong 177 = .ok (.iadd, 1) := by decide +kernel
theorem dX7_wrong_178 : decode cX7_wrong 178 = .ok (.goto 10, 3) := by decide +kernel
theorem dX7_wrong_181 : decode cX7_wrong 181 = .ok (.iload 5, 2) := by decide +kernel
theorem dX7_wrong_183 : decode cX7_wrong 183 = .ok (.bipush 32, 2) := by decide +kernel
theorem dX7_wrong_185 : decode cX7_wrong 185 = .ok (.idiv, 1) := by decide +kernel
theorem dX7_wrong_186 : decode cX7_wrong 186 = .ok (.iconst 2, 1) := by decide +kernel
theorem dX7_wrong_187 : decode cX7_wrong 187 = .ok (.iadd, 1) := by decide +kernel
theorem dX7_wrong_188 : decode cX7_wrong 188 = .ok (.istore 6, 2) := by decide +kernel
theorem dX7_wrong_190 : decode cX7_wrong 190 = .ok (.iload 4, 2) := by decide +kernel
theorem dX7_wrong_192 : decode cX7_wrong 192 = .ok (.iload 6, 2) := by decide +kernel
theorem dX7_wrong_194 : decode cX7_wrong 194 = .ok (.iadd, 1) := by decide +kernel
theorem dX7_wrong_195 : decode cX7_wrong 195 = .ok (.aload_n 0, 1) := by decide +kernel
theorem dX7_wrong_196 : decode cX7_wrong 196 = .ok (.getfield 103, 3) := by decide +kernel
theorem dX7_wrong_199 : decode cX7_wrong 199 = .ok (.if_icmp .le 5, 3) := by decide +kernel
theorem dX7_wrong_202 : decode cX7_wrong 202 = .ok (.iload_n 3, 1) := by decide +kernel
theorem dX7_wrong_203 : decode cX7_wrong 203 = .ok (.ireturn, 1) := by decide +kernel
theorem dX7_wrong_204 : decode cX7_wrong 204 = .ok (.iinc 3 1, 3) := by decide +kernel
theorem dX7_wrong_207 : decode cX7_wrong 207 = .ok (.iload 5, 2) := by decide +kernel
theorem dX7_wrong_209 : decode cX7_wrong 209 = .ok (.bipush 32, 2) := by decide +kernel
theorem dX7_wrong_211 : decode cX7_wrong 211 = .ok (.if_icmp .ge 67, 3) := by decide +kernel
theorem dX7_wrong_214 : decode cX7_wrong 214 = .ok (.iload_n 3, 1) := by decide +kernel
theorem dX7_wrong_215 : decode cX7_wrong 215 = .ok (.iload 6, 2) := by decide +kernel
theorem dX7_wrong_217 : decode cX7_wrong 217 = .ok (.iadd, 1) := by decide +kernel
theorem dX7_wrong_218 : decode cX7_wrong 218 = .ok (.aload_n 0, 1) := by decide +kernel
theorem dX7_wrong_219 : decode cX7_wrong 219 = .ok (.getfield 56, 3) := by decide +kernel
theorem dX7_wrong_222 : decode cX7_wrong 222 = .ok (.if_icmp .le 8, 3) := by decide +kernel
theorem dX7_wrong_225 : decode cX7_wrong 225 = .ok (.aload_n 0, 1) := by decide +kernel
theorem dX7_wrong_226 : decode cX7_wrong 226 = .ok (.getfield 56, 3) := by decide +kernel
theorem dX7_wrong_229 : decode cX7_wrong 229 = .ok (.ireturn, 1) := by decide +kernel
theorem dX7_wrong_230 : decode cX7_wrong 230 = .ok (.iconst 0, 1) := by decide +kernel
theorem dX7_wrong_231 : decode cX7_wrong 231 = .ok (.istore 7, 2) := by decide +kernel
theorem dX7_wrong_233 : decode cX7_wrong 233 = .ok (.iload 7, 2) := by decide +kernel
theorem dX7_wrong_235 : decode cX7_wrong 235 = .ok (.iload 6, 2) := by decide +kernel
theorem dX7_wrong_237 : decode cX7_wrong 237 = .ok (.if_icmp .ge 33, 3) := by decide +kernel
theorem dX7_wrong_240 : decode cX7_wrong 240 = .ok (.aload_n 0, 1) := by decide +kernel
theorem dX7_wrong_241 : decode cX7_wrong 241 = .ok (.getfield 41, 3) := by decide +kernel
theorem dX7_wrong_244 : decode cX7_wrong 244 = .ok (.aload_n 0, 1) := by decide +kernel
theorem dX7_wrong_245 : decode cX7_wrong 245 = .ok (.getfield 96, 3) := by decide +kernel
theorem dX7_wrong_248 : decode cX7_wrong 248 = .ok (.iload 4, 2) := by decide +kernel
theorem dX7_wrong_250 : decode cX7_wrong 250 = .ok (.iadd, 1) := by decide +kernel
theorem dX7_wrong_251 : decode cX7_wrong 251 = .ok (.iload 7, 2) := by decide +kernel
theorem dX7_wrong_253 : decode cX7_wrong 253 = .ok (.iadd, 1) := by decide +kernel
theorem dX7_wrong_254 : decode cX7_wrong 254 = .ok (.aload_n 0, 1) := by decide +kernel
theorem dX7_wrong_255 : decode cX7_wrong 255 = .ok (.getfield 7, 3) := by decide +kernel
theorem dX7_wrong_258 : decode cX7_wrong 258 = .ok (.iload_n 3, 1) := by decide +kernel
theorem dX7_wrong_259 : decode cX7_wrong 259 = .ok (.iload 7, 2) := by decide +kernel
theorem dX7_wrong_261 : decode cX7_wrong 261 = .ok (.iadd, 1) := by decide +kernel
theorem dX7_wrong_262 : decode cX7_wrong 262 = .ok (.iaload, 1) := by decide +kernel
theorem dX7_wrong_263 : decode cX7_wrong 263 = .ok (.iastore, 1) := by decide +kernel
theorem dX7_wrong_264 : decode cX7_wrong 264 = .ok (.iinc 7 1, 3) := by decide +kernel
theorem dX7_wrong_267 : decode cX7_wrong 267 = .ok (.goto (-34), 3) := by decide +kernel
theorem dX7_wrong_270 : decode cX7_wrong 270 = .ok (.iload_n 3, 1) := by decide +kernel
theorem dX7_wrong_271 : decode cX7_wrong 271 = .ok (.iload 6, 2) := by decide +kernel
theorem dX7_wrong_273 : decode cX7_wrong 273 = .ok (.iadd, 1) := by decide +kernel
theorem dX7_wrong_274 : decode cX7_wrong 274 = .ok (.istore_n 3, 1) := by decide +kernel
theorem dX7_wrong_275 : decode cX7_wrong 275 = .ok (.goto 102, 3) := by decide +kernel
theorem dX7_wrong_278 : decode cX7_wrong 278 = .ok (.iload_n 3, 1) := by decide +kernel
theorem dX7_wrong_279 : decode cX7_wrong 279 = .ok (.aload_n 0, 1) := by decide +kernel
theorem dX7_wrong_280 : decode cX7_wrong 280 = .ok (.getfield 56, 3) := by decide +kernel
theorem dX7_wrong_283 : decode cX7_wrong 283 = .ok (.if_icmp .ne 8, 3) := by decide +kernel
theorem dX7_wrong_286 : decode cX7_wrong 286 = .ok (.aload_n 0, 1) := by decide +kernel
theorem dX7_wrong_287 : decode cX7_wrong 287 = .ok (.getfield 56, 3) := by decide +kernel
theorem dX7_wrong_290 : decode cX7_wrong 290 = .ok (.ireturn, 1) := by decide +kernel
theorem dX7_wrong_291 : decode cX7_wrong 291 = .ok (.sipush 256, 3) := by decide +kernel
theorem dX7_wrong_294 : decode cX7_wrong 294 = .ok (.iload 5, 2) := by decide +kernel
theorem dX7_wrong_296 : decode cX7_wrong 296 = .ok (.bipush 32, 2) := by decide +kernel
theorem dX7_wrong_298 : decode cX7_wrong 298 = .ok (.irem, 1) := by decide +kernel
theorem dX7_wrong_299 : decode cX7_wrong 299 = .ok (.imul, 1) := by decide +kernel
theorem dX7_wrong_300 : decode cX7_wrong 300 = .ok (.aload_n 0, 1) := by decide +kernel
theorem dX7_wrong_301 : decode cX7_wrong 301 = .ok (.getfield 7, 3) := by decide +kernel
theorem dX7_wrong_304 : decode cX7_wrong 304 = .ok (.iload_n 3, 1) := by decide +kernel
theorem dX7_wrong_305 : decode cX7_wrong 305 = .ok (.iaload, 1) := by decide +kernel
theorem dX7_wrong_306 : decode cX7_wrong 306 = .ok (.iadd, 1) := by decide +kernel
theorem dX7_wrong_307 : decode cX7_wrong 307 = .ok (.iconst 1, 1) := by decide +kernel
theorem dX7_wrong_308 : decode cX7_wrong 308 = .ok (.iadd, 1) := by decide +kernel
theorem dX7_wrong_309 : decode cX7_wrong 309 = .ok (.istore 7, 2) := by decide +kernel
theorem dX7_wrong_311 : decode cX7_wrong 311 = .ok (.iload 7, 2) := by decide +kernel
theorem dX7_wrong_313 : decode cX7_wrong 313 = .ok (.aload_n 0, 1) := by decide +kernel
theorem dX7_wrong_314 : decode cX7_wrong 314 = .ok (.getfield 96, 3) := by decide +kernel
theorem dX7_wrong_317 : decode cX7_wrong 317 = .ok (.iload 4, 2) := by decide +kernel
theorem dX7_wrong_319 : decode cX7_wrong 319 = .ok (.iadd, 1) := by decide +kernel
theorem dX7_wrong_320 : decode cX7_wrong 320 = .ok (.if_icmp .le 5, 3) := by decide +kernel
theorem dX7_wrong_323 : decode cX7_wrong 323 = .ok (.iload_n 3, 1) := by decide +kernel
theorem dX7_wrong_324 : decode cX7_wrong 324 = .ok (.ireturn, 1) := by decide +kernel
theorem dX7_wrong_325 : decode cX7_wrong 325 = .ok (.iconst 0, 1) := by decide +kernel
theorem dX7_wrong_326 : decode cX7_wrong 326 = .ok (.istore 8, 2) := by decide +kernel
theorem dX7_wrong_328 : decode cX7_wrong 328 = .ok (.iload 8, 2) := by decide +kernel
theorem dX7_wrong_330 : decode cX7_wrong 330 = .ok (.iload 6, 2) := by decide +kernel
theorem dX7_wrong_332 : decode cX7_wrong 332 = .ok (.if_icmp .ge 42, 3) := by decide +kernel
theorem dX7_wrong_335 : decode cX7_wrong 335 = .ok (.aload_n 0, 1) := by decide +kernel
theorem dX7_wrong_336 : decode cX7_wrong 336 = .ok (.getfield 41, 3) := by decide +kernel
theorem dX7_wrong_339 : decode cX7_wrong 339 = .ok (.aload_n 0, 1) := by decide +kernel
theorem dX7_wrong_340 : decode cX7_wrong 340 = .ok (.getfield 96, 3) := by decide +kernel
theorem dX7_wrong_343 : decode cX7_wrong 343 = .ok (.iload 4, 2) := by decide +kernel
theorem dX7_wrong_345 : decode cX7_wrong 345 = .ok (.iadd, 1) := by decide +kernel
theorem dX7_wrong_346 : decode cX7_wrong 346 = .ok (.iload 8, 2) := by decide +kernel
theorem dX7_wrong_348 : decode cX7_wrong 348 = .ok (.iadd, 1) := by decide +kernel
theorem dX7_wrong_349 : decode cX7_wrong 349 = .ok (.aload_n 0, 1) := by decide +kernel
theorem dX7_wrong_350 : decode cX7_wrong 350 = .ok (.getfield 41, 3) := by decide +kernel
theorem dX7_wrong_353 : decode cX7_wrong 353 = .ok (.aload_n 0, 1) := by decide +kernel
theorem dX7_wrong_354 : decode cX7_wrong 354 = .ok (.getfield 96, 3) := by decide +kernel
theorem dX7_wrong_357 : decode cX7_wrong 357 = .ok (.iload 4, 2) := by decide +kernel
theorem dX7_wrong_359 : decode cX7_wrong 359 = .ok (.iadd, 1) := by decide +kernel
theorem dX7_wrong_360 : decode cX7_wrong 360 = .ok (.iload 8, 2) := by decide +kernel
theorem dX7_wrong_362 : decode cX7_wrong 362 = .ok (.iadd, 1) := by decide +kernel
theorem dX7_wrong_363 : decode cX7_wrong 363 = .ok (.iload 7, 2) := by decide +kernel
theorem dX7_wrong_365 : decode cX7_wrong 365 = .ok (.isub, 1) := by decide +kernel
theorem dX7_wrong_366 : decode cX7_wrong 366 = .ok (.iaload, 1) := by decide +kernel
theorem dX7_wrong_367 : decode cX7_wrong 367 = .ok (.iastore, 1) := by decide +kernel
theorem dX7_wrong_368 : decode cX7_wrong 368 = .ok (.iinc 8 1, 3) := by decide +kernel
theorem dX7_wrong_371 : decode cX7_wrong 371 = .ok (.goto (-43), 3) := by decide +kernel
theorem dX7_wrong_374 : decode cX7_wrong 374 = .ok (.iinc 3 1, 3) := by decide +kernel
theorem dX7_wrong_377 : decode cX7_wrong 377 = .ok (.iload 4, 2) := by decide +kernel
theorem dX7_wrong_379 : decode cX7_wrong 379 = .ok (.iload 6, 2) := by decide +kernel
theorem dX7_wrong_381 : decode cX7_wrong 381 = .ok (.iadd, 1) := by decide +kernel
theorem dX7_wrong_382 : decode cX7_wrong 382 = .ok (.istore 4, 2) := by decide +kernel
theorem dX7_wrong_384 : decode cX7_wrong 384 = .ok (.goto (-242), 3) := by decide +kernel
theorem dX7_wrong_387 : decode cX7_wrong 387 = .ok (.iload 4, 2) := by decide +kernel
theorem dX7_wrong_389 : decode cX7_wrong 389 = .ok (.aload_n 0, 1) := by decide +kernel
theorem dX7_wrong_390 : decode cX7_wrong 390 = .ok (.getfield 103, 3) := by decide +kernel
theorem dX7_wrong_393 : decode cX7_wrong 393 = .ok (.if_icmp .lt 11, 3) := by decide +kernel
theorem dX7_wrong_396 : decode cX7_wrong 396 = .ok (.iload_n 3, 1) := by decide +kernel
theorem dX7_wrong_397 : decode cX7_wrong 397 = .ok (.aload_n 0, 1) := by decide +kernel
theorem dX7_wrong_398 : decode cX7_wrong 398 = .ok (.getfield 56, 3) := by decide +kernel
theorem dX7_wrong_401 : decode cX7_wrong 401 = .ok (.if_icmp .ge 7, 3) := by decide +kernel
theorem dX7_wrong_404 : decode cX7_wrong 404 = .ok (.iload_n 3, 1) := by decide +kernel
theorem dX7_wrong_405 : decode cX7_wrong 405 = .ok (.goto 4, 3) := by decide +kernel
theorem dX7_wrong_408 : decode cX7_wrong 408 = .ok (.iconst (-1), 1) := by decide +kernel
theorem dX7_wrong_409 : decode cX7_wrong 409 = .ok (.ireturn, 1) := by decide +kernel
theorem dX7_open_0 : decode cX7_open 0 = .ok (.aload_n 0, 1) := by decide +kernel
theorem dX7_open_1 : decode cX7_open 1 = .ok (.iconst 0, 1) := by decide +kernel
theorem dX7_open_2 : decode cX7_open 2 = .ok (.putfield 60, 3) := by decide +kernel
theorem dX7_open_5 : decode cX7_open 5 = .ok (.aload_n 0, 1) := by decide +kernel
theorem dX7_open_6 : decode cX7_open 6 = .ok (.invokevirtual 159, 3) := by decide +kernel
theorem dX7_open_9 : decode cX7_open 9 = .ok (.istore_n 1, 1) := by decide +kernel
theorem dX7_open_10 : decode cX7_open 10 = .ok (.aload_n 0, 1) := by decide +kernel
theorem dX7_open_11 : decode cX7_open 11 = .ok (.iconst 0, 1) := by decide +kernel
theorem dX7_open_12 : decode cX7_open 12 = .ok (.putfield 56, 3) := by decide +kernel
theorem dX7_open_15 : decode cX7_open 15 = .ok (.iload_n 1, 1) := by decide +kernel
theorem dX7_open_16 : decode cX7_open 16 = .ok (.iconst (-1), 1) := by decide +kernel
theorem dX7_open_17 : decode cX7_open 17 = .ok (.if_icmp .eq 9, 3) := by decide +kernel
theorem dX7_open_20 : decode cX7_open 20 = .ok (.sipush (-200), 3) := by decide +kernel
theorem dX7_open_23 : decode cX7_open 23 = .ok (.iload_n 1, 1) := by decide +kernel
theorem dX7_open_24 : decode cX7_open 24 = .ok (.isub, 1) := by decide +kernel
theorem dX7_open_25 : decode cX7_open 25 = .ok (.ireturn, 1) := by decide +kernel
theorem dX7_open_26 : decode cX7_open 26 = .ok (.aload_n 0, 1) := by decide +kernel
theorem dX7_open_27 : decode cX7_open 27 = .ok (.aload_n 0, 1) := by decide +kernel
theorem dX7_open_28 : decode cX7_open 28 = .ok (.getfield 103, 3) := by decide +kernel
theorem dX7_open_31 : decode cX7_open 31 = .ok (.putfield 162, 3) := by decide +kernel
theorem dX7_open_34 : decode cX7_open 34 = .ok (.iconst 0, 1) := by decide +kernel
theorem dX7_open_35 : decode cX7_open 35 = .ok (.istore_n 2, 1) := by decide +kernel
theorem dX7_open_36 : decode cX7_open 36 = .ok (.iload_n 2, 1) := by decide +kernel
theorem dX7_open_37 : decode cX7_open 37 = .ok (.aload_n 0, 1) := by decide +kernel
theorem dX7_open_38 : decode cX7_open 38 = .ok (.getfield 162, 3) := by decide +kernel
theorem dX7_open_41 : decode cX7_open 41 = .ok (.if_icmp .ge 26, 3) := by decide +kernel
theorem dX7_open_44 : decode cX7_open 44 = .ok (.aload_n 0, 1) := by decide +kernel
theorem dX7_open_45 : decode cX7_open 45 = .ok (.getfield 53, 3) := by decide +kernel
theorem dX7_open_48 : decode cX7_open 48 = .ok (.iload_n 2, 1) := by decide +kernel
theorem dX7_open_49 : decode cX7_open 49 = .ok (.aload_n 0, 1) := by decide +kernel
theorem dX7_open_50 : decode cX7_open 50 = .ok (.getfield 41, 3) := by decide +kernel
theorem dX7_open_53 : decode cX7_open 53 = .ok (.aload_n 0, 1) := by decide +kernel
theorem dX7_open_54 : decode cX7_open 54 = .ok (.getfield 96, 3) := by decide +kernel
theorem dX7_open_57 : decode cX7_open 57 = .ok (.iload_n 2, 1) := by decide +kernel
theorem dX7_open_58 : decode cX7_open 58 = .ok (.iadd, 1) := by decide +kernel
theorem dX7_open_59 : decode cX7_open 59 = .ok (.iaload, 1) := by decide +kernel
theorem dX7_open_60 : decode cX7_open 60 = .ok (.iastore, 1) := by decide +kernel
theorem dX7_open_61 : decode cX7_open 61 = .ok (.iinc 2 1, 3) := by decide +kernel
theorem dX7_open_64 : decode cX7_open 64 = .ok (.goto (-28), 3) := by decide +kernel
theorem dX7_open_67 : decode cX7_open 67 = .ok (.aload_n 0, 1) := by decide +kernel
theorem dX7_open_68 : decode cX7_open 68 = .ok (.getfield 162, 3) := by decide +kernel
theorem dX7_open_71 : decode cX7_open 71 = .ok (.ireturn, 1) := by decide +kernel
theorem dX7_text_0 : decode cX7_text 0 = .ok (.aload_n 0, 1) := by decide +kernel
theorem dX7_text_1 : decode cX7_text 1 = .ok (.iload_n 1, 1) := by decide +kernel
theorem dX7_text_2 : decode cX7_text 2 = .ok (.i2l, 1) := by decide +kernel
theorem dX7_text_3 : decode cX7_text 3 = .ok (.lconst 0, 1) := by decide +kernel
theorem dX7_text_4 : decode cX7_text 4 = .ok (.aload_n 0, 1) := by decide +kernel
theorem dX7_text_5 : decode cX7_text 5 = .ok (.getfield 162, 3) := by decide +kernel
theorem dX7_text_8 : decode cX7_text 8 = .ok (.iconst 1, 1) := by decide +kernel
theorem dX7_text_9 : decode cX7_text 9 = .ok (.isub, 1) := by decide +kernel
theorem dX7_text_10 : decode cX7_text 10 = .ok (.i2l, 1) := by decide +kernel
theorem dX7_text_11 : decode cX7_text 11 = .ok (.invokestatic 65, 3) := by decide +kernel
theorem dX7_text_14 : decode cX7_text 14 = .ok (.ifCond .eq 7, 3) := by decide +kernel
theorem dX7_text_17 : decode cX7_text 17 = .ok (.iconst 0, 1) := by decide +kernel
theorem dX7_text_18 : decode cX7_text 18 = .ok (.goto 4, 3) := by decide +kernel
theorem dX7_text_21 : decode cX7_text 21 = .ok (.iconst 1, 1) := by decide +kernel
theorem dX7_text_22 : decode cX7_text 22 = .ok (.putfield 60, 3) := by decide +kernel
theorem dX7_text_25 : decode cX7_text 25 = .ok (.aload_n 0, 1) := by decide +kernel
theorem dX7_text_26 : decode cX7_text 26 = .ok (.getfield 60, 3) := by decide +kernel
theorem dX7_text_29 : decode cX7_text 29 = .ok (.ifCond .le 7, 3) := by decide +kernel
theorem dX7_text_32 : decode cX7_text 32 = .ok (.iconst 0, 1) := by decide +kernel
theorem dX7_text_33 : decode cX7_text 33 = .ok (.goto 9, 3) := by decide +kernel
theorem dX7_text_36 : decode cX7_text 36 = .ok (.aload_n 0, 1) := by decide +kernel
theorem dX7_text_37 : decode cX7_text 37 = .ok (.getfield 53, 3) := by decide +kernel
theorem dX7_text_40 : decode cX7_text 40 = .ok (.iload_n 1, 1) := by decide +kernel
theorem dX7_text_41 : decode cX7_text 41 = .ok (.iaload, 1) := by decide +kernel
theorem dX7_text_42 : decode cX7_text 42 = .ok (.ireturn, 1) := by decide +kernel
theorem dX7_size_0 : decode cX7_size 0 = .ok (.aload_n 0, 1) := by decide +kernel
theorem dX7_size_1 : decode cX7_size 1 = .ok (.iconst 0, 1) := by decide +kernel
theorem dX7_size_2 : decode cX7_size 2 = .ok (.putfield 60, 3) := by decide +kernel
theorem dX7_size_5 : decode cX7_size 5 = .ok (.iload_n 1, 1) := by decide +kernel
theorem dX7_size_6 : decode cX7_size 6 = .ok (.i2l, 1) := by decide +kernel
theorem dX7_size_7 : decode cX7_size 7 = .ok (.lconst 0, 1) := by decide +kernel
theorem dX7_size_8 : decode cX7_size 8 = .ok (.aload_n 0, 1) := by decide +kernel
theorem dX7_size_9 : decode cX7_size 9 = .ok (.getfield 71, 3) := by decide +kernel
theorem dX7_size_12 : decode cX7_size 12 = .ok (.iconst 1, 1) := by decide +kernel
theorem dX7_size_13 : decode cX7_size 13 = .ok (.isub, 1) := by decide +kernel
theorem dX7_size_14 : decode cX7_size 14 = .ok (.i2l, 1) := by decide +kernel
theorem dX7_size_15 : decode cX7_size 15 = .ok (.invokestatic 65, 3) := by decide +kernel
theorem dX7_size_18 : decode cX7_size 18 = .ok (.ifCond .eq 16, 3) := by decide +kernel
theorem dX7_size_21 : decode cX7_size 21 = .ok (.iload_n 2, 1) := by decide +kernel
theorem dX7_size_22 : decode cX7_size 22 = .ok (.iconst (-1), 1) := by decide +kernel
theorem dX7_size_23 : decode cX7_size 23 = .ok (.if_icmp .eq 14, 3) := by decide +kernel
theorem dX7_size_26 : decode cX7_size 26 = .ok (.aload_n 0, 1) := by decide +kernel
theorem dX7_size_27 : decode cX7_size 27 = .ok (.iload_n 2, 1) := by decide +kernel
theorem dX7_size_28 : decode cX7_size 28 = .ok (.invokevirtual 125, 3) := by decide +kernel
theorem dX7_size_31 : decode cX7_size 31 = .ok (.ifCond .ne 6, 3) := by decide +kernel
theorem dX7_size_34 : decode cX7_size 34 = .ok (.bipush (-101), 2) := by decide +kernel
theorem dX7_size_36 : decode cX7_size 36 = .ok (.ireturn, 1) := by decide +kernel
theorem dX7_size_37 : decode cX7_size 37 = .ok (.aload_n 0, 1) := by decide +kernel
theorem dX7_size_38 : decode cX7_size 38 = .ok (.iload_n 1, 1) := by decide +kernel
theorem dX7_size_39 : decode cX7_size 39 = .ok (.iload_n 2, 1) := by decide +kernel
theorem dX7_size_40 : decode cX7_size 40 = .ok (.iconst (-1), 1) := by decide +kernel
theorem dX7_size_41 : decode cX7_size 41 = .ok (.invokevirtual 121, 3) := by decide +kernel
theorem dX7_size_44 : decode cX7_size 44 = .ok (.ireturn, 1) := by decide +kernel
theorem dX7_best_0 : decode cX7_best 0 = .ok (.aload_n 0, 1) := by decide +kernel
theorem dX7_best_1 : decode cX7_best 1 = .ok (.iconst 0, 1) := by decide +kernel
theorem dX7_best_2 : decode cX7_best 2 = .ok (.putfield 60, 3) := by decide +kernel
theorem dX7_best_5 : decode cX7_best 5 = .ok (.iload_n 1, 1) := by decide +kernel
theorem dX7_best_6 : decode cX7_best 6 = .ok (.i2l, 1) := by decide +kernel
theorem dX7_best_7 : decode cX7_best 7 = .ok (.lconst 0, 1) := by decide +kernel
theorem dX7_best_8 : decode cX7_best 8 = .ok (.aload_n 0, 1) := by decide +kernel
theorem dX7_best_9 : decode cX7_best 9 = .ok (.getfield 71, 3) := by decide +kernel
theorem dX7_best_12 : decode cX7_best 12 = .ok (.iconst 1, 1) := by decide +kernel
theorem dX7_best_13 : decode cX7_best 13 = .ok (.isub, 1) := by decide +kernel
theorem dX7_best_14 : decode cX7_best 14 = .ok (.i2l, 1) := by decide +kernel
theorem dX7_best_15 : decode cX7_best 15 = .ok (.invokestatic 65, 3) := by decide +kernel
theorem dX7_best_18 : decode cX7_best 18 = .ok (.ifCond .ne 6, 3) := by decide +kernel
theorem dX7_best_21 : decode cX7_best 21 = .ok (.bipush (-101), 2) := by decide +kernel
theorem dX7_best_23 : decode cX7_best 23 = .ok (.ireturn, 1) := by decide +kernel
theorem dX7_best_24 : decode cX7_best 24 = .ok (.iconst (-1), 1) := by decide +kernel
theorem dX7_best_25 : decode cX7_best 25 = .ok (.istore_n 2, 1) := by decide +kernel
theorem dX7_best_26 : decode cX7_best 26 = .ok (.aload_n 0, 1) := by decide +kernel
theorem dX7_best_27 : decode cX7_best 27 = .ok (.iload_n 1, 1) := by decide +kernel
theorem dX7_best_28 : decode cX7_best 28 = .ok (.iconst (-1), 1) := by decide +kernel
theorem dX7_best_29 : decode cX7_best 29 = .ok (.iconst (-1), 1) := by decide +kernel
theorem dX7_best_30 : decode cX7_best 30 = .ok (.invokevirtual 121, 3) := by decide +kernel
theorem dX7_best_33 : decode cX7_best 33 = .ok (.istore_n 3, 1) := by decide +kernel
theorem dX7_best_34 : decode cX7_best 34 = .ok (.iconst 0, 1) := by decide +kernel
theorem dX7_best_35 : decode cX7_best 35 = .ok (.istore 4, 2) := by decide +kernel
theorem dX7_best_37 : decode cX7_best 37 = .ok (.iload 4, 2) := by decide +kernel
theorem dX7_best_39 : decode cX7_best 39 = .ok (.bipush 6, 2) := by decide +kernel
theorem dX7_best_41 : decode cX7_best 41 = .ok (.if_icmp .ge 58, 3) := by decide +kernel
theorem dX7_best_44 : decode cX7_best 44 = .ok (.aload_n 0, 1) := by decide +kernel
theorem dX7_best_45 : decode cX7_best 45 = .ok (.iload 4, 2) := by decide +kernel
theorem dX7_best_47 : decode cX7_best 47 = .ok (.invokevirtual 125, 3) := by decide +kernel
theorem dX7_best_50 : decode cX7_best 50 = .ok (.ifCond .eq 14, 3) := by decide +kernel
theorem dX7_best_53 : decode cX7_best 53 = .ok (.aload_n 0, 1) := by decide +kernel
theorem dX7_best_54 : decode cX7_best 54 = .ok (.iload_n 1, 1) := by decide +kernel
theorem dX7_best_55 : decode cX7_best 55 = .ok (.iload 4, 2) := by decide +kernel
theorem dX7_best_57 : decode cX7_best 57 = .ok (.iconst (-1), 1) := by decide +kernel
theorem dX7_best_58 : decode cX7_best 58 = .ok (.invokevirtual 121, 3) := by decide +kernel
theorem dX7_best_61 : decode cX7_best 61 = .ok (.goto 4, 3) := by decide +kernel
theorem dX7_best_64 : decode cX7_best 64 = .ok (.iload_n 3, 1) := by decide +kernel
theorem dX7_best_65 : decode cX7_best 65 = .ok (.istore 5, 2) := by decide +kernel
theorem dX7_best_67 : decode cX7_best 67 = .ok (.iload 5, 2) := by decide +kernel
theorem dX7_best_69 : decode cX7_best 69 = .ok (.iload_n 3, 1) := by decide +kernel
theorem dX7_best_70 : decode cX7_best 70 = .ok (.if_icmp .ge 8, 3) := by decide +kernel
theorem dX7_best_73 : decode cX7_best 73 = .ok (.iload 4, 2) := by decide +kernel
theorem dX7_best_75 : decode cX7_best 75 = .ok (.goto 4, 3) := by decide +kernel
theorem dX7_best_78 : decode cX7_best 78 = .ok (.iload_n 2, 1) := by decide +kernel
theorem dX7_best_79 : decode cX7_best 79 = .ok (.istore_n 2, 1) := by decide +kernel
theorem dX7_best_80 : decode cX7_best 80 = .ok (.iload 5, 2) := by decide +kernel
theorem dX7_best_82 : decode cX7_best 82 = .ok (.iload_n 3, 1) := by decide +kernel
theorem dX7_best_83 : decode cX7_best 83 = .ok (.if_icmp .ge 8, 3) := by decide +kernel
theorem dX7_best_86 : decode cX7_best 86 = .ok (.iload 5, 2) := by decide +kernel
theorem dX7_best_88 : decode cX7_best 88 = .ok (.goto 4, 3) := by decide +kernel
theorem dX7_best_91 : decode cX7_best 91 = .ok (.iload_n 3, 1) := by decide +kernel
theorem dX7_best_92 : decode cX7_best 92 = .ok (.istore_n 3, 1) := by decide +kernel
theorem dX7_best_93 : decode cX7_best 93 = .ok (.iinc 4 1, 3) := by decide +kernel
theorem dX7_best_96 : decode cX7_best 96 = .ok (.goto (-59), 3) := by decide +kernel
theorem dX7_best_99 : decode cX7_best 99 = .ok (.iload_n 2, 1) := by decide +kernel
theorem dX7_best_100 : decode cX7_best 100 = .ok (.ireturn, 1) := by decide +kernel
theorem dX7_share_0 : decode cX7_share 0 = .ok (.aload_n 0, 1) := by decide +kernel
theorem dX7_share_1 : decode cX7_share 1 = .ok (.iconst 0, 1) := by decide +kernel
theorem dX7_share_2 : decode cX7_share 2 = .ok (.putfield 60, 3) := by decide +kernel
theorem dX7_share_5 : decode cX7_share 5 = .ok (.aload_n 0, 1) := by decide +kernel
theorem dX7_share_6 : decode cX7_share 6 = .ok (.iload_n 1, 1) := by decide +kernel
theorem dX7_share_7 : decode cX7_share 7 = .ok (.invokevirtual 125, 3) := by decide +kernel
theorem dX7_share_10 : decode cX7_share 10 = .ok (.ifCond .ne 6, 3) := by decide +kernel
theorem dX7_share_13 : decode cX7_share 13 = .ok (.bipush (-101), 2) := by decide +kernel
theorem dX7_share_15 : decode cX7_share 15 = .ok (.ireturn, 1) := by decide +kernel
theorem dX7_share_16 : decode cX7_share 16 = .ok (.aload_n 0, 1) := by decide +kernel
theorem dX7_share_17 : decode cX7_share 17 = .ok (.aload_n 0, 1) := by decide +kernel
theorem dX7_share_18 : decode cX7_share 18 = .ok (.getfield 71, 3) := by decide +kernel
theorem dX7_share_21 : decode cX7_share 21 = .ok (.ifCond .ne 7, 3) := by decide +kernel
theorem dX7_share_24 : decode cX7_share 24 = .ok (.iconst 1, 1) := by decide +kernel
theorem dX7_share_25 : decode cX7_share 25 = .ok (.goto 4, 3) := by decide +kernel
theorem dX7_share_28 : decode cX7_share 28 = .ok (.iconst 0, 1) := by decide +kernel
theorem dX7_share_29 : decode cX7_share 29 = .ok (.putfield 60, 3) := by decide +kernel
theorem dX7_share_32 : decode cX7_share 32 = .ok (.aload_n 0, 1) := by decide +kernel
theorem dX7_share_33 : decode cX7_share 33 = .ok (.getfield 60, 3) := by decide +kernel
theorem dX7_share_36 : decode cX7_share 36 = .ok (.ifCond .le 5, 3) := by decide +kernel
theorem dX7_share_39 : decode cX7_share 39 = .ok (.iconst 0, 1) := by decide +kernel
theorem dX7_share_40 : decode cX7_share 40 = .ok (.ireturn, 1) := by decide +kernel
theorem dX7_share_41 : decode cX7_share 41 = .ok (.aload_n 0, 1) := by decide +kernel
theorem dX7_share_42 : decode cX7_share 42 = .ok (.iconst (-1), 1) := by decide +kernel
theorem dX7_share_43 : decode cX7_share 43 = .ok (.iconst (-1), 1) := by decide +kernel
theorem dX7_share_44 : decode cX7_share 44 = .ok (.invokevirtual 129, 3) := by decide +kernel
theorem dX7_share_47 : decode cX7_share 47 = .ok (.istore_n 2, 1) := by decide +kernel
theorem dX7_share_48 : decode cX7_share 48 = .ok (.iload_n 2, 1) := by decide +kernel
theorem dX7_share_49 : decode cX7_share 49 = .ok (.aload_n 0, 1) := by decide +kernel
theorem dX7_share_50 : decode cX7_share 50 = .ok (.iload_n 1, 1) := by decide +kernel
theorem dX7_share_51 : decode cX7_share 51 = .ok (.iconst (-1), 1) := by decide +kernel
theorem dX7_share_52 : decode cX7_share 52 = .ok (.invokevirtual 129, 3) := by decide +kernel
theorem dX7_share_55 : decode cX7_share 55 = .ok (.isub, 1) := by decide +kernel
theorem dX7_share_56 : decode cX7_share 56 = .ok (.sipush 1000, 3) := by decide +kernel
theorem dX7_share_59 : decode cX7_share 59 = .ok (.imul, 1) := by decide +kernel
theorem dX7_share_60 : decode cX7_share 60 = .ok (.iload_n 2, 1) := by decide +kernel
theorem dX7_share_61 : decode cX7_share 61 = .ok (.idiv, 1) := by decide +kernel
theorem dX7_share_62 : decode cX7_share 62 = .ok (.ireturn, 1) := by decide +kernel
theorem dX7_about_0 : decode cX7_about 0 = .ok (.aload_n 0, 1) := by decide +kernel
theorem dX7_about_1 : decode cX7_about 1 = .ok (.iconst 0, 1) := by decide +kernel
theorem dX7_about_2 : decode cX7_about 2 = .ok (.putfield 60, 3) := by decide +kernel
theorem dX7_about_5 : decode cX7_about 5 = .ok (.iconst 0, 1) := by decide +kernel
theorem dX7_about_6 : decode cX7_about 6 = .ok (.istore_n 2, 1) := by decide +kernel
theorem dX7_about_7 : decode cX7_about 7 = .ok (.iconst 0, 1) := by decide +kernel
theorem dX7_about_8 : decode cX7_about 8 = .ok (.istore_n 3, 1) := by decide +kernel
theorem dX7_about_9 : decode cX7_about 9 = .ok (.iload_n 3, 1) := by decide +kernel
theorem dX7_about_10 : decode cX7_about 10 = .ok (.bipush 6, 2) := by decide +kernel
theorem dX7_about_12 : decode cX7_about 12 = .ok (.if_icmp .ge 26, 3) := by decide +kernel
theorem dX7_about_15 : decode cX7_about 15 = .ok (.iload_n 2, 1) := by decide +kernel
theorem dX7_about_16 : decode cX7_about 16 = .ok (.aload_n 0, 1) := by decide +kernel
theorem dX7_about_17 : decode cX7_about 17 = .ok (.getfield 19, 3) := by decide +kernel
theorem dX7_about_20 : decode cX7_about 20 = .ok (.iload_n 3, 1) := by decide +kernel
theorem dX7_about_21 : decode cX7_about 21 = .ok (.iaload, 1) := by decide +kernel
theorem dX7_about_22 : decode cX7_about 22 = .ok (.ifCond .le 7, 3) := by decide +kernel
