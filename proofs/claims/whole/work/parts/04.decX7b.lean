theorem dX7_train_128 : decode cX7_train 128 = .ok (.iconst 0, 1) := by decide +kernel
theorem dX7_train_129 : decode cX7_train 129 = .ok (.istore 9, 2) := by decide +kernel
theorem dX7_train_131 : decode cX7_train 131 = .ok (.iload 9, 2) := by decide +kernel
theorem dX7_train_133 : decode cX7_train 133 = .ok (.iload_n 3, 1) := by decide +kernel
theorem dX7_train_134 : decode cX7_train 134 = .ok (.iadd, 1) := by decide +kernel
theorem dX7_train_135 : decode cX7_train 135 = .ok (.aload_n 0, 1) := by decide +kernel
theorem dX7_train_136 : decode cX7_train 136 = .ok (.getfield 13, 3) := by decide +kernel
theorem dX7_train_139 : decode cX7_train 139 = .ok (.iload 8, 2) := by decide +kernel
theorem dX7_train_141 : decode cX7_train 141 = .ok (.iaload, 1) := by decide +kernel
theorem dX7_train_142 : decode cX7_train 142 = .ok (.if_icmp .gt 72, 3) := by decide +kernel
theorem dX7_train_145 : decode cX7_train 145 = .ok (.aload_n 0, 1) := by decide +kernel
theorem dX7_train_146 : decode cX7_train 146 = .ok (.iload 8, 2) := by decide +kernel
theorem dX7_train_148 : decode cX7_train 148 = .ok (.iload 9, 2) := by decide +kernel
theorem dX7_train_150 : decode cX7_train 150 = .ok (.iload_n 3, 1) := by decide +kernel
theorem dX7_train_151 : decode cX7_train 151 = .ok (.invokevirtual 78, 3) := by decide +kernel
theorem dX7_train_154 : decode cX7_train 154 = .ok (.ifCond .eq 54, 3) := by decide +kernel
theorem dX7_train_157 : decode cX7_train 157 = .ok (.iload_n 3, 1) := by decide +kernel
theorem dX7_train_158 : decode cX7_train 158 = .ok (.iconst 2, 1) := by decide +kernel
theorem dX7_train_159 : decode cX7_train 159 = .ok (.isub, 1) := by decide +kernel
theorem dX7_train_160 : decode cX7_train 160 = .ok (.aload_n 0, 1) := by decide +kernel
theorem dX7_train_161 : decode cX7_train 161 = .ok (.bipush 40, 2) := by decide +kernel
theorem dX7_train_163 : decode cX7_train 163 = .ok (.iload 8, 2) := by decide +kernel
theorem dX7_train_165 : decode cX7_train 165 = .ok (.imul, 1) := by decide +kernel
theorem dX7_train_166 : decode cX7_train 166 = .ok (.iload 9, 2) := by decide +kernel
theorem dX7_train_168 : decode cX7_train 168 = .ok (.iadd, 1) := by decide +kernel
theorem dX7_train_169 : decode cX7_train 169 = .ok (.iload_n 3, 1) := by decide +kernel
theorem dX7_train_170 : decode cX7_train 170 = .ok (.iconst 0, 1) := by decide +kernel
theorem dX7_train_171 : decode cX7_train 171 = .ok (.invokevirtual 92, 3) := by decide +kernel
theorem dX7_train_174 : decode cX7_train 174 = .ok (.imul, 1) := by decide +kernel
theorem dX7_train_175 : decode cX7_train 175 = .ok (.iload_n 3, 1) := by decide +kernel
theorem dX7_train_176 : decode cX7_train 176 = .ok (.isub, 1) := by decide +kernel
theorem dX7_train_177 : decode cX7_train 177 = .ok (.iconst 1, 1) := by decide +kernel
theorem dX7_train_178 : decode cX7_train 178 = .ok (.isub, 1) := by decide +kernel
theorem dX7_train_179 : decode cX7_train 179 = .ok (.istore 10, 2) := by decide +kernel
theorem dX7_train_181 : decode cX7_train 181 = .ok (.iload 6, 2) := by decide +kernel
theorem dX7_train_183 : decode cX7_train 183 = .ok (.iconst (-1), 1) := by decide +kernel
theorem dX7_train_184 : decode cX7_train 184 = .ok (.if_icmp .eq 10, 3) := by decide +kernel
theorem dX7_train_187 : decode cX7_train 187 = .ok (.iload 10, 2) := by decide +kernel
theorem dX7_train_189 : decode cX7_train 189 = .ok (.iload 7, 2) := by decide +kernel
theorem dX7_train_191 : decode cX7_train 191 = .ok (.if_icmp .le 17, 3) := by decide +kernel
theorem dX7_train_194 : decode cX7_train 194 = .ok (.bipush 40, 2) := by decide +kernel
theorem dX7_train_196 : decode cX7_train 196 = .ok (.iload 8, 2) := by decide +kernel
theorem dX7_train_198 : decode cX7_train 198 = .ok (.imul, 1) := by decide +kernel
theorem dX7_train_199 : decode cX7_train 199 = .ok (.iload 9, 2) := by decide +kernel
theorem dX7_train_201 : decode cX7_train 201 = .ok (.iadd, 1) := by decide +kernel
theorem dX7_train_202 : decode cX7_train 202 = .ok (.istore 6, 2) := by decide +kernel
theorem dX7_train_204 : decode cX7_train 204 = .ok (.iload 10, 2) := by decide +kernel
theorem dX7_train_206 : decode cX7_train 206 = .ok (.istore 7, 2) := by decide +kernel
theorem dX7_train_208 : decode cX7_train 208 = .ok (.iinc 9 1, 3) := by decide +kernel
theorem dX7_train_211 : decode cX7_train 211 = .ok (.goto (-80), 3) := by decide +kernel
theorem dX7_train_214 : decode cX7_train 214 = .ok (.iinc 8 1, 3) := by decide +kernel
theorem dX7_train_217 : decode cX7_train 217 = .ok (.goto (-98), 3) := by decide +kernel
theorem dX7_train_220 : decode cX7_train 220 = .ok (.iload 6, 2) := by decide +kernel
theorem dX7_train_222 : decode cX7_train 222 = .ok (.iconst (-1), 1) := by decide +kernel
theorem dX7_train_223 : decode cX7_train 223 = .ok (.if_icmp .eq 25, 3) := by decide +kernel
theorem dX7_train_226 : decode cX7_train 226 = .ok (.iload 7, 2) := by decide +kernel
theorem dX7_train_228 : decode cX7_train 228 = .ok (.ifCond .le 20, 3) := by decide +kernel
theorem dX7_train_231 : decode cX7_train 231 = .ok (.iload_n 3, 1) := by decide +kernel
theorem dX7_train_232 : decode cX7_train 232 = .ok (.aload_n 0, 1) := by decide +kernel
theorem dX7_train_233 : decode cX7_train 233 = .ok (.getfield 89, 3) := by decide +kernel
theorem dX7_train_236 : decode cX7_train 236 = .ok (.iconst 1, 1) := by decide +kernel
theorem dX7_train_237 : decode cX7_train 237 = .ok (.iadd, 1) := by decide +kernel
theorem dX7_train_238 : decode cX7_train 238 = .ok (.imul, 1) := by decide +kernel
theorem dX7_train_239 : decode cX7_train 239 = .ok (.iload 4, 2) := by decide +kernel
theorem dX7_train_241 : decode cX7_train 241 = .ok (.if_icmp .gt 7, 3) := by decide +kernel
theorem dX7_train_244 : decode cX7_train 244 = .ok (.iconst 1, 1) := by decide +kernel
theorem dX7_train_245 : decode cX7_train 245 = .ok (.goto 4, 3) := by decide +kernel
theorem dX7_train_248 : decode cX7_train 248 = .ok (.iconst 0, 1) := by decide +kernel
theorem dX7_train_249 : decode cX7_train 249 = .ok (.istore 5, 2) := by decide +kernel
theorem dX7_train_251 : decode cX7_train 251 = .ok (.iload 5, 2) := by decide +kernel
theorem dX7_train_253 : decode cX7_train 253 = .ok (.ifCond .eq 62, 3) := by decide +kernel
theorem dX7_train_256 : decode cX7_train 256 = .ok (.iconst 0, 1) := by decide +kernel
theorem dX7_train_257 : decode cX7_train 257 = .ok (.istore 8, 2) := by decide +kernel
theorem dX7_train_259 : decode cX7_train 259 = .ok (.iload 8, 2) := by decide +kernel
theorem dX7_train_261 : decode cX7_train 261 = .ok (.iload_n 3, 1) := by decide +kernel
theorem dX7_train_262 : decode cX7_train 262 = .ok (.if_icmp .ge 33, 3) := by decide +kernel
theorem dX7_train_265 : decode cX7_train 265 = .ok (.aload_n 0, 1) := by decide +kernel
theorem dX7_train_266 : decode cX7_train 266 = .ok (.getfield 38, 3) := by decide +kernel
theorem dX7_train_269 : decode cX7_train 269 = .ok (.iload_n 3, 1) := by decide +kernel
theorem dX7_train_270 : decode cX7_train 270 = .ok (.aload_n 0, 1) := by decide +kernel
theorem dX7_train_271 : decode cX7_train 271 = .ok (.getfield 89, 3) := by decide +kernel
theorem dX7_train_274 : decode cX7_train 274 = .ok (.imul, 1) := by decide +kernel
theorem dX7_train_275 : decode cX7_train 275 = .ok (.iload 8, 2) := by decide +kernel
theorem dX7_train_277 : decode cX7_train 277 = .ok (.iadd, 1) := by decide +kernel
theorem dX7_train_278 : decode cX7_train 278 = .ok (.aload_n 0, 1) := by decide +kernel
theorem dX7_train_279 : decode cX7_train 279 = .ok (.getfield 16, 3) := by decide +kernel
theorem dX7_train_282 : decode cX7_train 282 = .ok (.iload 6, 2) := by decide +kernel
theorem dX7_train_284 : decode cX7_train 284 = .ok (.iload 8, 2) := by decide +kernel
theorem dX7_train_286 : decode cX7_train 286 = .ok (.iadd, 1) := by decide +kernel
theorem dX7_train_287 : decode cX7_train 287 = .ok (.iaload, 1) := by decide +kernel
theorem dX7_train_288 : decode cX7_train 288 = .ok (.iastore, 1) := by decide +kernel
theorem dX7_train_289 : decode cX7_train 289 = .ok (.iinc 8 1, 3) := by decide +kernel
theorem dX7_train_292 : decode cX7_train 292 = .ok (.goto (-33), 3) := by decide +kernel
theorem dX7_train_295 : decode cX7_train 295 = .ok (.aload_n 0, 1) := by decide +kernel
theorem dX7_train_296 : decode cX7_train 296 = .ok (.dup, 1) := by decide +kernel
theorem dX7_train_297 : decode cX7_train 297 = .ok (.getfield 89, 3) := by decide +kernel
theorem dX7_train_300 : decode cX7_train 300 = .ok (.iconst 1, 1) := by decide +kernel
theorem dX7_train_301 : decode cX7_train 301 = .ok (.iadd, 1) := by decide +kernel
theorem dX7_train_302 : decode cX7_train 302 = .ok (.putfield 89, 3) := by decide +kernel
theorem dX7_train_305 : decode cX7_train 305 = .ok (.aload_n 0, 1) := by decide +kernel
theorem dX7_train_306 : decode cX7_train 306 = .ok (.iload 6, 2) := by decide +kernel
theorem dX7_train_308 : decode cX7_train 308 = .ok (.iload_n 3, 1) := by decide +kernel
theorem dX7_train_309 : decode cX7_train 309 = .ok (.iconst 1, 1) := by decide +kernel
theorem dX7_train_310 : decode cX7_train 310 = .ok (.invokevirtual 92, 3) := by decide +kernel
theorem dX7_train_313 : decode cX7_train 313 = .ok (.istore 8, 2) := by decide +kernel
theorem dX7_train_315 : decode cX7_train 315 = .ok (.goto (-210), 3) := by decide +kernel
theorem dX7_train_318 : decode cX7_train 318 = .ok (.aload_n 0, 1) := by decide +kernel
theorem dX7_train_319 : decode cX7_train 319 = .ok (.getfield 19, 3) := by decide +kernel
theorem dX7_train_322 : decode cX7_train 322 = .ok (.iload_n 1, 1) := by decide +kernel
theorem dX7_train_323 : decode cX7_train 323 = .ok (.iload_n 2, 1) := by decide +kernel
theorem dX7_train_324 : decode cX7_train 324 = .ok (.iastore, 1) := by decide +kernel
theorem dX7_train_325 : decode cX7_train 325 = .ok (.aload_n 0, 1) := by decide +kernel
theorem dX7_train_326 : decode cX7_train 326 = .ok (.getfield 22, 3) := by decide +kernel
theorem dX7_train_329 : decode cX7_train 329 = .ok (.iload_n 1, 1) := by decide +kernel
theorem dX7_train_330 : decode cX7_train 330 = .ok (.aload_n 0, 1) := by decide +kernel
theorem dX7_train_331 : decode cX7_train 331 = .ok (.getfield 89, 3) := by decide +kernel
theorem dX7_train_334 : decode cX7_train 334 = .ok (.iastore, 1) := by decide +kernel
theorem dX7_train_335 : decode cX7_train 335 = .ok (.aload_n 0, 1) := by decide +kernel
theorem dX7_train_336 : decode cX7_train 336 = .ok (.getfield 28, 3) := by decide +kernel
theorem dX7_train_339 : decode cX7_train 339 = .ok (.iload_n 1, 1) := by decide +kernel
theorem dX7_train_340 : decode cX7_train 340 = .ok (.iload_n 3, 1) := by decide +kernel
theorem dX7_train_341 : decode cX7_train 341 = .ok (.aload_n 0, 1) := by decide +kernel
theorem dX7_train_342 : decode cX7_train 342 = .ok (.getfield 89, 3) := by decide +kernel
theorem dX7_train_345 : decode cX7_train 345 = .ok (.imul, 1) := by decide +kernel
theorem dX7_train_346 : decode cX7_train 346 = .ok (.iastore, 1) := by decide +kernel
theorem dX7_train_347 : decode cX7_train 347 = .ok (.iconst 0, 1) := by decide +kernel
theorem dX7_train_348 : decode cX7_train 348 = .ok (.istore 6, 2) := by decide +kernel
theorem dX7_train_350 : decode cX7_train 350 = .ok (.iload 6, 2) := by decide +kernel
theorem dX7_train_352 : decode cX7_train 352 = .ok (.aload_n 0, 1) := by decide +kernel
theorem dX7_train_353 : decode cX7_train 353 = .ok (.getfield 89, 3) := by decide +kernel
theorem dX7_train_356 : decode cX7_train 356 = .ok (.if_icmp .ge 73, 3) := by decide +kernel
theorem dX7_train_359 : decode cX7_train 359 = .ok (.aload_n 0, 1) := by decide +kernel
theorem dX7_train_360 : decode cX7_train 360 = .ok (.getfield 25, 3) := by decide +kernel
theorem dX7_train_363 : decode cX7_train 363 = .ok (.bipush 80, 2) := by decide +kernel
theorem dX7_train_365 : decode cX7_train 365 = .ok (.iload_n 1, 1) := by decide +kernel
theorem dX7_train_366 : decode cX7_train 366 = .ok (.imul, 1) := by decide +kernel
theorem dX7_train_367 : decode cX7_train 367 = .ok (.iload 6, 2) := by decide +kernel
theorem dX7_train_369 : decode cX7_train 369 = .ok (.iadd, 1) := by decide +kernel
theorem dX7_train_370 : decode cX7_train 370 = .ok (.iload_n 3, 1) := by decide +kernel
theorem dX7_train_371 : decode cX7_train 371 = .ok (.iastore, 1) := by decide +kernel
theorem dX7_train_372 : decode cX7_train 372 = .ok (.iconst 0, 1) := by decide +kernel
theorem dX7_train_373 : decode cX7_train 373 = .ok (.istore 7, 2) := by decide +kernel
theorem dX7_train_375 : decode cX7_train 375 = .ok (.iload 7, 2) := by decide +kernel
theorem dX7_train_377 : decode cX7_train 377 = .ok (.iload_n 3, 1) := by decide +kernel
theorem dX7_train_378 : decode cX7_train 378 = .ok (.if_icmp .ge 45, 3) := by decide +kernel
theorem dX7_train_381 : decode cX7_train 381 = .ok (.aload_n 0, 1) := by decide +kernel
theorem dX7_train_382 : decode cX7_train 382 = .ok (.getfield 31, 3) := by decide +kernel
theorem dX7_train_385 : decode cX7_train 385 = .ok (.bipush 80, 2) := by decide +kernel
theorem dX7_train_387 : decode cX7_train 387 = .ok (.iload_n 1, 1) := by decide +kernel
theorem dX7_train_388 : decode cX7_train 388 = .ok (.imul, 1) := by decide +kernel
theorem dX7_train_389 : decode cX7_train 389 = .ok (.iload_n 3, 1) := by decide +kernel
theorem dX7_train_390 : decode cX7_train 390 = .ok (.iload 6, 2) := by decide +kernel
theorem dX7_train_392 : decode cX7_train 392 = .ok (.imul, 1) := by decide +kernel
theorem dX7_train_393 : decode cX7_train 393 = .ok (.iadd, 1) := by decide +kernel
theorem dX7_train_394 : decode cX7_train 394 = .ok (.iload 7, 2) := by decide +kernel
theorem dX7_train_396 : decode cX7_train 396 = .ok (.iadd, 1) := by decide +kernel
theorem dX7_train_397 : decode cX7_train 397 = .ok (.aload_n 0, 1) := by decide +kernel
theorem dX7_train_398 : decode cX7_train 398 = .ok (.getfield 38, 3) := by decide +kernel
theorem dX7_train_401 : decode cX7_train 401 = .ok (.iload_n 3, 1) := by decide +kernel
theorem dX7_train_402 : decode cX7_train 402 = .ok (.aload_n 0, 1) := by decide +kernel
theorem dX7_train_403 : decode cX7_train 403 = .ok (.getfield 89, 3) := by decide +kernel
theorem dX7_train_406 : decode cX7_train 406 = .ok (.iconst 1, 1) := by decide +kernel
theorem dX7_train_407 : decode cX7_train 407 = .ok (.isub, 1) := by decide +kernel
theorem dX7_train_408 : decode cX7_train 408 = .ok (.iload 6, 2) := by decide +kernel
theorem dX7_train_410 : decode cX7_train 410 = .ok (.isub, 1) := by decide +kernel
theorem dX7_train_411 : decode cX7_train 411 = .ok (.imul, 1) := by decide +kernel
theorem dX7_train_412 : decode cX7_train 412 = .ok (.iload 7, 2) := by decide +kernel
theorem dX7_train_414 : decode cX7_train 414 = .ok (.iadd, 1) := by decide +kernel
theorem dX7_train_415 : decode cX7_train 415 = .ok (.iaload, 1) := by decide +kernel
theorem dX7_train_416 : decode cX7_train 416 = .ok (.iastore, 1) := by decide +kernel
theorem dX7_train_417 : decode cX7_train 417 = .ok (.iinc 7 1, 3) := by decide +kernel
theorem dX7_train_420 : decode cX7_train 420 = .ok (.goto (-45), 3) := by decide +kernel
theorem dX7_train_423 : decode cX7_train 423 = .ok (.iinc 6 1, 3) := by decide +kernel
theorem dX7_train_426 : decode cX7_train 426 = .ok (.goto (-76), 3) := by decide +kernel
theorem dX7_train_429 : decode cX7_train 429 = .ok (.aload_n 0, 1) := by decide +kernel
theorem dX7_train_430 : decode cX7_train 430 = .ok (.getfield 89, 3) := by decide +kernel
theorem dX7_train_433 : decode cX7_train 433 = .ok (.ireturn, 1) := by decide +kernel
theorem dX7_give_0 : decode cX7_give 0 = .ok (.aload_n 0, 1) := by decide +kernel
theorem dX7_give_1 : decode cX7_give 1 = .ok (.iconst 0, 1) := by decide +kernel
theorem dX7_give_2 : decode cX7_give 2 = .ok (.putfield 60, 3) := by decide +kernel
theorem dX7_give_5 : decode cX7_give 5 = .ok (.iload_n 1, 1) := by decide +kernel
theorem dX7_give_6 : decode cX7_give 6 = .ok (.i2l, 1) := by decide +kernel
theorem dX7_give_7 : decode cX7_give 7 = .ok (.lconst 0, 1) := by decide +kernel
theorem dX7_give_8 : decode cX7_give 8 = .ok (.ldc2_w 81, 3) := by decide +kernel
theorem dX7_give_11 : decode cX7_give 11 = .ok (.invokestatic 65, 3) := by decide +kernel
theorem dX7_give_14 : decode cX7_give 14 = .ok (.ifCond .ne 6, 3) := by decide +kernel
theorem dX7_give_17 : decode cX7_give 17 = .ok (.bipush (-101), 2) := by decide +kernel
theorem dX7_give_19 : decode cX7_give 19 = .ok (.ireturn, 1) := by decide +kernel
theorem dX7_give_20 : decode cX7_give 20 = .ok (.iload_n 2, 1) := by decide +kernel
theorem dX7_give_21 : decode cX7_give 21 = .ok (.i2l, 1) := by decide +kernel
theorem dX7_give_22 : decode cX7_give 22 = .ok (.lconst 1, 1) := by decide +kernel
theorem dX7_give_23 : decode cX7_give 23 = .ok (.ldc2_w 83, 3) := by decide +kernel
theorem dX7_give_26 : decode cX7_give 26 = .ok (.invokestatic 65, 3) := by decide +kernel
theorem dX7_give_29 : decode cX7_give 29 = .ok (.ifCond .eq 12, 3) := by decide +kernel
theorem dX7_give_32 : decode cX7_give 32 = .ok (.aload_n 0, 1) := by decide +kernel
theorem dX7_give_33 : decode cX7_give 33 = .ok (.getfield 56, 3) := by decide +kernel
theorem dX7_give_36 : decode cX7_give 36 = .ok (.bipush 80, 2) := by decide +kernel
theorem dX7_give_38 : decode cX7_give 38 = .ok (.if_icmp .le 6, 3) := by decide +kernel
theorem dX7_give_41 : decode cX7_give 41 = .ok (.bipush (-102), 2) := by decide +kernel
theorem dX7_give_43 : decode cX7_give 43 = .ok (.ireturn, 1) := by decide +kernel
theorem dX7_give_44 : decode cX7_give 44 = .ok (.aload_n 0, 1) := by decide +kernel
theorem dX7_give_45 : decode cX7_give 45 = .ok (.getfield 19, 3) := by decide +kernel
theorem dX7_give_48 : decode cX7_give 48 = .ok (.iload_n 1, 1) := by decide +kernel
theorem dX7_give_49 : decode cX7_give 49 = .ok (.iload_n 2, 1) := by decide +kernel
theorem dX7_give_50 : decode cX7_give 50 = .ok (.iastore, 1) := by decide +kernel
theorem dX7_give_51 : decode cX7_give 51 = .ok (.aload_n 0, 1) := by decide +kernel
theorem dX7_give_52 : decode cX7_give 52 = .ok (.getfield 28, 3) := by decide +kernel
theorem dX7_give_55 : decode cX7_give 55 = .ok (.iload_n 1, 1) := by decide +kernel
theorem dX7_give_56 : decode cX7_give 56 = .ok (.aload_n 0, 1) := by decide +kernel
theorem dX7_give_57 : decode cX7_give 57 = .ok (.getfield 56, 3) := by decide +kernel
theorem dX7_give_60 : decode cX7_give 60 = .ok (.iastore, 1) := by decide +kernel
theorem dX7_give_61 : decode cX7_give 61 = .ok (.aload_n 0, 1) := by decide +kernel
theorem dX7_give_62 : decode cX7_give 62 = .ok (.getfield 22, 3) := by decide +kernel
theorem dX7_give_65 : decode cX7_give 65 = .ok (.iload_n 1, 1) := by decide +kernel
theorem dX7_give_66 : decode cX7_give 66 = .ok (.aload_n 0, 1) := by decide +kernel
theorem dX7_give_67 : decode cX7_give 67 = .ok (.getfield 56, 3) := by decide +kernel
theorem dX7_give_70 : decode cX7_give 70 = .ok (.ifCond .le 7, 3) := by decide +kernel
theorem dX7_give_73 : decode cX7_give 73 = .ok (.iconst 1, 1) := by decide +kernel
theorem dX7_give_74 : decode cX7_give 74 = .ok (.goto 4, 3) := by decide +kernel
theorem dX7_give_77 : decode cX7_give 77 = .ok (.iconst 0, 1) := by decide +kernel
theorem dX7_give_78 : decode cX7_give 78 = .ok (.iastore, 1) := by decide +kernel
theorem dX7_give_79 : decode cX7_give 79 = .ok (.aload_n 0, 1) := by decide +kernel
theorem dX7_give_80 : decode cX7_give 80 = .ok (.getfield 25, 3) := by decide +kernel
theorem dX7_give_83 : decode cX7_give 83 = .ok (.bipush 80, 2) := by decide +kernel
theorem dX7_give_85 : decode cX7_give 85 = .ok (.iload_n 1, 1) := by decide +kernel
theorem dX7_give_86 : decode cX7_give 86 = .ok (.imul, 1) := by decide +kernel
theorem dX7_give_87 : decode cX7_give 87 = .ok (.aload_n 0, 1) := by decide +kernel
theorem dX7_give_88 : decode cX7_give 88 = .ok (.getfield 56, 3) := by decide +kernel
theorem dX7_give_91 : decode cX7_give 91 = .ok (.iastore, 1) := by decide +kernel
theorem dX7_give_92 : decode cX7_give 92 = .ok (.iconst 0, 1) := by decide +kernel
theorem dX7_give_93 : decode cX7_give 93 = .ok (.istore_n 3, 1) := by decide +kernel
theorem dX7_give_94 : decode cX7_give 94 = .ok (.iload_n 3, 1) := by decide +kernel
theorem dX7_give_95 : decode cX7_give 95 = .ok (.aload_n 0, 1) := by decide +kernel
theorem dX7_give_96 : decode cX7_give 96 = .ok (.getfield 56, 3) := by decide +kernel
theorem dX7_give_99 : decode cX7_give 99 = .ok (.if_icmp .ge 26, 3) := by decide +kernel
theorem dX7_give_102 : decode cX7_give 102 = .ok (.aload_n 0, 1) := by decide +kernel
theorem dX7_give_103 : decode cX7_give 103 = .ok (.getfield 31, 3) := by decide +kernel
theorem dX7_give_106 : decode cX7_give 106 = .ok (.bipush 80, 2) := by decide +kernel
theorem dX7_give_108 : decode cX7_give 108 = .ok (.iload_n 1, 1) := by decide +kernel
theorem dX7_give_109 : decode cX7_give 109 = .ok (.imul, 1) := by decide +kernel
theorem dX7_give_110 : decode cX7_give 110 = .ok (.iload_n 3, 1) := by decide +kernel
theorem dX7_give_111 : decode cX7_give 111 = .ok (.iadd, 1) := by decide +kernel
theorem dX7_give_112 : decode cX7_give 112 = .ok (.aload_n 0, 1) := by decide +kernel
theorem dX7_give_113 : decode cX7_give 113 = .ok (.getfield 7, 3) := by decide +kernel
theorem dX7_give_116 : decode cX7_give 116 = .ok (.iload_n 3, 1) := by decide +kernel
theorem dX7_give_117 : decode cX7_give 117 = .ok (.iaload, 1) := by decide +kernel
theorem dX7_give_118 : decode cX7_give 118 = .ok (.iastore, 1) := by decide +kernel
theorem dX7_give_119 : decode cX7_give 119 = .ok (.iinc 3 1, 3) := by decide +kernel
theorem dX7_give_122 : decode cX7_give 122 = .ok (.goto (-28), 3) := by decide +kernel
theorem dX7_give_125 : decode cX7_give 125 = .ok (.aload_n 0, 1) := by decide +kernel
theorem dX7_give_126 : decode cX7_give 126 = .ok (.getfield 56, 3) := by decide +kernel
theorem dX7_give_129 : decode cX7_give 129 = .ok (.istore_n 3, 1) := by decide +kernel
theorem dX7_give_130 : decode cX7_give 130 = .ok (.aload_n 0, 1) := by decide +kernel
theorem dX7_give_131 : decode cX7_give 131 = .ok (.iconst 0, 1) := by decide +kernel
theorem dX7_give_132 : decode cX7_give 132 = .ok (.putfield 56, 3) := by decide +kernel
theorem dX7_give_135 : decode cX7_give 135 = .ok (.iload_n 3, 1) := by decide +kernel
theorem dX7_give_136 : decode cX7_give 136 = .ok (.ireturn, 1) := by decide +kernel
theorem dX7_isThere_0 : decode cX7_isThere 0 = .ok (.iload_n 1, 1) := by decide +kernel
theorem dX7_isThere_1 : decode cX7_isThere 1 = .ok (.i2l, 1) := by decide +kernel
theorem dX7_isThere_2 : decode cX7_isThere 2 = .ok (.lconst 0, 1) := by decide +kernel
theorem dX7_isThere_3 : decode cX7_isThere 3 = .ok (.ldc2_w 81, 3) := by decide +kernel
theorem dX7_isThere_6 : decode cX7_isThere 6 = .ok (.invokestatic 65, 3) := by decide +kernel
theorem dX7_isThere_9 : decode cX7_isThere 9 = .ok (.ifCond .eq 16, 3) := by decide +kernel
theorem dX7_isThere_12 : decode cX7_isThere 12 = .ok (.aload_n 0, 1) := by decide +kernel
theorem dX7_isThere_13 : decode cX7_isThere 13 = .ok (.getfield 19, 3) := by decide +kernel
theorem dX7_isThere_16 : decode cX7_isThere 16 = .ok (.iload_n 1, 1) := by decide +kernel
theorem dX7_isThere_17 : decode cX7_isThere 17 = .ok (.iaload, 1) := by decide +kernel
theorem dX7_isThere_18 : decode cX7_isThere 18 = .ok (.ifCond .le 7, 3) := by decide +kernel
theorem dX7_isThere_21 : decode cX7_isThere 21 = .ok (.iconst 1, 1) := by decide +kernel
theorem dX7_isThere_22 : decode cX7_isThere 22 = .ok (.goto 4, 3) := by decide +kernel
theorem dX7_isThere_25 : decode cX7_isThere 25 = .ok (.iconst 0, 1) := by decide +kernel
theorem dX7_isThere_26 : decode cX7_isThere 26 = .ok (.ireturn, 1) := by decide +kernel
theorem dX7_pieceAt_0 : decode cX7_pieceAt 0 = .ok (.iconst 0, 1) := by decide +kernel
theorem dX7_pieceAt_1 : decode cX7_pieceAt 1 = .ok (.istore_n 3, 1) := by decide +kernel
theorem dX7_pieceAt_2 : decode cX7_pieceAt 2 = .ok (.iconst 0, 1) := by decide +kernel
theorem dX7_pieceAt_3 : decode cX7_pieceAt 3 = .ok (.istore 4, 2) := by decide +kernel
theorem dX7_pieceAt_5 : decode cX7_pieceAt 5 = .ok (.iload 4, 2) := by decide +kernel
theorem dX7_pieceAt_7 : decode cX7_pieceAt 7 = .ok (.iload_n 2, 1) := by decide +kernel
theorem dX7_pieceAt_8 : decode cX7_pieceAt 8 = .ok (.if_icmp .ge 24, 3) := by decide +kernel
theorem dX7_pieceAt_11 : decode cX7_pieceAt 11 = .ok (.iload_n 3, 1) := by decide +kernel
theorem dX7_pieceAt_12 : decode cX7_pieceAt 12 = .ok (.aload_n 0, 1) := by decide +kernel
theorem dX7_pieceAt_13 : decode cX7_pieceAt 13 = .ok (.getfield 25, 3) := by decide +kernel
theorem dX7_pieceAt_16 : decode cX7_pieceAt 16 = .ok (.bipush 80, 2) := by decide +kernel
theorem dX7_pieceAt_18 : decode cX7_pieceAt 18 = .ok (.iload_n 1, 1) := by decide +kernel
theorem dX7_pieceAt_19 : decode cX7_pieceAt 19 = .ok (.imul, 1) := by decide +kernel
theorem dX7_pieceAt_20 : decode cX7_pieceAt 20 = .ok (.iload 4, 2) := by decide +kernel
theorem dX7_pieceAt_22 : decode cX7_pieceAt 22 = .ok (.iadd, 1) := by decide +kernel
theorem dX7_pieceAt_23 : decode cX7_pieceAt 23 = .ok (.iaload, 1) := by decide +kernel
theorem dX7_pieceAt_24 : decode cX7_pieceAt 24 = .ok (.iadd, 1) := by decide +kernel
theorem dX7_pieceAt_25 : decode cX7_pieceAt 25 = .ok (.istore_n 3, 1) := by decide +kernel
theorem dX7_pieceAt_26 : decode cX7_pieceAt 26 = .ok (.iinc 4 1, 3) := by decide +kernel
theorem dX7_pieceAt_29 : decode cX7_pieceAt 29 = .ok (.goto (-24), 3) := by decide +kernel
theorem dX7_pieceAt_32 : decode cX7_pieceAt 32 = .ok (.iload_n 3, 1) := by decide +kernel
theorem dX7_pieceAt_33 : decode cX7_pieceAt 33 = .ok (.ireturn, 1) := by decide +kernel
theorem dX7_layAhead_0 : decode cX7_layAhead 0 = .ok (.aload_n 0, 1) := by decide +kernel
theorem dX7_layAhead_1 : decode cX7_layAhead 1 = .ok (.iconst 0, 1) := by decide +kernel
theorem dX7_layAhead_2 : decode cX7_layAhead 2 = .ok (.putfield 96, 3) := by decide +kernel
theorem dX7_layAhead_5 : decode cX7_layAhead 5 = .ok (.iload_n 1, 1) := by decide +kernel
theorem dX7_layAhead_6 : decode cX7_layAhead 6 = .ok (.iconst (-1), 1) := by decide +kernel
theorem dX7_layAhead_7 : decode cX7_layAhead 7 = .ok (.if_icmp .eq 107, 3) := by decide +kernel
theorem dX7_layAhead_10 : decode cX7_layAhead 10 = .ok (.iload_n 2, 1) := by decide +kernel
theorem dX7_layAhead_11 : decode cX7_layAhead 11 = .ok (.iconst (-1), 1) := by decide +kernel
theorem dX7_layAhead_12 : decode cX7_layAhead 12 = .ok (.if_icmp .ne 7, 3) := by decide +kernel
theorem dX7_layAhead_15 : decode cX7_layAhead 15 = .ok (.iconst 0, 1) := by decide +kernel
theorem dX7_layAhead_16 : decode cX7_layAhead 16 = .ok (.goto 9, 3) := by decide +kernel
theorem dX7_layAhead_19 : decode cX7_layAhead 19 = .ok (.aload_n 0, 1) := by decide +kernel
theorem dX7_layAhead_20 : decode cX7_layAhead 20 = .ok (.iload_n 1, 1) := by decide +kernel
theorem dX7_layAhead_21 : decode cX7_layAhead 21 = .ok (.iload_n 2, 1) := by decide +kernel
theorem dX7_layAhead_22 : decode cX7_layAhead 22 = .ok (.invokevirtual 99, 3) := by decide +kernel
theorem dX7_layAhead_25 : decode cX7_layAhead 25 = .ok (.istore_n 3, 1) := by decide +kernel
theorem dX7_layAhead_26 : decode cX7_layAhead 26 = .ok (.iload_n 2, 1) := by decide +kernel
theorem dX7_layAhead_27 : decode cX7_layAhead 27 = .ok (.iconst (-1), 1) := by decide +kernel
theorem dX7_layAhead_28 : decode cX7_layAhead 28 = .ok (.if_icmp .ne 7, 3) := by decide +kernel
theorem dX7_layAhead_31 : decode cX7_layAhead 31 = .ok (.iconst 0, 1) := by decide +kernel
theorem dX7_layAhead_32 : decode cX7_layAhead 32 = .ok (.goto 14, 3) := by decide +kernel
theorem dX7_layAhead_35 : decode cX7_layAhead 35 = .ok (.aload_n 0, 1) := by decide +kernel
theorem dX7_layAhead_36 : decode cX7_layAhead 36 = .ok (.getfield 25, 3) := by decide +kernel
theorem dX7_layAhead_39 : decode cX7_layAhead 39 = .ok (.bipush 80, 2) := by decide +kernel
theorem dX7_layAhead_41 : decode cX7_layAhead 41 = .ok (.iload_n 1, 1) := by decide +kernel
theorem dX7_layAhead_42 : decode cX7_layAhead 42 = .ok (.imul, 1) := by decide +kernel
theorem dX7_layAhead_43 : decode cX7_layAhead 43 = .ok (.iload_n 2, 1) := by decide +kernel
theorem dX7_layAhead_44 : decode cX7_layAhead 44 = .ok (.iadd, 1) := by decide +kernel
theorem dX7_layAhead_45 : decode cX7_layAhead 45 = .ok (.iaload, 1) := by decide +kernel
theorem dX7_layAhead_46 : decode cX7_layAhead 46 = .ok (.istore 4, 2) := by decide +kernel
theorem dX7_layAhead_48 : decode cX7_layAhead 48 = .ok (.iconst 0, 1) := by decide +kernel
theorem dX7_layAhead_49 : decode cX7_layAhead 49 = .ok (.istore 5, 2) := by decide +kernel
theorem dX7_layAhead_51 : decode cX7_layAhead 51 = .ok (.iload 5, 2) := by decide +kernel
theorem dX7_layAhead_53 : decode cX7_layAhead 53 = .ok (.aload_n 0, 1) := by decide +kernel
theorem dX7_layAhead_54 : decode cX7_layAhead 54 = .ok (.getfield 28, 3) := by decide +kernel
theorem dX7_layAhead_57 : decode cX7_layAhead 57 = .ok (.iload_n 1, 1) := by decide +kernel
theorem dX7_layAhead_58 : decode cX7_layAhead 58 = .ok (.iaload, 1) := by decide +kernel
theorem dX7_layAhead_59 : decode cX7_layAhead 59 = .ok (.if_icmp .ge 55, 3) := by decide +kernel
theorem dX7_layAhead_62 : decode cX7_layAhead 62 = .ok (.iload 5, 2) := by decide +kernel
theorem dX7_layAhead_64 : decode cX7_layAhead 64 = .ok (.iload_n 3, 1) := by decide +kernel
theorem dX7_layAhead_65 : decode cX7_layAhead 65 = .ok (.if_icmp .lt 12, 3) := by decide +kernel
theorem dX7_layAhead_68 : decode cX7_layAhead 68 = .ok (.iload 5, 2) := by decide +kernel
theorem dX7_layAhead_70 : decode cX7_layAhead 70 = .ok (.iload_n 3, 1) := by decide +kernel
theorem dX7_layAhead_71 : decode cX7_layAhead 71 = .ok (.iload 4, 2) := by decide +kernel
theorem dX7_layAhead_73 : decode cX7_layAhead 73 = .ok (.iadd, 1) := by decide +kernel
theorem dX7_layAhead_74 : decode cX7_layAhead 74 = .ok (.if_icmp .lt 34, 3) := by decide +kernel
theorem dX7_layAhead_77 : decode cX7_layAhead 77 = .ok (.aload_n 0, 1) := by decide +kernel
theorem dX7_layAhead_78 : decode cX7_layAhead 78 = .ok (.getfield 41, 3) := by decide +kernel
theorem dX7_layAhead_81 : decode cX7_layAhead 81 = .ok (.aload_n 0, 1) := by decide +kernel
theorem dX7_layAhead_82 : decode cX7_layAhead 82 = .ok (.getfield 96, 3) := by decide +kernel
theorem dX7_layAhead_85 : decode cX7_layAhead 85 = .ok (.aload_n 0, 1) := by decide +kernel
theorem dX7_layAhead_86 : decode cX7_layAhead 86 = .ok (.getfield 31, 3) := by decide +kernel
theorem dX7_layAhead_89 : decode cX7_layAhead 89 = .ok (.bipush 80, 2) := by decide +kernel
theorem dX7_layAhead_91 : decode cX7_layAhead 91 = .ok (.iload_n 1, 1) := by decide +kernel
theorem dX7_layAhead_92 : decode cX7_layAhead 92 = .ok (.imul, 1) := by decide +kernel
theorem dX7_layAhead_93 : decode cX7_layAhead 93 = .ok (.iload 5, 2) := by decide +kernel
theorem dX7_layAhead_95 : decode cX7_layAhead 95 = .ok (.iadd, 1) := by decide +kernel
theorem dX7_layAhead_96 : decode cX7_layAhead 96 = .ok (.iaload, 1) := by decide +kernel
theorem dX7_layAhead_97 : decode cX7_layAhead 97 = .ok (.iastore, 1) := by decide +kernel
theorem dX7_layAhead_98 : decode cX7_layAhead 98 = .ok (.aload_n 0, 1) := by decide +kernel
theorem dX7_layAhead_99 : decode cX7_layAhead 99 = .ok (.dup, 1) := by decide +kernel
theorem dX7_layAhead_100 : decode cX7_layAhead 100 = .ok (.getfield 96, 3) := by decide +kernel
theorem dX7_layAhead_103 : decode cX7_layAhead 103 = .ok (.iconst 1, 1) := by decide +kernel
theorem dX7_layAhead_104 : decode cX7_layAhead 104 = .ok (.iadd, 1) := by decide +kernel
theorem dX7_layAhead_105 : decode cX7_layAhead 105 = .ok (.putfield 96, 3) := by decide +kernel
theorem dX7_layAhead_108 : decode cX7_layAhead 108 = .ok (.iinc 5 1, 3) := by decide +kernel
theorem dX7_layAhead_111 : decode cX7_layAhead 111 = .ok (.goto (-60), 3) := by decide +kernel
theorem dX7_layAhead_114 : decode cX7_layAhead 114 = .ok (.return_, 1) := by decide +kernel
theorem dX7_laySample_0 : decode cX7_laySample 0 = .ok (.aload_n 0, 1) := by decide +kernel
theorem dX7_laySample_1 : decode cX7_laySample 1 = .ok (.aload_n 0, 1) := by decide +kernel
theorem dX7_laySample_2 : decode cX7_laySample 2 = .ok (.getfield 13, 3) := by decide +kernel
theorem dX7_laySample_5 : decode cX7_laySample 5 = .ok (.iload_n 1, 1) := by decide +kernel
theorem dX7_laySample_6 : decode cX7_laySample 6 = .ok (.iaload, 1) := by decide +kernel
theorem dX7_laySample_7 : decode cX7_laySample 7 = .ok (.putfield 103, 3) := by decide +kernel
theorem dX7_laySample_10 : decode cX7_laySample 10 = .ok (.iconst 0, 1) := by decide +kernel
theorem dX7_laySample_11 : decode cX7_laySample 11 = .ok (.istore_n 2, 1) := by decide +kernel
theorem dX7_laySample_12 : decode cX7_laySample 12 = .ok (.iload_n 2, 1) := by decide +kernel
theorem dX7_laySample_13 : decode cX7_laySample 13 = .ok (.aload_n 0, 1) := by decide +kernel
theorem dX7_laySample_14 : decode cX7_laySample 14 = .ok (.getfield 103, 3) := by decide +kernel
theorem dX7_laySample_17 : decode cX7_laySample 17 = .ok (.if_icmp .ge 31, 3) := by decide +kernel
theorem dX7_laySample_20 : decode cX7_laySample 20 = .ok (.aload_n 0, 1) := by decide +kernel
theorem dX7_laySample_21 : decode cX7_laySample 21 = .ok (.getfield 41, 3) := by decide +kernel
theorem dX7_laySample_24 : decode cX7_laySample 24 = .ok (.aload_n 0, 1) := by decide +kernel
theorem dX7_laySample_25 : decode cX7_laySample 25 = .ok (.getfield 96, 3) := by decide +kernel
theorem dX7_laySample_28 : decode cX7_laySample 28 = .ok (.iload_n 2, 1) := by decide +kernel
theorem dX7_laySample_29 : decode cX7_laySample 29 = .ok (.iadd, 1) := by decide +kernel
theorem dX7_laySample_30 : decode cX7_laySample 30 = .ok (.aload_n 0, 1) := by decide +kernel
theorem dX7_laySample_31 : decode cX7_laySample 31 = .ok (.getfield 16, 3) := by decide +kernel
theorem dX7_laySample_34 : decode cX7_laySample 34 = .ok (.bipush 40, 2) := by decide +kernel
theorem dX7_laySample_36 : decode cX7_laySample 36 = .ok (.iload_n 1, 1) := by decide +kernel
theorem dX7_laySample_37 : decode cX7_laySample 37 = .ok (.imul, 1) := by decide +kernel
theorem dX7_laySample_38 : decode cX7_laySample 38 = .ok (.iload_n 2, 1) := by decide +kernel
theorem dX7_laySample_39 : decode cX7_laySample 39 = .ok (.iadd, 1) := by decide +kernel
theorem dX7_laySample_40 : decode cX7_laySample 40 = .ok (.iaload, 1) := by decide +kernel
theorem dX7_laySample_41 : decode cX7_laySample 41 = .ok (.iastore, 1) := by decide +kernel
theorem dX7_laySample_42 : decode cX7_laySample 42 = .ok (.iinc 2 1, 3) := by decide +kernel
theorem dX7_laySample_45 : decode cX7_laySample 45 = .ok (.goto (-33), 3) := by decide +kernel
theorem dX7_laySample_48 : decode cX7_laySample 48 = .ok (.return_, 1) := by decide +kernel
theorem dX7_findMatches_0 : decode cX7_findMatches 0 = .ok (.iconst 0, 1) := by decide +kernel
theorem dX7_findMatches_1 : decode cX7_findMatches 1 = .ok (.istore_n 2, 1) := by decide +kernel
theorem dX7_findMatches_2 : decode cX7_findMatches 2 = .ok (.iload_n 2, 1) := by decide +kernel
theorem dX7_findMatches_3 : decode cX7_findMatches 3 = .ok (.bipush 10, 2) := by decide +kernel
theorem dX7_findMatches_5 : decode cX7_findMatches 5 = .ok (.if_icmp .ge 21, 3) := by decide +kernel
theorem dX7_findMatches_8 : decode cX7_findMatches 8 = .ok (.aload_n 0, 1) := by decide +kernel
theorem dX7_findMatches_9 : decode cX7_findMatches 9 = .ok (.getfield 47, 3) := by decide +kernel
theorem dX7_findMatches_12 : decode cX7_findMatches 12 = .ok (.bipush 10, 2) := by decide +kernel
