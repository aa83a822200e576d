theorem dX6_isSame_141 : decode cX6_isSame 141 = .ok (.newarray .int, 2) := by decide +kernel
theorem dX6_isSame_143 : decode cX6_isSame 143 = .ok (.dup, 1) := by decide +kernel
theorem dX6_isSame_144 : decode cX6_isSame 144 = .ok (.iconst 0, 1) := by decide +kernel
theorem dX6_isSame_145 : decode cX6_isSame 145 = .ok (.aload 5, 2) := by decide +kernel
theorem dX6_isSame_147 : decode cX6_isSame 147 = .ok (.getfield 36, 3) := by decide +kernel
theorem dX6_isSame_150 : decode cX6_isSame 150 = .ok (.iastore, 1) := by decide +kernel
theorem dX6_isSame_151 : decode cX6_isSame 151 = .ok (.dup, 1) := by decide +kernel
theorem dX6_isSame_152 : decode cX6_isSame 152 = .ok (.iconst 1, 1) := by decide +kernel
theorem dX6_isSame_153 : decode cX6_isSame 153 = .ok (.aload 5, 2) := by decide +kernel
theorem dX6_isSame_155 : decode cX6_isSame 155 = .ok (.getfield 39, 3) := by decide +kernel
theorem dX6_isSame_158 : decode cX6_isSame 158 = .ok (.iastore, 1) := by decide +kernel
theorem dX6_isSame_159 : decode cX6_isSame 159 = .ok (.dup, 1) := by decide +kernel
theorem dX6_isSame_160 : decode cX6_isSame 160 = .ok (.iconst 2, 1) := by decide +kernel
theorem dX6_isSame_161 : decode cX6_isSame 161 = .ok (.aload 5, 2) := by decide +kernel
theorem dX6_isSame_163 : decode cX6_isSame 163 = .ok (.getfield 42, 3) := by decide +kernel
theorem dX6_isSame_166 : decode cX6_isSame 166 = .ok (.iastore, 1) := by decide +kernel
theorem dX6_isSame_167 : decode cX6_isSame 167 = .ok (.dup, 1) := by decide +kernel
theorem dX6_isSame_168 : decode cX6_isSame 168 = .ok (.iconst 3, 1) := by decide +kernel
theorem dX6_isSame_169 : decode cX6_isSame 169 = .ok (.aload 5, 2) := by decide +kernel
theorem dX6_isSame_171 : decode cX6_isSame 171 = .ok (.getfield 45, 3) := by decide +kernel
theorem dX6_isSame_174 : decode cX6_isSame 174 = .ok (.iastore, 1) := by decide +kernel
theorem dX6_isSame_175 : decode cX6_isSame 175 = .ok (.dup, 1) := by decide +kernel
theorem dX6_isSame_176 : decode cX6_isSame 176 = .ok (.iconst 4, 1) := by decide +kernel
theorem dX6_isSame_177 : decode cX6_isSame 177 = .ok (.aload 5, 2) := by decide +kernel
theorem dX6_isSame_179 : decode cX6_isSame 179 = .ok (.getfield 73, 3) := by decide +kernel
theorem dX6_isSame_182 : decode cX6_isSame 182 = .ok (.ifnonnull 7, 3) := by decide +kernel
theorem dX6_isSame_185 : decode cX6_isSame 185 = .ok (.iconst (-1), 1) := by decide +kernel
theorem dX6_isSame_186 : decode cX6_isSame 186 = .ok (.goto 11, 3) := by decide +kernel
theorem dX6_isSame_189 : decode cX6_isSame 189 = .ok (.aload 5, 2) := by decide +kernel
theorem dX6_isSame_191 : decode cX6_isSame 191 = .ok (.getfield 73, 3) := by decide +kernel
theorem dX6_isSame_194 : decode cX6_isSame 194 = .ok (.getfield 49, 3) := by decide +kernel
theorem dX6_isSame_197 : decode cX6_isSame 197 = .ok (.iastore, 1) := by decide +kernel
theorem dX6_isSame_198 : decode cX6_isSame 198 = .ok (.astore 6, 2) := by decide +kernel
theorem dX6_isSame_200 : decode cX6_isSame 200 = .ok (.iconst 0, 1) := by decide +kernel
theorem dX6_isSame_201 : decode cX6_isSame 201 = .ok (.istore 7, 2) := by decide +kernel
theorem dX6_isSame_203 : decode cX6_isSame 203 = .ok (.iload 7, 2) := by decide +kernel
theorem dX6_isSame_205 : decode cX6_isSame 205 = .ok (.iconst 5, 1) := by decide +kernel
theorem dX6_isSame_206 : decode cX6_isSame 206 = .ok (.if_icmp .ge 27, 3) := by decide +kernel
theorem dX6_isSame_209 : decode cX6_isSame 209 = .ok (.aload_n 1, 1) := by decide +kernel
theorem dX6_isSame_210 : decode cX6_isSame 210 = .ok (.iload 4, 2) := by decide +kernel
theorem dX6_isSame_212 : decode cX6_isSame 212 = .ok (.iload 7, 2) := by decide +kernel
theorem dX6_isSame_214 : decode cX6_isSame 214 = .ok (.invokevirtual 116, 3) := by decide +kernel
theorem dX6_isSame_217 : decode cX6_isSame 217 = .ok (.aload 6, 2) := by decide +kernel
theorem dX6_isSame_219 : decode cX6_isSame 219 = .ok (.iload 7, 2) := by decide +kernel
theorem dX6_isSame_221 : decode cX6_isSame 221 = .ok (.iaload, 1) := by decide +kernel
theorem dX6_isSame_222 : decode cX6_isSame 222 = .ok (.if_icmp .eq 5, 3) := by decide +kernel
theorem dX6_isSame_225 : decode cX6_isSame 225 = .ok (.iconst 0, 1) := by decide +kernel
theorem dX6_isSame_226 : decode cX6_isSame 226 = .ok (.ireturn, 1) := by decide +kernel
theorem dX6_isSame_227 : decode cX6_isSame 227 = .ok (.iinc 7 1, 3) := by decide +kernel
theorem dX6_isSame_230 : decode cX6_isSame 230 = .ok (.goto (-27), 3) := by decide +kernel
theorem dX6_isSame_233 : decode cX6_isSame 233 = .ok (.iinc 4 1, 3) := by decide +kernel
theorem dX6_isSame_236 : decode cX6_isSame 236 = .ok (.goto (-115), 3) := by decide +kernel
theorem dX6_isSame_239 : decode cX6_isSame 239 = .ok (.iconst 0, 1) := by decide +kernel
theorem dX6_isSame_240 : decode cX6_isSame 240 = .ok (.istore 4, 2) := by decide +kernel
theorem dX6_isSame_242 : decode cX6_isSame 242 = .ok (.iconst 0, 1) := by decide +kernel
theorem dX6_isSame_243 : decode cX6_isSame 243 = .ok (.istore 5, 2) := by decide +kernel
theorem dX6_isSame_245 : decode cX6_isSame 245 = .ok (.iload 5, 2) := by decide +kernel
theorem dX6_isSame_247 : decode cX6_isSame 247 = .ok (.aload_n 0, 1) := by decide +kernel
theorem dX6_isSame_248 : decode cX6_isSame 248 = .ok (.getfield 24, 3) := by decide +kernel
theorem dX6_isSame_251 : decode cX6_isSame 251 = .ok (.arraylength, 1) := by decide +kernel
theorem dX6_isSame_252 : decode cX6_isSame 252 = .ok (.if_icmp .ge 219, 3) := by decide +kernel
theorem dX6_isSame_255 : decode cX6_isSame 255 = .ok (.aload_n 0, 1) := by decide +kernel
theorem dX6_isSame_256 : decode cX6_isSame 256 = .ok (.getfield 24, 3) := by decide +kernel
theorem dX6_isSame_259 : decode cX6_isSame 259 = .ok (.iload 5, 2) := by decide +kernel
theorem dX6_isSame_261 : decode cX6_isSame 261 = .ok (.aaload, 1) := by decide +kernel
theorem dX6_isSame_262 : decode cX6_isSame 262 = .ok (.astore 6, 2) := by decide +kernel
theorem dX6_isSame_264 : decode cX6_isSame 264 = .ok (.bipush 11, 2) := by decide +kernel
theorem dX6_isSame_266 : decode cX6_isSame 266 = .ok (.newarray .int, 2) := by decide +kernel
theorem dX6_isSame_268 : decode cX6_isSame 268 = .ok (.dup, 1) := by decide +kernel
theorem dX6_isSame_269 : decode cX6_isSame 269 = .ok (.iconst 0, 1) := by decide +kernel
theorem dX6_isSame_270 : decode cX6_isSame 270 = .ok (.aload 6, 2) := by decide +kernel
theorem dX6_isSame_272 : decode cX6_isSame 272 = .ok (.getfield 50, 3) := by decide +kernel
theorem dX6_isSame_275 : decode cX6_isSame 275 = .ok (.iastore, 1) := by decide +kernel
theorem dX6_isSame_276 : decode cX6_isSame 276 = .ok (.dup, 1) := by decide +kernel
theorem dX6_isSame_277 : decode cX6_isSame 277 = .ok (.iconst 1, 1) := by decide +kernel
theorem dX6_isSame_278 : decode cX6_isSame 278 = .ok (.aload 6, 2) := by decide +kernel
theorem dX6_isSame_280 : decode cX6_isSame 280 = .ok (.getfield 53, 3) := by decide +kernel
theorem dX6_isSame_283 : decode cX6_isSame 283 = .ok (.iastore, 1) := by decide +kernel
theorem dX6_isSame_284 : decode cX6_isSame 284 = .ok (.dup, 1) := by decide +kernel
theorem dX6_isSame_285 : decode cX6_isSame 285 = .ok (.iconst 2, 1) := by decide +kernel
theorem dX6_isSame_286 : decode cX6_isSame 286 = .ok (.aload 6, 2) := by decide +kernel
theorem dX6_isSame_288 : decode cX6_isSame 288 = .ok (.getfield 56, 3) := by decide +kernel
theorem dX6_isSame_291 : decode cX6_isSame 291 = .ok (.iastore, 1) := by decide +kernel
theorem dX6_isSame_292 : decode cX6_isSame 292 = .ok (.dup, 1) := by decide +kernel
theorem dX6_isSame_293 : decode cX6_isSame 293 = .ok (.iconst 3, 1) := by decide +kernel
theorem dX6_isSame_294 : decode cX6_isSame 294 = .ok (.aload 6, 2) := by decide +kernel
theorem dX6_isSame_296 : decode cX6_isSame 296 = .ok (.getfield 59, 3) := by decide +kernel
theorem dX6_isSame_299 : decode cX6_isSame 299 = .ok (.iastore, 1) := by decide +kernel
theorem dX6_isSame_300 : decode cX6_isSame 300 = .ok (.dup, 1) := by decide +kernel
theorem dX6_isSame_301 : decode cX6_isSame 301 = .ok (.iconst 4, 1) := by decide +kernel
theorem dX6_isSame_302 : decode cX6_isSame 302 = .ok (.aload 6, 2) := by decide +kernel
theorem dX6_isSame_304 : decode cX6_isSame 304 = .ok (.getfield 62, 3) := by decide +kernel
theorem dX6_isSame_307 : decode cX6_isSame 307 = .ok (.ifCond .eq 7, 3) := by decide +kernel
theorem dX6_isSame_310 : decode cX6_isSame 310 = .ok (.iconst 1, 1) := by decide +kernel
theorem dX6_isSame_311 : decode cX6_isSame 311 = .ok (.goto 4, 3) := by decide +kernel
theorem dX6_isSame_314 : decode cX6_isSame 314 = .ok (.iconst 0, 1) := by decide +kernel
theorem dX6_isSame_315 : decode cX6_isSame 315 = .ok (.iastore, 1) := by decide +kernel
theorem dX6_isSame_316 : decode cX6_isSame 316 = .ok (.dup, 1) := by decide +kernel
theorem dX6_isSame_317 : decode cX6_isSame 317 = .ok (.iconst 5, 1) := by decide +kernel
theorem dX6_isSame_318 : decode cX6_isSame 318 = .ok (.aload 6, 2) := by decide +kernel
theorem dX6_isSame_320 : decode cX6_isSame 320 = .ok (.getfield 66, 3) := by decide +kernel
theorem dX6_isSame_323 : decode cX6_isSame 323 = .ok (.ifnonnull 7, 3) := by decide +kernel
theorem dX6_isSame_326 : decode cX6_isSame 326 = .ok (.iconst (-1), 1) := by decide +kernel
theorem dX6_isSame_327 : decode cX6_isSame 327 = .ok (.goto 11, 3) := by decide +kernel
theorem dX6_isSame_330 : decode cX6_isSame 330 = .ok (.aload 6, 2) := by decide +kernel
theorem dX6_isSame_332 : decode cX6_isSame 332 = .ok (.getfield 66, 3) := by decide +kernel
theorem dX6_isSame_335 : decode cX6_isSame 335 = .ok (.getfield 33, 3) := by decide +kernel
theorem dX6_isSame_338 : decode cX6_isSame 338 = .ok (.iastore, 1) := by decide +kernel
theorem dX6_isSame_339 : decode cX6_isSame 339 = .ok (.dup, 1) := by decide +kernel
theorem dX6_isSame_340 : decode cX6_isSame 340 = .ok (.bipush 6, 2) := by decide +kernel
theorem dX6_isSame_342 : decode cX6_isSame 342 = .ok (.aload 6, 2) := by decide +kernel
theorem dX6_isSame_344 : decode cX6_isSame 344 = .ok (.getfield 70, 3) := by decide +kernel
theorem dX6_isSame_347 : decode cX6_isSame 347 = .ok (.ifnull 7, 3) := by decide +kernel
theorem dX6_isSame_350 : decode cX6_isSame 350 = .ok (.iconst 1, 1) := by decide +kernel
theorem dX6_isSame_351 : decode cX6_isSame 351 = .ok (.goto 16, 3) := by decide +kernel
theorem dX6_isSame_354 : decode cX6_isSame 354 = .ok (.aload 6, 2) := by decide +kernel
theorem dX6_isSame_356 : decode cX6_isSame 356 = .ok (.getfield 77, 3) := by decide +kernel
theorem dX6_isSame_359 : decode cX6_isSame 359 = .ok (.ifCond .eq 7, 3) := by decide +kernel
theorem dX6_isSame_362 : decode cX6_isSame 362 = .ok (.iconst 2, 1) := by decide +kernel
theorem dX6_isSame_363 : decode cX6_isSame 363 = .ok (.goto 4, 3) := by decide +kernel
theorem dX6_isSame_366 : decode cX6_isSame 366 = .ok (.iconst 0, 1) := by decide +kernel
theorem dX6_isSame_367 : decode cX6_isSame 367 = .ok (.iastore, 1) := by decide +kernel
theorem dX6_isSame_368 : decode cX6_isSame 368 = .ok (.dup, 1) := by decide +kernel
theorem dX6_isSame_369 : decode cX6_isSame 369 = .ok (.bipush 7, 2) := by decide +kernel
theorem dX6_isSame_371 : decode cX6_isSame 371 = .ok (.aload 6, 2) := by decide +kernel
theorem dX6_isSame_373 : decode cX6_isSame 373 = .ok (.getfield 70, 3) := by decide +kernel
theorem dX6_isSame_376 : decode cX6_isSame 376 = .ok (.ifnonnull 7, 3) := by decide +kernel
theorem dX6_isSame_379 : decode cX6_isSame 379 = .ok (.iconst (-1), 1) := by decide +kernel
theorem dX6_isSame_380 : decode cX6_isSame 380 = .ok (.goto 11, 3) := by decide +kernel
theorem dX6_isSame_383 : decode cX6_isSame 383 = .ok (.aload 6, 2) := by decide +kernel
theorem dX6_isSame_385 : decode cX6_isSame 385 = .ok (.getfield 70, 3) := by decide +kernel
theorem dX6_isSame_388 : decode cX6_isSame 388 = .ok (.getfield 33, 3) := by decide +kernel
theorem dX6_isSame_391 : decode cX6_isSame 391 = .ok (.iastore, 1) := by decide +kernel
theorem dX6_isSame_392 : decode cX6_isSame 392 = .ok (.dup, 1) := by decide +kernel
theorem dX6_isSame_393 : decode cX6_isSame 393 = .ok (.bipush 8, 2) := by decide +kernel
theorem dX6_isSame_395 : decode cX6_isSame 395 = .ok (.aload 6, 2) := by decide +kernel
theorem dX6_isSame_397 : decode cX6_isSame 397 = .ok (.getfield 80, 3) := by decide +kernel
theorem dX6_isSame_400 : decode cX6_isSame 400 = .ok (.iastore, 1) := by decide +kernel
theorem dX6_isSame_401 : decode cX6_isSame 401 = .ok (.dup, 1) := by decide +kernel
theorem dX6_isSame_402 : decode cX6_isSame 402 = .ok (.bipush 9, 2) := by decide +kernel
theorem dX6_isSame_404 : decode cX6_isSame 404 = .ok (.aload 6, 2) := by decide +kernel
theorem dX6_isSame_406 : decode cX6_isSame 406 = .ok (.getfield 83, 3) := by decide +kernel
theorem dX6_isSame_409 : decode cX6_isSame 409 = .ok (.iastore, 1) := by decide +kernel
theorem dX6_isSame_410 : decode cX6_isSame 410 = .ok (.dup, 1) := by decide +kernel
theorem dX6_isSame_411 : decode cX6_isSame 411 = .ok (.bipush 10, 2) := by decide +kernel
theorem dX6_isSame_413 : decode cX6_isSame 413 = .ok (.aload 6, 2) := by decide +kernel
theorem dX6_isSame_415 : decode cX6_isSame 415 = .ok (.getfield 89, 3) := by decide +kernel
theorem dX6_isSame_418 : decode cX6_isSame 418 = .ok (.iastore, 1) := by decide +kernel
theorem dX6_isSame_419 : decode cX6_isSame 419 = .ok (.astore 7, 2) := by decide +kernel
theorem dX6_isSame_421 : decode cX6_isSame 421 = .ok (.iconst 0, 1) := by decide +kernel
theorem dX6_isSame_422 : decode cX6_isSame 422 = .ok (.istore 8, 2) := by decide +kernel
theorem dX6_isSame_424 : decode cX6_isSame 424 = .ok (.iload 8, 2) := by decide +kernel
theorem dX6_isSame_426 : decode cX6_isSame 426 = .ok (.bipush 11, 2) := by decide +kernel
theorem dX6_isSame_428 : decode cX6_isSame 428 = .ok (.if_icmp .ge 27, 3) := by decide +kernel
theorem dX6_isSame_431 : decode cX6_isSame 431 = .ok (.aload_n 1, 1) := by decide +kernel
theorem dX6_isSame_432 : decode cX6_isSame 432 = .ok (.iload 5, 2) := by decide +kernel
theorem dX6_isSame_434 : decode cX6_isSame 434 = .ok (.iload 8, 2) := by decide +kernel
theorem dX6_isSame_436 : decode cX6_isSame 436 = .ok (.invokevirtual 120, 3) := by decide +kernel
theorem dX6_isSame_439 : decode cX6_isSame 439 = .ok (.aload 7, 2) := by decide +kernel
theorem dX6_isSame_441 : decode cX6_isSame 441 = .ok (.iload 8, 2) := by decide +kernel
theorem dX6_isSame_443 : decode cX6_isSame 443 = .ok (.iaload, 1) := by decide +kernel
theorem dX6_isSame_444 : decode cX6_isSame 444 = .ok (.if_icmp .eq 5, 3) := by decide +kernel
theorem dX6_isSame_447 : decode cX6_isSame 447 = .ok (.iconst 0, 1) := by decide +kernel
theorem dX6_isSame_448 : decode cX6_isSame 448 = .ok (.ireturn, 1) := by decide +kernel
theorem dX6_isSame_449 : decode cX6_isSame 449 = .ok (.iinc 8 1, 3) := by decide +kernel
theorem dX6_isSame_452 : decode cX6_isSame 452 = .ok (.goto (-28), 3) := by decide +kernel
theorem dX6_isSame_455 : decode cX6_isSame 455 = .ok (.iload 4, 2) := by decide +kernel
theorem dX6_isSame_457 : decode cX6_isSame 457 = .ok (.aload 6, 2) := by decide +kernel
theorem dX6_isSame_459 : decode cX6_isSame 459 = .ok (.getfield 80, 3) := by decide +kernel
theorem dX6_isSame_462 : decode cX6_isSame 462 = .ok (.iadd, 1) := by decide +kernel
theorem dX6_isSame_463 : decode cX6_isSame 463 = .ok (.istore 4, 2) := by decide +kernel
theorem dX6_isSame_465 : decode cX6_isSame 465 = .ok (.iinc 5 1, 3) := by decide +kernel
theorem dX6_isSame_468 : decode cX6_isSame 468 = .ok (.goto (-223), 3) := by decide +kernel
theorem dX6_isSame_471 : decode cX6_isSame 471 = .ok (.aload_n 1, 1) := by decide +kernel
theorem dX6_isSame_472 : decode cX6_isSame 472 = .ok (.invokevirtual 123, 3) := by decide +kernel
theorem dX6_isSame_475 : decode cX6_isSame 475 = .ok (.aload_n 0, 1) := by decide +kernel
theorem dX6_isSame_476 : decode cX6_isSame 476 = .ok (.getfield 24, 3) := by decide +kernel
theorem dX6_isSame_479 : decode cX6_isSame 479 = .ok (.arraylength, 1) := by decide +kernel
theorem dX6_isSame_480 : decode cX6_isSame 480 = .ok (.ifCond .ne 7, 3) := by decide +kernel
theorem dX6_isSame_483 : decode cX6_isSame 483 = .ok (.dconst 0, 1) := by decide +kernel
theorem dX6_isSame_484 : decode cX6_isSame 484 = .ok (.goto 13, 3) := by decide +kernel
theorem dX6_isSame_487 : decode cX6_isSame 487 = .ok (.iload 4, 2) := by decide +kernel
theorem dX6_isSame_489 : decode cX6_isSame 489 = .ok (.i2d, 1) := by decide +kernel
theorem dX6_isSame_490 : decode cX6_isSame 490 = .ok (.aload_n 0, 1) := by decide +kernel
theorem dX6_isSame_491 : decode cX6_isSame 491 = .ok (.getfield 24, 3) := by decide +kernel
theorem dX6_isSame_494 : decode cX6_isSame 494 = .ok (.arraylength, 1) := by decide +kernel
theorem dX6_isSame_495 : decode cX6_isSame 495 = .ok (.i2d, 1) := by decide +kernel
theorem dX6_isSame_496 : decode cX6_isSame 496 = .ok (.ddiv, 1) := by decide +kernel
theorem dX6_isSame_497 : decode cX6_isSame 497 = .ok (.dcmp .l, 1) := by decide +kernel
theorem dX6_isSame_498 : decode cX6_isSame 498 = .ok (.ifCond .ne 7, 3) := by decide +kernel
theorem dX6_isSame_501 : decode cX6_isSame 501 = .ok (.iconst 1, 1) := by decide +kernel
theorem dX6_isSame_502 : decode cX6_isSame 502 = .ok (.goto 4, 3) := by decide +kernel
theorem dX6_isSame_505 : decode cX6_isSame 505 = .ok (.iconst 0, 1) := by decide +kernel
theorem dX6_isSame_506 : decode cX6_isSame 506 = .ok (.ireturn, 1) := by decide +kernel
