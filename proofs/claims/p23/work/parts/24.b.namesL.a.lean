theorem dL_below_0 : decode cL_below 0 = .ok (.iload_n 0, 1) := by decide +kernel
theorem dL_below_1 : decode cL_below 1 = .ok (.ldc 7, 2) := by decide +kernel
theorem dL_below_3 : decode cL_below 3 = .ok (.iand, 1) := by decide +kernel
theorem dL_below_4 : decode cL_below 4 = .ok (.iload_n 1, 1) := by decide +kernel
theorem dL_below_5 : decode cL_below 5 = .ok (.irem, 1) := by decide +kernel
theorem dL_below_6 : decode cL_below 6 = .ok (.ireturn, 1) := by decide +kernel
theorem dL_cell_0 : decode cL_cell 0 = .ok (.iload_n 1, 1) := by decide +kernel
theorem dL_cell_1 : decode cL_cell 1 = .ok (.aload_n 0, 1) := by decide +kernel
theorem dL_cell_2 : decode cL_cell 2 = .ok (.arraylength, 1) := by decide +kernel
theorem dL_cell_3 : decode cL_cell 3 = .ok (.if_icmp .ge 9, 3) := by decide +kernel
theorem dL_cell_6 : decode cL_cell 6 = .ok (.aload_n 0, 1) := by decide +kernel
theorem dL_cell_7 : decode cL_cell 7 = .ok (.iload_n 1, 1) := by decide +kernel
theorem dL_cell_8 : decode cL_cell 8 = .ok (.iaload, 1) := by decide +kernel
theorem dL_cell_9 : decode cL_cell 9 = .ok (.goto 9, 3) := by decide +kernel
theorem dL_cell_12 : decode cL_cell 12 = .ok (.ldc 8, 2) := by decide +kernel
theorem dL_cell_14 : decode cL_cell 14 = .ok (.iload_n 1, 1) := by decide +kernel
theorem dL_cell_15 : decode cL_cell 15 = .ok (.iconst 3, 1) := by decide +kernel
theorem dL_cell_16 : decode cL_cell 16 = .ok (.iadd, 1) := by decide +kernel
theorem dL_cell_17 : decode cL_cell 17 = .ok (.imul, 1) := by decide +kernel
theorem dL_cell_18 : decode cL_cell 18 = .ok (.ireturn, 1) := by decide +kernel
theorem dL_act_0 : decode cL_act 0 = .ok (.aload_n 1, 1) := by decide +kernel
theorem dL_act_1 : decode cL_act 1 = .ok (.getfield 9, 3) := by decide +kernel
theorem dL_act_4 : decode cL_act 4 = .ok (.arraylength, 1) := by decide +kernel
theorem dL_act_5 : decode cL_act 5 = .ok (.istore_n 3, 1) := by decide +kernel
theorem dL_act_6 : decode cL_act 6 = .ok (.aload_n 1, 1) := by decide +kernel
theorem dL_act_7 : decode cL_act 7 = .ok (.getfield 15, 3) := by decide +kernel
theorem dL_act_10 : decode cL_act 10 = .ok (.arraylength, 1) := by decide +kernel
theorem dL_act_11 : decode cL_act 11 = .ok (.istore 4, 2) := by decide +kernel
theorem dL_act_13 : decode cL_act 13 = .ok (.iload_n 2, 1) := by decide +kernel
theorem dL_act_14 : decode cL_act 14 = .ok (.bipush 9, 2) := by decide +kernel
theorem dL_act_16 : decode cL_act 16 = .ok (.ishr, 1) := by decide +kernel
theorem dL_act_17 : decode cL_act 17 = .ok (.bipush 18, 2) := by decide +kernel
theorem dL_act_19 : decode cL_act 19 = .ok (.invokestatic 19, 3) := by decide +kernel
theorem dL_act_22 : decode cL_act 22 = .ok (.istore 5, 2) := by decide +kernel
theorem dL_act_24 : decode cL_act 24 = .ok (.iload 5, 2) := by decide +kernel
theorem dL_act_26 : decode cL_act 26 = .ok (.ifCond .ne 119, 3) := by decide +kernel
theorem dL_act_29 : decode cL_act 29 = .ok (.iload_n 3, 1) := by decide +kernel
theorem dL_act_30 : decode cL_act 30 = .ok (.bipush 6, 2) := by decide +kernel
theorem dL_act_32 : decode cL_act 32 = .ok (.if_icmp .ne 5, 3) := by decide +kernel
theorem dL_act_35 : decode cL_act 35 = .ok (.iconst 1, 1) := by decide +kernel
theorem dL_act_36 : decode cL_act 36 = .ok (.ireturn, 1) := by decide +kernel
theorem dL_act_37 : decode cL_act 37 = .ok (.iload_n 3, 1) := by decide +kernel
theorem dL_act_38 : decode cL_act 38 = .ok (.iconst 1, 1) := by decide +kernel
theorem dL_act_39 : decode cL_act 39 = .ok (.iadd, 1) := by decide +kernel
theorem dL_act_40 : decode cL_act 40 = .ok (.anewarray 25, 3) := by decide +kernel
theorem dL_act_43 : decode cL_act 43 = .ok (.astore 6, 2) := by decide +kernel
theorem dL_act_45 : decode cL_act 45 = .ok (.iconst 0, 1) := by decide +kernel
theorem dL_act_46 : decode cL_act 46 = .ok (.istore 7, 2) := by decide +kernel
theorem dL_act_48 : decode cL_act 48 = .ok (.iload 7, 2) := by decide +kernel
theorem dL_act_50 : decode cL_act 50 = .ok (.iload_n 3, 1) := by decide +kernel
theorem dL_act_51 : decode cL_act 51 = .ok (.if_icmp .ge 21, 3) := by decide +kernel
theorem dL_act_54 : decode cL_act 54 = .ok (.aload 6, 2) := by decide +kernel
theorem dL_act_56 : decode cL_act 56 = .ok (.iload 7, 2) := by decide +kernel
theorem dL_act_58 : decode cL_act 58 = .ok (.aload_n 1, 1) := by decide +kernel
theorem dL_act_59 : decode cL_act 59 = .ok (.getfield 9, 3) := by decide +kernel
theorem dL_act_62 : decode cL_act 62 = .ok (.iload 7, 2) := by decide +kernel
theorem dL_act_64 : decode cL_act 64 = .ok (.aaload, 1) := by decide +kernel
theorem dL_act_65 : decode cL_act 65 = .ok (.aastore, 1) := by decide +kernel
theorem dL_act_66 : decode cL_act 66 = .ok (.iinc 7 1, 3) := by decide +kernel
theorem dL_act_69 : decode cL_act 69 = .ok (.goto (-21), 3) := by decide +kernel
theorem dL_act_72 : decode cL_act 72 = .ok (.aload 6, 2) := by decide +kernel
theorem dL_act_74 : decode cL_act 74 = .ok (.iload_n 3, 1) := by decide +kernel
theorem dL_act_75 : decode cL_act 75 = .ok (.new 25, 3) := by decide +kernel
theorem dL_act_78 : decode cL_act 78 = .ok (.dup, 1) := by decide +kernel
theorem dL_act_79 : decode cL_act 79 = .ok (.invokespecial 27, 3) := by decide +kernel
theorem dL_act_82 : decode cL_act 82 = .ok (.aastore, 1) := by decide +kernel
theorem dL_act_83 : decode cL_act 83 = .ok (.aload 6, 2) := by decide +kernel
theorem dL_act_85 : decode cL_act 85 = .ok (.iload_n 3, 1) := by decide +kernel
theorem dL_act_86 : decode cL_act 86 = .ok (.aaload, 1) := by decide +kernel
theorem dL_act_87 : decode cL_act 87 = .ok (.iload_n 3, 1) := by decide +kernel
theorem dL_act_88 : decode cL_act 88 = .ok (.putfield 28, 3) := by decide +kernel
theorem dL_act_91 : decode cL_act 91 = .ok (.aload 6, 2) := by decide +kernel
theorem dL_act_93 : decode cL_act 93 = .ok (.iload_n 3, 1) := by decide +kernel
theorem dL_act_94 : decode cL_act 94 = .ok (.aaload, 1) := by decide +kernel
theorem dL_act_95 : decode cL_act 95 = .ok (.iload_n 2, 1) := by decide +kernel
theorem dL_act_96 : decode cL_act 96 = .ok (.iconst 1, 1) := by decide +kernel
theorem dL_act_97 : decode cL_act 97 = .ok (.ishr, 1) := by decide +kernel
theorem dL_act_98 : decode cL_act 98 = .ok (.iload_n 2, 1) := by decide +kernel
theorem dL_act_99 : decode cL_act 99 = .ok (.iconst 2, 1) := by decide +kernel
theorem dL_act_100 : decode cL_act 100 = .ok (.invokestatic 19, 3) := by decide +kernel
theorem dL_act_103 : decode cL_act 103 = .ok (.ifCond .ne 8, 3) := by decide +kernel
theorem dL_act_106 : decode cL_act 106 = .ok (.bipush 10, 2) := by decide +kernel
theorem dL_act_108 : decode cL_act 108 = .ok (.goto 4, 3) := by decide +kernel
theorem dL_act_111 : decode cL_act 111 = .ok (.iconst 4, 1) := by decide +kernel
theorem dL_act_112 : decode cL_act 112 = .ok (.invokestatic 19, 3) := by decide +kernel
theorem dL_act_115 : decode cL_act 115 = .ok (.putfield 32, 3) := by decide +kernel
theorem dL_act_118 : decode cL_act 118 = .ok (.aload_n 1, 1) := by decide +kernel
theorem dL_act_119 : decode cL_act 119 = .ok (.aload 6, 2) := by decide +kernel
theorem dL_act_121 : decode cL_act 121 = .ok (.putfield 9, 3) := by decide +kernel
theorem dL_act_124 : decode cL_act 124 = .ok (.aload_n 0, 1) := by decide +kernel
theorem dL_act_125 : decode cL_act 125 = .ok (.aload 6, 2) := by decide +kernel
theorem dL_act_127 : decode cL_act 127 = .ok (.iload_n 3, 1) := by decide +kernel
theorem dL_act_128 : decode cL_act 128 = .ok (.aaload, 1) := by decide +kernel
theorem dL_act_129 : decode cL_act 129 = .ok (.getfield 32, 3) := by decide +kernel
theorem dL_act_132 : decode cL_act 132 = .ok (.invokevirtual 35, 3) := by decide +kernel
theorem dL_act_135 : decode cL_act 135 = .ok (.iload_n 3, 1) := by decide +kernel
theorem dL_act_136 : decode cL_act 136 = .ok (.if_icmp .ne 7, 3) := by decide +kernel
theorem dL_act_139 : decode cL_act 139 = .ok (.iconst 1, 1) := by decide +kernel
theorem dL_act_140 : decode cL_act 140 = .ok (.goto 4, 3) := by decide +kernel
theorem dL_act_143 : decode cL_act 143 = .ok (.iconst 0, 1) := by decide +kernel
theorem dL_act_144 : decode cL_act 144 = .ok (.ireturn, 1) := by decide +kernel
theorem dL_act_145 : decode cL_act 145 = .ok (.iload 5, 2) := by decide +kernel
theorem dL_act_147 : decode cL_act 147 = .ok (.iconst 3, 1) := by decide +kernel
theorem dL_act_148 : decode cL_act 148 = .ok (.if_icmp .lt 8, 3) := by decide +kernel
theorem dL_act_151 : decode cL_act 151 = .ok (.iload 4, 2) := by decide +kernel
theorem dL_act_153 : decode cL_act 153 = .ok (.ifCond .ne 192, 3) := by decide +kernel
theorem dL_act_156 : decode cL_act 156 = .ok (.iload 4, 2) := by decide +kernel
theorem dL_act_158 : decode cL_act 158 = .ok (.bipush 10, 2) := by decide +kernel
theorem dL_act_160 : decode cL_act 160 = .ok (.if_icmp .ne 5, 3) := by decide +kernel
theorem dL_act_163 : decode cL_act 163 = .ok (.iconst 1, 1) := by decide +kernel
theorem dL_act_164 : decode cL_act 164 = .ok (.ireturn, 1) := by decide +kernel
theorem dL_act_165 : decode cL_act 165 = .ok (.iload 4, 2) := by decide +kernel
theorem dL_act_167 : decode cL_act 167 = .ok (.iconst 1, 1) := by decide +kernel
theorem dL_act_168 : decode cL_act 168 = .ok (.iadd, 1) := by decide +kernel
theorem dL_act_169 : decode cL_act 169 = .ok (.anewarray 41, 3) := by decide +kernel
theorem dL_act_172 : decode cL_act 172 = .ok (.astore 6, 2) := by decide +kernel
theorem dL_act_174 : decode cL_act 174 = .ok (.iconst 0, 1) := by decide +kernel
theorem dL_act_175 : decode cL_act 175 = .ok (.istore 7, 2) := by decide +kernel
theorem dL_act_177 : decode cL_act 177 = .ok (.iload 7, 2) := by decide +kernel
theorem dL_act_179 : decode cL_act 179 = .ok (.iload 4, 2) := by decide +kernel
theorem dL_act_181 : decode cL_act 181 = .ok (.if_icmp .ge 21, 3) := by decide +kernel
theorem dL_act_184 : decode cL_act 184 = .ok (.aload 6, 2) := by decide +kernel
theorem dL_act_186 : decode cL_act 186 = .ok (.iload 7, 2) := by decide +kernel
theorem dL_act_188 : decode cL_act 188 = .ok (.aload_n 1, 1) := by decide +kernel
theorem dL_act_189 : decode cL_act 189 = .ok (.getfield 15, 3) := by decide +kernel
theorem dL_act_192 : decode cL_act 192 = .ok (.iload 7, 2) := by decide +kernel
theorem dL_act_194 : decode cL_act 194 = .ok (.aaload, 1) := by decide +kernel
theorem dL_act_195 : decode cL_act 195 = .ok (.aastore, 1) := by decide +kernel
theorem dL_act_196 : decode cL_act 196 = .ok (.iinc 7 1, 3) := by decide +kernel
theorem dL_act_199 : decode cL_act 199 = .ok (.goto (-22), 3) := by decide +kernel
theorem dL_act_202 : decode cL_act 202 = .ok (.new 41, 3) := by decide +kernel
theorem dL_act_205 : decode cL_act 205 = .ok (.dup, 1) := by decide +kernel
theorem dL_act_206 : decode cL_act 206 = .ok (.invokespecial 43, 3) := by decide +kernel
theorem dL_act_209 : decode cL_act 209 = .ok (.astore 7, 2) := by decide +kernel
theorem dL_act_211 : decode cL_act 211 = .ok (.aload 7, 2) := by decide +kernel
theorem dL_act_213 : decode cL_act 213 = .ok (.iload 4, 2) := by decide +kernel
theorem dL_act_215 : decode cL_act 215 = .ok (.putfield 44, 3) := by decide +kernel
theorem dL_act_218 : decode cL_act 218 = .ok (.aload 7, 2) := by decide +kernel
theorem dL_act_220 : decode cL_act 220 = .ok (.iload_n 2, 1) := by decide +kernel
theorem dL_act_221 : decode cL_act 221 = .ok (.iconst 1, 1) := by decide +kernel
theorem dL_act_222 : decode cL_act 222 = .ok (.ishr, 1) := by decide +kernel
theorem dL_act_223 : decode cL_act 223 = .ok (.iconst 3, 1) := by decide +kernel
theorem dL_act_224 : decode cL_act 224 = .ok (.invokestatic 19, 3) := by decide +kernel
theorem dL_act_227 : decode cL_act 227 = .ok (.putfield 45, 3) := by decide +kernel
theorem dL_act_230 : decode cL_act 230 = .ok (.aload 7, 2) := by decide +kernel
theorem dL_act_232 : decode cL_act 232 = .ok (.iload_n 2, 1) := by decide +kernel
theorem dL_act_233 : decode cL_act 233 = .ok (.iconst 2, 1) := by decide +kernel
theorem dL_act_234 : decode cL_act 234 = .ok (.ishr, 1) := by decide +kernel
theorem dL_act_235 : decode cL_act 235 = .ok (.bipush 10, 2) := by decide +kernel
theorem dL_act_237 : decode cL_act 237 = .ok (.invokestatic 19, 3) := by decide +kernel
theorem dL_act_240 : decode cL_act 240 = .ok (.putfield 48, 3) := by decide +kernel
theorem dL_act_243 : decode cL_act 243 = .ok (.aload 7, 2) := by decide +kernel
theorem dL_act_245 : decode cL_act 245 = .ok (.iload_n 2, 1) := by decide +kernel
theorem dL_act_246 : decode cL_act 246 = .ok (.iconst 4, 1) := by decide +kernel
theorem dL_act_247 : decode cL_act 247 = .ok (.ishr, 1) := by decide +kernel
theorem dL_act_248 : decode cL_act 248 = .ok (.iload_n 2, 1) := by decide +kernel
theorem dL_act_249 : decode cL_act 249 = .ok (.iconst 2, 1) := by decide +kernel
theorem dL_act_250 : decode cL_act 250 = .ok (.invokestatic 19, 3) := by decide +kernel
theorem dL_act_253 : decode cL_act 253 = .ok (.ifCond .ne 8, 3) := by decide +kernel
theorem dL_act_256 : decode cL_act 256 = .ok (.bipush 21, 2) := by decide +kernel
theorem dL_act_258 : decode cL_act 258 = .ok (.goto 5, 3) := by decide +kernel
theorem dL_act_261 : decode cL_act 261 = .ok (.bipush 7, 2) := by decide +kernel
theorem dL_act_263 : decode cL_act 263 = .ok (.invokestatic 19, 3) := by decide +kernel
theorem dL_act_266 : decode cL_act 266 = .ok (.putfield 51, 3) := by decide +kernel
theorem dL_act_269 : decode cL_act 269 = .ok (.aload 7, 2) := by decide +kernel
theorem dL_act_271 : decode cL_act 271 = .ok (.iload_n 2, 1) := by decide +kernel
theorem dL_act_272 : decode cL_act 272 = .ok (.iconst 5, 1) := by decide +kernel
theorem dL_act_273 : decode cL_act 273 = .ok (.ishr, 1) := by decide +kernel
theorem dL_act_274 : decode cL_act 274 = .ok (.iload_n 2, 1) := by decide +kernel
theorem dL_act_275 : decode cL_act 275 = .ok (.iconst 1, 1) := by decide +kernel
theorem dL_act_276 : decode cL_act 276 = .ok (.ishr, 1) := by decide +kernel
theorem dL_act_277 : decode cL_act 277 = .ok (.iconst 2, 1) := by decide +kernel
theorem dL_act_278 : decode cL_act 278 = .ok (.invokestatic 19, 3) := by decide +kernel
theorem dL_act_281 : decode cL_act 281 = .ok (.ifCond .ne 8, 3) := by decide +kernel
theorem dL_act_284 : decode cL_act 284 = .ok (.bipush 100, 2) := by decide +kernel
theorem dL_act_286 : decode cL_act 286 = .ok (.goto 5, 3) := by decide +kernel
theorem dL_act_289 : decode cL_act 289 = .ok (.bipush 9, 2) := by decide +kernel
theorem dL_act_291 : decode cL_act 291 = .ok (.invokestatic 19, 3) := by decide +kernel
theorem dL_act_294 : decode cL_act 294 = .ok (.putfield 54, 3) := by decide +kernel
theorem dL_act_297 : decode cL_act 297 = .ok (.aload 6, 2) := by decide +kernel
theorem dL_act_299 : decode cL_act 299 = .ok (.iload 4, 2) := by decide +kernel
theorem dL_act_301 : decode cL_act 301 = .ok (.aload 7, 2) := by decide +kernel
theorem dL_act_303 : decode cL_act 303 = .ok (.aastore, 1) := by decide +kernel
theorem dL_act_304 : decode cL_act 304 = .ok (.aload_n 1, 1) := by decide +kernel
theorem dL_act_305 : decode cL_act 305 = .ok (.aload 6, 2) := by decide +kernel
theorem dL_act_307 : decode cL_act 307 = .ok (.putfield 15, 3) := by decide +kernel
theorem dL_act_310 : decode cL_act 310 = .ok (.aload_n 0, 1) := by decide +kernel
theorem dL_act_311 : decode cL_act 311 = .ok (.aload 7, 2) := by decide +kernel
theorem dL_act_313 : decode cL_act 313 = .ok (.getfield 45, 3) := by decide +kernel
theorem dL_act_316 : decode cL_act 316 = .ok (.aload 7, 2) := by decide +kernel
theorem dL_act_318 : decode cL_act 318 = .ok (.getfield 48, 3) := by decide +kernel
theorem dL_act_321 : decode cL_act 321 = .ok (.aload 7, 2) := by decide +kernel
theorem dL_act_323 : decode cL_act 323 = .ok (.getfield 51, 3) := by decide +kernel
theorem dL_act_326 : decode cL_act 326 = .ok (.aload 7, 2) := by decide +kernel
theorem dL_act_328 : decode cL_act 328 = .ok (.getfield 54, 3) := by decide +kernel
theorem dL_act_331 : decode cL_act 331 = .ok (.invokevirtual 57, 3) := by decide +kernel
theorem dL_act_334 : decode cL_act 334 = .ok (.iload 4, 2) := by decide +kernel
theorem dL_act_336 : decode cL_act 336 = .ok (.if_icmp .ne 7, 3) := by decide +kernel
theorem dL_act_339 : decode cL_act 339 = .ok (.iconst 1, 1) := by decide +kernel
theorem dL_act_340 : decode cL_act 340 = .ok (.goto 4, 3) := by decide +kernel
theorem dL_act_343 : decode cL_act 343 = .ok (.iconst 0, 1) := by decide +kernel
theorem dL_act_344 : decode cL_act 344 = .ok (.ireturn, 1) := by decide +kernel
theorem dL_act_345 : decode cL_act 345 = .ok (.iload_n 2, 1) := by decide +kernel
theorem dL_act_346 : decode cL_act 346 = .ok (.iconst 1, 1) := by decide +kernel
theorem dL_act_347 : decode cL_act 347 = .ok (.ishr, 1) := by decide +kernel
theorem dL_act_348 : decode cL_act 348 = .ok (.iload 4, 2) := by decide +kernel
theorem dL_act_350 : decode cL_act 350 = .ok (.invokestatic 19, 3) := by decide +kernel
theorem dL_act_353 : decode cL_act 353 = .ok (.istore 6, 2) := by decide +kernel
theorem dL_act_355 : decode cL_act 355 = .ok (.aload_n 1, 1) := by decide +kernel
theorem dL_act_356 : decode cL_act 356 = .ok (.getfield 15, 3) := by decide +kernel
theorem dL_act_359 : decode cL_act 359 = .ok (.iload 6, 2) := by decide +kernel
theorem dL_act_361 : decode cL_act 361 = .ok (.aaload, 1) := by decide +kernel
theorem dL_act_362 : decode cL_act 362 = .ok (.astore 7, 2) := by decide +kernel
theorem dL_act_364 : decode cL_act 364 = .ok (.iload 5, 2) := by decide +kernel
theorem dL_act_366 : decode cL_act 366 = .ok (.tableswitch 486 3 10 #[46, 133, 170, 209, 254, 299, 365, 427], 46) := by decide +kernel
theorem dL_act_412 : decode cL_act 412 = .ok (.aload 7, 2) := by decide +kernel
theorem dL_act_414 : decode cL_act 414 = .ok (.getfield 61, 3) := by decide +kernel
theorem dL_act_417 : decode cL_act 417 = .ok (.ifnonnull 7, 3) := by decide +kernel
theorem dL_act_420 : decode cL_act 420 = .ok (.iconst (-1), 1) := by decide +kernel
theorem dL_act_421 : decode cL_act 421 = .ok (.goto 11, 3) := by decide +kernel
theorem dL_act_424 : decode cL_act 424 = .ok (.aload 7, 2) := by decide +kernel
theorem dL_act_426 : decode cL_act 426 = .ok (.getfield 61, 3) := by decide +kernel
theorem dL_act_429 : decode cL_act 429 = .ok (.getfield 28, 3) := by decide +kernel
theorem dL_act_432 : decode cL_act 432 = .ok (.istore 8, 2) := by decide +kernel
theorem dL_act_434 : decode cL_act 434 = .ok (.iload_n 3, 1) := by decide +kernel
theorem dL_act_435 : decode cL_act 435 = .ok (.ifCond .eq 11, 3) := by decide +kernel
theorem dL_act_438 : decode cL_act 438 = .ok (.iload_n 2, 1) := by decide +kernel
theorem dL_act_439 : decode cL_act 439 = .ok (.iconst 4, 1) := by decide +kernel
theorem dL_act_440 : decode cL_act 440 = .ok (.invokestatic 19, 3) := by decide +kernel
theorem dL_act_443 : decode cL_act 443 = .ok (.ifCond .ne 7, 3) := by decide +kernel
theorem dL_act_446 : decode cL_act 446 = .ok (.iconst (-1), 1) := by decide +kernel
theorem dL_act_447 : decode cL_act 447 = .ok (.goto 10, 3) := by decide +kernel
theorem dL_act_450 : decode cL_act 450 = .ok (.iload_n 2, 1) := by decide +kernel
theorem dL_act_451 : decode cL_act 451 = .ok (.iconst 3, 1) := by decide +kernel
theorem dL_act_452 : decode cL_act 452 = .ok (.ishr, 1) := by decide +kernel
theorem dL_act_453 : decode cL_act 453 = .ok (.iload_n 3, 1) := by decide +kernel
theorem dL_act_454 : decode cL_act 454 = .ok (.invokestatic 19, 3) := by decide +kernel
theorem dL_act_457 : decode cL_act 457 = .ok (.istore 9, 2) := by decide +kernel
theorem dL_act_459 : decode cL_act 459 = .ok (.aload 7, 2) := by decide +kernel
theorem dL_act_461 : decode cL_act 461 = .ok (.iload 9, 2) := by decide +kernel
theorem dL_act_463 : decode cL_act 463 = .ok (.ifCond .ge 7, 3) := by decide +kernel
theorem dL_act_466 : decode cL_act 466 = .ok (.aconst_null, 1) := by decide +kernel
theorem dL_act_467 : decode cL_act 467 = .ok (.goto 10, 3) := by decide +kernel
theorem dL_act_470 : decode cL_act 470 = .ok (.aload_n 1, 1) := by decide +kernel
theorem dL_act_471 : decode cL_act 471 = .ok (.getfield 9, 3) := by decide +kernel
theorem dL_act_474 : decode cL_act 474 = .ok (.iload 9, 2) := by decide +kernel
theorem dL_act_476 : decode cL_act 476 = .ok (.aaload, 1) := by decide +kernel
theorem dL_act_477 : decode cL_act 477 = .ok (.putfield 61, 3) := by decide +kernel
theorem dL_act_480 : decode cL_act 480 = .ok (.aload_n 0, 1) := by decide +kernel
theorem dL_act_481 : decode cL_act 481 = .ok (.iload 6, 2) := by decide +kernel
theorem dL_act_483 : decode cL_act 483 = .ok (.iload 9, 2) := by decide +kernel
theorem dL_act_485 : decode cL_act 485 = .ok (.invokevirtual 65, 3) := by decide +kernel
theorem dL_act_488 : decode cL_act 488 = .ok (.iload 8, 2) := by decide +kernel
theorem dL_act_490 : decode cL_act 490 = .ok (.if_icmp .ne 7, 3) := by decide +kernel
theorem dL_act_493 : decode cL_act 493 = .ok (.iconst 1, 1) := by decide +kernel
theorem dL_act_494 : decode cL_act 494 = .ok (.goto 4, 3) := by decide +kernel
theorem dL_act_497 : decode cL_act 497 = .ok (.iconst 0, 1) := by decide +kernel
theorem dL_act_498 : decode cL_act 498 = .ok (.ireturn, 1) := by decide +kernel
theorem dL_act_499 : decode cL_act 499 = .ok (.aload_n 1, 1) := by decide +kernel
theorem dL_act_500 : decode cL_act 500 = .ok (.getfield 68, 3) := by decide +kernel
theorem dL_act_503 : decode cL_act 503 = .ok (.istore 10, 2) := by decide +kernel
theorem dL_act_505 : decode cL_act 505 = .ok (.aload_n 1, 1) := by decide +kernel
theorem dL_act_506 : decode cL_act 506 = .ok (.iload_n 2, 1) := by decide +kernel
theorem dL_act_507 : decode cL_act 507 = .ok (.iconst 3, 1) := by decide +kernel
theorem dL_act_508 : decode cL_act 508 = .ok (.ishr, 1) := by decide +kernel
theorem dL_act_509 : decode cL_act 509 = .ok (.bipush 10, 2) := by decide +kernel
theorem dL_act_511 : decode cL_act 511 = .ok (.invokestatic 19, 3) := by decide +kernel
theorem dL_act_514 : decode cL_act 514 = .ok (.putfield 68, 3) := by decide +kernel
theorem dL_act_517 : decode cL_act 517 = .ok (.aload_n 0, 1) := by decide +kernel
theorem dL_act_518 : decode cL_act 518 = .ok (.aload_n 1, 1) := by decide +kernel
theorem dL_act_519 : decode cL_act 519 = .ok (.getfield 68, 3) := by decide +kernel
theorem dL_act_522 : decode cL_act 522 = .ok (.invokevirtual 71, 3) := by decide +kernel
theorem dL_act_525 : decode cL_act 525 = .ok (.iload 10, 2) := by decide +kernel
theorem dL_act_527 : decode cL_act 527 = .ok (.if_icmp .ne 7, 3) := by decide +kernel
theorem dL_act_530 : decode cL_act 530 = .ok (.iconst 1, 1) := by decide +kernel
theorem dL_act_531 : decode cL_act 531 = .ok (.goto 4, 3) := by decide +kernel
theorem dL_act_534 : decode cL_act 534 = .ok (.iconst 0, 1) := by decide +kernel
theorem dL_act_535 : decode cL_act 535 = .ok (.ireturn, 1) := by decide +kernel
theorem dL_act_536 : decode cL_act 536 = .ok (.aload_n 1, 1) := by decide +kernel
theorem dL_act_537 : decode cL_act 537 = .ok (.getfield 74, 3) := by decide +kernel
theorem dL_act_540 : decode cL_act 540 = .ok (.istore 11, 2) := by decide +kernel
theorem dL_act_542 : decode cL_act 542 = .ok (.aload_n 1, 1) := by decide +kernel
theorem dL_act_543 : decode cL_act 543 = .ok (.iconst 1, 1) := by decide +kernel
theorem dL_act_544 : decode cL_act 544 = .ok (.iload_n 2, 1) := by decide +kernel
theorem dL_act_545 : decode cL_act 545 = .ok (.iconst 3, 1) := by decide +kernel
theorem dL_act_546 : decode cL_act 546 = .ok (.ishr, 1) := by decide +kernel
theorem dL_act_547 : decode cL_act 547 = .ok (.bipush 20, 2) := by decide +kernel
theorem dL_act_549 : decode cL_act 549 = .ok (.invokestatic 19, 3) := by decide +kernel
theorem dL_act_552 : decode cL_act 552 = .ok (.iadd, 1) := by decide +kernel
theorem dL_act_553 : decode cL_act 553 = .ok (.putfield 74, 3) := by decide +kernel
theorem dL_act_556 : decode cL_act 556 = .ok (.aload_n 0, 1) := by decide +kernel
theorem dL_act_557 : decode cL_act 557 = .ok (.aload_n 1, 1) := by decide +kernel
theorem dL_act_558 : decode cL_act 558 = .ok (.getfield 74, 3) := by decide +kernel
theorem dL_act_561 : decode cL_act 561 = .ok (.invokevirtual 77, 3) := by decide +kernel
theorem dL_act_564 : decode cL_act 564 = .ok (.iload 11, 2) := by decide +kernel
theorem dL_act_566 : decode cL_act 566 = .ok (.if_icmp .ne 7, 3) := by decide +kernel
theorem dL_act_569 : decode cL_act 569 = .ok (.iconst 1, 1) := by decide +kernel
theorem dL_act_570 : decode cL_act 570 = .ok (.goto 4, 3) := by decide +kernel
theorem dL_act_573 : decode cL_act 573 = .ok (.iconst 0, 1) := by decide +kernel
theorem dL_act_574 : decode cL_act 574 = .ok (.ireturn, 1) := by decide +kernel
theorem dL_act_575 : decode cL_act 575 = .ok (.aload 7, 2) := by decide +kernel
theorem dL_act_577 : decode cL_act 577 = .ok (.iconst 1, 1) := by decide +kernel
theorem dL_act_578 : decode cL_act 578 = .ok (.iload_n 2, 1) := by decide +kernel
theorem dL_act_579 : decode cL_act 579 = .ok (.iconst 3, 1) := by decide +kernel
theorem dL_act_580 : decode cL_act 580 = .ok (.ishr, 1) := by decide +kernel
theorem dL_act_581 : decode cL_act 581 = .ok (.bipush 99, 2) := by decide +kernel
theorem dL_act_583 : decode cL_act 583 = .ok (.invokestatic 19, 3) := by decide +kernel
theorem dL_act_586 : decode cL_act 586 = .ok (.iadd, 1) := by decide +kernel
theorem dL_act_587 : decode cL_act 587 = .ok (.invokevirtual 80, 3) := by decide +kernel
theorem dL_act_590 : decode cL_act 590 = .ok (.aload_n 0, 1) := by decide +kernel
theorem dL_act_591 : decode cL_act 591 = .ok (.iload 6, 2) := by decide +kernel
theorem dL_act_593 : decode cL_act 593 = .ok (.iconst 1, 1) := by decide +kernel
theorem dL_act_594 : decode cL_act 594 = .ok (.iload_n 2, 1) := by decide +kernel
theorem dL_act_595 : decode cL_act 595 = .ok (.iconst 3, 1) := by decide +kernel
theorem dL_act_596 : decode cL_act 596 = .ok (.ishr, 1) := by decide +kernel
theorem dL_act_597 : decode cL_act 597 = .ok (.bipush 99, 2) := by decide +kernel
theorem dL_act_599 : decode cL_act 599 = .ok (.invokestatic 19, 3) := by decide +kernel
theorem dL_act_602 : decode cL_act 602 = .ok (.iadd, 1) := by decide +kernel
theorem dL_act_603 : decode cL_act 603 = .ok (.invokevirtual 84, 3) := by decide +kernel
theorem dL_act_606 : decode cL_act 606 = .ok (.aload 7, 2) := by decide +kernel
