theorem dX9_slipOf_243 : decode cX9_slipOf 243 = .ok (.bipush 97, 2) := by decide +kernel
theorem dX9_slipOf_245 : decode cX9_slipOf 245 = .ok (.isub, 1) := by decide +kernel
theorem dX9_slipOf_246 : decode cX9_slipOf 246 = .ok (.aload_n 0, 1) := by decide +kernel
theorem dX9_slipOf_247 : decode cX9_slipOf 247 = .ok (.getfield 62, 3) := by decide +kernel
theorem dX9_slipOf_250 : decode cX9_slipOf 250 = .ok (.aload_n 0, 1) := by decide +kernel
theorem dX9_slipOf_251 : decode cX9_slipOf 251 = .ok (.getfield 172, 3) := by decide +kernel
theorem dX9_slipOf_254 : decode cX9_slipOf 254 = .ok (.iconst 1, 1) := by decide +kernel
theorem dX9_slipOf_255 : decode cX9_slipOf 255 = .ok (.isub, 1) := by decide +kernel
theorem dX9_slipOf_256 : decode cX9_slipOf 256 = .ok (.iaload, 1) := by decide +kernel
theorem dX9_slipOf_257 : decode cX9_slipOf 257 = .ok (.if_icmp .le 24, 3) := by decide +kernel
theorem dX9_slipOf_260 : decode cX9_slipOf 260 = .ok (.aload_n 0, 1) := by decide +kernel
theorem dX9_slipOf_261 : decode cX9_slipOf 261 = .ok (.getfield 62, 3) := by decide +kernel
theorem dX9_slipOf_264 : decode cX9_slipOf 264 = .ok (.aload_n 0, 1) := by decide +kernel
theorem dX9_slipOf_265 : decode cX9_slipOf 265 = .ok (.getfield 172, 3) := by decide +kernel
theorem dX9_slipOf_268 : decode cX9_slipOf 268 = .ok (.iconst 1, 1) := by decide +kernel
theorem dX9_slipOf_269 : decode cX9_slipOf 269 = .ok (.isub, 1) := by decide +kernel
theorem dX9_slipOf_270 : decode cX9_slipOf 270 = .ok (.iload_n 3, 1) := by decide +kernel
theorem dX9_slipOf_271 : decode cX9_slipOf 271 = .ok (.bipush 97, 2) := by decide +kernel
theorem dX9_slipOf_273 : decode cX9_slipOf 273 = .ok (.isub, 1) := by decide +kernel
theorem dX9_slipOf_274 : decode cX9_slipOf 274 = .ok (.iastore, 1) := by decide +kernel
theorem dX9_slipOf_275 : decode cX9_slipOf 275 = .ok (.iconst 0, 1) := by decide +kernel
theorem dX9_slipOf_276 : decode cX9_slipOf 276 = .ok (.istore 4, 2) := by decide +kernel
theorem dX9_slipOf_278 : decode cX9_slipOf 278 = .ok (.goto 76, 3) := by decide +kernel
theorem dX9_slipOf_281 : decode cX9_slipOf 281 = .ok (.iload_n 3, 1) := by decide +kernel
theorem dX9_slipOf_282 : decode cX9_slipOf 282 = .ok (.bipush 125, 2) := by decide +kernel
theorem dX9_slipOf_284 : decode cX9_slipOf 284 = .ok (.if_icmp .ne 70, 3) := by decide +kernel
theorem dX9_slipOf_287 : decode cX9_slipOf 287 = .ok (.aload_n 0, 1) := by decide +kernel
theorem dX9_slipOf_288 : decode cX9_slipOf 288 = .ok (.dup, 1) := by decide +kernel
theorem dX9_slipOf_289 : decode cX9_slipOf 289 = .ok (.getfield 172, 3) := by decide +kernel
theorem dX9_slipOf_292 : decode cX9_slipOf 292 = .ok (.iconst 1, 1) := by decide +kernel
theorem dX9_slipOf_293 : decode cX9_slipOf 293 = .ok (.isub, 1) := by decide +kernel
theorem dX9_slipOf_294 : decode cX9_slipOf 294 = .ok (.putfield 172, 3) := by decide +kernel
theorem dX9_slipOf_297 : decode cX9_slipOf 297 = .ok (.iconst 1, 1) := by decide +kernel
theorem dX9_slipOf_298 : decode cX9_slipOf 298 = .ok (.istore 5, 2) := by decide +kernel
theorem dX9_slipOf_300 : decode cX9_slipOf 300 = .ok (.goto 54, 3) := by decide +kernel
theorem dX9_slipOf_303 : decode cX9_slipOf 303 = .ok (.iload_n 1, 1) := by decide +kernel
theorem dX9_slipOf_304 : decode cX9_slipOf 304 = .ok (.iconst 3, 1) := by decide +kernel
theorem dX9_slipOf_305 : decode cX9_slipOf 305 = .ok (.if_icmp .ne 25, 3) := by decide +kernel
theorem dX9_slipOf_308 : decode cX9_slipOf 308 = .ok (.iload_n 3, 1) := by decide +kernel
theorem dX9_slipOf_309 : decode cX9_slipOf 309 = .ok (.bipush 97, 2) := by decide +kernel
theorem dX9_slipOf_311 : decode cX9_slipOf 311 = .ok (.bipush 104, 2) := by decide +kernel
theorem dX9_slipOf_313 : decode cX9_slipOf 313 = .ok (.invokestatic 84, 3) := by decide +kernel
theorem dX9_slipOf_316 : decode cX9_slipOf 316 = .ok (.ifCond .eq 7, 3) := by decide +kernel
theorem dX9_slipOf_319 : decode cX9_slipOf 319 = .ok (.iconst 0, 1) := by decide +kernel
theorem dX9_slipOf_320 : decode cX9_slipOf 320 = .ok (.goto 5, 3) := by decide +kernel
theorem dX9_slipOf_323 : decode cX9_slipOf 323 = .ok (.bipush (-6), 2) := by decide +kernel
theorem dX9_slipOf_325 : decode cX9_slipOf 325 = .ok (.istore 4, 2) := by decide +kernel
theorem dX9_slipOf_327 : decode cX9_slipOf 327 = .ok (.goto 27, 3) := by decide +kernel
theorem dX9_slipOf_330 : decode cX9_slipOf 330 = .ok (.iload_n 1, 1) := by decide +kernel
theorem dX9_slipOf_331 : decode cX9_slipOf 331 = .ok (.iconst 4, 1) := by decide +kernel
theorem dX9_slipOf_332 : decode cX9_slipOf 332 = .ok (.if_icmp .ne 22, 3) := by decide +kernel
theorem dX9_slipOf_335 : decode cX9_slipOf 335 = .ok (.iload_n 3, 1) := by decide +kernel
theorem dX9_slipOf_336 : decode cX9_slipOf 336 = .ok (.bipush 93, 2) := by decide +kernel
theorem dX9_slipOf_338 : decode cX9_slipOf 338 = .ok (.if_icmp .ne 16, 3) := by decide +kernel
theorem dX9_slipOf_341 : decode cX9_slipOf 341 = .ok (.aload_n 0, 1) := by decide +kernel
theorem dX9_slipOf_342 : decode cX9_slipOf 342 = .ok (.dup, 1) := by decide +kernel
theorem dX9_slipOf_343 : decode cX9_slipOf 343 = .ok (.getfield 172, 3) := by decide +kernel
theorem dX9_slipOf_346 : decode cX9_slipOf 346 = .ok (.iconst 1, 1) := by decide +kernel
theorem dX9_slipOf_347 : decode cX9_slipOf 347 = .ok (.isub, 1) := by decide +kernel
theorem dX9_slipOf_348 : decode cX9_slipOf 348 = .ok (.putfield 172, 3) := by decide +kernel
theorem dX9_slipOf_351 : decode cX9_slipOf 351 = .ok (.iconst 1, 1) := by decide +kernel
theorem dX9_slipOf_352 : decode cX9_slipOf 352 = .ok (.istore 5, 2) := by decide +kernel
theorem dX9_slipOf_354 : decode cX9_slipOf 354 = .ok (.iload 5, 2) := by decide +kernel
theorem dX9_slipOf_356 : decode cX9_slipOf 356 = .ok (.ifCond .eq 58, 3) := by decide +kernel
theorem dX9_slipOf_359 : decode cX9_slipOf 359 = .ok (.aload_n 0, 1) := by decide +kernel
theorem dX9_slipOf_360 : decode cX9_slipOf 360 = .ok (.getfield 172, 3) := by decide +kernel
theorem dX9_slipOf_363 : decode cX9_slipOf 363 = .ok (.ifCond .ne 8, 3) := by decide +kernel
theorem dX9_slipOf_366 : decode cX9_slipOf 366 = .ok (.bipush 6, 2) := by decide +kernel
theorem dX9_slipOf_368 : decode cX9_slipOf 368 = .ok (.goto 44, 3) := by decide +kernel
theorem dX9_slipOf_371 : decode cX9_slipOf 371 = .ok (.aload_n 0, 1) := by decide +kernel
theorem dX9_slipOf_372 : decode cX9_slipOf 372 = .ok (.getfield 59, 3) := by decide +kernel
theorem dX9_slipOf_375 : decode cX9_slipOf 375 = .ok (.aload_n 0, 1) := by decide +kernel
theorem dX9_slipOf_376 : decode cX9_slipOf 376 = .ok (.getfield 172, 3) := by decide +kernel
theorem dX9_slipOf_379 : decode cX9_slipOf 379 = .ok (.iconst 1, 1) := by decide +kernel
theorem dX9_slipOf_380 : decode cX9_slipOf 380 = .ok (.isub, 1) := by decide +kernel
theorem dX9_slipOf_381 : decode cX9_slipOf 381 = .ok (.iaload, 1) := by decide +kernel
theorem dX9_slipOf_382 : decode cX9_slipOf 382 = .ok (.bipush 123, 2) := by decide +kernel
theorem dX9_slipOf_384 : decode cX9_slipOf 384 = .ok (.if_icmp .ne 7, 3) := by decide +kernel
theorem dX9_slipOf_387 : decode cX9_slipOf 387 = .ok (.iconst 2, 1) := by decide +kernel
theorem dX9_slipOf_388 : decode cX9_slipOf 388 = .ok (.goto 24, 3) := by decide +kernel
theorem dX9_slipOf_391 : decode cX9_slipOf 391 = .ok (.aload_n 0, 1) := by decide +kernel
theorem dX9_slipOf_392 : decode cX9_slipOf 392 = .ok (.getfield 59, 3) := by decide +kernel
theorem dX9_slipOf_395 : decode cX9_slipOf 395 = .ok (.aload_n 0, 1) := by decide +kernel
theorem dX9_slipOf_396 : decode cX9_slipOf 396 = .ok (.getfield 172, 3) := by decide +kernel
theorem dX9_slipOf_399 : decode cX9_slipOf 399 = .ok (.iconst 1, 1) := by decide +kernel
theorem dX9_slipOf_400 : decode cX9_slipOf 400 = .ok (.isub, 1) := by decide +kernel
theorem dX9_slipOf_401 : decode cX9_slipOf 401 = .ok (.iaload, 1) := by decide +kernel
theorem dX9_slipOf_402 : decode cX9_slipOf 402 = .ok (.bipush 91, 2) := by decide +kernel
theorem dX9_slipOf_404 : decode cX9_slipOf 404 = .ok (.if_icmp .ne 7, 3) := by decide +kernel
theorem dX9_slipOf_407 : decode cX9_slipOf 407 = .ok (.iconst 4, 1) := by decide +kernel
theorem dX9_slipOf_408 : decode cX9_slipOf 408 = .ok (.goto 4, 3) := by decide +kernel
theorem dX9_slipOf_411 : decode cX9_slipOf 411 = .ok (.iconst 5, 1) := by decide +kernel
theorem dX9_slipOf_412 : decode cX9_slipOf 412 = .ok (.istore 4, 2) := by decide +kernel
theorem dX9_slipOf_414 : decode cX9_slipOf 414 = .ok (.iload 4, 2) := by decide +kernel
theorem dX9_slipOf_416 : decode cX9_slipOf 416 = .ok (.ifCond .ge 5, 3) := by decide +kernel
theorem dX9_slipOf_419 : decode cX9_slipOf 419 = .ok (.iload_n 2, 1) := by decide +kernel
theorem dX9_slipOf_420 : decode cX9_slipOf 420 = .ok (.ireturn, 1) := by decide +kernel
theorem dX9_slipOf_421 : decode cX9_slipOf 421 = .ok (.iload 4, 2) := by decide +kernel
theorem dX9_slipOf_423 : decode cX9_slipOf 423 = .ok (.istore_n 1, 1) := by decide +kernel
theorem dX9_slipOf_424 : decode cX9_slipOf 424 = .ok (.iinc 2 1, 3) := by decide +kernel
theorem dX9_slipOf_427 : decode cX9_slipOf 427 = .ok (.goto (-413), 3) := by decide +kernel
theorem dX9_slipOf_430 : decode cX9_slipOf 430 = .ok (.iload_n 1, 1) := by decide +kernel
theorem dX9_slipOf_431 : decode cX9_slipOf 431 = .ok (.bipush 6, 2) := by decide +kernel
theorem dX9_slipOf_433 : decode cX9_slipOf 433 = .ok (.if_icmp .ne 8, 3) := by decide +kernel
theorem dX9_slipOf_436 : decode cX9_slipOf 436 = .ok (.bipush (-6), 2) := by decide +kernel
theorem dX9_slipOf_438 : decode cX9_slipOf 438 = .ok (.goto 7, 3) := by decide +kernel
theorem dX9_slipOf_441 : decode cX9_slipOf 441 = .ok (.aload_n 0, 1) := by decide +kernel
theorem dX9_slipOf_442 : decode cX9_slipOf 442 = .ok (.getfield 88, 3) := by decide +kernel
theorem dX9_slipOf_445 : decode cX9_slipOf 445 = .ok (.ireturn, 1) := by decide +kernel
theorem dX9_slip_0 : decode cX9_slip 0 = .ok (.aload_n 0, 1) := by decide +kernel
theorem dX9_slip_1 : decode cX9_slip 1 = .ok (.invokevirtual 175, 3) := by decide +kernel
theorem dX9_slip_4 : decode cX9_slip 4 = .ok (.ireturn, 1) := by decide +kernel
theorem dX9_size_0 : decode cX9_size 0 = .ok (.aload_n 0, 1) := by decide +kernel
theorem dX9_size_1 : decode cX9_size 1 = .ok (.invokevirtual 175, 3) := by decide +kernel
theorem dX9_size_4 : decode cX9_size 4 = .ok (.ifCond .lt 8, 3) := by decide +kernel
theorem dX9_size_7 : decode cX9_size 7 = .ok (.bipush (-5), 2) := by decide +kernel
theorem dX9_size_9 : decode cX9_size 9 = .ok (.goto 7, 3) := by decide +kernel
theorem dX9_size_12 : decode cX9_size 12 = .ok (.aload_n 0, 1) := by decide +kernel
theorem dX9_size_13 : decode cX9_size 13 = .ok (.getfield 169, 3) := by decide +kernel
theorem dX9_size_16 : decode cX9_size 16 = .ok (.ireturn, 1) := by decide +kernel
theorem dX9_inner_0 : decode cX9_inner 0 = .ok (.aload_n 0, 1) := by decide +kernel
theorem dX9_inner_1 : decode cX9_inner 1 = .ok (.getfield 172, 3) := by decide +kernel
theorem dX9_inner_4 : decode cX9_inner 4 = .ok (.ifCond .ne 8, 3) := by decide +kernel
theorem dX9_inner_7 : decode cX9_inner 7 = .ok (.bipush (-6), 2) := by decide +kernel
theorem dX9_inner_9 : decode cX9_inner 9 = .ok (.goto 14, 3) := by decide +kernel
theorem dX9_inner_12 : decode cX9_inner 12 = .ok (.aload_n 0, 1) := by decide +kernel
theorem dX9_inner_13 : decode cX9_inner 13 = .ok (.getfield 65, 3) := by decide +kernel
theorem dX9_inner_16 : decode cX9_inner 16 = .ok (.aload_n 0, 1) := by decide +kernel
theorem dX9_inner_17 : decode cX9_inner 17 = .ok (.getfield 172, 3) := by decide +kernel
theorem dX9_inner_20 : decode cX9_inner 20 = .ok (.iconst 1, 1) := by decide +kernel
theorem dX9_inner_21 : decode cX9_inner 21 = .ok (.isub, 1) := by decide +kernel
theorem dX9_inner_22 : decode cX9_inner 22 = .ok (.iaload, 1) := by decide +kernel
theorem dX9_inner_23 : decode cX9_inner 23 = .ok (.istore_n 2, 1) := by decide +kernel
theorem dX9_inner_24 : decode cX9_inner 24 = .ok (.iload_n 2, 1) := by decide +kernel
theorem dX9_inner_25 : decode cX9_inner 25 = .ok (.ifCond .ge 8, 3) := by decide +kernel
theorem dX9_inner_28 : decode cX9_inner 28 = .ok (.bipush (-6), 2) := by decide +kernel
theorem dX9_inner_30 : decode cX9_inner 30 = .ok (.goto 37, 3) := by decide +kernel
theorem dX9_inner_33 : decode cX9_inner 33 = .ok (.aload_n 0, 1) := by decide +kernel
theorem dX9_inner_34 : decode cX9_inner 34 = .ok (.getfield 13, 3) := by decide +kernel
theorem dX9_inner_37 : decode cX9_inner 37 = .ok (.iload_n 2, 1) := by decide +kernel
theorem dX9_inner_38 : decode cX9_inner 38 = .ok (.iaload, 1) := by decide +kernel
theorem dX9_inner_39 : decode cX9_inner 39 = .ok (.bipush 42, 2) := by decide +kernel
theorem dX9_inner_41 : decode cX9_inner 41 = .ok (.if_icmp .ne 15, 3) := by decide +kernel
theorem dX9_inner_44 : decode cX9_inner 44 = .ok (.aload_n 0, 1) := by decide +kernel
theorem dX9_inner_45 : decode cX9_inner 45 = .ok (.getfield 16, 3) := by decide +kernel
theorem dX9_inner_48 : decode cX9_inner 48 = .ok (.bipush 8, 2) := by decide +kernel
theorem dX9_inner_50 : decode cX9_inner 50 = .ok (.iload_n 2, 1) := by decide +kernel
theorem dX9_inner_51 : decode cX9_inner 51 = .ok (.imul, 1) := by decide +kernel
theorem dX9_inner_52 : decode cX9_inner 52 = .ok (.iaload, 1) := by decide +kernel
theorem dX9_inner_53 : decode cX9_inner 53 = .ok (.goto 14, 3) := by decide +kernel
theorem dX9_inner_56 : decode cX9_inner 56 = .ok (.aload_n 0, 1) := by decide +kernel
theorem dX9_inner_57 : decode cX9_inner 57 = .ok (.getfield 16, 3) := by decide +kernel
theorem dX9_inner_60 : decode cX9_inner 60 = .ok (.bipush 8, 2) := by decide +kernel
theorem dX9_inner_62 : decode cX9_inner 62 = .ok (.iload_n 2, 1) := by decide +kernel
theorem dX9_inner_63 : decode cX9_inner 63 = .ok (.imul, 1) := by decide +kernel
theorem dX9_inner_64 : decode cX9_inner 64 = .ok (.iload_n 1, 1) := by decide +kernel
theorem dX9_inner_65 : decode cX9_inner 65 = .ok (.iadd, 1) := by decide +kernel
theorem dX9_inner_66 : decode cX9_inner 66 = .ok (.iaload, 1) := by decide +kernel
theorem dX9_inner_67 : decode cX9_inner 67 = .ok (.ireturn, 1) := by decide +kernel
theorem dX9_fits_0 : decode cX9_fits 0 = .ok (.aload_n 0, 1) := by decide +kernel
theorem dX9_fits_1 : decode cX9_fits 1 = .ok (.iload_n 1, 1) := by decide +kernel
theorem dX9_fits_2 : decode cX9_fits 2 = .ok (.invokevirtual 123, 3) := by decide +kernel
theorem dX9_fits_5 : decode cX9_fits 5 = .ok (.ifCond .ne 5, 3) := by decide +kernel
theorem dX9_fits_8 : decode cX9_fits 8 = .ok (.iconst (-1), 1) := by decide +kernel
theorem dX9_fits_9 : decode cX9_fits 9 = .ok (.ireturn, 1) := by decide +kernel
theorem dX9_fits_10 : decode cX9_fits 10 = .ok (.aload_n 0, 1) := by decide +kernel
theorem dX9_fits_11 : decode cX9_fits 11 = .ok (.invokevirtual 175, 3) := by decide +kernel
theorem dX9_fits_14 : decode cX9_fits 14 = .ok (.ifCond .lt 6, 3) := by decide +kernel
theorem dX9_fits_17 : decode cX9_fits 17 = .ok (.bipush (-5), 2) := by decide +kernel
theorem dX9_fits_19 : decode cX9_fits 19 = .ok (.ireturn, 1) := by decide +kernel
theorem dX9_fits_20 : decode cX9_fits 20 = .ok (.aload_n 0, 1) := by decide +kernel
theorem dX9_fits_21 : decode cX9_fits 21 = .ok (.iconst 0, 1) := by decide +kernel
theorem dX9_fits_22 : decode cX9_fits 22 = .ok (.putfield 172, 3) := by decide +kernel
theorem dX9_fits_25 : decode cX9_fits 25 = .ok (.iload_n 1, 1) := by decide +kernel
theorem dX9_fits_26 : decode cX9_fits 26 = .ok (.istore_n 2, 1) := by decide +kernel
theorem dX9_fits_27 : decode cX9_fits 27 = .ok (.iconst 0, 1) := by decide +kernel
theorem dX9_fits_28 : decode cX9_fits 28 = .ok (.istore_n 3, 1) := by decide +kernel
theorem dX9_fits_29 : decode cX9_fits 29 = .ok (.iload_n 3, 1) := by decide +kernel
theorem dX9_fits_30 : decode cX9_fits 30 = .ok (.aload_n 0, 1) := by decide +kernel
theorem dX9_fits_31 : decode cX9_fits 31 = .ok (.getfield 88, 3) := by decide +kernel
theorem dX9_fits_34 : decode cX9_fits 34 = .ok (.if_icmp .ge 489, 3) := by decide +kernel
theorem dX9_fits_37 : decode cX9_fits 37 = .ok (.aload_n 0, 1) := by decide +kernel
theorem dX9_fits_38 : decode cX9_fits 38 = .ok (.getfield 7, 3) := by decide +kernel
theorem dX9_fits_41 : decode cX9_fits 41 = .ok (.iload_n 3, 1) := by decide +kernel
theorem dX9_fits_42 : decode cX9_fits 42 = .ok (.iaload, 1) := by decide +kernel
theorem dX9_fits_43 : decode cX9_fits 43 = .ok (.istore 4, 2) := by decide +kernel
theorem dX9_fits_45 : decode cX9_fits 45 = .ok (.iload_n 2, 1) := by decide +kernel
theorem dX9_fits_46 : decode cX9_fits 46 = .ok (.istore 5, 2) := by decide +kernel
theorem dX9_fits_48 : decode cX9_fits 48 = .ok (.iload 5, 2) := by decide +kernel
theorem dX9_fits_50 : decode cX9_fits 50 = .ok (.ifCond .lt 10, 3) := by decide +kernel
theorem dX9_fits_53 : decode cX9_fits 53 = .ok (.iload 5, 2) := by decide +kernel
theorem dX9_fits_55 : decode cX9_fits 55 = .ok (.ldc 137, 2) := by decide +kernel
theorem dX9_fits_57 : decode cX9_fits 57 = .ok (.if_icmp .ne 8, 3) := by decide +kernel
theorem dX9_fits_60 : decode cX9_fits 60 = .ok (.bipush 46, 2) := by decide +kernel
theorem dX9_fits_62 : decode cX9_fits 62 = .ok (.goto 10, 3) := by decide +kernel
theorem dX9_fits_65 : decode cX9_fits 65 = .ok (.aload_n 0, 1) := by decide +kernel
theorem dX9_fits_66 : decode cX9_fits 66 = .ok (.getfield 13, 3) := by decide +kernel
theorem dX9_fits_69 : decode cX9_fits 69 = .ok (.iload 5, 2) := by decide +kernel
theorem dX9_fits_71 : decode cX9_fits 71 = .ok (.iaload, 1) := by decide +kernel
theorem dX9_fits_72 : decode cX9_fits 72 = .ok (.istore 6, 2) := by decide +kernel
theorem dX9_fits_74 : decode cX9_fits 74 = .ok (.iload 6, 2) := by decide +kernel
theorem dX9_fits_76 : decode cX9_fits 76 = .ok (.bipush 46, 2) := by decide +kernel
theorem dX9_fits_78 : decode cX9_fits 78 = .ok (.if_icmp .ne 7, 3) := by decide +kernel
theorem dX9_fits_81 : decode cX9_fits 81 = .ok (.iconst 1, 1) := by decide +kernel
theorem dX9_fits_82 : decode cX9_fits 82 = .ok (.goto 4, 3) := by decide +kernel
theorem dX9_fits_85 : decode cX9_fits 85 = .ok (.iconst 0, 1) := by decide +kernel
theorem dX9_fits_86 : decode cX9_fits 86 = .ok (.istore 7, 2) := by decide +kernel
theorem dX9_fits_88 : decode cX9_fits 88 = .ok (.iload 4, 2) := by decide +kernel
theorem dX9_fits_90 : decode cX9_fits 90 = .ok (.bipush 125, 2) := by decide +kernel
theorem dX9_fits_92 : decode cX9_fits 92 = .ok (.if_icmp .eq 17, 3) := by decide +kernel
theorem dX9_fits_95 : decode cX9_fits 95 = .ok (.iload 4, 2) := by decide +kernel
theorem dX9_fits_97 : decode cX9_fits 97 = .ok (.bipush 93, 2) := by decide +kernel
theorem dX9_fits_99 : decode cX9_fits 99 = .ok (.if_icmp .eq 10, 3) := by decide +kernel
theorem dX9_fits_102 : decode cX9_fits 102 = .ok (.iload 4, 2) := by decide +kernel
theorem dX9_fits_104 : decode cX9_fits 104 = .ok (.bipush 41, 2) := by decide +kernel
theorem dX9_fits_106 : decode cX9_fits 106 = .ok (.if_icmp .ne 93, 3) := by decide +kernel
theorem dX9_fits_109 : decode cX9_fits 109 = .ok (.aload_n 0, 1) := by decide +kernel
theorem dX9_fits_110 : decode cX9_fits 110 = .ok (.dup, 1) := by decide +kernel
theorem dX9_fits_111 : decode cX9_fits 111 = .ok (.getfield 172, 3) := by decide +kernel
theorem dX9_fits_114 : decode cX9_fits 114 = .ok (.iconst 1, 1) := by decide +kernel
theorem dX9_fits_115 : decode cX9_fits 115 = .ok (.isub, 1) := by decide +kernel
theorem dX9_fits_116 : decode cX9_fits 116 = .ok (.putfield 172, 3) := by decide +kernel
theorem dX9_fits_119 : decode cX9_fits 119 = .ok (.aload_n 0, 1) := by decide +kernel
theorem dX9_fits_120 : decode cX9_fits 120 = .ok (.getfield 65, 3) := by decide +kernel
theorem dX9_fits_123 : decode cX9_fits 123 = .ok (.aload_n 0, 1) := by decide +kernel
theorem dX9_fits_124 : decode cX9_fits 124 = .ok (.getfield 172, 3) := by decide +kernel
theorem dX9_fits_127 : decode cX9_fits 127 = .ok (.iaload, 1) := by decide +kernel
theorem dX9_fits_128 : decode cX9_fits 128 = .ok (.istore 8, 2) := by decide +kernel
theorem dX9_fits_130 : decode cX9_fits 130 = .ok (.iconst 0, 1) := by decide +kernel
theorem dX9_fits_131 : decode cX9_fits 131 = .ok (.istore 9, 2) := by decide +kernel
theorem dX9_fits_133 : decode cX9_fits 133 = .ok (.iload 9, 2) := by decide +kernel
theorem dX9_fits_135 : decode cX9_fits 135 = .ok (.bipush 8, 2) := by decide +kernel
theorem dX9_fits_137 : decode cX9_fits 137 = .ok (.if_icmp .ge 56, 3) := by decide +kernel
theorem dX9_fits_140 : decode cX9_fits 140 = .ok (.iload 4, 2) := by decide +kernel
theorem dX9_fits_142 : decode cX9_fits 142 = .ok (.bipush 125, 2) := by decide +kernel
theorem dX9_fits_144 : decode cX9_fits 144 = .ok (.if_icmp .ne 49, 3) := by decide +kernel
theorem dX9_fits_147 : decode cX9_fits 147 = .ok (.iload 8, 2) := by decide +kernel
theorem dX9_fits_149 : decode cX9_fits 149 = .ok (.ifCond .lt 44, 3) := by decide +kernel
theorem dX9_fits_152 : decode cX9_fits 152 = .ok (.aload_n 0, 1) := by decide +kernel
theorem dX9_fits_153 : decode cX9_fits 153 = .ok (.getfield 16, 3) := by decide +kernel
theorem dX9_fits_156 : decode cX9_fits 156 = .ok (.bipush 8, 2) := by decide +kernel
theorem dX9_fits_158 : decode cX9_fits 158 = .ok (.iload 8, 2) := by decide +kernel
theorem dX9_fits_160 : decode cX9_fits 160 = .ok (.imul, 1) := by decide +kernel
theorem dX9_fits_161 : decode cX9_fits 161 = .ok (.iload 9, 2) := by decide +kernel
theorem dX9_fits_163 : decode cX9_fits 163 = .ok (.iadd, 1) := by decide +kernel
theorem dX9_fits_164 : decode cX9_fits 164 = .ok (.iaload, 1) := by decide +kernel
theorem dX9_fits_165 : decode cX9_fits 165 = .ok (.ifCond .lt 22, 3) := by decide +kernel
theorem dX9_fits_168 : decode cX9_fits 168 = .ok (.aload_n 0, 1) := by decide +kernel
theorem dX9_fits_169 : decode cX9_fits 169 = .ok (.getfield 68, 3) := by decide +kernel
theorem dX9_fits_172 : decode cX9_fits 172 = .ok (.aload_n 0, 1) := by decide +kernel
theorem dX9_fits_173 : decode cX9_fits 173 = .ok (.getfield 172, 3) := by decide +kernel
theorem dX9_fits_176 : decode cX9_fits 176 = .ok (.iaload, 1) := by decide +kernel
theorem dX9_fits_177 : decode cX9_fits 177 = .ok (.iload 9, 2) := by decide +kernel
theorem dX9_fits_179 : decode cX9_fits 179 = .ok (.ishr, 1) := by decide +kernel
theorem dX9_fits_180 : decode cX9_fits 180 = .ok (.iconst 1, 1) := by decide +kernel
theorem dX9_fits_181 : decode cX9_fits 181 = .ok (.iand, 1) := by decide +kernel
theorem dX9_fits_182 : decode cX9_fits 182 = .ok (.ifCond .ne 5, 3) := by decide +kernel
theorem dX9_fits_185 : decode cX9_fits 185 = .ok (.iload_n 3, 1) := by decide +kernel
theorem dX9_fits_186 : decode cX9_fits 186 = .ok (.ireturn, 1) := by decide +kernel
theorem dX9_fits_187 : decode cX9_fits 187 = .ok (.iinc 9 1, 3) := by decide +kernel
theorem dX9_fits_190 : decode cX9_fits 190 = .ok (.goto (-57), 3) := by decide +kernel
theorem dX9_fits_193 : decode cX9_fits 193 = .ok (.iinc 3 1, 3) := by decide +kernel
theorem dX9_fits_196 : decode cX9_fits 196 = .ok (.goto 290, 3) := by decide +kernel
theorem dX9_fits_199 : decode cX9_fits 199 = .ok (.aload_n 0, 1) := by decide +kernel
theorem dX9_fits_200 : decode cX9_fits 200 = .ok (.getfield 172, 3) := by decide +kernel
theorem dX9_fits_203 : decode cX9_fits 203 = .ok (.ifCond .le 74, 3) := by decide +kernel
theorem dX9_fits_206 : decode cX9_fits 206 = .ok (.aload_n 0, 1) := by decide +kernel
theorem dX9_fits_207 : decode cX9_fits 207 = .ok (.getfield 59, 3) := by decide +kernel
theorem dX9_fits_210 : decode cX9_fits 210 = .ok (.aload_n 0, 1) := by decide +kernel
theorem dX9_fits_211 : decode cX9_fits 211 = .ok (.getfield 172, 3) := by decide +kernel
theorem dX9_fits_214 : decode cX9_fits 214 = .ok (.iconst 1, 1) := by decide +kernel
theorem dX9_fits_215 : decode cX9_fits 215 = .ok (.isub, 1) := by decide +kernel
theorem dX9_fits_216 : decode cX9_fits 216 = .ok (.iaload, 1) := by decide +kernel
theorem dX9_fits_217 : decode cX9_fits 217 = .ok (.bipush 123, 2) := by decide +kernel
theorem dX9_fits_219 : decode cX9_fits 219 = .ok (.if_icmp .ne 58, 3) := by decide +kernel
theorem dX9_fits_222 : decode cX9_fits 222 = .ok (.iload 4, 2) := by decide +kernel
theorem dX9_fits_224 : decode cX9_fits 224 = .ok (.bipush 97, 2) := by decide +kernel
theorem dX9_fits_226 : decode cX9_fits 226 = .ok (.bipush 104, 2) := by decide +kernel
theorem dX9_fits_228 : decode cX9_fits 228 = .ok (.invokestatic 84, 3) := by decide +kernel
theorem dX9_fits_231 : decode cX9_fits 231 = .ok (.ifCond .eq 46, 3) := by decide +kernel
theorem dX9_fits_234 : decode cX9_fits 234 = .ok (.iload_n 2, 1) := by decide +kernel
theorem dX9_fits_235 : decode cX9_fits 235 = .ok (.ldc 137, 2) := by decide +kernel
theorem dX9_fits_237 : decode cX9_fits 237 = .ok (.if_icmp .ne 40, 3) := by decide +kernel
theorem dX9_fits_240 : decode cX9_fits 240 = .ok (.aload_n 0, 1) := by decide +kernel
theorem dX9_fits_241 : decode cX9_fits 241 = .ok (.getfield 68, 3) := by decide +kernel
theorem dX9_fits_244 : decode cX9_fits 244 = .ok (.aload_n 0, 1) := by decide +kernel
theorem dX9_fits_245 : decode cX9_fits 245 = .ok (.getfield 172, 3) := by decide +kernel
theorem dX9_fits_248 : decode cX9_fits 248 = .ok (.iconst 1, 1) := by decide +kernel
theorem dX9_fits_249 : decode cX9_fits 249 = .ok (.isub, 1) := by decide +kernel
theorem dX9_fits_250 : decode cX9_fits 250 = .ok (.dup2, 1) := by decide +kernel
theorem dX9_fits_251 : decode cX9_fits 251 = .ok (.iaload, 1) := by decide +kernel
theorem dX9_fits_252 : decode cX9_fits 252 = .ok (.iconst 1, 1) := by decide +kernel
theorem dX9_fits_253 : decode cX9_fits 253 = .ok (.iload 4, 2) := by decide +kernel
theorem dX9_fits_255 : decode cX9_fits 255 = .ok (.bipush 97, 2) := by decide +kernel
theorem dX9_fits_257 : decode cX9_fits 257 = .ok (.isub, 1) := by decide +kernel
theorem dX9_fits_258 : decode cX9_fits 258 = .ok (.ishl, 1) := by decide +kernel
theorem dX9_fits_259 : decode cX9_fits 259 = .ok (.ior, 1) := by decide +kernel
theorem dX9_fits_260 : decode cX9_fits 260 = .ok (.iastore, 1) := by decide +kernel
theorem dX9_fits_261 : decode cX9_fits 261 = .ok (.aload_n 0, 1) := by decide +kernel
theorem dX9_fits_262 : decode cX9_fits 262 = .ok (.iload 4, 2) := by decide +kernel
theorem dX9_fits_264 : decode cX9_fits 264 = .ok (.bipush 97, 2) := by decide +kernel
theorem dX9_fits_266 : decode cX9_fits 266 = .ok (.isub, 1) := by decide +kernel
theorem dX9_fits_267 : decode cX9_fits 267 = .ok (.invokevirtual 178, 3) := by decide +kernel
theorem dX9_fits_270 : decode cX9_fits 270 = .ok (.istore_n 2, 1) := by decide +kernel
theorem dX9_fits_271 : decode cX9_fits 271 = .ok (.iinc 3 1, 3) := by decide +kernel
theorem dX9_fits_274 : decode cX9_fits 274 = .ok (.goto (-245), 3) := by decide +kernel
theorem dX9_fits_277 : decode cX9_fits 277 = .ok (.iload 4, 2) := by decide +kernel
theorem dX9_fits_279 : decode cX9_fits 279 = .ok (.bipush 123, 2) := by decide +kernel
theorem dX9_fits_281 : decode cX9_fits 281 = .ok (.if_icmp .eq 10, 3) := by decide +kernel
theorem dX9_fits_284 : decode cX9_fits 284 = .ok (.iload 4, 2) := by decide +kernel
theorem dX9_fits_286 : decode cX9_fits 286 = .ok (.bipush 40, 2) := by decide +kernel
theorem dX9_fits_288 : decode cX9_fits 288 = .ok (.if_icmp .ne 53, 3) := by decide +kernel
theorem dX9_fits_291 : decode cX9_fits 291 = .ok (.iload 7, 2) := by decide +kernel
theorem dX9_fits_293 : decode cX9_fits 293 = .ok (.ifCond .ne 24, 3) := by decide +kernel
theorem dX9_fits_296 : decode cX9_fits 296 = .ok (.iload 6, 2) := by decide +kernel
theorem dX9_fits_298 : decode cX9_fits 298 = .ok (.iload 4, 2) := by decide +kernel
theorem dX9_fits_300 : decode cX9_fits 300 = .ok (.bipush 123, 2) := by decide +kernel
theorem dX9_fits_302 : decode cX9_fits 302 = .ok (.if_icmp .ne 8, 3) := by decide +kernel
theorem dX9_fits_305 : decode cX9_fits 305 = .ok (.bipush 123, 2) := by decide +kernel
theorem dX9_fits_307 : decode cX9_fits 307 = .ok (.goto 5, 3) := by decide +kernel
theorem dX9_fits_310 : decode cX9_fits 310 = .ok (.bipush 42, 2) := by decide +kernel
theorem dX9_fits_312 : decode cX9_fits 312 = .ok (.if_icmp .eq 5, 3) := by decide +kernel
theorem dX9_fits_315 : decode cX9_fits 315 = .ok (.iload_n 3, 1) := by decide +kernel
theorem dX9_fits_316 : decode cX9_fits 316 = .ok (.ireturn, 1) := by decide +kernel
theorem dX9_fits_317 : decode cX9_fits 317 = .ok (.aload_n 0, 1) := by decide +kernel
theorem dX9_fits_318 : decode cX9_fits 318 = .ok (.iload 4, 2) := by decide +kernel
theorem dX9_fits_320 : decode cX9_fits 320 = .ok (.iload 7, 2) := by decide +kernel
theorem dX9_fits_322 : decode cX9_fits 322 = .ok (.ifCond .eq 8, 3) := by decide +kernel
theorem dX9_fits_325 : decode cX9_fits 325 = .ok (.bipush (-6), 2) := by decide +kernel
theorem dX9_fits_327 : decode cX9_fits 327 = .ok (.goto 5, 3) := by decide +kernel
theorem dX9_fits_330 : decode cX9_fits 330 = .ok (.iload 5, 2) := by decide +kernel
theorem dX9_fits_332 : decode cX9_fits 332 = .ok (.invokevirtual 181, 3) := by decide +kernel
theorem dX9_fits_335 : decode cX9_fits 335 = .ok (.iinc 3 1, 3) := by decide +kernel
theorem dX9_fits_338 : decode cX9_fits 338 = .ok (.goto 148, 3) := by decide +kernel
theorem dX9_fits_341 : decode cX9_fits 341 = .ok (.iload 4, 2) := by decide +kernel
theorem dX9_fits_343 : decode cX9_fits 343 = .ok (.bipush 91, 2) := by decide +kernel
theorem dX9_fits_345 : decode cX9_fits 345 = .ok (.if_icmp .ne 77, 3) := by decide +kernel
theorem dX9_fits_348 : decode cX9_fits 348 = .ok (.aload_n 0, 1) := by decide +kernel
theorem dX9_fits_349 : decode cX9_fits 349 = .ok (.getfield 7, 3) := by decide +kernel
theorem dX9_fits_352 : decode cX9_fits 352 = .ok (.iload_n 3, 1) := by decide +kernel
theorem dX9_fits_353 : decode cX9_fits 353 = .ok (.iconst 1, 1) := by decide +kernel
theorem dX9_fits_354 : decode cX9_fits 354 = .ok (.iadd, 1) := by decide +kernel
theorem dX9_fits_355 : decode cX9_fits 355 = .ok (.iaload, 1) := by decide +kernel
theorem dX9_fits_356 : decode cX9_fits 356 = .ok (.bipush 97, 2) := by decide +kernel
theorem dX9_fits_358 : decode cX9_fits 358 = .ok (.isub, 1) := by decide +kernel
theorem dX9_fits_359 : decode cX9_fits 359 = .ok (.istore 8, 2) := by decide +kernel
theorem dX9_fits_361 : decode cX9_fits 361 = .ok (.iload 7, 2) := by decide +kernel
theorem dX9_fits_363 : decode cX9_fits 363 = .ok (.ifCond .ne 28, 3) := by decide +kernel
theorem dX9_fits_366 : decode cX9_fits 366 = .ok (.iload 6, 2) := by decide +kernel
theorem dX9_fits_368 : decode cX9_fits 368 = .ok (.bipush 91, 2) := by decide +kernel
theorem dX9_fits_370 : decode cX9_fits 370 = .ok (.if_icmp .ne 19, 3) := by decide +kernel
theorem dX9_fits_373 : decode cX9_fits 373 = .ok (.aload_n 0, 1) := by decide +kernel
theorem dX9_fits_374 : decode cX9_fits 374 = .ok (.getfield 16, 3) := by decide +kernel
theorem dX9_fits_377 : decode cX9_fits 377 = .ok (.bipush 8, 2) := by decide +kernel
theorem dX9_fits_379 : decode cX9_fits 379 = .ok (.iload 5, 2) := by decide +kernel
theorem dX9_fits_381 : decode cX9_fits 381 = .ok (.imul, 1) := by decide +kernel
theorem dX9_fits_382 : decode cX9_fits 382 = .ok (.iload 8, 2) := by decide +kernel
theorem dX9_fits_384 : decode cX9_fits 384 = .ok (.iadd, 1) := by decide +kernel
theorem dX9_fits_385 : decode cX9_fits 385 = .ok (.iaload, 1) := by decide +kernel
theorem dX9_fits_386 : decode cX9_fits 386 = .ok (.ifCond .ge 5, 3) := by decide +kernel
theorem dX9_fits_389 : decode cX9_fits 389 = .ok (.iload_n 3, 1) := by decide +kernel
theorem dX9_fits_390 : decode cX9_fits 390 = .ok (.ireturn, 1) := by decide +kernel
theorem dX9_fits_391 : decode cX9_fits 391 = .ok (.aload_n 0, 1) := by decide +kernel
theorem dX9_fits_392 : decode cX9_fits 392 = .ok (.iload 4, 2) := by decide +kernel
theorem dX9_fits_394 : decode cX9_fits 394 = .ok (.iload 7, 2) := by decide +kernel
theorem dX9_fits_396 : decode cX9_fits 396 = .ok (.ifCond .eq 8, 3) := by decide +kernel
theorem dX9_fits_399 : decode cX9_fits 399 = .ok (.bipush (-6), 2) := by decide +kernel
theorem dX9_fits_401 : decode cX9_fits 401 = .ok (.goto 5, 3) := by decide +kernel
theorem dX9_fits_404 : decode cX9_fits 404 = .ok (.iload 5, 2) := by decide +kernel
theorem dX9_fits_406 : decode cX9_fits 406 = .ok (.invokevirtual 181, 3) := by decide +kernel
theorem dX9_fits_409 : decode cX9_fits 409 = .ok (.aload_n 0, 1) := by decide +kernel
theorem dX9_fits_410 : decode cX9_fits 410 = .ok (.iload 8, 2) := by decide +kernel
theorem dX9_fits_412 : decode cX9_fits 412 = .ok (.invokevirtual 178, 3) := by decide +kernel
theorem dX9_fits_415 : decode cX9_fits 415 = .ok (.istore_n 2, 1) := by decide +kernel
theorem dX9_fits_416 : decode cX9_fits 416 = .ok (.iinc 3 2, 3) := by decide +kernel
theorem dX9_fits_419 : decode cX9_fits 419 = .ok (.goto (-390), 3) := by decide +kernel
theorem dX9_fits_422 : decode cX9_fits 422 = .ok (.iload 4, 2) := by decide +kernel
theorem dX9_fits_424 : decode cX9_fits 424 = .ok (.bipush 36, 2) := by decide +kernel
theorem dX9_fits_426 : decode cX9_fits 426 = .ok (.if_icmp .ne 8, 3) := by decide +kernel
theorem dX9_fits_429 : decode cX9_fits 429 = .ok (.bipush 115, 2) := by decide +kernel
theorem dX9_fits_431 : decode cX9_fits 431 = .ok (.goto 24, 3) := by decide +kernel
theorem dX9_fits_434 : decode cX9_fits 434 = .ok (.iload 4, 2) := by decide +kernel
theorem dX9_fits_436 : decode cX9_fits 436 = .ok (.bipush 84, 2) := by decide +kernel
theorem dX9_fits_438 : decode cX9_fits 438 = .ok (.if_icmp .eq 10, 3) := by decide +kernel
theorem dX9_fits_441 : decode cX9_fits 441 = .ok (.iload 4, 2) := by decide +kernel
theorem dX9_fits_443 : decode cX9_fits 443 = .ok (.bipush 70, 2) := by decide +kernel
theorem dX9_fits_445 : decode cX9_fits 445 = .ok (.if_icmp .ne 8, 3) := by decide +kernel
theorem dX9_fits_448 : decode cX9_fits 448 = .ok (.bipush 116, 2) := by decide +kernel
theorem dX9_fits_450 : decode cX9_fits 450 = .ok (.goto 5, 3) := by decide +kernel
theorem dX9_fits_453 : decode cX9_fits 453 = .ok (.bipush 110, 2) := by decide +kernel
theorem dX9_fits_455 : decode cX9_fits 455 = .ok (.istore 8, 2) := by decide +kernel
theorem dX9_fits_457 : decode cX9_fits 457 = .ok (.iload 7, 2) := by decide +kernel
theorem dX9_fits_459 : decode cX9_fits 459 = .ok (.ifCond .ne 12, 3) := by decide +kernel
theorem dX9_fits_462 : decode cX9_fits 462 = .ok (.iload 6, 2) := by decide +kernel
theorem dX9_fits_464 : decode cX9_fits 464 = .ok (.iload 8, 2) := by decide +kernel
theorem dX9_fits_466 : decode cX9_fits 466 = .ok (.if_icmp .eq 5, 3) := by decide +kernel
theorem dX9_fits_469 : decode cX9_fits 469 = .ok (.iload_n 3, 1) := by decide +kernel
theorem dX9_fits_470 : decode cX9_fits 470 = .ok (.ireturn, 1) := by decide +kernel
theorem dX9_fits_471 : decode cX9_fits 471 = .ok (.iload_n 3, 1) := by decide +kernel
theorem dX9_fits_472 : decode cX9_fits 472 = .ok (.iload 4, 2) := by decide +kernel
