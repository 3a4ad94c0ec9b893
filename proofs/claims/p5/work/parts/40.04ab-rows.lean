theorem dX12_wordOf_305 : decode cX12_wordOf 305 = .ok (.iconst 0, 1) := by decide +kernel
theorem dX12_wordOf_306 : decode cX12_wordOf 306 = .ok (.iconst 0, 1) := by decide +kernel
theorem dX12_wordOf_307 : decode cX12_wordOf 307 = .ok (.iconst 0, 1) := by decide +kernel
theorem dX12_wordOf_308 : decode cX12_wordOf 308 = .ok (.invokestatic 58, 3) := by decide +kernel
theorem dX12_wordOf_311 : decode cX12_wordOf 311 = .ok (.lreturn, 1) := by decide +kernel
theorem dX12_wordOf_312 : decode cX12_wordOf 312 = .ok (.bipush 111, 2) := by decide +kernel
theorem dX12_wordOf_314 : decode cX12_wordOf 314 = .ok (.bipush 114, 2) := by decide +kernel
theorem dX12_wordOf_316 : decode cX12_wordOf 316 = .ok (.iconst 0, 1) := by decide +kernel
theorem dX12_wordOf_317 : decode cX12_wordOf 317 = .ok (.iconst 0, 1) := by decide +kernel
theorem dX12_wordOf_318 : decode cX12_wordOf 318 = .ok (.iconst 0, 1) := by decide +kernel
theorem dX12_wordOf_319 : decode cX12_wordOf 319 = .ok (.iconst 0, 1) := by decide +kernel
theorem dX12_wordOf_320 : decode cX12_wordOf 320 = .ok (.iconst 0, 1) := by decide +kernel
theorem dX12_wordOf_321 : decode cX12_wordOf 321 = .ok (.invokestatic 58, 3) := by decide +kernel
theorem dX12_wordOf_324 : decode cX12_wordOf 324 = .ok (.lreturn, 1) := by decide +kernel
theorem dX12_wordOf_325 : decode cX12_wordOf 325 = .ok (.bipush 97, 2) := by decide +kernel
theorem dX12_wordOf_327 : decode cX12_wordOf 327 = .ok (.bipush 110, 2) := by decide +kernel
theorem dX12_wordOf_329 : decode cX12_wordOf 329 = .ok (.bipush 100, 2) := by decide +kernel
theorem dX12_wordOf_331 : decode cX12_wordOf 331 = .ok (.iconst 0, 1) := by decide +kernel
theorem dX12_wordOf_332 : decode cX12_wordOf 332 = .ok (.iconst 0, 1) := by decide +kernel
theorem dX12_wordOf_333 : decode cX12_wordOf 333 = .ok (.iconst 0, 1) := by decide +kernel
theorem dX12_wordOf_334 : decode cX12_wordOf 334 = .ok (.iconst 0, 1) := by decide +kernel
theorem dX12_wordOf_335 : decode cX12_wordOf 335 = .ok (.invokestatic 58, 3) := by decide +kernel
theorem dX12_wordOf_338 : decode cX12_wordOf 338 = .ok (.lreturn, 1) := by decide +kernel
theorem dX12_wordOf_339 : decode cX12_wordOf 339 = .ok (.bipush 110, 2) := by decide +kernel
theorem dX12_wordOf_341 : decode cX12_wordOf 341 = .ok (.bipush 111, 2) := by decide +kernel
theorem dX12_wordOf_343 : decode cX12_wordOf 343 = .ok (.bipush 116, 2) := by decide +kernel
theorem dX12_wordOf_345 : decode cX12_wordOf 345 = .ok (.iconst 0, 1) := by decide +kernel
theorem dX12_wordOf_346 : decode cX12_wordOf 346 = .ok (.iconst 0, 1) := by decide +kernel
theorem dX12_wordOf_347 : decode cX12_wordOf 347 = .ok (.iconst 0, 1) := by decide +kernel
theorem dX12_wordOf_348 : decode cX12_wordOf 348 = .ok (.iconst 0, 1) := by decide +kernel
theorem dX12_wordOf_349 : decode cX12_wordOf 349 = .ok (.invokestatic 58, 3) := by decide +kernel
theorem dX12_wordOf_352 : decode cX12_wordOf 352 = .ok (.lreturn, 1) := by decide +kernel
theorem dX12_wordOf_353 : decode cX12_wordOf 353 = .ok (.bipush 97, 2) := by decide +kernel
theorem dX12_wordOf_355 : decode cX12_wordOf 355 = .ok (.bipush 119, 2) := by decide +kernel
theorem dX12_wordOf_357 : decode cX12_wordOf 357 = .ok (.bipush 97, 2) := by decide +kernel
theorem dX12_wordOf_359 : decode cX12_wordOf 359 = .ok (.bipush 121, 2) := by decide +kernel
theorem dX12_wordOf_361 : decode cX12_wordOf 361 = .ok (.iconst 0, 1) := by decide +kernel
theorem dX12_wordOf_362 : decode cX12_wordOf 362 = .ok (.iconst 0, 1) := by decide +kernel
theorem dX12_wordOf_363 : decode cX12_wordOf 363 = .ok (.iconst 0, 1) := by decide +kernel
theorem dX12_wordOf_364 : decode cX12_wordOf 364 = .ok (.invokestatic 58, 3) := by decide +kernel
theorem dX12_wordOf_367 : decode cX12_wordOf 367 = .ok (.lreturn, 1) := by decide +kernel
theorem dX12_wordOf_368 : decode cX12_wordOf 368 = .ok (.bipush 111, 2) := by decide +kernel
theorem dX12_wordOf_370 : decode cX12_wordOf 370 = .ok (.bipush 119, 2) := by decide +kernel
theorem dX12_wordOf_372 : decode cX12_wordOf 372 = .ok (.bipush 110, 2) := by decide +kernel
theorem dX12_wordOf_374 : decode cX12_wordOf 374 = .ok (.bipush 101, 2) := by decide +kernel
theorem dX12_wordOf_376 : decode cX12_wordOf 376 = .ok (.bipush 114, 2) := by decide +kernel
theorem dX12_wordOf_378 : decode cX12_wordOf 378 = .ok (.iconst 0, 1) := by decide +kernel
theorem dX12_wordOf_379 : decode cX12_wordOf 379 = .ok (.iconst 0, 1) := by decide +kernel
theorem dX12_wordOf_380 : decode cX12_wordOf 380 = .ok (.invokestatic 58, 3) := by decide +kernel
theorem dX12_wordOf_383 : decode cX12_wordOf 383 = .ok (.lreturn, 1) := by decide +kernel
theorem dX12_wordOf_384 : decode cX12_wordOf 384 = .ok (.bipush 109, 2) := by decide +kernel
theorem dX12_wordOf_386 : decode cX12_wordOf 386 = .ok (.bipush 101, 2) := by decide +kernel
theorem dX12_wordOf_388 : decode cX12_wordOf 388 = .ok (.bipush 101, 2) := by decide +kernel
theorem dX12_wordOf_390 : decode cX12_wordOf 390 = .ok (.bipush 116, 2) := by decide +kernel
theorem dX12_wordOf_392 : decode cX12_wordOf 392 = .ok (.bipush 115, 2) := by decide +kernel
theorem dX12_wordOf_394 : decode cX12_wordOf 394 = .ok (.iconst 0, 1) := by decide +kernel
theorem dX12_wordOf_395 : decode cX12_wordOf 395 = .ok (.iconst 0, 1) := by decide +kernel
theorem dX12_wordOf_396 : decode cX12_wordOf 396 = .ok (.invokestatic 58, 3) := by decide +kernel
theorem dX12_wordOf_399 : decode cX12_wordOf 399 = .ok (.lreturn, 1) := by decide +kernel
theorem dX12_wordOf_400 : decode cX12_wordOf 400 = .ok (.bipush 97, 2) := by decide +kernel
theorem dX12_wordOf_402 : decode cX12_wordOf 402 = .ok (.bipush 116, 2) := by decide +kernel
theorem dX12_wordOf_404 : decode cX12_wordOf 404 = .ok (.iconst 0, 1) := by decide +kernel
theorem dX12_wordOf_405 : decode cX12_wordOf 405 = .ok (.iconst 0, 1) := by decide +kernel
theorem dX12_wordOf_406 : decode cX12_wordOf 406 = .ok (.iconst 0, 1) := by decide +kernel
theorem dX12_wordOf_407 : decode cX12_wordOf 407 = .ok (.iconst 0, 1) := by decide +kernel
theorem dX12_wordOf_408 : decode cX12_wordOf 408 = .ok (.iconst 0, 1) := by decide +kernel
theorem dX12_wordOf_409 : decode cX12_wordOf 409 = .ok (.invokestatic 58, 3) := by decide +kernel
theorem dX12_wordOf_412 : decode cX12_wordOf 412 = .ok (.lreturn, 1) := by decide +kernel
theorem dX12_wordOf_413 : decode cX12_wordOf 413 = .ok (.bipush 102, 2) := by decide +kernel
theorem dX12_wordOf_415 : decode cX12_wordOf 415 = .ok (.bipush 114, 2) := by decide +kernel
theorem dX12_wordOf_417 : decode cX12_wordOf 417 = .ok (.bipush 105, 2) := by decide +kernel
theorem dX12_wordOf_419 : decode cX12_wordOf 419 = .ok (.bipush 103, 2) := by decide +kernel
theorem dX12_wordOf_421 : decode cX12_wordOf 421 = .ok (.bipush 104, 2) := by decide +kernel
theorem dX12_wordOf_423 : decode cX12_wordOf 423 = .ok (.bipush 116, 2) := by decide +kernel
theorem dX12_wordOf_425 : decode cX12_wordOf 425 = .ok (.bipush 115, 2) := by decide +kernel
theorem dX12_wordOf_427 : decode cX12_wordOf 427 = .ok (.invokestatic 58, 3) := by decide +kernel
theorem dX12_wordOf_430 : decode cX12_wordOf 430 = .ok (.lreturn, 1) := by decide +kernel
theorem dX12_wordOf_431 : decode cX12_wordOf 431 = .ok (.bipush 98, 2) := by decide +kernel
theorem dX12_wordOf_433 : decode cX12_wordOf 433 = .ok (.bipush 105, 2) := by decide +kernel
theorem dX12_wordOf_435 : decode cX12_wordOf 435 = .ok (.bipush 116, 2) := by decide +kernel
theorem dX12_wordOf_437 : decode cX12_wordOf 437 = .ok (.bipush 101, 2) := by decide +kernel
theorem dX12_wordOf_439 : decode cX12_wordOf 439 = .ok (.bipush 115, 2) := by decide +kernel
theorem dX12_wordOf_441 : decode cX12_wordOf 441 = .ok (.iconst 0, 1) := by decide +kernel
theorem dX12_wordOf_442 : decode cX12_wordOf 442 = .ok (.iconst 0, 1) := by decide +kernel
theorem dX12_wordOf_443 : decode cX12_wordOf 443 = .ok (.invokestatic 58, 3) := by decide +kernel
theorem dX12_wordOf_446 : decode cX12_wordOf 446 = .ok (.lreturn, 1) := by decide +kernel
theorem dX12_wordOf_447 : decode cX12_wordOf 447 = .ok (.bipush 103, 2) := by decide +kernel
theorem dX12_wordOf_449 : decode cX12_wordOf 449 = .ok (.bipush 111, 2) := by decide +kernel
theorem dX12_wordOf_451 : decode cX12_wordOf 451 = .ok (.bipush 111, 2) := by decide +kernel
theorem dX12_wordOf_453 : decode cX12_wordOf 453 = .ok (.bipush 100, 2) := by decide +kernel
theorem dX12_wordOf_455 : decode cX12_wordOf 455 = .ok (.iconst 0, 1) := by decide +kernel
theorem dX12_wordOf_456 : decode cX12_wordOf 456 = .ok (.iconst 0, 1) := by decide +kernel
theorem dX12_wordOf_457 : decode cX12_wordOf 457 = .ok (.iconst 0, 1) := by decide +kernel
theorem dX12_wordOf_458 : decode cX12_wordOf 458 = .ok (.invokestatic 58, 3) := by decide +kernel
theorem dX12_wordOf_461 : decode cX12_wordOf 461 = .ok (.lreturn, 1) := by decide +kernel
theorem dX12_wordOf_462 : decode cX12_wordOf 462 = .ok (.bipush 110, 2) := by decide +kernel
theorem dX12_wordOf_464 : decode cX12_wordOf 464 = .ok (.bipush 117, 2) := by decide +kernel
theorem dX12_wordOf_466 : decode cX12_wordOf 466 = .ok (.bipush 109, 2) := by decide +kernel
theorem dX12_wordOf_468 : decode cX12_wordOf 468 = .ok (.bipush 98, 2) := by decide +kernel
theorem dX12_wordOf_470 : decode cX12_wordOf 470 = .ok (.bipush 101, 2) := by decide +kernel
theorem dX12_wordOf_472 : decode cX12_wordOf 472 = .ok (.bipush 114, 2) := by decide +kernel
theorem dX12_wordOf_474 : decode cX12_wordOf 474 = .ok (.iconst 0, 1) := by decide +kernel
theorem dX12_wordOf_475 : decode cX12_wordOf 475 = .ok (.invokestatic 58, 3) := by decide +kernel
theorem dX12_wordOf_478 : decode cX12_wordOf 478 = .ok (.lreturn, 1) := by decide +kernel
theorem dX12_isWord_0 : decode cX12_isWord 0 = .ok (.aload_n 0, 1) := by decide +kernel
theorem dX12_isWord_1 : decode cX12_isWord 1 = .ok (.getfield 30, 3) := by decide +kernel
theorem dX12_isWord_4 : decode cX12_isWord 4 = .ok (.iconst 2, 1) := by decide +kernel
theorem dX12_isWord_5 : decode cX12_isWord 5 = .ok (.if_icmp .ne 19, 3) := by decide +kernel
theorem dX12_isWord_24 : decode cX12_isWord 24 = .ok (.iconst 0, 1) := by decide +kernel
theorem dX12_isWord_25 : decode cX12_isWord 25 = .ok (.ireturn, 1) := by decide +kernel
theorem dX12_isWord_8 : decode cX12_isWord 8 = .ok (.aload_n 0, 1) := by decide +kernel
theorem dX12_isWord_9 : decode cX12_isWord 9 = .ok (.getfield 43, 3) := by decide +kernel
theorem dX12_isWord_12 : decode cX12_isWord 12 = .ok (.iload_n 1, 1) := by decide +kernel
theorem dX12_isWord_13 : decode cX12_isWord 13 = .ok (.invokestatic 62, 3) := by decide +kernel
theorem dX12_isWord_16 : decode cX12_isWord 16 = .ok (.lcmp, 1) := by decide +kernel
theorem dX12_isWord_17 : decode cX12_isWord 17 = .ok (.ifCond .ne 7, 3) := by decide +kernel
theorem dX12_isWord_20 : decode cX12_isWord 20 = .ok (.iconst 1, 1) := by decide +kernel
theorem dX12_isWord_21 : decode cX12_isWord 21 = .ok (.goto 4, 3) := by decide +kernel
theorem dX12_isSign_0 : decode cX12_isSign 0 = .ok (.aload_n 0, 1) := by decide +kernel
theorem dX12_isSign_1 : decode cX12_isSign 1 = .ok (.getfield 30, 3) := by decide +kernel
theorem dX12_isSign_4 : decode cX12_isSign 4 = .ok (.iconst 4, 1) := by decide +kernel
theorem dX12_isSign_5 : decode cX12_isSign 5 = .ok (.if_icmp .ne 15, 3) := by decide +kernel
theorem dX12_isSign_20 : decode cX12_isSign 20 = .ok (.iconst 0, 1) := by decide +kernel
theorem dX12_isSign_21 : decode cX12_isSign 21 = .ok (.ireturn, 1) := by decide +kernel
theorem dX12_isSign_8 : decode cX12_isSign 8 = .ok (.aload_n 0, 1) := by decide +kernel
theorem dX12_isSign_9 : decode cX12_isSign 9 = .ok (.getfield 40, 3) := by decide +kernel
theorem dX12_isSign_12 : decode cX12_isSign 12 = .ok (.iload_n 1, 1) := by decide +kernel
theorem dX12_isSign_13 : decode cX12_isSign 13 = .ok (.if_icmp .ne 7, 3) := by decide +kernel
theorem dX12_isSign_16 : decode cX12_isSign 16 = .ok (.iconst 1, 1) := by decide +kernel
theorem dX12_isSign_17 : decode cX12_isSign 17 = .ok (.goto 4, 3) := by decide +kernel
theorem dX12_isName_0 : decode cX12_isName 0 = .ok (.aload_n 0, 1) := by decide +kernel
theorem dX12_isName_1 : decode cX12_isName 1 = .ok (.getfield 30, 3) := by decide +kernel
theorem dX12_isName_4 : decode cX12_isName 4 = .ok (.iconst 2, 1) := by decide +kernel
theorem dX12_isName_5 : decode cX12_isName 5 = .ok (.if_icmp .eq 5, 3) := by decide +kernel
theorem dX12_isName_10 : decode cX12_isName 10 = .ok (.iconst 0, 1) := by decide +kernel
theorem dX12_isName_11 : decode cX12_isName 11 = .ok (.istore_n 1, 1) := by decide +kernel
theorem dX12_isName_12 : decode cX12_isName 12 = .ok (.iload_n 1, 1) := by decide +kernel
theorem dX12_isName_13 : decode cX12_isName 13 = .ok (.bipush 23, 2) := by decide +kernel
theorem dX12_isName_15 : decode cX12_isName 15 = .ok (.if_icmp .gt 23, 3) := by decide +kernel
theorem dX12_isName_38 : decode cX12_isName 38 = .ok (.iconst 1, 1) := by decide +kernel
theorem dX12_isName_39 : decode cX12_isName 39 = .ok (.ireturn, 1) := by decide +kernel
theorem dX12_isName_18 : decode cX12_isName 18 = .ok (.aload_n 0, 1) := by decide +kernel
theorem dX12_isName_19 : decode cX12_isName 19 = .ok (.getfield 43, 3) := by decide +kernel
theorem dX12_isName_22 : decode cX12_isName 22 = .ok (.iload_n 1, 1) := by decide +kernel
theorem dX12_isName_23 : decode cX12_isName 23 = .ok (.invokestatic 62, 3) := by decide +kernel
theorem dX12_isName_26 : decode cX12_isName 26 = .ok (.lcmp, 1) := by decide +kernel
theorem dX12_isName_27 : decode cX12_isName 27 = .ok (.ifCond .ne 5, 3) := by decide +kernel
theorem dX12_isName_32 : decode cX12_isName 32 = .ok (.iinc 1 1, 3) := by decide +kernel
theorem dX12_isName_35 : decode cX12_isName 35 = .ok (.goto (-23), 3) := by decide +kernel
theorem dX12_isName_30 : decode cX12_isName 30 = .ok (.iconst 0, 1) := by decide +kernel
theorem dX12_isName_31 : decode cX12_isName 31 = .ok (.ireturn, 1) := by decide +kernel
theorem dX12_isName_8 : decode cX12_isName 8 = .ok (.iconst 0, 1) := by decide +kernel
theorem dX12_isName_9 : decode cX12_isName 9 = .ok (.ireturn, 1) := by decide +kernel
theorem dX12_bad_0 : decode cX12_bad 0 = .ok (.aload_n 0, 1) := by decide +kernel
theorem dX12_bad_1 : decode cX12_bad 1 = .ok (.aload_n 0, 1) := by decide +kernel
theorem dX12_bad_2 : decode cX12_bad 2 = .ok (.getfield 30, 3) := by decide +kernel
theorem dX12_bad_5 : decode cX12_bad 5 = .ok (.iconst 1, 1) := by decide +kernel
theorem dX12_bad_6 : decode cX12_bad 6 = .ok (.if_icmp .ne 7, 3) := by decide +kernel
theorem dX12_bad_13 : decode cX12_bad 13 = .ok (.iload_n 1, 1) := by decide +kernel
theorem dX12_bad_14 : decode cX12_bad 14 = .ok (.putfield 66, 3) := by decide +kernel
theorem dX12_bad_17 : decode cX12_bad 17 = .ok (.aload_n 0, 1) := by decide +kernel
theorem dX12_bad_18 : decode cX12_bad 18 = .ok (.aload_n 0, 1) := by decide +kernel
theorem dX12_bad_19 : decode cX12_bad 19 = .ok (.getfield 24, 3) := by decide +kernel
theorem dX12_bad_22 : decode cX12_bad 22 = .ok (.putfield 69, 3) := by decide +kernel
theorem dX12_bad_25 : decode cX12_bad 25 = .ok (.iconst 0, 1) := by decide +kernel
theorem dX12_bad_26 : decode cX12_bad 26 = .ok (.ireturn, 1) := by decide +kernel
theorem dX12_bad_9 : decode cX12_bad 9 = .ok (.iconst 1, 1) := by decide +kernel
theorem dX12_bad_10 : decode cX12_bad 10 = .ok (.goto 4, 3) := by decide +kernel
theorem dX12_readNumber_0 : decode cX12_readNumber 0 = .ok (.aload_n 0, 1) := by decide +kernel
theorem dX12_readNumber_1 : decode cX12_readNumber 1 = .ok (.getfield 30, 3) := by decide +kernel
theorem dX12_readNumber_4 : decode cX12_readNumber 4 = .ok (.iconst 3, 1) := by decide +kernel
theorem dX12_readNumber_5 : decode cX12_readNumber 5 = .ok (.if_icmp .eq 9, 3) := by decide +kernel
theorem dX12_readNumber_14 : decode cX12_readNumber 14 = .ok (.aload_n 0, 1) := by decide +kernel
theorem dX12_readNumber_15 : decode cX12_readNumber 15 = .ok (.getfield 47, 3) := by decide +kernel
theorem dX12_readNumber_18 : decode cX12_readNumber 18 = .ok (.iload_n 1, 1) := by decide +kernel
theorem dX12_readNumber_19 : decode cX12_readNumber 19 = .ok (.iload_n 2, 1) := by decide +kernel
theorem dX12_readNumber_20 : decode cX12_readNumber 20 = .ok (.invokestatic 75, 3) := by decide +kernel
theorem dX12_readNumber_23 : decode cX12_readNumber 23 = .ok (.ifCond .ne 9, 3) := by decide +kernel
theorem dX12_readNumber_32 : decode cX12_readNumber 32 = .ok (.aload_n 0, 1) := by decide +kernel
theorem dX12_readNumber_33 : decode cX12_readNumber 33 = .ok (.aload_n 0, 1) := by decide +kernel
theorem dX12_readNumber_34 : decode cX12_readNumber 34 = .ok (.getfield 47, 3) := by decide +kernel
theorem dX12_readNumber_37 : decode cX12_readNumber 37 = .ok (.putfield 79, 3) := by decide +kernel
theorem dX12_readNumber_40 : decode cX12_readNumber 40 = .ok (.aload_n 0, 1) := by decide +kernel
theorem dX12_readNumber_41 : decode cX12_readNumber 41 = .ok (.invokevirtual 82, 3) := by decide +kernel
theorem dX12_readNumber_44 : decode cX12_readNumber 44 = .ok (.iconst 1, 1) := by decide +kernel
theorem dX12_readNumber_45 : decode cX12_readNumber 45 = .ok (.ireturn, 1) := by decide +kernel
theorem dX12_readNumber_26 : decode cX12_readNumber 26 = .ok (.aload_n 0, 1) := by decide +kernel
theorem dX12_readNumber_27 : decode cX12_readNumber 27 = .ok (.iconst 2, 1) := by decide +kernel
theorem dX12_readNumber_28 : decode cX12_readNumber 28 = .ok (.invokevirtual 72, 3) := by decide +kernel
theorem dX12_readNumber_31 : decode cX12_readNumber 31 = .ok (.ireturn, 1) := by decide +kernel
theorem dX12_readNumber_8 : decode cX12_readNumber 8 = .ok (.aload_n 0, 1) := by decide +kernel
theorem dX12_readNumber_9 : decode cX12_readNumber 9 = .ok (.iconst 1, 1) := by decide +kernel
theorem dX12_readNumber_10 : decode cX12_readNumber 10 = .ok (.invokevirtual 72, 3) := by decide +kernel
theorem dX12_readNumber_13 : decode cX12_readNumber 13 = .ok (.ireturn, 1) := by decide +kernel
theorem dX12_readEnd_0 : decode cX12_readEnd 0 = .ok (.aload_n 0, 1) := by decide +kernel
theorem dX12_readEnd_1 : decode cX12_readEnd 1 = .ok (.bipush 59, 2) := by decide +kernel
theorem dX12_readEnd_3 : decode cX12_readEnd 3 = .ok (.invokevirtual 86, 3) := by decide +kernel
theorem dX12_readEnd_6 : decode cX12_readEnd 6 = .ok (.ifCond .ne 9, 3) := by decide +kernel
theorem dX12_readEnd_15 : decode cX12_readEnd 15 = .ok (.aload_n 0, 1) := by decide +kernel
theorem dX12_readEnd_16 : decode cX12_readEnd 16 = .ok (.invokevirtual 82, 3) := by decide +kernel
theorem dX12_readEnd_19 : decode cX12_readEnd 19 = .ok (.iconst 1, 1) := by decide +kernel
theorem dX12_readEnd_20 : decode cX12_readEnd 20 = .ok (.ireturn, 1) := by decide +kernel
theorem dX12_readEnd_9 : decode cX12_readEnd 9 = .ok (.aload_n 0, 1) := by decide +kernel
theorem dX12_readEnd_10 : decode cX12_readEnd 10 = .ok (.iconst 1, 1) := by decide +kernel
theorem dX12_readEnd_11 : decode cX12_readEnd 11 = .ok (.invokevirtual 72, 3) := by decide +kernel
theorem dX12_readEnd_14 : decode cX12_readEnd 14 = .ok (.ireturn, 1) := by decide +kernel
theorem dX12_take_0 : decode cX12_take 0 = .ok (.aload_n 0, 1) := by decide +kernel
theorem dX12_take_1 : decode cX12_take 1 = .ok (.getfield 11, 3) := by decide +kernel
theorem dX12_take_4 : decode cX12_take 4 = .ok (.istore_n 1, 1) := by decide +kernel
theorem dX12_take_5 : decode cX12_take 5 = .ok (.aload_n 0, 1) := by decide +kernel
theorem dX12_take_6 : decode cX12_take 6 = .ok (.iconst 0, 1) := by decide +kernel
theorem dX12_take_7 : decode cX12_take 7 = .ok (.putfield 11, 3) := by decide +kernel
theorem dX12_take_10 : decode cX12_take 10 = .ok (.iload_n 1, 1) := by decide +kernel
theorem dX12_take_11 : decode cX12_take 11 = .ok (.ireturn, 1) := by decide +kernel
theorem dX12_begin_0 : decode cX12_begin 0 = .ok (.aload_n 0, 1) := by decide +kernel
theorem dX12_begin_1 : decode cX12_begin 1 = .ok (.iconst 0, 1) := by decide +kernel
theorem dX12_begin_2 : decode cX12_begin 2 = .ok (.putfield 1, 3) := by decide +kernel
theorem dX12_begin_5 : decode cX12_begin 5 = .ok (.aload_n 0, 1) := by decide +kernel
theorem dX12_begin_6 : decode cX12_begin 6 = .ok (.aload_n 0, 1) := by decide +kernel
theorem dX12_begin_7 : decode cX12_begin 7 = .ok (.invokevirtual 89, 3) := by decide +kernel
theorem dX12_begin_10 : decode cX12_begin 10 = .ok (.putfield 18, 3) := by decide +kernel
theorem dX12_begin_13 : decode cX12_begin 13 = .ok (.aload_n 0, 1) := by decide +kernel
theorem dX12_begin_14 : decode cX12_begin 14 = .ok (.iload_n 1, 1) := by decide +kernel
theorem dX12_begin_15 : decode cX12_begin 15 = .ok (.putfield 27, 3) := by decide +kernel
theorem dX12_begin_18 : decode cX12_begin 18 = .ok (.aload_n 0, 1) := by decide +kernel
theorem dX12_begin_19 : decode cX12_begin 19 = .ok (.iconst 0, 1) := by decide +kernel
theorem dX12_begin_20 : decode cX12_begin 20 = .ok (.putfield 66, 3) := by decide +kernel
theorem dX12_begin_23 : decode cX12_begin 23 = .ok (.aload_n 0, 1) := by decide +kernel
theorem dX12_begin_24 : decode cX12_begin 24 = .ok (.iconst 0, 1) := by decide +kernel
theorem dX12_begin_25 : decode cX12_begin 25 = .ok (.putfield 21, 3) := by decide +kernel
theorem dX12_begin_28 : decode cX12_begin 28 = .ok (.aload_n 0, 1) := by decide +kernel
theorem dX12_begin_29 : decode cX12_begin 29 = .ok (.invokevirtual 82, 3) := by decide +kernel
theorem dX12_begin_32 : decode cX12_begin 32 = .ok (.return_, 1) := by decide +kernel
theorem dX12_findIn_0 : decode cX12_findIn 0 = .ok (.iconst 0, 1) := by decide +kernel
theorem dX12_findIn_1 : decode cX12_findIn 1 = .ok (.istore 5, 2) := by decide +kernel
theorem dX12_findIn_3 : decode cX12_findIn 3 = .ok (.iload 5, 2) := by decide +kernel
theorem dX12_findIn_5 : decode cX12_findIn 5 = .ok (.iload_n 2, 1) := by decide +kernel
theorem dX12_findIn_6 : decode cX12_findIn 6 = .ok (.if_icmp .ge 23, 3) := by decide +kernel
theorem dX12_findIn_29 : decode cX12_findIn 29 = .ok (.iconst (-1), 1) := by decide +kernel
theorem dX12_findIn_30 : decode cX12_findIn 30 = .ok (.ireturn, 1) := by decide +kernel
theorem dX12_findIn_9 : decode cX12_findIn 9 = .ok (.aload_n 0, 1) := by decide +kernel
theorem dX12_findIn_10 : decode cX12_findIn 10 = .ok (.iload_n 1, 1) := by decide +kernel
theorem dX12_findIn_11 : decode cX12_findIn 11 = .ok (.iload 5, 2) := by decide +kernel
theorem dX12_findIn_13 : decode cX12_findIn 13 = .ok (.iadd, 1) := by decide +kernel
theorem dX12_findIn_14 : decode cX12_findIn 14 = .ok (.laload, 1) := by decide +kernel
theorem dX12_findIn_15 : decode cX12_findIn 15 = .ok (.lload_n 3, 1) := by decide +kernel
theorem dX12_findIn_16 : decode cX12_findIn 16 = .ok (.lcmp, 1) := by decide +kernel
theorem dX12_findIn_17 : decode cX12_findIn 17 = .ok (.ifCond .ne 6, 3) := by decide +kernel
theorem dX12_findIn_23 : decode cX12_findIn 23 = .ok (.iinc 5 1, 3) := by decide +kernel
theorem dX12_findIn_26 : decode cX12_findIn 26 = .ok (.goto (-23), 3) := by decide +kernel
theorem dX12_findIn_20 : decode cX12_findIn 20 = .ok (.iload 5, 2) := by decide +kernel
theorem dX12_findIn_22 : decode cX12_findIn 22 = .ok (.ireturn, 1) := by decide +kernel
theorem dX12_readNew_0 : decode cX12_readNew 0 = .ok (.aload_n 0, 1) := by decide +kernel
theorem dX12_readNew_1 : decode cX12_readNew 1 = .ok (.invokevirtual 157, 3) := by decide +kernel
theorem dX12_readNew_4 : decode cX12_readNew 4 = .ok (.ifCond .ne 9, 3) := by decide +kernel
theorem dX12_readNew_13 : decode cX12_readNew 13 = .ok (.aload_n 0, 1) := by decide +kernel
theorem dX12_readNew_14 : decode cX12_readNew 14 = .ok (.getfield 117, 3) := by decide +kernel
theorem dX12_readNew_17 : decode cX12_readNew 17 = .ok (.iconst 0, 1) := by decide +kernel
theorem dX12_readNew_18 : decode cX12_readNew 18 = .ok (.aload_n 0, 1) := by decide +kernel
theorem dX12_readNew_19 : decode cX12_readNew 19 = .ok (.getfield 101, 3) := by decide +kernel
theorem dX12_readNew_22 : decode cX12_readNew 22 = .ok (.iconst 0, 1) := by decide +kernel
theorem dX12_readNew_23 : decode cX12_readNew 23 = .ok (.iaload, 1) := by decide +kernel
theorem dX12_readNew_24 : decode cX12_readNew 24 = .ok (.aload_n 0, 1) := by decide +kernel
theorem dX12_readNew_25 : decode cX12_readNew 25 = .ok (.getfield 43, 3) := by decide +kernel
theorem dX12_readNew_28 : decode cX12_readNew 28 = .ok (.invokestatic 161, 3) := by decide +kernel
theorem dX12_readNew_31 : decode cX12_readNew 31 = .ok (.iconst (-1), 1) := by decide +kernel
theorem dX12_readNew_32 : decode cX12_readNew 32 = .ok (.if_icmp .ne 48, 3) := by decide +kernel
theorem dX12_readNew_35 : decode cX12_readNew 35 = .ok (.aload_n 0, 1) := by decide +kernel
theorem dX12_readNew_36 : decode cX12_readNew 36 = .ok (.getfield 117, 3) := by decide +kernel
theorem dX12_readNew_39 : decode cX12_readNew 39 = .ok (.iconst 5, 1) := by decide +kernel
theorem dX12_readNew_40 : decode cX12_readNew 40 = .ok (.aload_n 0, 1) := by decide +kernel
theorem dX12_readNew_41 : decode cX12_readNew 41 = .ok (.getfield 101, 3) := by decide +kernel
theorem dX12_readNew_44 : decode cX12_readNew 44 = .ok (.iconst 1, 1) := by decide +kernel
theorem dX12_readNew_45 : decode cX12_readNew 45 = .ok (.iaload, 1) := by decide +kernel
theorem dX12_readNew_46 : decode cX12_readNew 46 = .ok (.aload_n 0, 1) := by decide +kernel
theorem dX12_readNew_47 : decode cX12_readNew 47 = .ok (.getfield 43, 3) := by decide +kernel
theorem dX12_readNew_50 : decode cX12_readNew 50 = .ok (.invokestatic 161, 3) := by decide +kernel
theorem dX12_readNew_53 : decode cX12_readNew 53 = .ok (.iconst (-1), 1) := by decide +kernel
theorem dX12_readNew_54 : decode cX12_readNew 54 = .ok (.if_icmp .ne 26, 3) := by decide +kernel
theorem dX12_readNew_57 : decode cX12_readNew 57 = .ok (.aload_n 0, 1) := by decide +kernel
theorem dX12_readNew_58 : decode cX12_readNew 58 = .ok (.getfield 117, 3) := by decide +kernel
theorem dX12_readNew_61 : decode cX12_readNew 61 = .ok (.bipush 13, 2) := by decide +kernel
theorem dX12_readNew_63 : decode cX12_readNew 63 = .ok (.aload_n 0, 1) := by decide +kernel
theorem dX12_readNew_64 : decode cX12_readNew 64 = .ok (.getfield 101, 3) := by decide +kernel
theorem dX12_readNew_67 : decode cX12_readNew 67 = .ok (.iconst 2, 1) := by decide +kernel
theorem dX12_readNew_68 : decode cX12_readNew 68 = .ok (.iaload, 1) := by decide +kernel
theorem dX12_readNew_69 : decode cX12_readNew 69 = .ok (.aload_n 0, 1) := by decide +kernel
theorem dX12_readNew_70 : decode cX12_readNew 70 = .ok (.getfield 43, 3) := by decide +kernel
theorem dX12_readNew_73 : decode cX12_readNew 73 = .ok (.invokestatic 161, 3) := by decide +kernel
theorem dX12_readNew_76 : decode cX12_readNew 76 = .ok (.iconst (-1), 1) := by decide +kernel
theorem dX12_readNew_77 : decode cX12_readNew 77 = .ok (.if_icmp .eq 9, 3) := by decide +kernel
theorem dX12_readNew_86 : decode cX12_readNew 86 = .ok (.aload_n 0, 1) := by decide +kernel
theorem dX12_readNew_87 : decode cX12_readNew 87 = .ok (.getfield 117, 3) := by decide +kernel
theorem dX12_readNew_90 : decode cX12_readNew 90 = .ok (.iload_n 1, 1) := by decide +kernel
theorem dX12_readNew_91 : decode cX12_readNew 91 = .ok (.aload_n 0, 1) := by decide +kernel
theorem dX12_readNew_92 : decode cX12_readNew 92 = .ok (.getfield 43, 3) := by decide +kernel
theorem dX12_readNew_95 : decode cX12_readNew 95 = .ok (.lastore, 1) := by decide +kernel
theorem dX12_readNew_96 : decode cX12_readNew 96 = .ok (.aload_n 0, 1) := by decide +kernel
theorem dX12_readNew_97 : decode cX12_readNew 97 = .ok (.invokevirtual 82, 3) := by decide +kernel
theorem dX12_readNew_100 : decode cX12_readNew 100 = .ok (.iconst 1, 1) := by decide +kernel
theorem dX12_readNew_101 : decode cX12_readNew 101 = .ok (.ireturn, 1) := by decide +kernel
theorem dX12_readNew_80 : decode cX12_readNew 80 = .ok (.aload_n 0, 1) := by decide +kernel
theorem dX12_readNew_81 : decode cX12_readNew 81 = .ok (.iconst 3, 1) := by decide +kernel
theorem dX12_readNew_82 : decode cX12_readNew 82 = .ok (.invokevirtual 72, 3) := by decide +kernel
theorem dX12_readNew_85 : decode cX12_readNew 85 = .ok (.ireturn, 1) := by decide +kernel
theorem dX12_readNew_7 : decode cX12_readNew 7 = .ok (.aload_n 0, 1) := by decide +kernel
theorem dX12_readNew_8 : decode cX12_readNew 8 = .ok (.iconst 1, 1) := by decide +kernel
theorem dX12_readNew_9 : decode cX12_readNew 9 = .ok (.invokevirtual 72, 3) := by decide +kernel
theorem dX12_readNew_12 : decode cX12_readNew 12 = .ok (.ireturn, 1) := by decide +kernel
theorem dX12_readOne_0 : decode cX12_readOne 0 = .ok (.aload_n 0, 1) := by decide +kernel
theorem dX12_readOne_1 : decode cX12_readOne 1 = .ok (.invokevirtual 157, 3) := by decide +kernel
theorem dX12_readOne_4 : decode cX12_readOne 4 = .ok (.ifCond .ne 9, 3) := by decide +kernel
theorem dX12_readOne_13 : decode cX12_readOne 13 = .ok (.aload_n 0, 1) := by decide +kernel
theorem dX12_readOne_14 : decode cX12_readOne 14 = .ok (.aload_n 0, 1) := by decide +kernel
theorem dX12_readOne_15 : decode cX12_readOne 15 = .ok (.getfield 117, 3) := by decide +kernel
theorem dX12_readOne_18 : decode cX12_readOne 18 = .ok (.iload_n 1, 1) := by decide +kernel
theorem dX12_readOne_19 : decode cX12_readOne 19 = .ok (.iload_n 2, 1) := by decide +kernel
theorem dX12_readOne_20 : decode cX12_readOne 20 = .ok (.aload_n 0, 1) := by decide +kernel
theorem dX12_readOne_21 : decode cX12_readOne 21 = .ok (.getfield 43, 3) := by decide +kernel
theorem dX12_readOne_24 : decode cX12_readOne 24 = .ok (.invokestatic 161, 3) := by decide +kernel
theorem dX12_readOne_27 : decode cX12_readOne 27 = .ok (.putfield 79, 3) := by decide +kernel
theorem dX12_readOne_30 : decode cX12_readOne 30 = .ok (.aload_n 0, 1) := by decide +kernel
theorem dX12_readOne_31 : decode cX12_readOne 31 = .ok (.getfield 79, 3) := by decide +kernel
theorem dX12_readOne_34 : decode cX12_readOne 34 = .ok (.iconst (-1), 1) := by decide +kernel
theorem dX12_readOne_35 : decode cX12_readOne 35 = .ok (.if_icmp .ne 9, 3) := by decide +kernel
theorem dX12_readOne_38 : decode cX12_readOne 38 = .ok (.aload_n 0, 1) := by decide +kernel
theorem dX12_readOne_39 : decode cX12_readOne 39 = .ok (.iconst 3, 1) := by decide +kernel
theorem dX12_readOne_40 : decode cX12_readOne 40 = .ok (.invokevirtual 72, 3) := by decide +kernel
theorem dX12_readOne_43 : decode cX12_readOne 43 = .ok (.ireturn, 1) := by decide +kernel
theorem dX12_readOne_44 : decode cX12_readOne 44 = .ok (.aload_n 0, 1) := by decide +kernel
theorem dX12_readOne_45 : decode cX12_readOne 45 = .ok (.invokevirtual 82, 3) := by decide +kernel
theorem dX12_readOne_48 : decode cX12_readOne 48 = .ok (.iconst 1, 1) := by decide +kernel
theorem dX12_readOne_49 : decode cX12_readOne 49 = .ok (.ireturn, 1) := by decide +kernel
theorem dX12_readOne_7 : decode cX12_readOne 7 = .ok (.aload_n 0, 1) := by decide +kernel
theorem dX12_readOne_8 : decode cX12_readOne 8 = .ok (.iconst 1, 1) := by decide +kernel
theorem dX12_readOne_9 : decode cX12_readOne 9 = .ok (.invokevirtual 72, 3) := by decide +kernel
theorem dX12_readOne_12 : decode cX12_readOne 12 = .ok (.ireturn, 1) := by decide +kernel
theorem dX12_readFirst_0 : decode cX12_readFirst 0 = .ok (.aload_n 0, 1) := by decide +kernel
theorem dX12_readFirst_1 : decode cX12_readFirst 1 = .ok (.getfield 101, 3) := by decide +kernel
theorem dX12_readFirst_4 : decode cX12_readFirst 4 = .ok (.iload_n 1, 1) := by decide +kernel
theorem dX12_readFirst_5 : decode cX12_readFirst 5 = .ok (.iaload, 1) := by decide +kernel
theorem dX12_readFirst_6 : decode cX12_readFirst 6 = .ok (.iload_n 2, 1) := by decide +kernel
theorem dX12_readFirst_7 : decode cX12_readFirst 7 = .ok (.if_icmp .ne 9, 3) := by decide +kernel
theorem dX12_readFirst_16 : decode cX12_readFirst 16 = .ok (.aload_n 0, 1) := by decide +kernel
theorem dX12_readFirst_17 : decode cX12_readFirst 17 = .ok (.invokevirtual 82, 3) := by decide +kernel
theorem dX12_readFirst_20 : decode cX12_readFirst 20 = .ok (.iconst 1, 1) := by decide +kernel
theorem dX12_readFirst_21 : decode cX12_readFirst 21 = .ok (.ireturn, 1) := by decide +kernel
theorem dX12_readFirst_10 : decode cX12_readFirst 10 = .ok (.aload_n 0, 1) := by decide +kernel
theorem dX12_readFirst_11 : decode cX12_readFirst 11 = .ok (.iconst 4, 1) := by decide +kernel
theorem dX12_readFirst_12 : decode cX12_readFirst 12 = .ok (.invokevirtual 72, 3) := by decide +kernel
theorem dX12_readFirst_15 : decode cX12_readFirst 15 = .ok (.ireturn, 1) := by decide +kernel
theorem dX12_put_0 : decode cX12_put 0 = .ok (.iload_n 2, 1) := by decide +kernel
theorem dX12_put_1 : decode cX12_put 1 = .ok (.ifCond .eq 13, 3) := by decide +kernel
theorem dX12_put_14 : decode cX12_put 14 = .ok (.iload_n 2, 1) := by decide +kernel
theorem dX12_put_15 : decode cX12_put 15 = .ok (.ireturn, 1) := by decide +kernel
theorem dX12_put_4 : decode cX12_put 4 = .ok (.aload_n 0, 1) := by decide +kernel
theorem dX12_put_5 : decode cX12_put 5 = .ok (.getfield 101, 3) := by decide +kernel
theorem dX12_put_8 : decode cX12_put 8 = .ok (.iload_n 1, 1) := by decide +kernel
theorem dX12_put_9 : decode cX12_put 9 = .ok (.aload_n 0, 1) := by decide +kernel
theorem dX12_put_10 : decode cX12_put 10 = .ok (.getfield 79, 3) := by decide +kernel
theorem dX12_put_13 : decode cX12_put 13 = .ok (.iastore, 1) := by decide +kernel
theorem dX12_readPlace_0 : decode cX12_readPlace 0 = .ok (.aload_n 0, 1) := by decide +kernel
theorem dX12_readPlace_1 : decode cX12_readPlace 1 = .ok (.iconst 0, 1) := by decide +kernel
theorem dX12_readPlace_2 : decode cX12_readPlace 2 = .ok (.iconst 5, 1) := by decide +kernel
theorem dX12_readPlace_3 : decode cX12_readPlace 3 = .ok (.invokevirtual 165, 3) := by decide +kernel
theorem dX12_readPlace_6 : decode cX12_readPlace 6 = .ok (.ifCond .eq 16, 3) := by decide +kernel
theorem dX12_readPlace_9 : decode cX12_readPlace 9 = .ok (.aload_n 0, 1) := by decide +kernel
theorem dX12_readPlace_10 : decode cX12_readPlace 10 = .ok (.aload_n 0, 1) := by decide +kernel
theorem dX12_readPlace_11 : decode cX12_readPlace 11 = .ok (.getfield 101, 3) := by decide +kernel
theorem dX12_readPlace_14 : decode cX12_readPlace 14 = .ok (.iconst 0, 1) := by decide +kernel
theorem dX12_readPlace_15 : decode cX12_readPlace 15 = .ok (.iaload, 1) := by decide +kernel
theorem dX12_readPlace_16 : decode cX12_readPlace 16 = .ok (.invokevirtual 169, 3) := by decide +kernel
theorem dX12_readPlace_19 : decode cX12_readPlace 19 = .ok (.ifCond .ne 5, 3) := by decide +kernel
theorem dX12_readPlace_24 : decode cX12_readPlace 24 = .ok (.aload_n 0, 1) := by decide +kernel
theorem dX12_readPlace_25 : decode cX12_readPlace 25 = .ok (.iconst 1, 1) := by decide +kernel
theorem dX12_readPlace_26 : decode cX12_readPlace 26 = .ok (.invokevirtual 172, 3) := by decide +kernel
theorem dX12_readPlace_29 : decode cX12_readPlace 29 = .ok (.ifCond .eq 25, 3) := by decide +kernel
theorem dX12_readPlace_32 : decode cX12_readPlace 32 = .ok (.aload_n 0, 1) := by decide +kernel
theorem dX12_readPlace_33 : decode cX12_readPlace 33 = .ok (.getfield 101, 3) := by decide +kernel
theorem dX12_readPlace_36 : decode cX12_readPlace 36 = .ok (.bipush 9, 2) := by decide +kernel
theorem dX12_readPlace_38 : decode cX12_readPlace 38 = .ok (.dup2, 1) := by decide +kernel
theorem dX12_readPlace_39 : decode cX12_readPlace 39 = .ok (.iaload, 1) := by decide +kernel
theorem dX12_readPlace_40 : decode cX12_readPlace 40 = .ok (.iconst 1, 1) := by decide +kernel
theorem dX12_readPlace_41 : decode cX12_readPlace 41 = .ok (.aload_n 0, 1) := by decide +kernel
theorem dX12_readPlace_42 : decode cX12_readPlace 42 = .ok (.getfield 101, 3) := by decide +kernel
theorem dX12_readPlace_45 : decode cX12_readPlace 45 = .ok (.iconst 0, 1) := by decide +kernel
theorem dX12_readPlace_46 : decode cX12_readPlace 46 = .ok (.iaload, 1) := by decide +kernel
theorem dX12_readPlace_47 : decode cX12_readPlace 47 = .ok (.ishl, 1) := by decide +kernel
theorem dX12_readPlace_48 : decode cX12_readPlace 48 = .ok (.ior, 1) := by decide +kernel
theorem dX12_readPlace_49 : decode cX12_readPlace 49 = .ok (.iastore, 1) := by decide +kernel
theorem dX12_readPlace_50 : decode cX12_readPlace 50 = .ok (.aload_n 0, 1) := by decide +kernel
theorem dX12_readPlace_51 : decode cX12_readPlace 51 = .ok (.invokevirtual 82, 3) := by decide +kernel
theorem dX12_readPlace_54 : decode cX12_readPlace 54 = .ok (.aload_n 0, 1) := by decide +kernel
theorem dX12_readPlace_55 : decode cX12_readPlace 55 = .ok (.getfield 101, 3) := by decide +kernel
theorem dX12_readPlace_58 : decode cX12_readPlace 58 = .ok (.iconst 0, 1) := by decide +kernel
theorem dX12_readPlace_59 : decode cX12_readPlace 59 = .ok (.dup2, 1) := by decide +kernel
theorem dX12_readPlace_60 : decode cX12_readPlace 60 = .ok (.iaload, 1) := by decide +kernel
theorem dX12_readPlace_61 : decode cX12_readPlace 61 = .ok (.iconst 1, 1) := by decide +kernel
theorem dX12_readPlace_62 : decode cX12_readPlace 62 = .ok (.iadd, 1) := by decide +kernel
theorem dX12_readPlace_63 : decode cX12_readPlace 63 = .ok (.iastore, 1) := by decide +kernel
