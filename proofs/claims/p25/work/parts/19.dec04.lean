theorem dX12_controlled_277 : decode cX12_controlled 277 = .ok (.iload_n 1, 1) := by decide +kernel
theorem dX12_controlled_278 : decode cX12_controlled 278 = .ok (.aload_n 0, 1) := by decide +kernel
theorem dX12_controlled_279 : decode cX12_controlled 279 = .ok (.getfield 263, 3) := by decide +kernel
theorem dX12_controlled_282 : decode cX12_controlled 282 = .ok (.bipush 6, 2) := by decide +kernel
theorem dX12_controlled_284 : decode cX12_controlled 284 = .ok (.invokestatic 489, 3) := by decide +kernel
theorem dX12_controlled_287 : decode cX12_controlled 287 = .ok (.iastore, 1) := by decide +kernel
theorem dX12_controlled_288 : decode cX12_controlled 288 = .ok (.aload_n 0, 1) := by decide +kernel
theorem dX12_controlled_289 : decode cX12_controlled 289 = .ok (.getfield 149, 3) := by decide +kernel
theorem dX12_controlled_292 : decode cX12_controlled 292 = .ok (.iload_n 1, 1) := by decide +kernel
theorem dX12_controlled_293 : decode cX12_controlled 293 = .ok (.aload_n 0, 1) := by decide +kernel
theorem dX12_controlled_294 : decode cX12_controlled 294 = .ok (.getfield 73, 3) := by decide +kernel
theorem dX12_controlled_297 : decode cX12_controlled 297 = .ok (.iload_n 1, 1) := by decide +kernel
theorem dX12_controlled_298 : decode cX12_controlled 298 = .ok (.laload, 1) := by decide +kernel
theorem dX12_controlled_299 : decode cX12_controlled 299 = .ok (.invokestatic 497, 3) := by decide +kernel
theorem dX12_controlled_302 : decode cX12_controlled 302 = .ok (.bastore, 1) := by decide +kernel
theorem dX12_controlled_303 : decode cX12_controlled 303 = .ok (.goto 234, 3) := by decide +kernel
theorem dX12_controlled_306 : decode cX12_controlled 306 = .ok (.aload_n 0, 1) := by decide +kernel
theorem dX12_controlled_307 : decode cX12_controlled 307 = .ok (.getfield 136, 3) := by decide +kernel
theorem dX12_controlled_310 : decode cX12_controlled 310 = .ok (.iload_n 1, 1) := by decide +kernel
theorem dX12_controlled_311 : decode cX12_controlled 311 = .ok (.aload_n 0, 1) := by decide +kernel
theorem dX12_controlled_312 : decode cX12_controlled 312 = .ok (.getfield 136, 3) := by decide +kernel
theorem dX12_controlled_315 : decode cX12_controlled 315 = .ok (.iload_n 1, 1) := by decide +kernel
theorem dX12_controlled_316 : decode cX12_controlled 316 = .ok (.iaload, 1) := by decide +kernel
theorem dX12_controlled_317 : decode cX12_controlled 317 = .ok (.iconst (-1), 1) := by decide +kernel
theorem dX12_controlled_318 : decode cX12_controlled 318 = .ok (.if_icmp .ne 16, 3) := by decide +kernel
theorem dX12_controlled_321 : decode cX12_controlled 321 = .ok (.aload_n 0, 1) := by decide +kernel
theorem dX12_controlled_322 : decode cX12_controlled 322 = .ok (.getfield 263, 3) := by decide +kernel
theorem dX12_controlled_325 : decode cX12_controlled 325 = .ok (.iconst 1, 1) := by decide +kernel
theorem dX12_controlled_326 : decode cX12_controlled 326 = .ok (.baload, 1) := by decide +kernel
theorem dX12_controlled_327 : decode cX12_controlled 327 = .ok (.sipush 255, 3) := by decide +kernel
theorem dX12_controlled_330 : decode cX12_controlled 330 = .ok (.iand, 1) := by decide +kernel
theorem dX12_controlled_331 : decode cX12_controlled 331 = .ok (.goto 9, 3) := by decide +kernel
theorem dX12_controlled_334 : decode cX12_controlled 334 = .ok (.aload_n 0, 1) := by decide +kernel
theorem dX12_controlled_335 : decode cX12_controlled 335 = .ok (.getfield 136, 3) := by decide +kernel
theorem dX12_controlled_338 : decode cX12_controlled 338 = .ok (.iload_n 1, 1) := by decide +kernel
theorem dX12_controlled_339 : decode cX12_controlled 339 = .ok (.iaload, 1) := by decide +kernel
theorem dX12_controlled_340 : decode cX12_controlled 340 = .ok (.iastore, 1) := by decide +kernel
theorem dX12_controlled_341 : decode cX12_controlled 341 = .ok (.goto 196, 3) := by decide +kernel
theorem dX12_controlled_344 : decode cX12_controlled 344 = .ok (.aload_n 0, 1) := by decide +kernel
theorem dX12_controlled_345 : decode cX12_controlled 345 = .ok (.getfield 239, 3) := by decide +kernel
theorem dX12_controlled_348 : decode cX12_controlled 348 = .ok (.iload_n 1, 1) := by decide +kernel
theorem dX12_controlled_349 : decode cX12_controlled 349 = .ok (.baload, 1) := by decide +kernel
theorem dX12_controlled_350 : decode cX12_controlled 350 = .ok (.ifCond .ne 187, 3) := by decide +kernel
theorem dX12_controlled_353 : decode cX12_controlled 353 = .ok (.aload_n 0, 1) := by decide +kernel
theorem dX12_controlled_354 : decode cX12_controlled 354 = .ok (.iload_n 1, 1) := by decide +kernel
theorem dX12_controlled_355 : decode cX12_controlled 355 = .ok (.iload_n 3, 1) := by decide +kernel
theorem dX12_controlled_356 : decode cX12_controlled 356 = .ok (.invokevirtual 501, 3) := by decide +kernel
theorem dX12_controlled_359 : decode cX12_controlled 359 = .ok (.goto 178, 3) := by decide +kernel
theorem dX12_controlled_362 : decode cX12_controlled 362 = .ok (.aload_n 0, 1) := by decide +kernel
theorem dX12_controlled_363 : decode cX12_controlled 363 = .ok (.iload_n 1, 1) := by decide +kernel
theorem dX12_controlled_364 : decode cX12_controlled 364 = .ok (.bipush 19, 2) := by decide +kernel
theorem dX12_controlled_366 : decode cX12_controlled 366 = .ok (.aload_n 0, 1) := by decide +kernel
theorem dX12_controlled_367 : decode cX12_controlled 367 = .ok (.getfield 263, 3) := by decide +kernel
theorem dX12_controlled_370 : decode cX12_controlled 370 = .ok (.iconst 1, 1) := by decide +kernel
theorem dX12_controlled_371 : decode cX12_controlled 371 = .ok (.baload, 1) := by decide +kernel
theorem dX12_controlled_372 : decode cX12_controlled 372 = .ok (.sipush 255, 3) := by decide +kernel
theorem dX12_controlled_375 : decode cX12_controlled 375 = .ok (.iand, 1) := by decide +kernel
theorem dX12_controlled_376 : decode cX12_controlled 376 = .ok (.iconst 0, 1) := by decide +kernel
theorem dX12_controlled_377 : decode cX12_controlled 377 = .ok (.iconst 0, 1) := by decide +kernel
theorem dX12_controlled_378 : decode cX12_controlled 378 = .ok (.invokevirtual 504, 3) := by decide +kernel
theorem dX12_controlled_381 : decode cX12_controlled 381 = .ok (.goto 156, 3) := by decide +kernel
theorem dX12_controlled_384 : decode cX12_controlled 384 = .ok (.aload_n 0, 1) := by decide +kernel
theorem dX12_controlled_385 : decode cX12_controlled 385 = .ok (.getfield 260, 3) := by decide +kernel
theorem dX12_controlled_388 : decode cX12_controlled 388 = .ok (.iconst 0, 1) := by decide +kernel
theorem dX12_controlled_389 : decode cX12_controlled 389 = .ok (.bipush 9, 2) := by decide +kernel
theorem dX12_controlled_391 : decode cX12_controlled 391 = .ok (.bastore, 1) := by decide +kernel
theorem dX12_controlled_392 : decode cX12_controlled 392 = .ok (.aload_n 0, 1) := by decide +kernel
theorem dX12_controlled_393 : decode cX12_controlled 393 = .ok (.getfield 260, 3) := by decide +kernel
theorem dX12_controlled_396 : decode cX12_controlled 396 = .ok (.iconst 1, 1) := by decide +kernel
theorem dX12_controlled_397 : decode cX12_controlled 397 = .ok (.aload_n 0, 1) := by decide +kernel
theorem dX12_controlled_398 : decode cX12_controlled 398 = .ok (.getfield 76, 3) := by decide +kernel
theorem dX12_controlled_401 : decode cX12_controlled 401 = .ok (.iload_n 1, 1) := by decide +kernel
theorem dX12_controlled_402 : decode cX12_controlled 402 = .ok (.laload, 1) := by decide +kernel
theorem dX12_controlled_403 : decode cX12_controlled 403 = .ok (.bipush 8, 2) := by decide +kernel
theorem dX12_controlled_405 : decode cX12_controlled 405 = .ok (.invokestatic 432, 3) := by decide +kernel
theorem dX12_controlled_408 : decode cX12_controlled 408 = .ok (.aload_n 0, 1) := by decide +kernel
theorem dX12_controlled_409 : decode cX12_controlled 409 = .ok (.iload_n 1, 1) := by decide +kernel
theorem dX12_controlled_410 : decode cX12_controlled 410 = .ok (.aload_n 0, 1) := by decide +kernel
theorem dX12_controlled_411 : decode cX12_controlled 411 = .ok (.getfield 260, 3) := by decide +kernel
theorem dX12_controlled_414 : decode cX12_controlled 414 = .ok (.bipush 9, 2) := by decide +kernel
theorem dX12_controlled_416 : decode cX12_controlled 416 = .ok (.invokevirtual 436, 3) := by decide +kernel
theorem dX12_controlled_419 : decode cX12_controlled 419 = .ok (.goto 118, 3) := by decide +kernel
theorem dX12_controlled_422 : decode cX12_controlled 422 = .ok (.aload_n 0, 1) := by decide +kernel
theorem dX12_controlled_423 : decode cX12_controlled 423 = .ok (.iload_n 1, 1) := by decide +kernel
theorem dX12_controlled_424 : decode cX12_controlled 424 = .ok (.bipush 15, 2) := by decide +kernel
theorem dX12_controlled_426 : decode cX12_controlled 426 = .ok (.iconst 0, 1) := by decide +kernel
theorem dX12_controlled_427 : decode cX12_controlled 427 = .ok (.iconst 0, 1) := by decide +kernel
theorem dX12_controlled_428 : decode cX12_controlled 428 = .ok (.iconst 0, 1) := by decide +kernel
theorem dX12_controlled_429 : decode cX12_controlled 429 = .ok (.aload_n 0, 1) := by decide +kernel
theorem dX12_controlled_430 : decode cX12_controlled 430 = .ok (.getfield 263, 3) := by decide +kernel
theorem dX12_controlled_433 : decode cX12_controlled 433 = .ok (.iconst 1, 1) := by decide +kernel
theorem dX12_controlled_434 : decode cX12_controlled 434 = .ok (.bipush 8, 2) := by decide +kernel
theorem dX12_controlled_436 : decode cX12_controlled 436 = .ok (.invokevirtual 409, 3) := by decide +kernel
theorem dX12_controlled_439 : decode cX12_controlled 439 = .ok (.goto 98, 3) := by decide +kernel
theorem dX12_controlled_442 : decode cX12_controlled 442 = .ok (.aload_n 0, 1) := by decide +kernel
theorem dX12_controlled_443 : decode cX12_controlled 443 = .ok (.iload_n 1, 1) := by decide +kernel
theorem dX12_controlled_444 : decode cX12_controlled 444 = .ok (.bipush 14, 2) := by decide +kernel
theorem dX12_controlled_446 : decode cX12_controlled 446 = .ok (.aload_n 0, 1) := by decide +kernel
theorem dX12_controlled_447 : decode cX12_controlled 447 = .ok (.getfield 263, 3) := by decide +kernel
theorem dX12_controlled_450 : decode cX12_controlled 450 = .ok (.iconst 1, 1) := by decide +kernel
theorem dX12_controlled_451 : decode cX12_controlled 451 = .ok (.baload, 1) := by decide +kernel
theorem dX12_controlled_452 : decode cX12_controlled 452 = .ok (.sipush 255, 3) := by decide +kernel
theorem dX12_controlled_455 : decode cX12_controlled 455 = .ok (.iand, 1) := by decide +kernel
theorem dX12_controlled_456 : decode cX12_controlled 456 = .ok (.aload_n 0, 1) := by decide +kernel
theorem dX12_controlled_457 : decode cX12_controlled 457 = .ok (.getfield 263, 3) := by decide +kernel
theorem dX12_controlled_460 : decode cX12_controlled 460 = .ok (.iconst 2, 1) := by decide +kernel
theorem dX12_controlled_461 : decode cX12_controlled 461 = .ok (.invokestatic 489, 3) := by decide +kernel
theorem dX12_controlled_464 : decode cX12_controlled 464 = .ok (.aload_n 0, 1) := by decide +kernel
theorem dX12_controlled_465 : decode cX12_controlled 465 = .ok (.getfield 263, 3) := by decide +kernel
theorem dX12_controlled_468 : decode cX12_controlled 468 = .ok (.iconst 4, 1) := by decide +kernel
theorem dX12_controlled_469 : decode cX12_controlled 469 = .ok (.invokestatic 489, 3) := by decide +kernel
theorem dX12_controlled_472 : decode cX12_controlled 472 = .ok (.invokevirtual 504, 3) := by decide +kernel
theorem dX12_controlled_475 : decode cX12_controlled 475 = .ok (.aload_n 0, 1) := by decide +kernel
theorem dX12_controlled_476 : decode cX12_controlled 476 = .ok (.iload_n 1, 1) := by decide +kernel
theorem dX12_controlled_477 : decode cX12_controlled 477 = .ok (.invokevirtual 507, 3) := by decide +kernel
theorem dX12_controlled_480 : decode cX12_controlled 480 = .ok (.goto 57, 3) := by decide +kernel
theorem dX12_controlled_483 : decode cX12_controlled 483 = .ok (.aload_n 0, 1) := by decide +kernel
theorem dX12_controlled_484 : decode cX12_controlled 484 = .ok (.getfield 227, 3) := by decide +kernel
theorem dX12_controlled_487 : decode cX12_controlled 487 = .ok (.iload_n 1, 1) := by decide +kernel
theorem dX12_controlled_488 : decode cX12_controlled 488 = .ok (.baload, 1) := by decide +kernel
theorem dX12_controlled_489 : decode cX12_controlled 489 = .ok (.ifCond .eq 48, 3) := by decide +kernel
theorem dX12_controlled_492 : decode cX12_controlled 492 = .ok (.aload_n 0, 1) := by decide +kernel
theorem dX12_controlled_493 : decode cX12_controlled 493 = .ok (.getfield 239, 3) := by decide +kernel
theorem dX12_controlled_496 : decode cX12_controlled 496 = .ok (.iload_n 1, 1) := by decide +kernel
theorem dX12_controlled_497 : decode cX12_controlled 497 = .ok (.baload, 1) := by decide +kernel
theorem dX12_controlled_498 : decode cX12_controlled 498 = .ok (.ifCond .eq 6, 3) := by decide +kernel
theorem dX12_controlled_501 : decode cX12_controlled 501 = .ok (.goto 36, 3) := by decide +kernel
theorem dX12_controlled_504 : decode cX12_controlled 504 = .ok (.aload_n 0, 1) := by decide +kernel
theorem dX12_controlled_505 : decode cX12_controlled 505 = .ok (.getfield 227, 3) := by decide +kernel
theorem dX12_controlled_508 : decode cX12_controlled 508 = .ok (.iload_n 1, 1) := by decide +kernel
theorem dX12_controlled_509 : decode cX12_controlled 509 = .ok (.iconst 0, 1) := by decide +kernel
theorem dX12_controlled_510 : decode cX12_controlled 510 = .ok (.bastore, 1) := by decide +kernel
theorem dX12_controlled_511 : decode cX12_controlled 511 = .ok (.aload_n 0, 1) := by decide +kernel
theorem dX12_controlled_512 : decode cX12_controlled 512 = .ok (.getfield 224, 3) := by decide +kernel
theorem dX12_controlled_515 : decode cX12_controlled 515 = .ok (.iload_n 1, 1) := by decide +kernel
theorem dX12_controlled_516 : decode cX12_controlled 516 = .ok (.iconst 0, 1) := by decide +kernel
theorem dX12_controlled_517 : decode cX12_controlled 517 = .ok (.bastore, 1) := by decide +kernel
theorem dX12_controlled_518 : decode cX12_controlled 518 = .ok (.aload_n 0, 1) := by decide +kernel
theorem dX12_controlled_519 : decode cX12_controlled 519 = .ok (.iload_n 1, 1) := by decide +kernel
theorem dX12_controlled_520 : decode cX12_controlled 520 = .ok (.bipush 13, 2) := by decide +kernel
theorem dX12_controlled_522 : decode cX12_controlled 522 = .ok (.aload_n 0, 1) := by decide +kernel
theorem dX12_controlled_523 : decode cX12_controlled 523 = .ok (.getfield 263, 3) := by decide +kernel
theorem dX12_controlled_526 : decode cX12_controlled 526 = .ok (.iconst 1, 1) := by decide +kernel
theorem dX12_controlled_527 : decode cX12_controlled 527 = .ok (.baload, 1) := by decide +kernel
theorem dX12_controlled_528 : decode cX12_controlled 528 = .ok (.sipush 255, 3) := by decide +kernel
theorem dX12_controlled_531 : decode cX12_controlled 531 = .ok (.iand, 1) := by decide +kernel
theorem dX12_controlled_532 : decode cX12_controlled 532 = .ok (.iconst 0, 1) := by decide +kernel
theorem dX12_controlled_533 : decode cX12_controlled 533 = .ok (.iconst 0, 1) := by decide +kernel
theorem dX12_controlled_534 : decode cX12_controlled 534 = .ok (.invokevirtual 504, 3) := by decide +kernel
theorem dX12_controlled_537 : decode cX12_controlled 537 = .ok (.return_, 1) := by decide +kernel
theorem dX12_version_0 : decode cX12_version 0 = .ok (.aload_n 0, 1) := by decide +kernel
theorem dX12_version_1 : decode cX12_version 1 = .ok (.getfield 248, 3) := by decide +kernel
theorem dX12_version_4 : decode cX12_version 4 = .ok (.iload_n 1, 1) := by decide +kernel
theorem dX12_version_5 : decode cX12_version 5 = .ok (.baload, 1) := by decide +kernel
theorem dX12_version_6 : decode cX12_version 6 = .ok (.ifCond .eq 4, 3) := by decide +kernel
theorem dX12_version_9 : decode cX12_version 9 = .ok (.return_, 1) := by decide +kernel
theorem dX12_version_10 : decode cX12_version 10 = .ok (.aload_n 0, 1) := by decide +kernel
theorem dX12_version_11 : decode cX12_version 11 = .ok (.getfield 248, 3) := by decide +kernel
theorem dX12_version_14 : decode cX12_version 14 = .ok (.iload_n 1, 1) := by decide +kernel
theorem dX12_version_15 : decode cX12_version 15 = .ok (.iconst 1, 1) := by decide +kernel
theorem dX12_version_16 : decode cX12_version 16 = .ok (.bastore, 1) := by decide +kernel
theorem dX12_version_17 : decode cX12_version 17 = .ok (.aload_n 0, 1) := by decide +kernel
theorem dX12_version_18 : decode cX12_version 18 = .ok (.getfield 260, 3) := by decide +kernel
theorem dX12_version_21 : decode cX12_version 21 = .ok (.iconst 0, 1) := by decide +kernel
theorem dX12_version_22 : decode cX12_version 22 = .ok (.bipush 12, 2) := by decide +kernel
theorem dX12_version_24 : decode cX12_version 24 = .ok (.bastore, 1) := by decide +kernel
theorem dX12_version_25 : decode cX12_version 25 = .ok (.aload_n 0, 1) := by decide +kernel
theorem dX12_version_26 : decode cX12_version 26 = .ok (.getfield 260, 3) := by decide +kernel
theorem dX12_version_29 : decode cX12_version 29 = .ok (.iconst 1, 1) := by decide +kernel
theorem dX12_version_30 : decode cX12_version 30 = .ok (.bipush 9, 2) := by decide +kernel
theorem dX12_version_32 : decode cX12_version 32 = .ok (.bastore, 1) := by decide +kernel
theorem dX12_version_33 : decode cX12_version 33 = .ok (.aload_n 0, 1) := by decide +kernel
theorem dX12_version_34 : decode cX12_version 34 = .ok (.getfield 260, 3) := by decide +kernel
theorem dX12_version_37 : decode cX12_version 37 = .ok (.iconst 2, 1) := by decide +kernel
theorem dX12_version_38 : decode cX12_version 38 = .ok (.lconst 1, 1) := by decide +kernel
theorem dX12_version_39 : decode cX12_version 39 = .ok (.iconst 2, 1) := by decide +kernel
theorem dX12_version_40 : decode cX12_version 40 = .ok (.invokestatic 432, 3) := by decide +kernel
theorem dX12_version_43 : decode cX12_version 43 = .ok (.aload_n 0, 1) := by decide +kernel
theorem dX12_version_44 : decode cX12_version 44 = .ok (.getfield 260, 3) := by decide +kernel
theorem dX12_version_47 : decode cX12_version 47 = .ok (.iconst 4, 1) := by decide +kernel
theorem dX12_version_48 : decode cX12_version 48 = .ok (.ldc2_w 510, 3) := by decide +kernel
theorem dX12_version_51 : decode cX12_version 51 = .ok (.iconst 2, 1) := by decide +kernel
theorem dX12_version_52 : decode cX12_version 52 = .ok (.invokestatic 432, 3) := by decide +kernel
theorem dX12_version_55 : decode cX12_version 55 = .ok (.aload_n 0, 1) := by decide +kernel
theorem dX12_version_56 : decode cX12_version 56 = .ok (.iload_n 1, 1) := by decide +kernel
theorem dX12_version_57 : decode cX12_version 57 = .ok (.aload_n 0, 1) := by decide +kernel
theorem dX12_version_58 : decode cX12_version 58 = .ok (.getfield 260, 3) := by decide +kernel
theorem dX12_version_61 : decode cX12_version 61 = .ok (.bipush 6, 2) := by decide +kernel
theorem dX12_version_63 : decode cX12_version 63 = .ok (.invokevirtual 436, 3) := by decide +kernel
theorem dX12_version_66 : decode cX12_version 66 = .ok (.return_, 1) := by decide +kernel
theorem dX12_ciphers_0 : decode cX12_ciphers 0 = .ok (.iload_n 2, 1) := by decide +kernel
theorem dX12_ciphers_1 : decode cX12_ciphers 1 = .ok (.iconst 3, 1) := by decide +kernel
theorem dX12_ciphers_2 : decode cX12_ciphers 2 = .ok (.if_icmp .ne 58, 3) := by decide +kernel
theorem dX12_ciphers_5 : decode cX12_ciphers 5 = .ok (.aload_n 0, 1) := by decide +kernel
theorem dX12_ciphers_6 : decode cX12_ciphers 6 = .ok (.getfield 245, 3) := by decide +kernel
theorem dX12_ciphers_9 : decode cX12_ciphers 9 = .ok (.iload_n 1, 1) := by decide +kernel
theorem dX12_ciphers_10 : decode cX12_ciphers 10 = .ok (.baload, 1) := by decide +kernel
theorem dX12_ciphers_11 : decode cX12_ciphers 11 = .ok (.ifCond .ne 14, 3) := by decide +kernel
theorem dX12_ciphers_14 : decode cX12_ciphers 14 = .ok (.aload_n 0, 1) := by decide +kernel
theorem dX12_ciphers_15 : decode cX12_ciphers 15 = .ok (.iload_n 1, 1) := by decide +kernel
theorem dX12_ciphers_16 : decode cX12_ciphers 16 = .ok (.bipush 13, 2) := by decide +kernel
theorem dX12_ciphers_18 : decode cX12_ciphers 18 = .ok (.bipush 6, 2) := by decide +kernel
theorem dX12_ciphers_20 : decode cX12_ciphers 20 = .ok (.iconst 1, 1) := by decide +kernel
theorem dX12_ciphers_21 : decode cX12_ciphers 21 = .ok (.invokevirtual 486, 3) := by decide +kernel
theorem dX12_ciphers_24 : decode cX12_ciphers 24 = .ok (.return_, 1) := by decide +kernel
theorem dX12_ciphers_25 : decode cX12_ciphers 25 = .ok (.aload_n 0, 1) := by decide +kernel
theorem dX12_ciphers_26 : decode cX12_ciphers 26 = .ok (.getfield 224, 3) := by decide +kernel
theorem dX12_ciphers_29 : decode cX12_ciphers 29 = .ok (.iload_n 1, 1) := by decide +kernel
theorem dX12_ciphers_30 : decode cX12_ciphers 30 = .ok (.iconst 1, 1) := by decide +kernel
theorem dX12_ciphers_31 : decode cX12_ciphers 31 = .ok (.bastore, 1) := by decide +kernel
theorem dX12_ciphers_32 : decode cX12_ciphers 32 = .ok (.aload_n 0, 1) := by decide +kernel
theorem dX12_ciphers_33 : decode cX12_ciphers 33 = .ok (.iload_n 1, 1) := by decide +kernel
theorem dX12_ciphers_34 : decode cX12_ciphers 34 = .ok (.invokevirtual 512, 3) := by decide +kernel
theorem dX12_ciphers_37 : decode cX12_ciphers 37 = .ok (.aload_n 0, 1) := by decide +kernel
theorem dX12_ciphers_38 : decode cX12_ciphers 38 = .ok (.iload_n 1, 1) := by decide +kernel
theorem dX12_ciphers_39 : decode cX12_ciphers 39 = .ok (.iconst 0, 1) := by decide +kernel
theorem dX12_ciphers_40 : decode cX12_ciphers 40 = .ok (.invokevirtual 515, 3) := by decide +kernel
theorem dX12_ciphers_43 : decode cX12_ciphers 43 = .ok (.aload_n 0, 1) := by decide +kernel
theorem dX12_ciphers_44 : decode cX12_ciphers 44 = .ok (.iload_n 1, 1) := by decide +kernel
theorem dX12_ciphers_45 : decode cX12_ciphers 45 = .ok (.iconst 4, 1) := by decide +kernel
theorem dX12_ciphers_46 : decode cX12_ciphers 46 = .ok (.invokevirtual 519, 3) := by decide +kernel
theorem dX12_ciphers_49 : decode cX12_ciphers 49 = .ok (.aload_n 0, 1) := by decide +kernel
theorem dX12_ciphers_50 : decode cX12_ciphers 50 = .ok (.iload_n 1, 1) := by decide +kernel
theorem dX12_ciphers_51 : decode cX12_ciphers 51 = .ok (.iconst 5, 1) := by decide +kernel
theorem dX12_ciphers_52 : decode cX12_ciphers 52 = .ok (.iconst 0, 1) := by decide +kernel
theorem dX12_ciphers_53 : decode cX12_ciphers 53 = .ok (.iconst 0, 1) := by decide +kernel
theorem dX12_ciphers_54 : decode cX12_ciphers 54 = .ok (.invokevirtual 486, 3) := by decide +kernel
theorem dX12_ciphers_57 : decode cX12_ciphers 57 = .ok (.goto 155, 3) := by decide +kernel
theorem dX12_ciphers_60 : decode cX12_ciphers 60 = .ok (.iload_n 2, 1) := by decide +kernel
theorem dX12_ciphers_61 : decode cX12_ciphers 61 = .ok (.iconst 4, 1) := by decide +kernel
theorem dX12_ciphers_62 : decode cX12_ciphers 62 = .ok (.if_icmp .ne 29, 3) := by decide +kernel
theorem dX12_ciphers_65 : decode cX12_ciphers 65 = .ok (.aload_n 0, 1) := by decide +kernel
theorem dX12_ciphers_66 : decode cX12_ciphers 66 = .ok (.getfield 227, 3) := by decide +kernel
theorem dX12_ciphers_69 : decode cX12_ciphers 69 = .ok (.iload_n 1, 1) := by decide +kernel
theorem dX12_ciphers_70 : decode cX12_ciphers 70 = .ok (.baload, 1) := by decide +kernel
theorem dX12_ciphers_71 : decode cX12_ciphers 71 = .ok (.ifCond .ne 4, 3) := by decide +kernel
theorem dX12_ciphers_74 : decode cX12_ciphers 74 = .ok (.return_, 1) := by decide +kernel
theorem dX12_ciphers_75 : decode cX12_ciphers 75 = .ok (.aload_n 0, 1) := by decide +kernel
theorem dX12_ciphers_76 : decode cX12_ciphers 76 = .ok (.iload_n 1, 1) := by decide +kernel
theorem dX12_ciphers_77 : decode cX12_ciphers 77 = .ok (.iconst 1, 1) := by decide +kernel
theorem dX12_ciphers_78 : decode cX12_ciphers 78 = .ok (.invokevirtual 515, 3) := by decide +kernel
theorem dX12_ciphers_81 : decode cX12_ciphers 81 = .ok (.aload_n 0, 1) := by decide +kernel
theorem dX12_ciphers_82 : decode cX12_ciphers 82 = .ok (.getfield 230, 3) := by decide +kernel
theorem dX12_ciphers_85 : decode cX12_ciphers 85 = .ok (.iload_n 1, 1) := by decide +kernel
theorem dX12_ciphers_86 : decode cX12_ciphers 86 = .ok (.iconst 1, 1) := by decide +kernel
theorem dX12_ciphers_87 : decode cX12_ciphers 87 = .ok (.bastore, 1) := by decide +kernel
theorem dX12_ciphers_88 : decode cX12_ciphers 88 = .ok (.goto 124, 3) := by decide +kernel
theorem dX12_ciphers_91 : decode cX12_ciphers 91 = .ok (.iload_n 2, 1) := by decide +kernel
theorem dX12_ciphers_92 : decode cX12_ciphers 92 = .ok (.iconst 5, 1) := by decide +kernel
theorem dX12_ciphers_93 : decode cX12_ciphers 93 = .ok (.if_icmp .ne 53, 3) := by decide +kernel
theorem dX12_ciphers_96 : decode cX12_ciphers 96 = .ok (.aload_n 0, 1) := by decide +kernel
theorem dX12_ciphers_97 : decode cX12_ciphers 97 = .ok (.getfield 230, 3) := by decide +kernel
theorem dX12_ciphers_100 : decode cX12_ciphers 100 = .ok (.iload_n 1, 1) := by decide +kernel
theorem dX12_ciphers_101 : decode cX12_ciphers 101 = .ok (.baload, 1) := by decide +kernel
theorem dX12_ciphers_102 : decode cX12_ciphers 102 = .ok (.ifCond .ne 4, 3) := by decide +kernel
theorem dX12_ciphers_105 : decode cX12_ciphers 105 = .ok (.return_, 1) := by decide +kernel
theorem dX12_ciphers_106 : decode cX12_ciphers 106 = .ok (.aload_n 0, 1) := by decide +kernel
theorem dX12_ciphers_107 : decode cX12_ciphers 107 = .ok (.getfield 233, 3) := by decide +kernel
theorem dX12_ciphers_110 : decode cX12_ciphers 110 = .ok (.iload_n 1, 1) := by decide +kernel
theorem dX12_ciphers_111 : decode cX12_ciphers 111 = .ok (.iconst 1, 1) := by decide +kernel
theorem dX12_ciphers_112 : decode cX12_ciphers 112 = .ok (.bastore, 1) := by decide +kernel
theorem dX12_ciphers_113 : decode cX12_ciphers 113 = .ok (.aload_n 0, 1) := by decide +kernel
theorem dX12_ciphers_114 : decode cX12_ciphers 114 = .ok (.getfield 236, 3) := by decide +kernel
theorem dX12_ciphers_117 : decode cX12_ciphers 117 = .ok (.iload_n 1, 1) := by decide +kernel
theorem dX12_ciphers_118 : decode cX12_ciphers 118 = .ok (.iconst 1, 1) := by decide +kernel
theorem dX12_ciphers_119 : decode cX12_ciphers 119 = .ok (.bastore, 1) := by decide +kernel
theorem dX12_ciphers_120 : decode cX12_ciphers 120 = .ok (.aload_n 0, 1) := by decide +kernel
theorem dX12_ciphers_121 : decode cX12_ciphers 121 = .ok (.getfield 194, 3) := by decide +kernel
theorem dX12_ciphers_124 : decode cX12_ciphers 124 = .ok (.iload_n 1, 1) := by decide +kernel
theorem dX12_ciphers_125 : decode cX12_ciphers 125 = .ok (.iconst 0, 1) := by decide +kernel
theorem dX12_ciphers_126 : decode cX12_ciphers 126 = .ok (.iastore, 1) := by decide +kernel
theorem dX12_ciphers_127 : decode cX12_ciphers 127 = .ok (.aload_n 0, 1) := by decide +kernel
theorem dX12_ciphers_128 : decode cX12_ciphers 128 = .ok (.getfield 197, 3) := by decide +kernel
theorem dX12_ciphers_131 : decode cX12_ciphers 131 = .ok (.iload_n 1, 1) := by decide +kernel
theorem dX12_ciphers_132 : decode cX12_ciphers 132 = .ok (.iconst 0, 1) := by decide +kernel
theorem dX12_ciphers_133 : decode cX12_ciphers 133 = .ok (.iastore, 1) := by decide +kernel
theorem dX12_ciphers_134 : decode cX12_ciphers 134 = .ok (.aload_n 0, 1) := by decide +kernel
theorem dX12_ciphers_135 : decode cX12_ciphers 135 = .ok (.iload_n 1, 1) := by decide +kernel
theorem dX12_ciphers_136 : decode cX12_ciphers 136 = .ok (.bipush 6, 2) := by decide +kernel
theorem dX12_ciphers_138 : decode cX12_ciphers 138 = .ok (.iconst 0, 1) := by decide +kernel
theorem dX12_ciphers_139 : decode cX12_ciphers 139 = .ok (.iconst 0, 1) := by decide +kernel
theorem dX12_ciphers_140 : decode cX12_ciphers 140 = .ok (.invokevirtual 486, 3) := by decide +kernel
theorem dX12_ciphers_143 : decode cX12_ciphers 143 = .ok (.goto 69, 3) := by decide +kernel
theorem dX12_ciphers_146 : decode cX12_ciphers 146 = .ok (.aload_n 0, 1) := by decide +kernel
theorem dX12_ciphers_147 : decode cX12_ciphers 147 = .ok (.getfield 236, 3) := by decide +kernel
theorem dX12_ciphers_150 : decode cX12_ciphers 150 = .ok (.iload_n 1, 1) := by decide +kernel
theorem dX12_ciphers_151 : decode cX12_ciphers 151 = .ok (.baload, 1) := by decide +kernel
theorem dX12_ciphers_152 : decode cX12_ciphers 152 = .ok (.ifCond .eq 60, 3) := by decide +kernel
theorem dX12_ciphers_155 : decode cX12_ciphers 155 = .ok (.aload_n 0, 1) := by decide +kernel
theorem dX12_ciphers_156 : decode cX12_ciphers 156 = .ok (.getfield 45, 3) := by decide +kernel
theorem dX12_ciphers_159 : decode cX12_ciphers 159 = .ok (.iload_n 1, 1) := by decide +kernel
theorem dX12_ciphers_160 : decode cX12_ciphers 160 = .ok (.iaload, 1) := by decide +kernel
theorem dX12_ciphers_161 : decode cX12_ciphers 161 = .ok (.iconst 5, 1) := by decide +kernel
theorem dX12_ciphers_162 : decode cX12_ciphers 162 = .ok (.if_icmp .ne 26, 3) := by decide +kernel
theorem dX12_ciphers_165 : decode cX12_ciphers 165 = .ok (.aload_n 0, 1) := by decide +kernel
theorem dX12_ciphers_166 : decode cX12_ciphers 166 = .ok (.getfield 233, 3) := by decide +kernel
theorem dX12_ciphers_169 : decode cX12_ciphers 169 = .ok (.iload_n 1, 1) := by decide +kernel
theorem dX12_ciphers_170 : decode cX12_ciphers 170 = .ok (.iconst 1, 1) := by decide +kernel
theorem dX12_ciphers_171 : decode cX12_ciphers 171 = .ok (.bastore, 1) := by decide +kernel
theorem dX12_ciphers_172 : decode cX12_ciphers 172 = .ok (.aload_n 0, 1) := by decide +kernel
theorem dX12_ciphers_173 : decode cX12_ciphers 173 = .ok (.getfield 194, 3) := by decide +kernel
theorem dX12_ciphers_176 : decode cX12_ciphers 176 = .ok (.iload_n 1, 1) := by decide +kernel
theorem dX12_ciphers_177 : decode cX12_ciphers 177 = .ok (.iconst 0, 1) := by decide +kernel
theorem dX12_ciphers_178 : decode cX12_ciphers 178 = .ok (.iastore, 1) := by decide +kernel
theorem dX12_ciphers_179 : decode cX12_ciphers 179 = .ok (.aload_n 0, 1) := by decide +kernel
theorem dX12_ciphers_180 : decode cX12_ciphers 180 = .ok (.iload_n 1, 1) := by decide +kernel
theorem dX12_ciphers_181 : decode cX12_ciphers 181 = .ok (.bipush 6, 2) := by decide +kernel
theorem dX12_ciphers_183 : decode cX12_ciphers 183 = .ok (.iconst 0, 1) := by decide +kernel
theorem dX12_ciphers_184 : decode cX12_ciphers 184 = .ok (.iconst 0, 1) := by decide +kernel
theorem dX12_ciphers_185 : decode cX12_ciphers 185 = .ok (.invokevirtual 486, 3) := by decide +kernel
theorem dX12_ciphers_188 : decode cX12_ciphers 188 = .ok (.aload_n 0, 1) := by decide +kernel
theorem dX12_ciphers_189 : decode cX12_ciphers 189 = .ok (.getfield 239, 3) := by decide +kernel
theorem dX12_ciphers_192 : decode cX12_ciphers 192 = .ok (.iload_n 1, 1) := by decide +kernel
theorem dX12_ciphers_193 : decode cX12_ciphers 193 = .ok (.iconst 1, 1) := by decide +kernel
theorem dX12_ciphers_194 : decode cX12_ciphers 194 = .ok (.bastore, 1) := by decide +kernel
theorem dX12_ciphers_195 : decode cX12_ciphers 195 = .ok (.aload_n 0, 1) := by decide +kernel
theorem dX12_ciphers_196 : decode cX12_ciphers 196 = .ok (.getfield 224, 3) := by decide +kernel
theorem dX12_ciphers_199 : decode cX12_ciphers 199 = .ok (.iload_n 1, 1) := by decide +kernel
theorem dX12_ciphers_200 : decode cX12_ciphers 200 = .ok (.iconst 0, 1) := by decide +kernel
theorem dX12_ciphers_201 : decode cX12_ciphers 201 = .ok (.bastore, 1) := by decide +kernel
theorem dX12_ciphers_202 : decode cX12_ciphers 202 = .ok (.aload_n 0, 1) := by decide +kernel
theorem dX12_ciphers_203 : decode cX12_ciphers 203 = .ok (.iload_n 1, 1) := by decide +kernel
theorem dX12_ciphers_204 : decode cX12_ciphers 204 = .ok (.bipush 12, 2) := by decide +kernel
theorem dX12_ciphers_206 : decode cX12_ciphers 206 = .ok (.iconst 0, 1) := by decide +kernel
theorem dX12_ciphers_207 : decode cX12_ciphers 207 = .ok (.iconst 0, 1) := by decide +kernel
theorem dX12_ciphers_208 : decode cX12_ciphers 208 = .ok (.iconst 0, 1) := by decide +kernel
theorem dX12_ciphers_209 : decode cX12_ciphers 209 = .ok (.invokevirtual 504, 3) := by decide +kernel
theorem dX12_ciphers_212 : decode cX12_ciphers 212 = .ok (.return_, 1) := by decide +kernel
theorem dX12_drops_0 : decode cX12_drops 0 = .ok (.bipush 8, 2) := by decide +kernel
theorem dX12_drops_2 : decode cX12_drops 2 = .ok (.iload_n 1, 1) := by decide +kernel
theorem dX12_drops_3 : decode cX12_drops 3 = .ok (.imul, 1) := by decide +kernel
theorem dX12_drops_4 : decode cX12_drops 4 = .ok (.istore_n 2, 1) := by decide +kernel
theorem dX12_drops_5 : decode cX12_drops 5 = .ok (.aload_n 0, 1) := by decide +kernel
theorem dX12_drops_6 : decode cX12_drops 6 = .ok (.getfield 275, 3) := by decide +kernel
theorem dX12_drops_9 : decode cX12_drops 9 = .ok (.iload_n 1, 1) := by decide +kernel
theorem dX12_drops_10 : decode cX12_drops 10 = .ok (.dup2, 1) := by decide +kernel
theorem dX12_drops_11 : decode cX12_drops 11 = .ok (.iaload, 1) := by decide +kernel
theorem dX12_drops_12 : decode cX12_drops 12 = .ok (.iconst 1, 1) := by decide +kernel
theorem dX12_drops_13 : decode cX12_drops 13 = .ok (.isub, 1) := by decide +kernel
theorem dX12_drops_14 : decode cX12_drops 14 = .ok (.iastore, 1) := by decide +kernel
theorem dX12_drops_15 : decode cX12_drops 15 = .ok (.aload_n 0, 1) := by decide +kernel
theorem dX12_drops_16 : decode cX12_drops 16 = .ok (.getfield 278, 3) := by decide +kernel
theorem dX12_drops_19 : decode cX12_drops 19 = .ok (.iload_n 1, 1) := by decide +kernel
theorem dX12_drops_20 : decode cX12_drops 20 = .ok (.iconst 0, 1) := by decide +kernel
theorem dX12_drops_21 : decode cX12_drops 21 = .ok (.iastore, 1) := by decide +kernel
theorem dX12_drops_22 : decode cX12_drops 22 = .ok (.iconst 0, 1) := by decide +kernel
theorem dX12_drops_23 : decode cX12_drops 23 = .ok (.istore_n 3, 1) := by decide +kernel
theorem dX12_drops_24 : decode cX12_drops 24 = .ok (.iload_n 3, 1) := by decide +kernel
theorem dX12_drops_25 : decode cX12_drops 25 = .ok (.aload_n 0, 1) := by decide +kernel
theorem dX12_drops_26 : decode cX12_drops 26 = .ok (.getfield 275, 3) := by decide +kernel
theorem dX12_drops_29 : decode cX12_drops 29 = .ok (.iload_n 1, 1) := by decide +kernel
theorem dX12_drops_30 : decode cX12_drops 30 = .ok (.iaload, 1) := by decide +kernel
theorem dX12_drops_31 : decode cX12_drops 31 = .ok (.if_icmp .ge 27, 3) := by decide +kernel
theorem dX12_drops_34 : decode cX12_drops 34 = .ok (.aload_n 0, 1) := by decide +kernel
theorem dX12_drops_35 : decode cX12_drops 35 = .ok (.getfield 272, 3) := by decide +kernel
theorem dX12_drops_38 : decode cX12_drops 38 = .ok (.iload_n 2, 1) := by decide +kernel
theorem dX12_drops_39 : decode cX12_drops 39 = .ok (.iload_n 3, 1) := by decide +kernel
theorem dX12_drops_40 : decode cX12_drops 40 = .ok (.iadd, 1) := by decide +kernel
theorem dX12_drops_41 : decode cX12_drops 41 = .ok (.aload_n 0, 1) := by decide +kernel
theorem dX12_drops_42 : decode cX12_drops 42 = .ok (.getfield 272, 3) := by decide +kernel
theorem dX12_drops_45 : decode cX12_drops 45 = .ok (.iload_n 2, 1) := by decide +kernel
theorem dX12_drops_46 : decode cX12_drops 46 = .ok (.iload_n 3, 1) := by decide +kernel
theorem dX12_drops_47 : decode cX12_drops 47 = .ok (.iadd, 1) := by decide +kernel
theorem dX12_drops_48 : decode cX12_drops 48 = .ok (.iconst 1, 1) := by decide +kernel
theorem dX12_drops_49 : decode cX12_drops 49 = .ok (.iadd, 1) := by decide +kernel
theorem dX12_drops_50 : decode cX12_drops 50 = .ok (.iaload, 1) := by decide +kernel
theorem dX12_drops_51 : decode cX12_drops 51 = .ok (.iastore, 1) := by decide +kernel
theorem dX12_drops_52 : decode cX12_drops 52 = .ok (.iinc 3 1, 3) := by decide +kernel
theorem dX12_drops_55 : decode cX12_drops 55 = .ok (.goto (-31), 3) := by decide +kernel
theorem dX12_drops_58 : decode cX12_drops 58 = .ok (.aload_n 0, 1) := by decide +kernel
theorem dX12_drops_59 : decode cX12_drops 59 = .ok (.getfield 266, 3) := by decide +kernel
theorem dX12_drops_62 : decode cX12_drops 62 = .ok (.bipush 96, 2) := by decide +kernel
theorem dX12_drops_64 : decode cX12_drops 64 = .ok (.iload_n 2, 1) := by decide +kernel
theorem dX12_drops_65 : decode cX12_drops 65 = .ok (.imul, 1) := by decide +kernel
theorem dX12_drops_66 : decode cX12_drops 66 = .ok (.bipush 96, 2) := by decide +kernel
theorem dX12_drops_68 : decode cX12_drops 68 = .ok (.iadd, 1) := by decide +kernel
theorem dX12_drops_69 : decode cX12_drops 69 = .ok (.aload_n 0, 1) := by decide +kernel
theorem dX12_drops_70 : decode cX12_drops 70 = .ok (.getfield 266, 3) := by decide +kernel
theorem dX12_drops_73 : decode cX12_drops 73 = .ok (.bipush 96, 2) := by decide +kernel
theorem dX12_drops_75 : decode cX12_drops 75 = .ok (.iload_n 2, 1) := by decide +kernel
theorem dX12_drops_76 : decode cX12_drops 76 = .ok (.imul, 1) := by decide +kernel
theorem dX12_drops_77 : decode cX12_drops 77 = .ok (.bipush 96, 2) := by decide +kernel
theorem dX12_drops_79 : decode cX12_drops 79 = .ok (.aload_n 0, 1) := by decide +kernel
theorem dX12_drops_80 : decode cX12_drops 80 = .ok (.getfield 275, 3) := by decide +kernel
theorem dX12_drops_83 : decode cX12_drops 83 = .ok (.iload_n 1, 1) := by decide +kernel
theorem dX12_drops_84 : decode cX12_drops 84 = .ok (.iaload, 1) := by decide +kernel
theorem dX12_drops_85 : decode cX12_drops 85 = .ok (.imul, 1) := by decide +kernel
theorem dX12_drops_86 : decode cX12_drops 86 = .ok (.invokestatic 29, 3) := by decide +kernel
theorem dX12_drops_89 : decode cX12_drops 89 = .ok (.return_, 1) := by decide +kernel
theorem dX12_says_0 : decode cX12_says 0 = .ok (.bipush 96, 2) := by decide +kernel
theorem dX12_says_2 : decode cX12_says 2 = .ok (.bipush 8, 2) := by decide +kernel
theorem dX12_says_4 : decode cX12_says 4 = .ok (.iload_n 1, 1) := by decide +kernel
theorem dX12_says_5 : decode cX12_says 5 = .ok (.imul, 1) := by decide +kernel
theorem dX12_says_6 : decode cX12_says 6 = .ok (.aload_n 0, 1) := by decide +kernel
theorem dX12_says_7 : decode cX12_says 7 = .ok (.getfield 275, 3) := by decide +kernel
theorem dX12_says_10 : decode cX12_says 10 = .ok (.iload_n 1, 1) := by decide +kernel
theorem dX12_says_11 : decode cX12_says 11 = .ok (.iaload, 1) := by decide +kernel
theorem dX12_says_12 : decode cX12_says 12 = .ok (.iadd, 1) := by decide +kernel
theorem dX12_says_13 : decode cX12_says 13 = .ok (.imul, 1) := by decide +kernel
theorem dX12_says_14 : decode cX12_says 14 = .ok (.istore 4, 2) := by decide +kernel
theorem dX12_says_16 : decode cX12_says 16 = .ok (.aload_n 0, 1) := by decide +kernel
theorem dX12_says_17 : decode cX12_says 17 = .ok (.getfield 266, 3) := by decide +kernel
theorem dX12_says_20 : decode cX12_says 20 = .ok (.iload 4, 2) := by decide +kernel
theorem dX12_says_22 : decode cX12_says 22 = .ok (.iload_n 3, 1) := by decide +kernel
theorem dX12_says_23 : decode cX12_says 23 = .ok (.i2l, 1) := by decide +kernel
theorem dX12_says_24 : decode cX12_says 24 = .ok (.iconst 2, 1) := by decide +kernel
theorem dX12_says_25 : decode cX12_says 25 = .ok (.invokestatic 432, 3) := by decide +kernel
theorem dX12_says_28 : decode cX12_says 28 = .ok (.aload_n 0, 1) := by decide +kernel
theorem dX12_says_29 : decode cX12_says 29 = .ok (.getfield 266, 3) := by decide +kernel
theorem dX12_says_32 : decode cX12_says 32 = .ok (.iload 4, 2) := by decide +kernel
theorem dX12_says_34 : decode cX12_says 34 = .ok (.iconst 2, 1) := by decide +kernel
theorem dX12_says_35 : decode cX12_says 35 = .ok (.iadd, 1) := by decide +kernel
theorem dX12_says_36 : decode cX12_says 36 = .ok (.iload_n 2, 1) := by decide +kernel
theorem dX12_says_37 : decode cX12_says 37 = .ok (.i2l, 1) := by decide +kernel
theorem dX12_says_38 : decode cX12_says 38 = .ok (.iconst 2, 1) := by decide +kernel
theorem dX12_says_39 : decode cX12_says 39 = .ok (.invokestatic 432, 3) := by decide +kernel
theorem dX12_says_42 : decode cX12_says 42 = .ok (.aload_n 0, 1) := by decide +kernel
theorem dX12_says_43 : decode cX12_says 43 = .ok (.getfield 290, 3) := by decide +kernel
theorem dX12_says_46 : decode cX12_says 46 = .ok (.iconst 0, 1) := by decide +kernel
theorem dX12_says_47 : decode cX12_says 47 = .ok (.aload_n 0, 1) := by decide +kernel
theorem dX12_says_48 : decode cX12_says 48 = .ok (.getfield 266, 3) := by decide +kernel
theorem dX12_says_51 : decode cX12_says 51 = .ok (.iload 4, 2) := by decide +kernel
theorem dX12_says_53 : decode cX12_says 53 = .ok (.iconst 4, 1) := by decide +kernel
theorem dX12_says_54 : decode cX12_says 54 = .ok (.iadd, 1) := by decide +kernel
theorem dX12_says_55 : decode cX12_says 55 = .ok (.iload_n 3, 1) := by decide +kernel
theorem dX12_says_56 : decode cX12_says 56 = .ok (.invokestatic 29, 3) := by decide +kernel
theorem dX12_says_59 : decode cX12_says 59 = .ok (.aload_n 0, 1) := by decide +kernel
theorem dX12_says_60 : decode cX12_says 60 = .ok (.getfield 272, 3) := by decide +kernel
theorem dX12_says_63 : decode cX12_says 63 = .ok (.bipush 8, 2) := by decide +kernel
theorem dX12_says_65 : decode cX12_says 65 = .ok (.iload_n 1, 1) := by decide +kernel
theorem dX12_says_66 : decode cX12_says 66 = .ok (.imul, 1) := by decide +kernel
theorem dX12_says_67 : decode cX12_says 67 = .ok (.aload_n 0, 1) := by decide +kernel
theorem dX12_says_68 : decode cX12_says 68 = .ok (.getfield 275, 3) := by decide +kernel
theorem dX12_says_71 : decode cX12_says 71 = .ok (.iload_n 1, 1) := by decide +kernel
theorem dX12_says_72 : decode cX12_says 72 = .ok (.iaload, 1) := by decide +kernel
theorem dX12_says_73 : decode cX12_says 73 = .ok (.iadd, 1) := by decide +kernel
theorem dX12_says_74 : decode cX12_says 74 = .ok (.iload_n 3, 1) := by decide +kernel
theorem dX12_says_75 : decode cX12_says 75 = .ok (.iconst 4, 1) := by decide +kernel
theorem dX12_says_76 : decode cX12_says 76 = .ok (.iadd, 1) := by decide +kernel
theorem dX12_says_77 : decode cX12_says 77 = .ok (.iastore, 1) := by decide +kernel
theorem dX12_says_78 : decode cX12_says 78 = .ok (.aload_n 0, 1) := by decide +kernel
theorem dX12_says_79 : decode cX12_says 79 = .ok (.getfield 275, 3) := by decide +kernel
theorem dX12_says_82 : decode cX12_says 82 = .ok (.iload_n 1, 1) := by decide +kernel
theorem dX12_says_83 : decode cX12_says 83 = .ok (.dup2, 1) := by decide +kernel
theorem dX12_says_84 : decode cX12_says 84 = .ok (.iaload, 1) := by decide +kernel
theorem dX12_says_85 : decode cX12_says 85 = .ok (.iconst 1, 1) := by decide +kernel
theorem dX12_says_86 : decode cX12_says 86 = .ok (.iadd, 1) := by decide +kernel
theorem dX12_says_87 : decode cX12_says 87 = .ok (.iastore, 1) := by decide +kernel
theorem dX12_says_88 : decode cX12_says 88 = .ok (.return_, 1) := by decide +kernel
theorem dX12_pieces_0 : decode cX12_pieces 0 = .ok (.bipush 96, 2) := by decide +kernel
theorem dX12_pieces_2 : decode cX12_pieces 2 = .ok (.iload_n 1, 1) := by decide +kernel
theorem dX12_pieces_3 : decode cX12_pieces 3 = .ok (.imul, 1) := by decide +kernel
theorem dX12_pieces_4 : decode cX12_pieces 4 = .ok (.istore 4, 2) := by decide +kernel
theorem dX12_pieces_6 : decode cX12_pieces 6 = .ok (.iload_n 3, 1) := by decide +kernel
theorem dX12_pieces_7 : decode cX12_pieces 7 = .ok (.ifCond .eq 68, 3) := by decide +kernel
theorem dX12_pieces_10 : decode cX12_pieces 10 = .ok (.aload_n 0, 1) := by decide +kernel
theorem dX12_pieces_11 : decode cX12_pieces 11 = .ok (.getfield 287, 3) := by decide +kernel
theorem dX12_pieces_14 : decode cX12_pieces 14 = .ok (.iload_n 1, 1) := by decide +kernel
theorem dX12_pieces_15 : decode cX12_pieces 15 = .ok (.iload_n 2, 1) := by decide +kernel
theorem dX12_pieces_16 : decode cX12_pieces 16 = .ok (.iconst 4, 1) := by decide +kernel
theorem dX12_pieces_17 : decode cX12_pieces 17 = .ok (.if_icmp .lt 20, 3) := by decide +kernel
theorem dX12_pieces_20 : decode cX12_pieces 20 = .ok (.aload_n 0, 1) := by decide +kernel
theorem dX12_pieces_21 : decode cX12_pieces 21 = .ok (.getfield 263, 3) := by decide +kernel
theorem dX12_pieces_24 : decode cX12_pieces 24 = .ok (.iconst 0, 1) := by decide +kernel
theorem dX12_pieces_25 : decode cX12_pieces 25 = .ok (.invokestatic 489, 3) := by decide +kernel
theorem dX12_pieces_28 : decode cX12_pieces 28 = .ok (.bipush 92, 2) := by decide +kernel
theorem dX12_pieces_30 : decode cX12_pieces 30 = .ok (.if_icmp .gt 7, 3) := by decide +kernel
theorem dX12_pieces_33 : decode cX12_pieces 33 = .ok (.iconst 1, 1) := by decide +kernel
theorem dX12_pieces_34 : decode cX12_pieces 34 = .ok (.goto 4, 3) := by decide +kernel
theorem dX12_pieces_37 : decode cX12_pieces 37 = .ok (.iconst 0, 1) := by decide +kernel
theorem dX12_pieces_38 : decode cX12_pieces 38 = .ok (.bastore, 1) := by decide +kernel
theorem dX12_pieces_39 : decode cX12_pieces 39 = .ok (.aload_n 0, 1) := by decide +kernel
theorem dX12_pieces_40 : decode cX12_pieces 40 = .ok (.getfield 281, 3) := by decide +kernel
theorem dX12_pieces_43 : decode cX12_pieces 43 = .ok (.iload_n 1, 1) := by decide +kernel
theorem dX12_pieces_44 : decode cX12_pieces 44 = .ok (.iconst 0, 1) := by decide +kernel
theorem dX12_pieces_45 : decode cX12_pieces 45 = .ok (.iastore, 1) := by decide +kernel
theorem dX12_pieces_46 : decode cX12_pieces 46 = .ok (.aload_n 0, 1) := by decide +kernel
theorem dX12_pieces_47 : decode cX12_pieces 47 = .ok (.getfield 284, 3) := by decide +kernel
theorem dX12_pieces_50 : decode cX12_pieces 50 = .ok (.iload_n 1, 1) := by decide +kernel
theorem dX12_pieces_51 : decode cX12_pieces 51 = .ok (.aload_n 0, 1) := by decide +kernel
theorem dX12_pieces_52 : decode cX12_pieces 52 = .ok (.getfield 287, 3) := by decide +kernel
theorem dX12_pieces_55 : decode cX12_pieces 55 = .ok (.iload_n 1, 1) := by decide +kernel
theorem dX12_pieces_56 : decode cX12_pieces 56 = .ok (.baload, 1) := by decide +kernel
theorem dX12_pieces_57 : decode cX12_pieces 57 = .ok (.ifCond .eq 16, 3) := by decide +kernel
theorem dX12_pieces_60 : decode cX12_pieces 60 = .ok (.aload_n 0, 1) := by decide +kernel
theorem dX12_pieces_61 : decode cX12_pieces 61 = .ok (.getfield 263, 3) := by decide +kernel
theorem dX12_pieces_64 : decode cX12_pieces 64 = .ok (.iconst 0, 1) := by decide +kernel
theorem dX12_pieces_65 : decode cX12_pieces 65 = .ok (.invokestatic 489, 3) := by decide +kernel
theorem dX12_pieces_68 : decode cX12_pieces 68 = .ok (.iconst 4, 1) := by decide +kernel
theorem dX12_pieces_69 : decode cX12_pieces 69 = .ok (.iadd, 1) := by decide +kernel
theorem dX12_pieces_70 : decode cX12_pieces 70 = .ok (.goto 4, 3) := by decide +kernel
theorem dX12_pieces_73 : decode cX12_pieces 73 = .ok (.iconst 0, 1) := by decide +kernel
theorem dX12_pieces_74 : decode cX12_pieces 74 = .ok (.iastore, 1) := by decide +kernel
theorem dX12_pieces_75 : decode cX12_pieces 75 = .ok (.aload_n 0, 1) := by decide +kernel
theorem dX12_pieces_76 : decode cX12_pieces 76 = .ok (.getfield 287, 3) := by decide +kernel
theorem dX12_pieces_79 : decode cX12_pieces 79 = .ok (.iload_n 1, 1) := by decide +kernel
theorem dX12_pieces_80 : decode cX12_pieces 80 = .ok (.baload, 1) := by decide +kernel
theorem dX12_pieces_81 : decode cX12_pieces 81 = .ok (.ifCond .ne 4, 3) := by decide +kernel
theorem dX12_pieces_84 : decode cX12_pieces 84 = .ok (.return_, 1) := by decide +kernel
theorem dX12_pieces_85 : decode cX12_pieces 85 = .ok (.aload_n 0, 1) := by decide +kernel
theorem dX12_pieces_86 : decode cX12_pieces 86 = .ok (.getfield 281, 3) := by decide +kernel
theorem dX12_pieces_89 : decode cX12_pieces 89 = .ok (.iload_n 1, 1) := by decide +kernel
theorem dX12_pieces_90 : decode cX12_pieces 90 = .ok (.iaload, 1) := by decide +kernel
theorem dX12_pieces_91 : decode cX12_pieces 91 = .ok (.iload_n 2, 1) := by decide +kernel
theorem dX12_pieces_92 : decode cX12_pieces 92 = .ok (.iadd, 1) := by decide +kernel
theorem dX12_pieces_93 : decode cX12_pieces 93 = .ok (.aload_n 0, 1) := by decide +kernel
theorem dX12_pieces_94 : decode cX12_pieces 94 = .ok (.getfield 284, 3) := by decide +kernel
theorem dX12_pieces_97 : decode cX12_pieces 97 = .ok (.iload_n 1, 1) := by decide +kernel
theorem dX12_pieces_98 : decode cX12_pieces 98 = .ok (.iaload, 1) := by decide +kernel
theorem dX12_pieces_99 : decode cX12_pieces 99 = .ok (.if_icmp .le 11, 3) := by decide +kernel
theorem dX12_pieces_102 : decode cX12_pieces 102 = .ok (.aload_n 0, 1) := by decide +kernel
theorem dX12_pieces_103 : decode cX12_pieces 103 = .ok (.getfield 287, 3) := by decide +kernel
theorem dX12_pieces_106 : decode cX12_pieces 106 = .ok (.iload_n 1, 1) := by decide +kernel
theorem dX12_pieces_107 : decode cX12_pieces 107 = .ok (.iconst 0, 1) := by decide +kernel
theorem dX12_pieces_108 : decode cX12_pieces 108 = .ok (.bastore, 1) := by decide +kernel
theorem dX12_pieces_109 : decode cX12_pieces 109 = .ok (.return_, 1) := by decide +kernel
theorem dX12_pieces_110 : decode cX12_pieces 110 = .ok (.aload_n 0, 1) := by decide +kernel
theorem dX12_pieces_111 : decode cX12_pieces 111 = .ok (.getfield 263, 3) := by decide +kernel
theorem dX12_pieces_114 : decode cX12_pieces 114 = .ok (.iconst 0, 1) := by decide +kernel
theorem dX12_pieces_115 : decode cX12_pieces 115 = .ok (.aload_n 0, 1) := by decide +kernel
theorem dX12_pieces_116 : decode cX12_pieces 116 = .ok (.getfield 269, 3) := by decide +kernel
theorem dX12_pieces_119 : decode cX12_pieces 119 = .ok (.iload 4, 2) := by decide +kernel
theorem dX12_pieces_121 : decode cX12_pieces 121 = .ok (.aload_n 0, 1) := by decide +kernel
theorem dX12_pieces_122 : decode cX12_pieces 122 = .ok (.getfield 281, 3) := by decide +kernel
theorem dX12_pieces_125 : decode cX12_pieces 125 = .ok (.iload_n 1, 1) := by decide +kernel
theorem dX12_pieces_126 : decode cX12_pieces 126 = .ok (.iaload, 1) := by decide +kernel
theorem dX12_pieces_127 : decode cX12_pieces 127 = .ok (.iadd, 1) := by decide +kernel
theorem dX12_pieces_128 : decode cX12_pieces 128 = .ok (.iload_n 2, 1) := by decide +kernel
theorem dX12_pieces_129 : decode cX12_pieces 129 = .ok (.invokestatic 29, 3) := by decide +kernel
theorem dX12_pieces_132 : decode cX12_pieces 132 = .ok (.aload_n 0, 1) := by decide +kernel
theorem dX12_pieces_133 : decode cX12_pieces 133 = .ok (.getfield 281, 3) := by decide +kernel
theorem dX12_pieces_136 : decode cX12_pieces 136 = .ok (.iload_n 1, 1) := by decide +kernel
theorem dX12_pieces_137 : decode cX12_pieces 137 = .ok (.dup2, 1) := by decide +kernel
theorem dX12_pieces_138 : decode cX12_pieces 138 = .ok (.iaload, 1) := by decide +kernel
theorem dX12_pieces_139 : decode cX12_pieces 139 = .ok (.iload_n 2, 1) := by decide +kernel
theorem dX12_pieces_140 : decode cX12_pieces 140 = .ok (.iadd, 1) := by decide +kernel
theorem dX12_pieces_141 : decode cX12_pieces 141 = .ok (.iastore, 1) := by decide +kernel
theorem dX12_pieces_142 : decode cX12_pieces 142 = .ok (.aload_n 0, 1) := by decide +kernel
theorem dX12_pieces_143 : decode cX12_pieces 143 = .ok (.getfield 281, 3) := by decide +kernel
theorem dX12_pieces_146 : decode cX12_pieces 146 = .ok (.iload_n 1, 1) := by decide +kernel
theorem dX12_pieces_147 : decode cX12_pieces 147 = .ok (.iaload, 1) := by decide +kernel
theorem dX12_pieces_148 : decode cX12_pieces 148 = .ok (.aload_n 0, 1) := by decide +kernel
theorem dX12_pieces_149 : decode cX12_pieces 149 = .ok (.getfield 284, 3) := by decide +kernel
theorem dX12_pieces_152 : decode cX12_pieces 152 = .ok (.iload_n 1, 1) := by decide +kernel
theorem dX12_pieces_153 : decode cX12_pieces 153 = .ok (.iaload, 1) := by decide +kernel
theorem dX12_pieces_154 : decode cX12_pieces 154 = .ok (.if_icmp .ge 4, 3) := by decide +kernel
theorem dX12_pieces_157 : decode cX12_pieces 157 = .ok (.return_, 1) := by decide +kernel
theorem dX12_pieces_158 : decode cX12_pieces 158 = .ok (.aload_n 0, 1) := by decide +kernel
theorem dX12_pieces_159 : decode cX12_pieces 159 = .ok (.getfield 287, 3) := by decide +kernel
theorem dX12_pieces_162 : decode cX12_pieces 162 = .ok (.iload_n 1, 1) := by decide +kernel
theorem dX12_pieces_163 : decode cX12_pieces 163 = .ok (.iconst 0, 1) := by decide +kernel
theorem dX12_pieces_164 : decode cX12_pieces 164 = .ok (.bastore, 1) := by decide +kernel
theorem dX12_pieces_165 : decode cX12_pieces 165 = .ok (.aload_n 0, 1) := by decide +kernel
theorem dX12_pieces_166 : decode cX12_pieces 166 = .ok (.getfield 269, 3) := by decide +kernel
theorem dX12_pieces_169 : decode cX12_pieces 169 = .ok (.iload 4, 2) := by decide +kernel
theorem dX12_pieces_171 : decode cX12_pieces 171 = .ok (.iconst 2, 1) := by decide +kernel
theorem dX12_pieces_172 : decode cX12_pieces 172 = .ok (.iadd, 1) := by decide +kernel
theorem dX12_pieces_173 : decode cX12_pieces 173 = .ok (.invokestatic 489, 3) := by decide +kernel
theorem dX12_pieces_176 : decode cX12_pieces 176 = .ok (.istore 5, 2) := by decide +kernel
theorem dX12_pieces_178 : decode cX12_pieces 178 = .ok (.aload_n 0, 1) := by decide +kernel
theorem dX12_pieces_179 : decode cX12_pieces 179 = .ok (.getfield 284, 3) := by decide +kernel
theorem dX12_pieces_182 : decode cX12_pieces 182 = .ok (.iload_n 1, 1) := by decide +kernel
theorem dX12_pieces_183 : decode cX12_pieces 183 = .ok (.iaload, 1) := by decide +kernel
theorem dX12_pieces_184 : decode cX12_pieces 184 = .ok (.iconst 4, 1) := by decide +kernel
theorem dX12_pieces_185 : decode cX12_pieces 185 = .ok (.isub, 1) := by decide +kernel
theorem dX12_pieces_186 : decode cX12_pieces 186 = .ok (.istore 6, 2) := by decide +kernel
theorem dX12_pieces_188 : decode cX12_pieces 188 = .ok (.aload_n 0, 1) := by decide +kernel
theorem dX12_pieces_189 : decode cX12_pieces 189 = .ok (.getfield 275, 3) := by decide +kernel
theorem dX12_pieces_192 : decode cX12_pieces 192 = .ok (.iload_n 1, 1) := by decide +kernel
theorem dX12_pieces_193 : decode cX12_pieces 193 = .ok (.iaload, 1) := by decide +kernel
theorem dX12_pieces_194 : decode cX12_pieces 194 = .ok (.bipush 8, 2) := by decide +kernel
theorem dX12_pieces_196 : decode cX12_pieces 196 = .ok (.if_icmp .eq 21, 3) := by decide +kernel
theorem dX12_pieces_199 : decode cX12_pieces 199 = .ok (.iload 6, 2) := by decide +kernel
theorem dX12_pieces_201 : decode cX12_pieces 201 = .ok (.ifCond .eq 16, 3) := by decide +kernel
theorem dX12_pieces_204 : decode cX12_pieces 204 = .ok (.iload 5, 2) := by decide +kernel
theorem dX12_pieces_206 : decode cX12_pieces 206 = .ok (.iconst 4, 1) := by decide +kernel
theorem dX12_pieces_207 : decode cX12_pieces 207 = .ok (.if_icmp .eq 11, 3) := by decide +kernel
theorem dX12_pieces_210 : decode cX12_pieces 210 = .ok (.iload 5, 2) := by decide +kernel
theorem dX12_pieces_212 : decode cX12_pieces 212 = .ok (.bipush 6, 2) := by decide +kernel
theorem dX12_pieces_214 : decode cX12_pieces 214 = .ok (.if_icmp .eq 4, 3) := by decide +kernel
theorem dX12_pieces_217 : decode cX12_pieces 217 = .ok (.return_, 1) := by decide +kernel
theorem dX12_pieces_218 : decode cX12_pieces 218 = .ok (.aload_n 0, 1) := by decide +kernel
theorem dX12_pieces_219 : decode cX12_pieces 219 = .ok (.getfield 269, 3) := by decide +kernel
theorem dX12_pieces_222 : decode cX12_pieces 222 = .ok (.iload 4, 2) := by decide +kernel
theorem dX12_pieces_224 : decode cX12_pieces 224 = .ok (.iconst 4, 1) := by decide +kernel
theorem dX12_pieces_225 : decode cX12_pieces 225 = .ok (.iadd, 1) := by decide +kernel
theorem dX12_pieces_226 : decode cX12_pieces 226 = .ok (.aload_n 0, 1) := by decide +kernel
theorem dX12_pieces_227 : decode cX12_pieces 227 = .ok (.getfield 293, 3) := by decide +kernel
theorem dX12_pieces_230 : decode cX12_pieces 230 = .ok (.iconst 0, 1) := by decide +kernel
theorem dX12_pieces_231 : decode cX12_pieces 231 = .ok (.iload 6, 2) := by decide +kernel
theorem dX12_pieces_233 : decode cX12_pieces 233 = .ok (.invokestatic 29, 3) := by decide +kernel
theorem dX12_pieces_236 : decode cX12_pieces 236 = .ok (.iload 5, 2) := by decide +kernel
theorem dX12_pieces_238 : decode cX12_pieces 238 = .ok (.bipush 6, 2) := by decide +kernel
theorem dX12_pieces_240 : decode cX12_pieces 240 = .ok (.if_icmp .ne 13, 3) := by decide +kernel
theorem dX12_pieces_243 : decode cX12_pieces 243 = .ok (.aload_n 0, 1) := by decide +kernel
theorem dX12_pieces_244 : decode cX12_pieces 244 = .ok (.iload_n 1, 1) := by decide +kernel
theorem dX12_pieces_245 : decode cX12_pieces 245 = .ok (.iload 6, 2) := by decide +kernel
theorem dX12_pieces_247 : decode cX12_pieces 247 = .ok (.invokevirtual 522, 3) := by decide +kernel
theorem dX12_pieces_250 : decode cX12_pieces 250 = .ok (.goto 10, 3) := by decide +kernel
theorem dX12_pieces_253 : decode cX12_pieces 253 = .ok (.aload_n 0, 1) := by decide +kernel
theorem dX12_pieces_254 : decode cX12_pieces 254 = .ok (.iload_n 1, 1) := by decide +kernel
theorem dX12_pieces_255 : decode cX12_pieces 255 = .ok (.iload 6, 2) := by decide +kernel
theorem dX12_pieces_257 : decode cX12_pieces 257 = .ok (.invokevirtual 525, 3) := by decide +kernel
theorem dX12_pieces_260 : decode cX12_pieces 260 = .ok (.return_, 1) := by decide +kernel
theorem dX12_c_0 : decode cX12_c 0 = .ok (.iconst 0, 1) := by decide +kernel
theorem dX12_c_1 : decode cX12_c 1 = .ok (.istore 4, 2) := by decide +kernel
theorem dX12_c_3 : decode cX12_c 3 = .ok (.iload 4, 2) := by decide +kernel
theorem dX12_c_5 : decode cX12_c 5 = .ok (.bipush 16, 2) := by decide +kernel
theorem dX12_c_7 : decode cX12_c 7 = .ok (.if_icmp .ge 39, 3) := by decide +kernel
theorem dX12_c_10 : decode cX12_c 10 = .ok (.aload_n 0, 1) := by decide +kernel
theorem dX12_c_11 : decode cX12_c 11 = .ok (.getfield 314, 3) := by decide +kernel
theorem dX12_c_14 : decode cX12_c 14 = .ok (.iload 4, 2) := by decide +kernel
theorem dX12_c_16 : decode cX12_c 16 = .ok (.iload 4, 2) := by decide +kernel
theorem dX12_c_18 : decode cX12_c 18 = .ok (.iconst 4, 1) := by decide +kernel
theorem dX12_c_19 : decode cX12_c 19 = .ok (.if_icmp .ge 18, 3) := by decide +kernel
theorem dX12_c_22 : decode cX12_c 22 = .ok (.aload_n 0, 1) := by decide +kernel
theorem dX12_c_23 : decode cX12_c 23 = .ok (.getfield 302, 3) := by decide +kernel
theorem dX12_c_26 : decode cX12_c 26 = .ok (.iload_n 1, 1) := by decide +kernel
theorem dX12_c_27 : decode cX12_c 27 = .ok (.iaload, 1) := by decide +kernel
theorem dX12_c_28 : decode cX12_c 28 = .ok (.bipush 8, 2) := by decide +kernel
theorem dX12_c_30 : decode cX12_c 30 = .ok (.iload 4, 2) := by decide +kernel
theorem dX12_c_32 : decode cX12_c 32 = .ok (.imul, 1) := by decide +kernel
theorem dX12_c_33 : decode cX12_c 33 = .ok (.ishr, 1) := by decide +kernel
theorem dX12_c_34 : decode cX12_c 34 = .ok (.goto 4, 3) := by decide +kernel
theorem dX12_c_37 : decode cX12_c 37 = .ok (.iconst 0, 1) := by decide +kernel
theorem dX12_c_38 : decode cX12_c 38 = .ok (.i2b, 1) := by decide +kernel
theorem dX12_c_39 : decode cX12_c 39 = .ok (.bastore, 1) := by decide +kernel
theorem dX12_c_40 : decode cX12_c 40 = .ok (.iinc 4 1, 3) := by decide +kernel
theorem dX12_c_43 : decode cX12_c 43 = .ok (.goto (-40), 3) := by decide +kernel
theorem dX12_c_46 : decode cX12_c 46 = .ok (.iconst 0, 1) := by decide +kernel
theorem dX12_c_47 : decode cX12_c 47 = .ok (.istore 4, 2) := by decide +kernel
theorem dX12_c_49 : decode cX12_c 49 = .ok (.iload 4, 2) := by decide +kernel
theorem dX12_c_51 : decode cX12_c 51 = .ok (.bipush 16, 2) := by decide +kernel
theorem dX12_c_53 : decode cX12_c 53 = .ok (.if_icmp .ge 48, 3) := by decide +kernel
theorem dX12_c_56 : decode cX12_c 56 = .ok (.aload_n 0, 1) := by decide +kernel
theorem dX12_c_57 : decode cX12_c 57 = .ok (.getfield 317, 3) := by decide +kernel
theorem dX12_c_60 : decode cX12_c 60 = .ok (.iload 4, 2) := by decide +kernel
theorem dX12_c_62 : decode cX12_c 62 = .ok (.aload_n 2, 1) := by decide +kernel
theorem dX12_c_63 : decode cX12_c 63 = .ok (.iload_n 3, 1) := by decide +kernel
theorem dX12_c_64 : decode cX12_c 64 = .ok (.iload 4, 2) := by decide +kernel
theorem dX12_c_66 : decode cX12_c 66 = .ok (.iadd, 1) := by decide +kernel
theorem dX12_c_67 : decode cX12_c 67 = .ok (.baload, 1) := by decide +kernel
theorem dX12_c_68 : decode cX12_c 68 = .ok (.iload 4, 2) := by decide +kernel
theorem dX12_c_70 : decode cX12_c 70 = .ok (.iconst 2, 1) := by decide +kernel
theorem dX12_c_71 : decode cX12_c 71 = .ok (.if_icmp .ge 7, 3) := by decide +kernel
theorem dX12_c_74 : decode cX12_c 74 = .ok (.iconst 0, 1) := by decide +kernel
theorem dX12_c_75 : decode cX12_c 75 = .ok (.goto 17, 3) := by decide +kernel
theorem dX12_c_78 : decode cX12_c 78 = .ok (.aload_n 0, 1) := by decide +kernel
theorem dX12_c_79 : decode cX12_c 79 = .ok (.getfield 305, 3) := by decide +kernel
theorem dX12_c_82 : decode cX12_c 82 = .ok (.bipush 14, 2) := by decide +kernel
theorem dX12_c_84 : decode cX12_c 84 = .ok (.iload_n 1, 1) := by decide +kernel
theorem dX12_c_85 : decode cX12_c 85 = .ok (.imul, 1) := by decide +kernel
theorem dX12_c_86 : decode cX12_c 86 = .ok (.iload 4, 2) := by decide +kernel
theorem dX12_c_88 : decode cX12_c 88 = .ok (.iadd, 1) := by decide +kernel
theorem dX12_c_89 : decode cX12_c 89 = .ok (.iconst 2, 1) := by decide +kernel
theorem dX12_c_90 : decode cX12_c 90 = .ok (.isub, 1) := by decide +kernel
theorem dX12_c_91 : decode cX12_c 91 = .ok (.baload, 1) := by decide +kernel
theorem dX12_c_92 : decode cX12_c 92 = .ok (.ixor, 1) := by decide +kernel
theorem dX12_c_93 : decode cX12_c 93 = .ok (.i2b, 1) := by decide +kernel
theorem dX12_c_94 : decode cX12_c 94 = .ok (.bastore, 1) := by decide +kernel
theorem dX12_c_95 : decode cX12_c 95 = .ok (.iinc 4 1, 3) := by decide +kernel
theorem dX12_c_98 : decode cX12_c 98 = .ok (.goto (-49), 3) := by decide +kernel
theorem dX12_c_101 : decode cX12_c 101 = .ok (.aload_n 0, 1) := by decide +kernel
theorem dX12_c_102 : decode cX12_c 102 = .ok (.aload_n 0, 1) := by decide +kernel
theorem dX12_c_103 : decode cX12_c 103 = .ok (.getfield 314, 3) := by decide +kernel
theorem dX12_c_106 : decode cX12_c 106 = .ok (.iconst 0, 1) := by decide +kernel
theorem dX12_c_107 : decode cX12_c 107 = .ok (.aload_n 0, 1) := by decide +kernel
theorem dX12_c_108 : decode cX12_c 108 = .ok (.getfield 317, 3) := by decide +kernel
theorem dX12_c_111 : decode cX12_c 111 = .ok (.iconst 0, 1) := by decide +kernel
theorem dX12_c_112 : decode cX12_c 112 = .ok (.aload_n 0, 1) := by decide +kernel
theorem dX12_c_113 : decode cX12_c 113 = .ok (.getfield 317, 3) := by decide +kernel
theorem dX12_c_116 : decode cX12_c 116 = .ok (.iconst 0, 1) := by decide +kernel
theorem dX12_c_117 : decode cX12_c 117 = .ok (.invokevirtual 444, 3) := by decide +kernel
theorem dX12_c_120 : decode cX12_c 120 = .ok (.aload_n 0, 1) := by decide +kernel
theorem dX12_c_121 : decode cX12_c 121 = .ok (.getfield 45, 3) := by decide +kernel
theorem dX12_c_124 : decode cX12_c 124 = .ok (.iload_n 1, 1) := by decide +kernel
theorem dX12_c_125 : decode cX12_c 125 = .ok (.iaload, 1) := by decide +kernel
theorem dX12_c_126 : decode cX12_c 126 = .ok (.iconst 4, 1) := by decide +kernel
theorem dX12_c_127 : decode cX12_c 127 = .ok (.if_icmp .ne 12, 3) := by decide +kernel
theorem dX12_c_130 : decode cX12_c 130 = .ok (.aload_n 0, 1) := by decide +kernel
theorem dX12_c_131 : decode cX12_c 131 = .ok (.getfield 60, 3) := by decide +kernel
theorem dX12_c_134 : decode cX12_c 134 = .ok (.iload_n 1, 1) := by decide +kernel
theorem dX12_c_135 : decode cX12_c 135 = .ok (.laload, 1) := by decide +kernel
theorem dX12_c_136 : decode cX12_c 136 = .ok (.goto 9, 3) := by decide +kernel
theorem dX12_c_139 : decode cX12_c 139 = .ok (.aload_n 0, 1) := by decide +kernel
theorem dX12_c_140 : decode cX12_c 140 = .ok (.getfield 64, 3) := by decide +kernel
theorem dX12_c_143 : decode cX12_c 143 = .ok (.iload_n 1, 1) := by decide +kernel
theorem dX12_c_144 : decode cX12_c 144 = .ok (.laload, 1) := by decide +kernel
theorem dX12_c_145 : decode cX12_c 145 = .ok (.lstore 4, 2) := by decide +kernel
theorem dX12_c_147 : decode cX12_c 147 = .ok (.aload_n 0, 1) := by decide +kernel
theorem dX12_c_148 : decode cX12_c 148 = .ok (.getfield 45, 3) := by decide +kernel
theorem dX12_c_151 : decode cX12_c 151 = .ok (.iload_n 1, 1) := by decide +kernel
theorem dX12_c_152 : decode cX12_c 152 = .ok (.iaload, 1) := by decide +kernel
theorem dX12_c_153 : decode cX12_c 153 = .ok (.iconst 4, 1) := by decide +kernel
theorem dX12_c_154 : decode cX12_c 154 = .ok (.if_icmp .ne 12, 3) := by decide +kernel
theorem dX12_c_157 : decode cX12_c 157 = .ok (.aload_n 0, 1) := by decide +kernel
theorem dX12_c_158 : decode cX12_c 158 = .ok (.getfield 64, 3) := by decide +kernel
theorem dX12_c_161 : decode cX12_c 161 = .ok (.iload_n 1, 1) := by decide +kernel
theorem dX12_c_162 : decode cX12_c 162 = .ok (.laload, 1) := by decide +kernel
theorem dX12_c_163 : decode cX12_c 163 = .ok (.goto 9, 3) := by decide +kernel
theorem dX12_c_166 : decode cX12_c 166 = .ok (.aload_n 0, 1) := by decide +kernel
theorem dX12_c_167 : decode cX12_c 167 = .ok (.getfield 60, 3) := by decide +kernel
theorem dX12_c_170 : decode cX12_c 170 = .ok (.iload_n 1, 1) := by decide +kernel
theorem dX12_c_171 : decode cX12_c 171 = .ok (.laload, 1) := by decide +kernel
theorem dX12_c_172 : decode cX12_c 172 = .ok (.lstore 6, 2) := by decide +kernel
theorem dX12_c_174 : decode cX12_c 174 = .ok (.iconst 0, 1) := by decide +kernel
theorem dX12_c_175 : decode cX12_c 175 = .ok (.istore 8, 2) := by decide +kernel
theorem dX12_c_177 : decode cX12_c 177 = .ok (.iload 8, 2) := by decide +kernel
theorem dX12_c_179 : decode cX12_c 179 = .ok (.bipush 12, 2) := by decide +kernel
theorem dX12_c_181 : decode cX12_c 181 = .ok (.if_icmp .ge 51, 3) := by decide +kernel
theorem dX12_c_184 : decode cX12_c 184 = .ok (.aload_n 0, 1) := by decide +kernel
theorem dX12_c_185 : decode cX12_c 185 = .ok (.getfield 317, 3) := by decide +kernel
theorem dX12_c_188 : decode cX12_c 188 = .ok (.iload 8, 2) := by decide +kernel
theorem dX12_c_190 : decode cX12_c 190 = .ok (.dup2, 1) := by decide +kernel
theorem dX12_c_191 : decode cX12_c 191 = .ok (.baload, 1) := by decide +kernel
theorem dX12_c_192 : decode cX12_c 192 = .ok (.iload 8, 2) := by decide +kernel
theorem dX12_c_194 : decode cX12_c 194 = .ok (.bipush 6, 2) := by decide +kernel
theorem dX12_c_196 : decode cX12_c 196 = .ok (.if_icmp .ge 14, 3) := by decide +kernel
theorem dX12_c_199 : decode cX12_c 199 = .ok (.lload 4, 2) := by decide +kernel
theorem dX12_c_201 : decode cX12_c 201 = .ok (.bipush 8, 2) := by decide +kernel
theorem dX12_c_203 : decode cX12_c 203 = .ok (.iload 8, 2) := by decide +kernel
theorem dX12_c_205 : decode cX12_c 205 = .ok (.imul, 1) := by decide +kernel
theorem dX12_c_206 : decode cX12_c 206 = .ok (.lshr, 1) := by decide +kernel
theorem dX12_c_207 : decode cX12_c 207 = .ok (.goto 14, 3) := by decide +kernel
theorem dX12_c_210 : decode cX12_c 210 = .ok (.lload 6, 2) := by decide +kernel
theorem dX12_c_212 : decode cX12_c 212 = .ok (.bipush 8, 2) := by decide +kernel
theorem dX12_c_214 : decode cX12_c 214 = .ok (.iload 8, 2) := by decide +kernel
theorem dX12_c_216 : decode cX12_c 216 = .ok (.bipush 6, 2) := by decide +kernel
theorem dX12_c_218 : decode cX12_c 218 = .ok (.isub, 1) := by decide +kernel
theorem dX12_c_219 : decode cX12_c 219 = .ok (.imul, 1) := by decide +kernel
theorem dX12_c_220 : decode cX12_c 220 = .ok (.lshr, 1) := by decide +kernel
theorem dX12_c_221 : decode cX12_c 221 = .ok (.l2i, 1) := by decide +kernel
theorem dX12_c_222 : decode cX12_c 222 = .ok (.i2b, 1) := by decide +kernel
theorem dX12_c_223 : decode cX12_c 223 = .ok (.ixor, 1) := by decide +kernel
theorem dX12_c_224 : decode cX12_c 224 = .ok (.i2b, 1) := by decide +kernel
theorem dX12_c_225 : decode cX12_c 225 = .ok (.bastore, 1) := by decide +kernel
theorem dX12_c_226 : decode cX12_c 226 = .ok (.iinc 8 1, 3) := by decide +kernel
theorem dX12_c_229 : decode cX12_c 229 = .ok (.goto (-52), 3) := by decide +kernel
theorem dX12_c_232 : decode cX12_c 232 = .ok (.aload_n 0, 1) := by decide +kernel
theorem dX12_c_233 : decode cX12_c 233 = .ok (.aload_n 0, 1) := by decide +kernel
theorem dX12_c_234 : decode cX12_c 234 = .ok (.getfield 314, 3) := by decide +kernel
theorem dX12_c_237 : decode cX12_c 237 = .ok (.iconst 0, 1) := by decide +kernel
theorem dX12_c_238 : decode cX12_c 238 = .ok (.aload_n 0, 1) := by decide +kernel
theorem dX12_c_239 : decode cX12_c 239 = .ok (.getfield 317, 3) := by decide +kernel
theorem dX12_c_242 : decode cX12_c 242 = .ok (.iconst 0, 1) := by decide +kernel
theorem dX12_c_243 : decode cX12_c 243 = .ok (.aload_n 0, 1) := by decide +kernel
theorem dX12_c_244 : decode cX12_c 244 = .ok (.getfield 317, 3) := by decide +kernel
theorem dX12_c_247 : decode cX12_c 247 = .ok (.iconst 0, 1) := by decide +kernel
theorem dX12_c_248 : decode cX12_c 248 = .ok (.invokevirtual 444, 3) := by decide +kernel
theorem dX12_c_251 : decode cX12_c 251 = .ok (.return_, 1) := by decide +kernel
theorem dX12_saysFirst_0 : decode cX12_saysFirst 0 = .ok (.aload_n 0, 1) := by decide +kernel
theorem dX12_saysFirst_1 : decode cX12_saysFirst 1 = .ok (.getfield 290, 3) := by decide +kernel
theorem dX12_saysFirst_4 : decode cX12_saysFirst 4 = .ok (.iconst 0, 1) := by decide +kernel
theorem dX12_saysFirst_5 : decode cX12_saysFirst 5 = .ok (.iload_n 2, 1) := by decide +kernel
theorem dX12_saysFirst_6 : decode cX12_saysFirst 6 = .ok (.i2b, 1) := by decide +kernel
theorem dX12_saysFirst_7 : decode cX12_saysFirst 7 = .ok (.bastore, 1) := by decide +kernel
theorem dX12_saysFirst_8 : decode cX12_saysFirst 8 = .ok (.aload_n 0, 1) := by decide +kernel
theorem dX12_saysFirst_9 : decode cX12_saysFirst 9 = .ok (.getfield 290, 3) := by decide +kernel
theorem dX12_saysFirst_12 : decode cX12_saysFirst 12 = .ok (.iconst 1, 1) := by decide +kernel
theorem dX12_saysFirst_13 : decode cX12_saysFirst 13 = .ok (.iconst 3, 1) := by decide +kernel
theorem dX12_saysFirst_14 : decode cX12_saysFirst 14 = .ok (.bastore, 1) := by decide +kernel
theorem dX12_saysFirst_15 : decode cX12_saysFirst 15 = .ok (.aload_n 0, 1) := by decide +kernel
theorem dX12_saysFirst_16 : decode cX12_saysFirst 16 = .ok (.getfield 290, 3) := by decide +kernel
theorem dX12_saysFirst_19 : decode cX12_saysFirst 19 = .ok (.iconst 2, 1) := by decide +kernel
theorem dX12_saysFirst_20 : decode cX12_saysFirst 20 = .ok (.iconst 0, 1) := by decide +kernel
theorem dX12_saysFirst_21 : decode cX12_saysFirst 21 = .ok (.bastore, 1) := by decide +kernel
theorem dX12_saysFirst_22 : decode cX12_saysFirst 22 = .ok (.aload_n 0, 1) := by decide +kernel
theorem dX12_saysFirst_23 : decode cX12_saysFirst 23 = .ok (.getfield 290, 3) := by decide +kernel
theorem dX12_saysFirst_26 : decode cX12_saysFirst 26 = .ok (.iconst 3, 1) := by decide +kernel
theorem dX12_saysFirst_27 : decode cX12_saysFirst 27 = .ok (.iconst 0, 1) := by decide +kernel
theorem dX12_saysFirst_28 : decode cX12_saysFirst 28 = .ok (.bastore, 1) := by decide +kernel
theorem dX12_saysFirst_29 : decode cX12_saysFirst 29 = .ok (.aload_n 0, 1) := by decide +kernel
theorem dX12_saysFirst_30 : decode cX12_saysFirst 30 = .ok (.getfield 290, 3) := by decide +kernel
theorem dX12_saysFirst_33 : decode cX12_saysFirst 33 = .ok (.iconst 4, 1) := by decide +kernel
theorem dX12_saysFirst_34 : decode cX12_saysFirst 34 = .ok (.bipush 16, 2) := by decide +kernel
theorem dX12_saysFirst_36 : decode cX12_saysFirst 36 = .ok (.bastore, 1) := by decide +kernel
theorem dX12_saysFirst_37 : decode cX12_saysFirst 37 = .ok (.aload_n 0, 1) := by decide +kernel
theorem dX12_saysFirst_38 : decode cX12_saysFirst 38 = .ok (.getfield 290, 3) := by decide +kernel
theorem dX12_saysFirst_41 : decode cX12_saysFirst 41 = .ok (.iconst 5, 1) := by decide +kernel
theorem dX12_saysFirst_42 : decode cX12_saysFirst 42 = .ok (.iconst 0, 1) := by decide +kernel
theorem dX12_saysFirst_43 : decode cX12_saysFirst 43 = .ok (.bastore, 1) := by decide +kernel
theorem dX12_saysFirst_44 : decode cX12_saysFirst 44 = .ok (.aload_n 0, 1) := by decide +kernel
theorem dX12_saysFirst_45 : decode cX12_saysFirst 45 = .ok (.getfield 290, 3) := by decide +kernel
theorem dX12_saysFirst_48 : decode cX12_saysFirst 48 = .ok (.bipush 6, 2) := by decide +kernel
theorem dX12_saysFirst_50 : decode cX12_saysFirst 50 = .ok (.iconst 0, 1) := by decide +kernel
theorem dX12_saysFirst_51 : decode cX12_saysFirst 51 = .ok (.bastore, 1) := by decide +kernel
theorem dX12_saysFirst_52 : decode cX12_saysFirst 52 = .ok (.aload_n 0, 1) := by decide +kernel
theorem dX12_saysFirst_53 : decode cX12_saysFirst 53 = .ok (.getfield 290, 3) := by decide +kernel
theorem dX12_saysFirst_56 : decode cX12_saysFirst 56 = .ok (.iconst 0, 1) := by decide +kernel
theorem dX12_saysFirst_57 : decode cX12_saysFirst 57 = .ok (.aload_n 0, 1) := by decide +kernel
theorem dX12_saysFirst_58 : decode cX12_saysFirst 58 = .ok (.getfield 305, 3) := by decide +kernel
theorem dX12_saysFirst_61 : decode cX12_saysFirst 61 = .ok (.bipush 14, 2) := by decide +kernel
theorem dX12_saysFirst_63 : decode cX12_saysFirst 63 = .ok (.iload_n 1, 1) := by decide +kernel
theorem dX12_saysFirst_64 : decode cX12_saysFirst 64 = .ok (.imul, 1) := by decide +kernel
theorem dX12_saysFirst_65 : decode cX12_saysFirst 65 = .ok (.bipush 7, 2) := by decide +kernel
theorem dX12_saysFirst_67 : decode cX12_saysFirst 67 = .ok (.iload_n 2, 1) := by decide +kernel
theorem dX12_saysFirst_68 : decode cX12_saysFirst 68 = .ok (.iconst 1, 1) := by decide +kernel
theorem dX12_saysFirst_69 : decode cX12_saysFirst 69 = .ok (.isub, 1) := by decide +kernel
theorem dX12_saysFirst_70 : decode cX12_saysFirst 70 = .ok (.imul, 1) := by decide +kernel
theorem dX12_saysFirst_71 : decode cX12_saysFirst 71 = .ok (.iadd, 1) := by decide +kernel
theorem dX12_saysFirst_72 : decode cX12_saysFirst 72 = .ok (.bipush 7, 2) := by decide +kernel
theorem dX12_saysFirst_74 : decode cX12_saysFirst 74 = .ok (.invokestatic 29, 3) := by decide +kernel
theorem dX12_saysFirst_77 : decode cX12_saysFirst 77 = .ok (.aload_n 0, 1) := by decide +kernel
theorem dX12_saysFirst_78 : decode cX12_saysFirst 78 = .ok (.iload_n 1, 1) := by decide +kernel
theorem dX12_saysFirst_79 : decode cX12_saysFirst 79 = .ok (.bipush 6, 2) := by decide +kernel
theorem dX12_saysFirst_81 : decode cX12_saysFirst 81 = .ok (.bipush 7, 2) := by decide +kernel
theorem dX12_saysFirst_83 : decode cX12_saysFirst 83 = .ok (.invokevirtual 527, 3) := by decide +kernel
theorem dX12_saysFirst_86 : decode cX12_saysFirst 86 = .ok (.return_, 1) := by decide +kernel
theorem dX12_saysRow_0 : decode cX12_saysRow 0 = .ok (.aload_n 0, 1) := by decide +kernel
theorem dX12_saysRow_1 : decode cX12_saysRow 1 = .ok (.getfield 290, 3) := by decide +kernel
theorem dX12_saysRow_4 : decode cX12_saysRow 4 = .ok (.iconst 0, 1) := by decide +kernel
theorem dX12_saysRow_5 : decode cX12_saysRow 5 = .ok (.iload_n 2, 1) := by decide +kernel
theorem dX12_saysRow_6 : decode cX12_saysRow 6 = .ok (.i2b, 1) := by decide +kernel
theorem dX12_saysRow_7 : decode cX12_saysRow 7 = .ok (.bastore, 1) := by decide +kernel
theorem dX12_saysRow_8 : decode cX12_saysRow 8 = .ok (.aload_n 3, 1) := by decide +kernel
theorem dX12_saysRow_9 : decode cX12_saysRow 9 = .ok (.iload 4, 2) := by decide +kernel
theorem dX12_saysRow_11 : decode cX12_saysRow 11 = .ok (.aload_n 0, 1) := by decide +kernel
theorem dX12_saysRow_12 : decode cX12_saysRow 12 = .ok (.getfield 290, 3) := by decide +kernel
theorem dX12_saysRow_15 : decode cX12_saysRow 15 = .ok (.iconst 1, 1) := by decide +kernel
theorem dX12_saysRow_16 : decode cX12_saysRow 16 = .ok (.bipush 16, 2) := by decide +kernel
theorem dX12_saysRow_18 : decode cX12_saysRow 18 = .ok (.invokestatic 29, 3) := by decide +kernel
theorem dX12_saysRow_21 : decode cX12_saysRow 21 = .ok (.aload_n 0, 1) := by decide +kernel
theorem dX12_saysRow_22 : decode cX12_saysRow 22 = .ok (.iload_n 1, 1) := by decide +kernel
theorem dX12_saysRow_23 : decode cX12_saysRow 23 = .ok (.bipush 6, 2) := by decide +kernel
theorem dX12_saysRow_25 : decode cX12_saysRow 25 = .ok (.bipush 17, 2) := by decide +kernel
theorem dX12_saysRow_27 : decode cX12_saysRow 27 = .ok (.invokevirtual 527, 3) := by decide +kernel
theorem dX12_saysRow_30 : decode cX12_saysRow 30 = .ok (.return_, 1) := by decide +kernel
theorem dX12_fails_0 : decode cX12_fails 0 = .ok (.iload_n 3, 1) := by decide +kernel
theorem dX12_fails_1 : decode cX12_fails 1 = .ok (.ifCond .eq 26, 3) := by decide +kernel
theorem dX12_fails_4 : decode cX12_fails 4 = .ok (.aload_n 0, 1) := by decide +kernel
theorem dX12_fails_5 : decode cX12_fails 5 = .ok (.getfield 290, 3) := by decide +kernel
theorem dX12_fails_8 : decode cX12_fails 8 = .ok (.iconst 0, 1) := by decide +kernel
theorem dX12_fails_9 : decode cX12_fails 9 = .ok (.iconst 5, 1) := by decide +kernel
theorem dX12_fails_10 : decode cX12_fails 10 = .ok (.bastore, 1) := by decide +kernel
theorem dX12_fails_11 : decode cX12_fails 11 = .ok (.aload_n 0, 1) := by decide +kernel
theorem dX12_fails_12 : decode cX12_fails 12 = .ok (.getfield 290, 3) := by decide +kernel
theorem dX12_fails_15 : decode cX12_fails 15 = .ok (.iconst 1, 1) := by decide +kernel
theorem dX12_fails_16 : decode cX12_fails 16 = .ok (.iload_n 2, 1) := by decide +kernel
theorem dX12_fails_17 : decode cX12_fails 17 = .ok (.i2b, 1) := by decide +kernel
theorem dX12_fails_18 : decode cX12_fails 18 = .ok (.bastore, 1) := by decide +kernel
theorem dX12_fails_19 : decode cX12_fails 19 = .ok (.aload_n 0, 1) := by decide +kernel
theorem dX12_fails_20 : decode cX12_fails 20 = .ok (.iload_n 1, 1) := by decide +kernel
theorem dX12_fails_21 : decode cX12_fails 21 = .ok (.bipush 6, 2) := by decide +kernel
theorem dX12_fails_23 : decode cX12_fails 23 = .ok (.iconst 2, 1) := by decide +kernel
theorem dX12_fails_24 : decode cX12_fails 24 = .ok (.invokevirtual 527, 3) := by decide +kernel
theorem dX12_fails_27 : decode cX12_fails 27 = .ok (.aload_n 0, 1) := by decide +kernel
theorem dX12_fails_28 : decode cX12_fails 28 = .ok (.getfield 296, 3) := by decide +kernel
theorem dX12_fails_31 : decode cX12_fails 31 = .ok (.iload_n 1, 1) := by decide +kernel
theorem dX12_fails_32 : decode cX12_fails 32 = .ok (.iconst 0, 1) := by decide +kernel
theorem dX12_fails_33 : decode cX12_fails 33 = .ok (.iastore, 1) := by decide +kernel
theorem dX12_fails_34 : decode cX12_fails 34 = .ok (.aload_n 0, 1) := by decide +kernel
theorem dX12_fails_35 : decode cX12_fails 35 = .ok (.iload_n 1, 1) := by decide +kernel
theorem dX12_fails_36 : decode cX12_fails 36 = .ok (.bipush 11, 2) := by decide +kernel
theorem dX12_fails_38 : decode cX12_fails 38 = .ok (.iload_n 2, 1) := by decide +kernel
theorem dX12_fails_39 : decode cX12_fails 39 = .ok (.iconst 0, 1) := by decide +kernel
theorem dX12_fails_40 : decode cX12_fails 40 = .ok (.iconst 0, 1) := by decide +kernel
theorem dX12_fails_41 : decode cX12_fails 41 = .ok (.invokevirtual 504, 3) := by decide +kernel
theorem dX12_fails_44 : decode cX12_fails 44 = .ok (.return_, 1) := by decide +kernel
theorem dX12_pairs_0 : decode cX12_pairs 0 = .ok (.aload_n 0, 1) := by decide +kernel
theorem dX12_pairs_1 : decode cX12_pairs 1 = .ok (.getfield 293, 3) := by decide +kernel
theorem dX12_pairs_4 : decode cX12_pairs 4 = .ok (.iconst 0, 1) := by decide +kernel
theorem dX12_pairs_5 : decode cX12_pairs 5 = .ok (.baload, 1) := by decide +kernel
theorem dX12_pairs_6 : decode cX12_pairs 6 = .ok (.sipush 255, 3) := by decide +kernel
theorem dX12_pairs_9 : decode cX12_pairs 9 = .ok (.iand, 1) := by decide +kernel
theorem dX12_pairs_10 : decode cX12_pairs 10 = .ok (.istore_n 3, 1) := by decide +kernel
theorem dX12_pairs_11 : decode cX12_pairs 11 = .ok (.aload_n 0, 1) := by decide +kernel
theorem dX12_pairs_12 : decode cX12_pairs 12 = .ok (.getfield 45, 3) := by decide +kernel
theorem dX12_pairs_15 : decode cX12_pairs 15 = .ok (.iload_n 1, 1) := by decide +kernel
theorem dX12_pairs_16 : decode cX12_pairs 16 = .ok (.iaload, 1) := by decide +kernel
theorem dX12_pairs_17 : decode cX12_pairs 17 = .ok (.iconst 4, 1) := by decide +kernel
theorem dX12_pairs_18 : decode cX12_pairs 18 = .ok (.if_icmp .ne 7, 3) := by decide +kernel
theorem dX12_pairs_21 : decode cX12_pairs 21 = .ok (.iconst 1, 1) := by decide +kernel
theorem dX12_pairs_22 : decode cX12_pairs 22 = .ok (.goto 4, 3) := by decide +kernel
theorem dX12_pairs_25 : decode cX12_pairs 25 = .ok (.iconst 0, 1) := by decide +kernel
theorem dX12_pairs_26 : decode cX12_pairs 26 = .ok (.istore 4, 2) := by decide +kernel
theorem dX12_pairs_28 : decode cX12_pairs 28 = .ok (.iload_n 3, 1) := by decide +kernel
theorem dX12_pairs_29 : decode cX12_pairs 29 = .ok (.iconst 1, 1) := by decide +kernel
theorem dX12_pairs_30 : decode cX12_pairs 30 = .ok (.if_icmp .eq 8, 3) := by decide +kernel
theorem dX12_pairs_33 : decode cX12_pairs 33 = .ok (.iload_n 3, 1) := by decide +kernel
theorem dX12_pairs_34 : decode cX12_pairs 34 = .ok (.iconst 2, 1) := by decide +kernel
theorem dX12_pairs_35 : decode cX12_pairs 35 = .ok (.if_icmp .ne 8, 3) := by decide +kernel
theorem dX12_pairs_38 : decode cX12_pairs 38 = .ok (.bipush 7, 2) := by decide +kernel
theorem dX12_pairs_40 : decode cX12_pairs 40 = .ok (.goto 28, 3) := by decide +kernel
theorem dX12_pairs_43 : decode cX12_pairs 43 = .ok (.iload_n 3, 1) := by decide +kernel
theorem dX12_pairs_44 : decode cX12_pairs 44 = .ok (.iconst 3, 1) := by decide +kernel
theorem dX12_pairs_45 : decode cX12_pairs 45 = .ok (.if_icmp .eq 8, 3) := by decide +kernel
theorem dX12_pairs_48 : decode cX12_pairs 48 = .ok (.iload_n 3, 1) := by decide +kernel
theorem dX12_pairs_49 : decode cX12_pairs 49 = .ok (.iconst 4, 1) := by decide +kernel
theorem dX12_pairs_50 : decode cX12_pairs 50 = .ok (.if_icmp .ne 8, 3) := by decide +kernel
theorem dX12_pairs_53 : decode cX12_pairs 53 = .ok (.bipush 17, 2) := by decide +kernel
theorem dX12_pairs_55 : decode cX12_pairs 55 = .ok (.goto 13, 3) := by decide +kernel
theorem dX12_pairs_58 : decode cX12_pairs 58 = .ok (.iload_n 3, 1) := by decide +kernel
theorem dX12_pairs_59 : decode cX12_pairs 59 = .ok (.iconst 5, 1) := by decide +kernel
theorem dX12_pairs_60 : decode cX12_pairs 60 = .ok (.if_icmp .ne 7, 3) := by decide +kernel
theorem dX12_pairs_63 : decode cX12_pairs 63 = .ok (.iconst 2, 1) := by decide +kernel
theorem dX12_pairs_64 : decode cX12_pairs 64 = .ok (.goto 4, 3) := by decide +kernel
theorem dX12_pairs_67 : decode cX12_pairs 67 = .ok (.iconst (-1), 1) := by decide +kernel
theorem dX12_pairs_68 : decode cX12_pairs 68 = .ok (.istore 5, 2) := by decide +kernel
theorem dX12_pairs_70 : decode cX12_pairs 70 = .ok (.iload_n 2, 1) := by decide +kernel
theorem dX12_pairs_71 : decode cX12_pairs 71 = .ok (.iload 5, 2) := by decide +kernel
theorem dX12_pairs_73 : decode cX12_pairs 73 = .ok (.if_icmp .eq 4, 3) := by decide +kernel
theorem dX12_pairs_76 : decode cX12_pairs 76 = .ok (.return_, 1) := by decide +kernel
theorem dX12_pairs_77 : decode cX12_pairs 77 = .ok (.iload_n 3, 1) := by decide +kernel
theorem dX12_pairs_78 : decode cX12_pairs 78 = .ok (.iconst 1, 1) := by decide +kernel
theorem dX12_pairs_79 : decode cX12_pairs 79 = .ok (.if_icmp .ne 72, 3) := by decide +kernel
theorem dX12_pairs_82 : decode cX12_pairs 82 = .ok (.iload 4, 2) := by decide +kernel
theorem dX12_pairs_84 : decode cX12_pairs 84 = .ok (.ifCond .ne 67, 3) := by decide +kernel
theorem dX12_pairs_87 : decode cX12_pairs 87 = .ok (.aload_n 0, 1) := by decide +kernel
theorem dX12_pairs_88 : decode cX12_pairs 88 = .ok (.getfield 299, 3) := by decide +kernel
theorem dX12_pairs_91 : decode cX12_pairs 91 = .ok (.iload_n 1, 1) := by decide +kernel
theorem dX12_pairs_92 : decode cX12_pairs 92 = .ok (.iaload, 1) := by decide +kernel
theorem dX12_pairs_93 : decode cX12_pairs 93 = .ok (.iconst (-1), 1) := by decide +kernel
theorem dX12_pairs_94 : decode cX12_pairs 94 = .ok (.if_icmp .ne 11, 3) := by decide +kernel
theorem dX12_pairs_97 : decode cX12_pairs 97 = .ok (.aload_n 0, 1) := by decide +kernel
theorem dX12_pairs_98 : decode cX12_pairs 98 = .ok (.iload_n 1, 1) := by decide +kernel
theorem dX12_pairs_99 : decode cX12_pairs 99 = .ok (.iconst 5, 1) := by decide +kernel
theorem dX12_pairs_100 : decode cX12_pairs 100 = .ok (.iconst 1, 1) := by decide +kernel
theorem dX12_pairs_101 : decode cX12_pairs 101 = .ok (.invokevirtual 531, 3) := by decide +kernel
theorem dX12_pairs_104 : decode cX12_pairs 104 = .ok (.return_, 1) := by decide +kernel
theorem dX12_pairs_105 : decode cX12_pairs 105 = .ok (.aload_n 0, 1) := by decide +kernel
theorem dX12_pairs_106 : decode cX12_pairs 106 = .ok (.getfield 302, 3) := by decide +kernel
theorem dX12_pairs_109 : decode cX12_pairs 109 = .ok (.iload_n 1, 1) := by decide +kernel
theorem dX12_pairs_110 : decode cX12_pairs 110 = .ok (.aload_n 0, 1) := by decide +kernel
theorem dX12_pairs_111 : decode cX12_pairs 111 = .ok (.getfield 299, 3) := by decide +kernel
theorem dX12_pairs_114 : decode cX12_pairs 114 = .ok (.iload_n 1, 1) := by decide +kernel
theorem dX12_pairs_115 : decode cX12_pairs 115 = .ok (.iaload, 1) := by decide +kernel
theorem dX12_pairs_116 : decode cX12_pairs 116 = .ok (.iastore, 1) := by decide +kernel
theorem dX12_pairs_117 : decode cX12_pairs 117 = .ok (.aload_n 0, 1) := by decide +kernel
theorem dX12_pairs_118 : decode cX12_pairs 118 = .ok (.getfield 293, 3) := by decide +kernel
theorem dX12_pairs_121 : decode cX12_pairs 121 = .ok (.iconst 0, 1) := by decide +kernel
theorem dX12_pairs_122 : decode cX12_pairs 122 = .ok (.aload_n 0, 1) := by decide +kernel
theorem dX12_pairs_123 : decode cX12_pairs 123 = .ok (.getfield 305, 3) := by decide +kernel
theorem dX12_pairs_126 : decode cX12_pairs 126 = .ok (.bipush 14, 2) := by decide +kernel
theorem dX12_pairs_128 : decode cX12_pairs 128 = .ok (.iload_n 1, 1) := by decide +kernel
theorem dX12_pairs_129 : decode cX12_pairs 129 = .ok (.imul, 1) := by decide +kernel
theorem dX12_pairs_130 : decode cX12_pairs 130 = .ok (.bipush 7, 2) := by decide +kernel
theorem dX12_pairs_132 : decode cX12_pairs 132 = .ok (.invokestatic 29, 3) := by decide +kernel
theorem dX12_pairs_135 : decode cX12_pairs 135 = .ok (.aload_n 0, 1) := by decide +kernel
theorem dX12_pairs_136 : decode cX12_pairs 136 = .ok (.iload_n 1, 1) := by decide +kernel
theorem dX12_pairs_137 : decode cX12_pairs 137 = .ok (.iconst 2, 1) := by decide +kernel
theorem dX12_pairs_138 : decode cX12_pairs 138 = .ok (.invokevirtual 534, 3) := by decide +kernel
theorem dX12_pairs_141 : decode cX12_pairs 141 = .ok (.aload_n 0, 1) := by decide +kernel
theorem dX12_pairs_142 : decode cX12_pairs 142 = .ok (.getfield 296, 3) := by decide +kernel
theorem dX12_pairs_145 : decode cX12_pairs 145 = .ok (.iload_n 1, 1) := by decide +kernel
theorem dX12_pairs_146 : decode cX12_pairs 146 = .ok (.iconst 2, 1) := by decide +kernel
theorem dX12_pairs_147 : decode cX12_pairs 147 = .ok (.iastore, 1) := by decide +kernel
theorem dX12_pairs_148 : decode cX12_pairs 148 = .ok (.goto 409, 3) := by decide +kernel
theorem dX12_pairs_151 : decode cX12_pairs 151 = .ok (.iload_n 3, 1) := by decide +kernel
theorem dX12_pairs_152 : decode cX12_pairs 152 = .ok (.iconst 2, 1) := by decide +kernel
theorem dX12_pairs_153 : decode cX12_pairs 153 = .ok (.if_icmp .ne 54, 3) := by decide +kernel
theorem dX12_pairs_156 : decode cX12_pairs 156 = .ok (.iload 4, 2) := by decide +kernel
theorem dX12_pairs_158 : decode cX12_pairs 158 = .ok (.ifCond .eq 49, 3) := by decide +kernel
theorem dX12_pairs_161 : decode cX12_pairs 161 = .ok (.aload_n 0, 1) := by decide +kernel
theorem dX12_pairs_162 : decode cX12_pairs 162 = .ok (.getfield 296, 3) := by decide +kernel
theorem dX12_pairs_165 : decode cX12_pairs 165 = .ok (.iload_n 1, 1) := by decide +kernel
theorem dX12_pairs_166 : decode cX12_pairs 166 = .ok (.iaload, 1) := by decide +kernel
theorem dX12_pairs_167 : decode cX12_pairs 167 = .ok (.iconst 1, 1) := by decide +kernel
theorem dX12_pairs_168 : decode cX12_pairs 168 = .ok (.if_icmp .ne 39, 3) := by decide +kernel
theorem dX12_pairs_171 : decode cX12_pairs 171 = .ok (.aload_n 0, 1) := by decide +kernel
theorem dX12_pairs_172 : decode cX12_pairs 172 = .ok (.getfield 293, 3) := by decide +kernel
theorem dX12_pairs_175 : decode cX12_pairs 175 = .ok (.iconst 0, 1) := by decide +kernel
theorem dX12_pairs_176 : decode cX12_pairs 176 = .ok (.aload_n 0, 1) := by decide +kernel
theorem dX12_pairs_177 : decode cX12_pairs 177 = .ok (.getfield 305, 3) := by decide +kernel
theorem dX12_pairs_180 : decode cX12_pairs 180 = .ok (.bipush 14, 2) := by decide +kernel
theorem dX12_pairs_182 : decode cX12_pairs 182 = .ok (.iload_n 1, 1) := by decide +kernel
theorem dX12_pairs_183 : decode cX12_pairs 183 = .ok (.imul, 1) := by decide +kernel
theorem dX12_pairs_184 : decode cX12_pairs 184 = .ok (.bipush 7, 2) := by decide +kernel
theorem dX12_pairs_186 : decode cX12_pairs 186 = .ok (.iadd, 1) := by decide +kernel
theorem dX12_pairs_187 : decode cX12_pairs 187 = .ok (.bipush 7, 2) := by decide +kernel
theorem dX12_pairs_189 : decode cX12_pairs 189 = .ok (.invokestatic 29, 3) := by decide +kernel
theorem dX12_pairs_192 : decode cX12_pairs 192 = .ok (.aload_n 0, 1) := by decide +kernel
theorem dX12_pairs_193 : decode cX12_pairs 193 = .ok (.iload_n 1, 1) := by decide +kernel
theorem dX12_pairs_194 : decode cX12_pairs 194 = .ok (.invokevirtual 537, 3) := by decide +kernel
theorem dX12_pairs_197 : decode cX12_pairs 197 = .ok (.aload_n 0, 1) := by decide +kernel
theorem dX12_pairs_198 : decode cX12_pairs 198 = .ok (.getfield 296, 3) := by decide +kernel
theorem dX12_pairs_201 : decode cX12_pairs 201 = .ok (.iload_n 1, 1) := by decide +kernel
theorem dX12_pairs_202 : decode cX12_pairs 202 = .ok (.iconst 2, 1) := by decide +kernel
theorem dX12_pairs_203 : decode cX12_pairs 203 = .ok (.iastore, 1) := by decide +kernel
theorem dX12_pairs_204 : decode cX12_pairs 204 = .ok (.goto 353, 3) := by decide +kernel
theorem dX12_pairs_207 : decode cX12_pairs 207 = .ok (.iload_n 3, 1) := by decide +kernel
theorem dX12_pairs_208 : decode cX12_pairs 208 = .ok (.iconst 3, 1) := by decide +kernel
theorem dX12_pairs_209 : decode cX12_pairs 209 = .ok (.if_icmp .ne 68, 3) := by decide +kernel
theorem dX12_pairs_212 : decode cX12_pairs 212 = .ok (.aload_n 0, 1) := by decide +kernel
theorem dX12_pairs_213 : decode cX12_pairs 213 = .ok (.getfield 296, 3) := by decide +kernel
theorem dX12_pairs_216 : decode cX12_pairs 216 = .ok (.iload_n 1, 1) := by decide +kernel
theorem dX12_pairs_217 : decode cX12_pairs 217 = .ok (.iaload, 1) := by decide +kernel
theorem dX12_pairs_218 : decode cX12_pairs 218 = .ok (.iconst 2, 1) := by decide +kernel
theorem dX12_pairs_219 : decode cX12_pairs 219 = .ok (.if_icmp .ne 58, 3) := by decide +kernel
theorem dX12_pairs_222 : decode cX12_pairs 222 = .ok (.aload_n 0, 1) := by decide +kernel
theorem dX12_pairs_223 : decode cX12_pairs 223 = .ok (.getfield 293, 3) := by decide +kernel
theorem dX12_pairs_226 : decode cX12_pairs 226 = .ok (.iconst 1, 1) := by decide +kernel
theorem dX12_pairs_227 : decode cX12_pairs 227 = .ok (.aload_n 0, 1) := by decide +kernel
theorem dX12_pairs_228 : decode cX12_pairs 228 = .ok (.getfield 308, 3) := by decide +kernel
theorem dX12_pairs_231 : decode cX12_pairs 231 = .ok (.bipush 16, 2) := by decide +kernel
theorem dX12_pairs_233 : decode cX12_pairs 233 = .ok (.iload_n 1, 1) := by decide +kernel
theorem dX12_pairs_234 : decode cX12_pairs 234 = .ok (.imul, 1) := by decide +kernel
theorem dX12_pairs_235 : decode cX12_pairs 235 = .ok (.bipush 16, 2) := by decide +kernel
theorem dX12_pairs_237 : decode cX12_pairs 237 = .ok (.invokestatic 29, 3) := by decide +kernel
theorem dX12_pairs_240 : decode cX12_pairs 240 = .ok (.iload 4, 2) := by decide +kernel
theorem dX12_pairs_242 : decode cX12_pairs 242 = .ok (.ifCond .eq 20, 3) := by decide +kernel
theorem dX12_pairs_245 : decode cX12_pairs 245 = .ok (.aload_n 0, 1) := by decide +kernel
theorem dX12_pairs_246 : decode cX12_pairs 246 = .ok (.iload_n 1, 1) := by decide +kernel
theorem dX12_pairs_247 : decode cX12_pairs 247 = .ok (.iconst 4, 1) := by decide +kernel
theorem dX12_pairs_248 : decode cX12_pairs 248 = .ok (.aload_n 0, 1) := by decide +kernel
theorem dX12_pairs_249 : decode cX12_pairs 249 = .ok (.getfield 311, 3) := by decide +kernel
theorem dX12_pairs_252 : decode cX12_pairs 252 = .ok (.bipush 16, 2) := by decide +kernel
theorem dX12_pairs_254 : decode cX12_pairs 254 = .ok (.iload_n 1, 1) := by decide +kernel
theorem dX12_pairs_255 : decode cX12_pairs 255 = .ok (.imul, 1) := by decide +kernel
theorem dX12_pairs_256 : decode cX12_pairs 256 = .ok (.invokevirtual 540, 3) := by decide +kernel
theorem dX12_pairs_259 : decode cX12_pairs 259 = .ok (.goto 8, 3) := by decide +kernel
theorem dX12_pairs_262 : decode cX12_pairs 262 = .ok (.aload_n 0, 1) := by decide +kernel
theorem dX12_pairs_263 : decode cX12_pairs 263 = .ok (.iload_n 1, 1) := by decide +kernel
theorem dX12_pairs_264 : decode cX12_pairs 264 = .ok (.invokevirtual 537, 3) := by decide +kernel
theorem dX12_pairs_267 : decode cX12_pairs 267 = .ok (.aload_n 0, 1) := by decide +kernel
theorem dX12_pairs_268 : decode cX12_pairs 268 = .ok (.getfield 296, 3) := by decide +kernel
theorem dX12_pairs_271 : decode cX12_pairs 271 = .ok (.iload_n 1, 1) := by decide +kernel
theorem dX12_pairs_272 : decode cX12_pairs 272 = .ok (.iconst 3, 1) := by decide +kernel
theorem dX12_pairs_273 : decode cX12_pairs 273 = .ok (.iastore, 1) := by decide +kernel
theorem dX12_pairs_274 : decode cX12_pairs 274 = .ok (.goto 283, 3) := by decide +kernel
theorem dX12_pairs_277 : decode cX12_pairs 277 = .ok (.iload_n 3, 1) := by decide +kernel
theorem dX12_pairs_278 : decode cX12_pairs 278 = .ok (.iconst 4, 1) := by decide +kernel
theorem dX12_pairs_279 : decode cX12_pairs 279 = .ok (.if_icmp .ne 248, 3) := by decide +kernel
theorem dX12_pairs_282 : decode cX12_pairs 282 = .ok (.aload_n 0, 1) := by decide +kernel
theorem dX12_pairs_283 : decode cX12_pairs 283 = .ok (.getfield 296, 3) := by decide +kernel
theorem dX12_pairs_286 : decode cX12_pairs 286 = .ok (.iload_n 1, 1) := by decide +kernel
theorem dX12_pairs_287 : decode cX12_pairs 287 = .ok (.iaload, 1) := by decide +kernel
theorem dX12_pairs_288 : decode cX12_pairs 288 = .ok (.iconst 3, 1) := by decide +kernel
theorem dX12_pairs_289 : decode cX12_pairs 289 = .ok (.if_icmp .ne 238, 3) := by decide +kernel
theorem dX12_pairs_292 : decode cX12_pairs 292 = .ok (.aload_n 0, 1) := by decide +kernel
theorem dX12_pairs_293 : decode cX12_pairs 293 = .ok (.iload_n 1, 1) := by decide +kernel
theorem dX12_pairs_294 : decode cX12_pairs 294 = .ok (.aload_n 0, 1) := by decide +kernel
theorem dX12_pairs_295 : decode cX12_pairs 295 = .ok (.getfield 293, 3) := by decide +kernel
theorem dX12_pairs_298 : decode cX12_pairs 298 = .ok (.iconst 1, 1) := by decide +kernel
theorem dX12_pairs_299 : decode cX12_pairs 299 = .ok (.invokevirtual 544, 3) := by decide +kernel
theorem dX12_pairs_302 : decode cX12_pairs 302 = .ok (.iconst 1, 1) := by decide +kernel
theorem dX12_pairs_303 : decode cX12_pairs 303 = .ok (.istore 6, 2) := by decide +kernel
theorem dX12_pairs_305 : decode cX12_pairs 305 = .ok (.iconst 0, 1) := by decide +kernel
theorem dX12_pairs_306 : decode cX12_pairs 306 = .ok (.istore 7, 2) := by decide +kernel
theorem dX12_pairs_308 : decode cX12_pairs 308 = .ok (.iload 7, 2) := by decide +kernel
theorem dX12_pairs_310 : decode cX12_pairs 310 = .ok (.bipush 16, 2) := by decide +kernel
theorem dX12_pairs_312 : decode cX12_pairs 312 = .ok (.if_icmp .ge 43, 3) := by decide +kernel
theorem dX12_pairs_315 : decode cX12_pairs 315 = .ok (.iload 6, 2) := by decide +kernel
theorem dX12_pairs_317 : decode cX12_pairs 317 = .ok (.ifCond .eq 29, 3) := by decide +kernel
theorem dX12_pairs_320 : decode cX12_pairs 320 = .ok (.aload_n 0, 1) := by decide +kernel
theorem dX12_pairs_321 : decode cX12_pairs 321 = .ok (.getfield 317, 3) := by decide +kernel
theorem dX12_pairs_324 : decode cX12_pairs 324 = .ok (.iload 7, 2) := by decide +kernel
theorem dX12_pairs_326 : decode cX12_pairs 326 = .ok (.baload, 1) := by decide +kernel
theorem dX12_pairs_327 : decode cX12_pairs 327 = .ok (.aload_n 0, 1) := by decide +kernel
theorem dX12_pairs_328 : decode cX12_pairs 328 = .ok (.getfield 308, 3) := by decide +kernel
theorem dX12_pairs_331 : decode cX12_pairs 331 = .ok (.bipush 16, 2) := by decide +kernel
theorem dX12_pairs_333 : decode cX12_pairs 333 = .ok (.iload_n 1, 1) := by decide +kernel
theorem dX12_pairs_334 : decode cX12_pairs 334 = .ok (.imul, 1) := by decide +kernel
theorem dX12_pairs_335 : decode cX12_pairs 335 = .ok (.iload 7, 2) := by decide +kernel
theorem dX12_pairs_337 : decode cX12_pairs 337 = .ok (.iadd, 1) := by decide +kernel
theorem dX12_pairs_338 : decode cX12_pairs 338 = .ok (.baload, 1) := by decide +kernel
theorem dX12_pairs_339 : decode cX12_pairs 339 = .ok (.if_icmp .ne 7, 3) := by decide +kernel
theorem dX12_pairs_342 : decode cX12_pairs 342 = .ok (.iconst 1, 1) := by decide +kernel
theorem dX12_pairs_343 : decode cX12_pairs 343 = .ok (.goto 4, 3) := by decide +kernel
theorem dX12_pairs_346 : decode cX12_pairs 346 = .ok (.iconst 0, 1) := by decide +kernel
theorem dX12_pairs_347 : decode cX12_pairs 347 = .ok (.istore 6, 2) := by decide +kernel
theorem dX12_pairs_349 : decode cX12_pairs 349 = .ok (.iinc 7 1, 3) := by decide +kernel
theorem dX12_pairs_352 : decode cX12_pairs 352 = .ok (.goto (-44), 3) := by decide +kernel
theorem dX12_pairs_355 : decode cX12_pairs 355 = .ok (.iload 6, 2) := by decide +kernel
theorem dX12_pairs_357 : decode cX12_pairs 357 = .ok (.ifCond .ne 11, 3) := by decide +kernel
theorem dX12_pairs_360 : decode cX12_pairs 360 = .ok (.aload_n 0, 1) := by decide +kernel
theorem dX12_pairs_361 : decode cX12_pairs 361 = .ok (.iload_n 1, 1) := by decide +kernel
theorem dX12_pairs_362 : decode cX12_pairs 362 = .ok (.iconst 4, 1) := by decide +kernel
theorem dX12_pairs_363 : decode cX12_pairs 363 = .ok (.iconst 1, 1) := by decide +kernel
theorem dX12_pairs_364 : decode cX12_pairs 364 = .ok (.invokevirtual 531, 3) := by decide +kernel
theorem dX12_pairs_367 : decode cX12_pairs 367 = .ok (.return_, 1) := by decide +kernel
theorem dX12_pairs_368 : decode cX12_pairs 368 = .ok (.iload 4, 2) := by decide +kernel
theorem dX12_pairs_370 : decode cX12_pairs 370 = .ok (.ifCond .ne 17, 3) := by decide +kernel
theorem dX12_pairs_373 : decode cX12_pairs 373 = .ok (.aload_n 0, 1) := by decide +kernel
theorem dX12_pairs_374 : decode cX12_pairs 374 = .ok (.iload_n 1, 1) := by decide +kernel
theorem dX12_pairs_375 : decode cX12_pairs 375 = .ok (.iconst 4, 1) := by decide +kernel
theorem dX12_pairs_376 : decode cX12_pairs 376 = .ok (.aload_n 0, 1) := by decide +kernel
theorem dX12_pairs_377 : decode cX12_pairs 377 = .ok (.getfield 311, 3) := by decide +kernel
theorem dX12_pairs_380 : decode cX12_pairs 380 = .ok (.bipush 16, 2) := by decide +kernel
theorem dX12_pairs_382 : decode cX12_pairs 382 = .ok (.iload_n 1, 1) := by decide +kernel
theorem dX12_pairs_383 : decode cX12_pairs 383 = .ok (.imul, 1) := by decide +kernel
theorem dX12_pairs_384 : decode cX12_pairs 384 = .ok (.invokevirtual 540, 3) := by decide +kernel
theorem dX12_pairs_387 : decode cX12_pairs 387 = .ok (.iconst 0, 1) := by decide +kernel
theorem dX12_pairs_388 : decode cX12_pairs 388 = .ok (.istore 7, 2) := by decide +kernel
theorem dX12_pairs_390 : decode cX12_pairs 390 = .ok (.iload 7, 2) := by decide +kernel
theorem dX12_pairs_392 : decode cX12_pairs 392 = .ok (.bipush 8, 2) := by decide +kernel
theorem dX12_pairs_394 : decode cX12_pairs 394 = .ok (.if_icmp .ge 84, 3) := by decide +kernel
theorem dX12_pairs_397 : decode cX12_pairs 397 = .ok (.aload_n 0, 1) := by decide +kernel
theorem dX12_pairs_398 : decode cX12_pairs 398 = .ok (.getfield 317, 3) := by decide +kernel
theorem dX12_pairs_401 : decode cX12_pairs 401 = .ok (.iload 7, 2) := by decide +kernel
theorem dX12_pairs_403 : decode cX12_pairs 403 = .ok (.iload 4, 2) := by decide +kernel
theorem dX12_pairs_405 : decode cX12_pairs 405 = .ok (.ifCond .eq 15, 3) := by decide +kernel
theorem dX12_pairs_408 : decode cX12_pairs 408 = .ok (.aload_n 0, 1) := by decide +kernel
theorem dX12_pairs_409 : decode cX12_pairs 409 = .ok (.getfield 293, 3) := by decide +kernel
theorem dX12_pairs_412 : decode cX12_pairs 412 = .ok (.iconst 1, 1) := by decide +kernel
theorem dX12_pairs_413 : decode cX12_pairs 413 = .ok (.iload 7, 2) := by decide +kernel
theorem dX12_pairs_415 : decode cX12_pairs 415 = .ok (.iadd, 1) := by decide +kernel
theorem dX12_pairs_416 : decode cX12_pairs 416 = .ok (.baload, 1) := by decide +kernel
theorem dX12_pairs_417 : decode cX12_pairs 417 = .ok (.goto 15, 3) := by decide +kernel
theorem dX12_pairs_420 : decode cX12_pairs 420 = .ok (.aload_n 0, 1) := by decide +kernel
theorem dX12_pairs_421 : decode cX12_pairs 421 = .ok (.getfield 311, 3) := by decide +kernel
theorem dX12_pairs_424 : decode cX12_pairs 424 = .ok (.bipush 16, 2) := by decide +kernel
theorem dX12_pairs_426 : decode cX12_pairs 426 = .ok (.iload_n 1, 1) := by decide +kernel
theorem dX12_pairs_427 : decode cX12_pairs 427 = .ok (.imul, 1) := by decide +kernel
theorem dX12_pairs_428 : decode cX12_pairs 428 = .ok (.iload 7, 2) := by decide +kernel
theorem dX12_pairs_430 : decode cX12_pairs 430 = .ok (.iadd, 1) := by decide +kernel
theorem dX12_pairs_431 : decode cX12_pairs 431 = .ok (.baload, 1) := by decide +kernel
theorem dX12_pairs_432 : decode cX12_pairs 432 = .ok (.bastore, 1) := by decide +kernel
theorem dX12_pairs_433 : decode cX12_pairs 433 = .ok (.aload_n 0, 1) := by decide +kernel
theorem dX12_pairs_434 : decode cX12_pairs 434 = .ok (.getfield 317, 3) := by decide +kernel
theorem dX12_pairs_437 : decode cX12_pairs 437 = .ok (.bipush 8, 2) := by decide +kernel
theorem dX12_pairs_439 : decode cX12_pairs 439 = .ok (.iload 7, 2) := by decide +kernel
theorem dX12_pairs_441 : decode cX12_pairs 441 = .ok (.iadd, 1) := by decide +kernel
theorem dX12_pairs_442 : decode cX12_pairs 442 = .ok (.iload 4, 2) := by decide +kernel
theorem dX12_pairs_444 : decode cX12_pairs 444 = .ok (.ifCond .eq 18, 3) := by decide +kernel
theorem dX12_pairs_447 : decode cX12_pairs 447 = .ok (.aload_n 0, 1) := by decide +kernel
theorem dX12_pairs_448 : decode cX12_pairs 448 = .ok (.getfield 311, 3) := by decide +kernel
theorem dX12_pairs_451 : decode cX12_pairs 451 = .ok (.bipush 16, 2) := by decide +kernel
theorem dX12_pairs_453 : decode cX12_pairs 453 = .ok (.iload_n 1, 1) := by decide +kernel
theorem dX12_pairs_454 : decode cX12_pairs 454 = .ok (.imul, 1) := by decide +kernel
theorem dX12_pairs_455 : decode cX12_pairs 455 = .ok (.iload 7, 2) := by decide +kernel
theorem dX12_pairs_457 : decode cX12_pairs 457 = .ok (.iadd, 1) := by decide +kernel
theorem dX12_pairs_458 : decode cX12_pairs 458 = .ok (.baload, 1) := by decide +kernel
theorem dX12_pairs_459 : decode cX12_pairs 459 = .ok (.goto 12, 3) := by decide +kernel
theorem dX12_pairs_462 : decode cX12_pairs 462 = .ok (.aload_n 0, 1) := by decide +kernel
theorem dX12_pairs_463 : decode cX12_pairs 463 = .ok (.getfield 293, 3) := by decide +kernel
theorem dX12_pairs_466 : decode cX12_pairs 466 = .ok (.iconst 1, 1) := by decide +kernel
theorem dX12_pairs_467 : decode cX12_pairs 467 = .ok (.iload 7, 2) := by decide +kernel
theorem dX12_pairs_469 : decode cX12_pairs 469 = .ok (.iadd, 1) := by decide +kernel
theorem dX12_pairs_470 : decode cX12_pairs 470 = .ok (.baload, 1) := by decide +kernel
theorem dX12_pairs_471 : decode cX12_pairs 471 = .ok (.bastore, 1) := by decide +kernel
theorem dX12_pairs_472 : decode cX12_pairs 472 = .ok (.iinc 7 1, 3) := by decide +kernel
theorem dX12_pairs_475 : decode cX12_pairs 475 = .ok (.goto (-85), 3) := by decide +kernel
theorem dX12_pairs_478 : decode cX12_pairs 478 = .ok (.aload_n 0, 1) := by decide +kernel
theorem dX12_pairs_479 : decode cX12_pairs 479 = .ok (.aload_n 0, 1) := by decide +kernel
theorem dX12_pairs_480 : decode cX12_pairs 480 = .ok (.getfield 314, 3) := by decide +kernel
theorem dX12_pairs_483 : decode cX12_pairs 483 = .ok (.iconst 0, 1) := by decide +kernel
theorem dX12_pairs_484 : decode cX12_pairs 484 = .ok (.aload_n 0, 1) := by decide +kernel
theorem dX12_pairs_485 : decode cX12_pairs 485 = .ok (.getfield 317, 3) := by decide +kernel
theorem dX12_pairs_488 : decode cX12_pairs 488 = .ok (.iconst 0, 1) := by decide +kernel
theorem dX12_pairs_489 : decode cX12_pairs 489 = .ok (.aload_n 0, 1) := by decide +kernel
theorem dX12_pairs_490 : decode cX12_pairs 490 = .ok (.getfield 206, 3) := by decide +kernel
theorem dX12_pairs_493 : decode cX12_pairs 493 = .ok (.bipush 16, 2) := by decide +kernel
theorem dX12_pairs_495 : decode cX12_pairs 495 = .ok (.iload_n 1, 1) := by decide +kernel
theorem dX12_pairs_496 : decode cX12_pairs 496 = .ok (.imul, 1) := by decide +kernel
theorem dX12_pairs_497 : decode cX12_pairs 497 = .ok (.invokevirtual 444, 3) := by decide +kernel
theorem dX12_pairs_500 : decode cX12_pairs 500 = .ok (.aload_n 0, 1) := by decide +kernel
theorem dX12_pairs_501 : decode cX12_pairs 501 = .ok (.getfield 245, 3) := by decide +kernel
theorem dX12_pairs_504 : decode cX12_pairs 504 = .ok (.iload_n 1, 1) := by decide +kernel
theorem dX12_pairs_505 : decode cX12_pairs 505 = .ok (.iconst 1, 1) := by decide +kernel
theorem dX12_pairs_506 : decode cX12_pairs 506 = .ok (.bastore, 1) := by decide +kernel
theorem dX12_pairs_507 : decode cX12_pairs 507 = .ok (.aload_n 0, 1) := by decide +kernel
theorem dX12_pairs_508 : decode cX12_pairs 508 = .ok (.getfield 296, 3) := by decide +kernel
theorem dX12_pairs_511 : decode cX12_pairs 511 = .ok (.iload_n 1, 1) := by decide +kernel
theorem dX12_pairs_512 : decode cX12_pairs 512 = .ok (.iconst 0, 1) := by decide +kernel
theorem dX12_pairs_513 : decode cX12_pairs 513 = .ok (.iastore, 1) := by decide +kernel
theorem dX12_pairs_514 : decode cX12_pairs 514 = .ok (.aload_n 0, 1) := by decide +kernel
theorem dX12_pairs_515 : decode cX12_pairs 515 = .ok (.iload_n 1, 1) := by decide +kernel
theorem dX12_pairs_516 : decode cX12_pairs 516 = .ok (.bipush 10, 2) := by decide +kernel
theorem dX12_pairs_518 : decode cX12_pairs 518 = .ok (.iconst 0, 1) := by decide +kernel
theorem dX12_pairs_519 : decode cX12_pairs 519 = .ok (.iconst 0, 1) := by decide +kernel
theorem dX12_pairs_520 : decode cX12_pairs 520 = .ok (.iconst 0, 1) := by decide +kernel
theorem dX12_pairs_521 : decode cX12_pairs 521 = .ok (.invokevirtual 504, 3) := by decide +kernel
theorem dX12_pairs_524 : decode cX12_pairs 524 = .ok (.goto 33, 3) := by decide +kernel
theorem dX12_pairs_527 : decode cX12_pairs 527 = .ok (.iload_n 3, 1) := by decide +kernel
theorem dX12_pairs_528 : decode cX12_pairs 528 = .ok (.iconst 5, 1) := by decide +kernel
theorem dX12_pairs_529 : decode cX12_pairs 529 = .ok (.if_icmp .ne 28, 3) := by decide +kernel
theorem dX12_pairs_532 : decode cX12_pairs 532 = .ok (.aload_n 0, 1) := by decide +kernel
theorem dX12_pairs_533 : decode cX12_pairs 533 = .ok (.getfield 296, 3) := by decide +kernel
theorem dX12_pairs_536 : decode cX12_pairs 536 = .ok (.iload_n 1, 1) := by decide +kernel
theorem dX12_pairs_537 : decode cX12_pairs 537 = .ok (.iaload, 1) := by decide +kernel
theorem dX12_pairs_538 : decode cX12_pairs 538 = .ok (.ifCond .eq 19, 3) := by decide +kernel
theorem dX12_pairs_541 : decode cX12_pairs 541 = .ok (.aload_n 0, 1) := by decide +kernel
theorem dX12_pairs_542 : decode cX12_pairs 542 = .ok (.iload_n 1, 1) := by decide +kernel
theorem dX12_pairs_543 : decode cX12_pairs 543 = .ok (.aload_n 0, 1) := by decide +kernel
theorem dX12_pairs_544 : decode cX12_pairs 544 = .ok (.getfield 293, 3) := by decide +kernel
theorem dX12_pairs_547 : decode cX12_pairs 547 = .ok (.iconst 1, 1) := by decide +kernel
theorem dX12_pairs_548 : decode cX12_pairs 548 = .ok (.baload, 1) := by decide +kernel
theorem dX12_pairs_549 : decode cX12_pairs 549 = .ok (.sipush 255, 3) := by decide +kernel
theorem dX12_pairs_552 : decode cX12_pairs 552 = .ok (.iand, 1) := by decide +kernel
theorem dX12_pairs_553 : decode cX12_pairs 553 = .ok (.iconst 0, 1) := by decide +kernel
theorem dX12_pairs_554 : decode cX12_pairs 554 = .ok (.invokevirtual 531, 3) := by decide +kernel
theorem dX12_pairs_557 : decode cX12_pairs 557 = .ok (.return_, 1) := by decide +kernel
theorem dX12_tells_0 : decode cX12_tells 0 = .ok (.iconst 0, 1) := by decide +kernel
theorem dX12_tells_1 : decode cX12_tells 1 = .ok (.istore_n 2, 1) := by decide +kernel
theorem dX12_tells_2 : decode cX12_tells 2 = .ok (.iload_n 2, 1) := by decide +kernel
theorem dX12_tells_3 : decode cX12_tells 3 = .ok (.bipush 16, 2) := by decide +kernel
theorem dX12_tells_5 : decode cX12_tells 5 = .ok (.if_icmp .ge 26, 3) := by decide +kernel
theorem dX12_tells_8 : decode cX12_tells 8 = .ok (.aload_n 0, 1) := by decide +kernel
theorem dX12_tells_9 : decode cX12_tells 9 = .ok (.getfield 311, 3) := by decide +kernel
theorem dX12_tells_12 : decode cX12_tells 12 = .ok (.bipush 16, 2) := by decide +kernel
theorem dX12_tells_14 : decode cX12_tells 14 = .ok (.iload_n 1, 1) := by decide +kernel
theorem dX12_tells_15 : decode cX12_tells 15 = .ok (.imul, 1) := by decide +kernel
theorem dX12_tells_16 : decode cX12_tells 16 = .ok (.iload_n 2, 1) := by decide +kernel
theorem dX12_tells_17 : decode cX12_tells 17 = .ok (.iadd, 1) := by decide +kernel
theorem dX12_tells_18 : decode cX12_tells 18 = .ok (.aload_n 0, 1) := by decide +kernel
theorem dX12_tells_19 : decode cX12_tells 19 = .ok (.iload_n 1, 1) := by decide +kernel
theorem dX12_tells_20 : decode cX12_tells 20 = .ok (.invokevirtual 480, 3) := by decide +kernel
theorem dX12_tells_23 : decode cX12_tells 23 = .ok (.i2b, 1) := by decide +kernel
theorem dX12_tells_24 : decode cX12_tells 24 = .ok (.bastore, 1) := by decide +kernel
theorem dX12_tells_25 : decode cX12_tells 25 = .ok (.iinc 2 1, 3) := by decide +kernel
theorem dX12_tells_28 : decode cX12_tells 28 = .ok (.goto (-26), 3) := by decide +kernel
theorem dX12_tells_31 : decode cX12_tells 31 = .ok (.aload_n 0, 1) := by decide +kernel
theorem dX12_tells_32 : decode cX12_tells 32 = .ok (.iload_n 1, 1) := by decide +kernel
theorem dX12_tells_33 : decode cX12_tells 33 = .ok (.aload_n 0, 1) := by decide +kernel
theorem dX12_tells_34 : decode cX12_tells 34 = .ok (.getfield 311, 3) := by decide +kernel
theorem dX12_tells_37 : decode cX12_tells 37 = .ok (.bipush 16, 2) := by decide +kernel
theorem dX12_tells_39 : decode cX12_tells 39 = .ok (.iload_n 1, 1) := by decide +kernel
theorem dX12_tells_40 : decode cX12_tells 40 = .ok (.imul, 1) := by decide +kernel
theorem dX12_tells_41 : decode cX12_tells 41 = .ok (.invokevirtual 544, 3) := by decide +kernel
theorem dX12_tells_44 : decode cX12_tells 44 = .ok (.aload_n 0, 1) := by decide +kernel
theorem dX12_tells_45 : decode cX12_tells 45 = .ok (.iload_n 1, 1) := by decide +kernel
theorem dX12_tells_46 : decode cX12_tells 46 = .ok (.iconst 3, 1) := by decide +kernel
theorem dX12_tells_47 : decode cX12_tells 47 = .ok (.aload_n 0, 1) := by decide +kernel
theorem dX12_tells_48 : decode cX12_tells 48 = .ok (.getfield 317, 3) := by decide +kernel
theorem dX12_tells_51 : decode cX12_tells 51 = .ok (.iconst 0, 1) := by decide +kernel
theorem dX12_tells_52 : decode cX12_tells 52 = .ok (.invokevirtual 540, 3) := by decide +kernel
theorem dX12_tells_55 : decode cX12_tells 55 = .ok (.return_, 1) := by decide +kernel
theorem dX12_isHandle_0 : decode cX12_isHandle 0 = .ok (.iload_n 2, 1) := by decide +kernel
theorem dX12_isHandle_1 : decode cX12_isHandle 1 = .ok (.ifCond .le 17, 3) := by decide +kernel
theorem dX12_isHandle_4 : decode cX12_isHandle 4 = .ok (.iload_n 2, 1) := by decide +kernel
theorem dX12_isHandle_5 : decode cX12_isHandle 5 = .ok (.aload_n 0, 1) := by decide +kernel
theorem dX12_isHandle_6 : decode cX12_isHandle 6 = .ok (.getfield 320, 3) := by decide +kernel
theorem dX12_isHandle_9 : decode cX12_isHandle 9 = .ok (.iload_n 1, 1) := by decide +kernel
theorem dX12_isHandle_10 : decode cX12_isHandle 10 = .ok (.iaload, 1) := by decide +kernel
theorem dX12_isHandle_11 : decode cX12_isHandle 11 = .ok (.if_icmp .gt 7, 3) := by decide +kernel
theorem dX12_isHandle_14 : decode cX12_isHandle 14 = .ok (.iconst 1, 1) := by decide +kernel
theorem dX12_isHandle_15 : decode cX12_isHandle 15 = .ok (.goto 4, 3) := by decide +kernel
theorem dX12_isHandle_18 : decode cX12_isHandle 18 = .ok (.iconst 0, 1) := by decide +kernel
theorem dX12_isHandle_19 : decode cX12_isHandle 19 = .ok (.ireturn, 1) := by decide +kernel
theorem dX12_row_0 : decode cX12_row 0 = .ok (.bipush 20, 2) := by decide +kernel
theorem dX12_row_2 : decode cX12_row 2 = .ok (.iload_n 1, 1) := by decide +kernel
theorem dX12_row_3 : decode cX12_row 3 = .ok (.imul, 1) := by decide +kernel
theorem dX12_row_4 : decode cX12_row 4 = .ok (.iload_n 2, 1) := by decide +kernel
theorem dX12_row_5 : decode cX12_row 5 = .ok (.iadd, 1) := by decide +kernel
theorem dX12_row_6 : decode cX12_row 6 = .ok (.iconst 1, 1) := by decide +kernel
theorem dX12_row_7 : decode cX12_row 7 = .ok (.isub, 1) := by decide +kernel
theorem dX12_row_8 : decode cX12_row 8 = .ok (.ireturn, 1) := by decide +kernel
theorem dX12_error_0 : decode cX12_error 0 = .ok (.aload_n 0, 1) := by decide +kernel
theorem dX12_error_1 : decode cX12_error 1 = .ok (.getfield 290, 3) := by decide +kernel
theorem dX12_error_4 : decode cX12_error 4 = .ok (.iconst 0, 1) := by decide +kernel
theorem dX12_error_5 : decode cX12_error 5 = .ok (.iconst 1, 1) := by decide +kernel
theorem dX12_error_6 : decode cX12_error 6 = .ok (.bastore, 1) := by decide +kernel
theorem dX12_error_7 : decode cX12_error 7 = .ok (.aload_n 0, 1) := by decide +kernel
theorem dX12_error_8 : decode cX12_error 8 = .ok (.getfield 290, 3) := by decide +kernel
theorem dX12_error_11 : decode cX12_error 11 = .ok (.iconst 1, 1) := by decide +kernel
theorem dX12_error_12 : decode cX12_error 12 = .ok (.iload_n 2, 1) := by decide +kernel
theorem dX12_error_13 : decode cX12_error 13 = .ok (.i2b, 1) := by decide +kernel
theorem dX12_error_14 : decode cX12_error 14 = .ok (.bastore, 1) := by decide +kernel
theorem dX12_error_15 : decode cX12_error 15 = .ok (.aload_n 0, 1) := by decide +kernel
theorem dX12_error_16 : decode cX12_error 16 = .ok (.getfield 290, 3) := by decide +kernel
theorem dX12_error_19 : decode cX12_error 19 = .ok (.iconst 2, 1) := by decide +kernel
theorem dX12_error_20 : decode cX12_error 20 = .ok (.iload_n 3, 1) := by decide +kernel
theorem dX12_error_21 : decode cX12_error 21 = .ok (.i2l, 1) := by decide +kernel
theorem dX12_error_22 : decode cX12_error 22 = .ok (.iconst 2, 1) := by decide +kernel
theorem dX12_error_23 : decode cX12_error 23 = .ok (.invokestatic 432, 3) := by decide +kernel
theorem dX12_error_26 : decode cX12_error 26 = .ok (.aload_n 0, 1) := by decide +kernel
theorem dX12_error_27 : decode cX12_error 27 = .ok (.getfield 290, 3) := by decide +kernel
theorem dX12_error_30 : decode cX12_error 30 = .ok (.iconst 4, 1) := by decide +kernel
theorem dX12_error_31 : decode cX12_error 31 = .ok (.iload 4, 2) := by decide +kernel
theorem dX12_error_33 : decode cX12_error 33 = .ok (.i2b, 1) := by decide +kernel
theorem dX12_error_34 : decode cX12_error 34 = .ok (.bastore, 1) := by decide +kernel
theorem dX12_error_35 : decode cX12_error 35 = .ok (.aload_n 0, 1) := by decide +kernel
theorem dX12_error_36 : decode cX12_error 36 = .ok (.iload_n 1, 1) := by decide +kernel
theorem dX12_error_37 : decode cX12_error 37 = .ok (.iconst 4, 1) := by decide +kernel
theorem dX12_error_38 : decode cX12_error 38 = .ok (.iconst 5, 1) := by decide +kernel
theorem dX12_error_39 : decode cX12_error 39 = .ok (.invokevirtual 527, 3) := by decide +kernel
theorem dX12_error_42 : decode cX12_error 42 = .ok (.return_, 1) := by decide +kernel
theorem dX12_lacks_0 : decode cX12_lacks 0 = .ok (.aload_n 0, 1) := by decide +kernel
theorem dX12_lacks_1 : decode cX12_lacks 1 = .ok (.getfield 326, 3) := by decide +kernel
theorem dX12_lacks_4 : decode cX12_lacks 4 = .ok (.aload_n 0, 1) := by decide +kernel
theorem dX12_lacks_5 : decode cX12_lacks 5 = .ok (.iload_n 1, 1) := by decide +kernel
theorem dX12_lacks_6 : decode cX12_lacks 6 = .ok (.iload_n 2, 1) := by decide +kernel
theorem dX12_lacks_7 : decode cX12_lacks 7 = .ok (.invokevirtual 547, 3) := by decide +kernel
theorem dX12_lacks_10 : decode cX12_lacks 10 = .ok (.iaload, 1) := by decide +kernel
theorem dX12_lacks_11 : decode cX12_lacks 11 = .ok (.istore 4, 2) := by decide +kernel
theorem dX12_lacks_13 : decode cX12_lacks 13 = .ok (.iload 4, 2) := by decide +kernel
theorem dX12_lacks_15 : decode cX12_lacks 15 = .ok (.iload_n 3, 1) := by decide +kernel
theorem dX12_lacks_16 : decode cX12_lacks 16 = .ok (.iand, 1) := by decide +kernel
theorem dX12_lacks_17 : decode cX12_lacks 17 = .ok (.ifCond .ne 7, 3) := by decide +kernel
theorem dX12_lacks_20 : decode cX12_lacks 20 = .ok (.iload_n 3, 1) := by decide +kernel
theorem dX12_lacks_21 : decode cX12_lacks 21 = .ok (.iconst 1, 1) := by decide +kernel
theorem dX12_lacks_22 : decode cX12_lacks 22 = .ok (.iadd, 1) := by decide +kernel
theorem dX12_lacks_23 : decode cX12_lacks 23 = .ok (.ireturn, 1) := by decide +kernel
theorem dX12_lacks_24 : decode cX12_lacks 24 = .ok (.iload 4, 2) := by decide +kernel
theorem dX12_lacks_26 : decode cX12_lacks 26 = .ok (.iconst 4, 1) := by decide +kernel
theorem dX12_lacks_27 : decode cX12_lacks 27 = .ok (.iand, 1) := by decide +kernel
theorem dX12_lacks_28 : decode cX12_lacks 28 = .ok (.ifCond .eq 16, 3) := by decide +kernel
theorem dX12_lacks_31 : decode cX12_lacks 31 = .ok (.aload_n 0, 1) := by decide +kernel
theorem dX12_lacks_32 : decode cX12_lacks 32 = .ok (.getfield 239, 3) := by decide +kernel
theorem dX12_lacks_35 : decode cX12_lacks 35 = .ok (.iload_n 1, 1) := by decide +kernel
theorem dX12_lacks_36 : decode cX12_lacks 36 = .ok (.baload, 1) := by decide +kernel
theorem dX12_lacks_37 : decode cX12_lacks 37 = .ok (.ifCond .ne 7, 3) := by decide +kernel
theorem dX12_lacks_40 : decode cX12_lacks 40 = .ok (.iconst 5, 1) := by decide +kernel
theorem dX12_lacks_41 : decode cX12_lacks 41 = .ok (.goto 4, 3) := by decide +kernel
theorem dX12_lacks_44 : decode cX12_lacks 44 = .ok (.iconst 0, 1) := by decide +kernel
theorem dX12_lacks_45 : decode cX12_lacks 45 = .ok (.ireturn, 1) := by decide +kernel
theorem dX12_endOf_0 : decode cX12_endOf 0 = .ok (.iload_n 2, 1) := by decide +kernel
theorem dX12_endOf_1 : decode cX12_endOf 1 = .ok (.iconst 1, 1) := by decide +kernel
theorem dX12_endOf_2 : decode cX12_endOf 2 = .ok (.iadd, 1) := by decide +kernel
theorem dX12_endOf_3 : decode cX12_endOf 3 = .ok (.istore_n 3, 1) := by decide +kernel
theorem dX12_endOf_4 : decode cX12_endOf 4 = .ok (.iload_n 3, 1) := by decide +kernel
theorem dX12_endOf_5 : decode cX12_endOf 5 = .ok (.aload_n 0, 1) := by decide +kernel
theorem dX12_endOf_6 : decode cX12_endOf 6 = .ok (.getfield 320, 3) := by decide +kernel
theorem dX12_endOf_9 : decode cX12_endOf 9 = .ok (.iload_n 1, 1) := by decide +kernel
theorem dX12_endOf_10 : decode cX12_endOf 10 = .ok (.iaload, 1) := by decide +kernel
theorem dX12_endOf_11 : decode cX12_endOf 11 = .ok (.if_icmp .gt 47, 3) := by decide +kernel
theorem dX12_endOf_14 : decode cX12_endOf 14 = .ok (.aload_n 0, 1) := by decide +kernel
theorem dX12_endOf_15 : decode cX12_endOf 15 = .ok (.getfield 323, 3) := by decide +kernel
theorem dX12_endOf_18 : decode cX12_endOf 18 = .ok (.aload_n 0, 1) := by decide +kernel
theorem dX12_endOf_19 : decode cX12_endOf 19 = .ok (.iload_n 1, 1) := by decide +kernel
theorem dX12_endOf_20 : decode cX12_endOf 20 = .ok (.iload_n 3, 1) := by decide +kernel
theorem dX12_endOf_21 : decode cX12_endOf 21 = .ok (.invokevirtual 547, 3) := by decide +kernel
theorem dX12_endOf_24 : decode cX12_endOf 24 = .ok (.iaload, 1) := by decide +kernel
theorem dX12_endOf_25 : decode cX12_endOf 25 = .ok (.sipush 10240, 3) := by decide +kernel
theorem dX12_endOf_28 : decode cX12_endOf 28 = .ok (.if_icmp .eq 20, 3) := by decide +kernel
theorem dX12_endOf_31 : decode cX12_endOf 31 = .ok (.aload_n 0, 1) := by decide +kernel
theorem dX12_endOf_32 : decode cX12_endOf 32 = .ok (.getfield 323, 3) := by decide +kernel
theorem dX12_endOf_35 : decode cX12_endOf 35 = .ok (.aload_n 0, 1) := by decide +kernel
theorem dX12_endOf_36 : decode cX12_endOf 36 = .ok (.iload_n 1, 1) := by decide +kernel
theorem dX12_endOf_37 : decode cX12_endOf 37 = .ok (.iload_n 3, 1) := by decide +kernel
theorem dX12_endOf_38 : decode cX12_endOf 38 = .ok (.invokevirtual 547, 3) := by decide +kernel
theorem dX12_endOf_41 : decode cX12_endOf 41 = .ok (.iaload, 1) := by decide +kernel
theorem dX12_endOf_42 : decode cX12_endOf 42 = .ok (.sipush 10241, 3) := by decide +kernel
theorem dX12_endOf_45 : decode cX12_endOf 45 = .ok (.if_icmp .ne 7, 3) := by decide +kernel
theorem dX12_endOf_48 : decode cX12_endOf 48 = .ok (.iload_n 3, 1) := by decide +kernel
theorem dX12_endOf_49 : decode cX12_endOf 49 = .ok (.iconst 1, 1) := by decide +kernel
theorem dX12_endOf_50 : decode cX12_endOf 50 = .ok (.isub, 1) := by decide +kernel
theorem dX12_endOf_51 : decode cX12_endOf 51 = .ok (.ireturn, 1) := by decide +kernel
theorem dX12_endOf_52 : decode cX12_endOf 52 = .ok (.iinc 3 1, 3) := by decide +kernel
theorem dX12_endOf_55 : decode cX12_endOf 55 = .ok (.goto (-51), 3) := by decide +kernel
theorem dX12_endOf_58 : decode cX12_endOf 58 = .ok (.aload_n 0, 1) := by decide +kernel
theorem dX12_endOf_59 : decode cX12_endOf 59 = .ok (.getfield 320, 3) := by decide +kernel
theorem dX12_endOf_62 : decode cX12_endOf 62 = .ok (.iload_n 1, 1) := by decide +kernel
theorem dX12_endOf_63 : decode cX12_endOf 63 = .ok (.iaload, 1) := by decide +kernel
theorem dX12_endOf_64 : decode cX12_endOf 64 = .ok (.ireturn, 1) := by decide +kernel
theorem dX12_attributes_0 : decode cX12_attributes 0 = .ok (.aload_n 0, 1) := by decide +kernel
theorem dX12_attributes_1 : decode cX12_attributes 1 = .ok (.getfield 293, 3) := by decide +kernel
theorem dX12_attributes_4 : decode cX12_attributes 4 = .ok (.iconst 0, 1) := by decide +kernel
theorem dX12_attributes_5 : decode cX12_attributes 5 = .ok (.baload, 1) := by decide +kernel
theorem dX12_attributes_6 : decode cX12_attributes 6 = .ok (.sipush 255, 3) := by decide +kernel
theorem dX12_attributes_9 : decode cX12_attributes 9 = .ok (.iand, 1) := by decide +kernel
theorem dX12_attributes_10 : decode cX12_attributes 10 = .ok (.istore_n 3, 1) := by decide +kernel
theorem dX12_attributes_11 : decode cX12_attributes 11 = .ok (.iload_n 3, 1) := by decide +kernel
theorem dX12_attributes_12 : decode cX12_attributes 12 = .ok (.iconst 1, 1) := by decide +kernel
theorem dX12_attributes_13 : decode cX12_attributes 13 = .ok (.iand, 1) := by decide +kernel
theorem dX12_attributes_14 : decode cX12_attributes 14 = .ok (.iconst 1, 1) := by decide +kernel
theorem dX12_attributes_15 : decode cX12_attributes 15 = .ok (.if_icmp .ne 19, 3) := by decide +kernel
theorem dX12_attributes_18 : decode cX12_attributes 18 = .ok (.iload_n 3, 1) := by decide +kernel
theorem dX12_attributes_19 : decode cX12_attributes 19 = .ok (.bipush 26, 2) := by decide +kernel
theorem dX12_attributes_21 : decode cX12_attributes 21 = .ok (.if_icmp .ge 13, 3) := by decide +kernel
theorem dX12_attributes_24 : decode cX12_attributes 24 = .ok (.aload_n 0, 1) := by decide +kernel
theorem dX12_attributes_25 : decode cX12_attributes 25 = .ok (.iload_n 1, 1) := by decide +kernel
theorem dX12_attributes_26 : decode cX12_attributes 26 = .ok (.iload_n 3, 1) := by decide +kernel
theorem dX12_attributes_27 : decode cX12_attributes 27 = .ok (.iload_n 2, 1) := by decide +kernel
theorem dX12_attributes_28 : decode cX12_attributes 28 = .ok (.invokevirtual 550, 3) := by decide +kernel
theorem dX12_attributes_31 : decode cX12_attributes 31 = .ok (.goto 139, 3) := by decide +kernel
theorem dX12_attributes_34 : decode cX12_attributes 34 = .ok (.iload_n 3, 1) := by decide +kernel
theorem dX12_attributes_35 : decode cX12_attributes 35 = .ok (.bipush 30, 2) := by decide +kernel
theorem dX12_attributes_37 : decode cX12_attributes 37 = .ok (.if_icmp .ne 12, 3) := by decide +kernel
theorem dX12_attributes_40 : decode cX12_attributes 40 = .ok (.aload_n 0, 1) := by decide +kernel
theorem dX12_attributes_41 : decode cX12_attributes 41 = .ok (.iload_n 1, 1) := by decide +kernel
theorem dX12_attributes_42 : decode cX12_attributes 42 = .ok (.iload_n 2, 1) := by decide +kernel
theorem dX12_attributes_43 : decode cX12_attributes 43 = .ok (.invokevirtual 553, 3) := by decide +kernel
theorem dX12_attributes_46 : decode cX12_attributes 46 = .ok (.goto 124, 3) := by decide +kernel
theorem dX12_attributes_49 : decode cX12_attributes 49 = .ok (.iload_n 3, 1) := by decide +kernel
theorem dX12_attributes_50 : decode cX12_attributes 50 = .ok (.bipush 27, 2) := by decide +kernel
theorem dX12_attributes_52 : decode cX12_attributes 52 = .ok (.if_icmp .eq 9, 3) := by decide +kernel
theorem dX12_attributes_55 : decode cX12_attributes 55 = .ok (.iload_n 3, 1) := by decide +kernel
theorem dX12_attributes_56 : decode cX12_attributes 56 = .ok (.bipush 29, 2) := by decide +kernel
theorem dX12_attributes_58 : decode cX12_attributes 58 = .ok (.if_icmp .ne 13, 3) := by decide +kernel
theorem dX12_attributes_61 : decode cX12_attributes 61 = .ok (.aload_n 0, 1) := by decide +kernel
theorem dX12_attributes_62 : decode cX12_attributes 62 = .ok (.iload_n 1, 1) := by decide +kernel
theorem dX12_attributes_63 : decode cX12_attributes 63 = .ok (.iload_n 3, 1) := by decide +kernel
theorem dX12_attributes_64 : decode cX12_attributes 64 = .ok (.iload_n 2, 1) := by decide +kernel
theorem dX12_attributes_65 : decode cX12_attributes 65 = .ok (.invokevirtual 556, 3) := by decide +kernel
theorem dX12_attributes_68 : decode cX12_attributes 68 = .ok (.goto 102, 3) := by decide +kernel
theorem dX12_attributes_71 : decode cX12_attributes 71 = .ok (.iload_n 3, 1) := by decide +kernel
theorem dX12_attributes_72 : decode cX12_attributes 72 = .ok (.bipush 82, 2) := by decide +kernel
theorem dX12_attributes_74 : decode cX12_attributes 74 = .ok (.if_icmp .ne 12, 3) := by decide +kernel
theorem dX12_attributes_77 : decode cX12_attributes 77 = .ok (.aload_n 0, 1) := by decide +kernel
theorem dX12_attributes_78 : decode cX12_attributes 78 = .ok (.iload_n 1, 1) := by decide +kernel
theorem dX12_attributes_79 : decode cX12_attributes 79 = .ok (.iload_n 2, 1) := by decide +kernel
theorem dX12_attributes_80 : decode cX12_attributes 80 = .ok (.invokevirtual 559, 3) := by decide +kernel
theorem dX12_attributes_83 : decode cX12_attributes 83 = .ok (.goto 87, 3) := by decide +kernel
theorem dX12_attributes_86 : decode cX12_attributes 86 = .ok (.iload_n 3, 1) := by decide +kernel
theorem dX12_attributes_87 : decode cX12_attributes 87 = .ok (.iconst 2, 1) := by decide +kernel
theorem dX12_attributes_88 : decode cX12_attributes 88 = .ok (.if_icmp .eq 56, 3) := by decide +kernel
theorem dX12_attributes_91 : decode cX12_attributes 91 = .ok (.iload_n 3, 1) := by decide +kernel
theorem dX12_attributes_92 : decode cX12_attributes 92 = .ok (.iconst 4, 1) := by decide +kernel
theorem dX12_attributes_93 : decode cX12_attributes 93 = .ok (.if_icmp .eq 51, 3) := by decide +kernel
theorem dX12_attributes_96 : decode cX12_attributes 96 = .ok (.iload_n 3, 1) := by decide +kernel
theorem dX12_attributes_97 : decode cX12_attributes 97 = .ok (.bipush 6, 2) := by decide +kernel
theorem dX12_attributes_99 : decode cX12_attributes 99 = .ok (.if_icmp .eq 45, 3) := by decide +kernel
theorem dX12_attributes_102 : decode cX12_attributes 102 = .ok (.iload_n 3, 1) := by decide +kernel
theorem dX12_attributes_103 : decode cX12_attributes 103 = .ok (.bipush 8, 2) := by decide +kernel
theorem dX12_attributes_105 : decode cX12_attributes 105 = .ok (.if_icmp .eq 39, 3) := by decide +kernel
theorem dX12_attributes_108 : decode cX12_attributes 108 = .ok (.iload_n 3, 1) := by decide +kernel
theorem dX12_attributes_109 : decode cX12_attributes 109 = .ok (.bipush 10, 2) := by decide +kernel
theorem dX12_attributes_111 : decode cX12_attributes 111 = .ok (.if_icmp .eq 33, 3) := by decide +kernel
theorem dX12_attributes_114 : decode cX12_attributes 114 = .ok (.iload_n 3, 1) := by decide +kernel
theorem dX12_attributes_115 : decode cX12_attributes 115 = .ok (.bipush 12, 2) := by decide +kernel
theorem dX12_attributes_117 : decode cX12_attributes 117 = .ok (.if_icmp .eq 27, 3) := by decide +kernel
theorem dX12_attributes_120 : decode cX12_attributes 120 = .ok (.iload_n 3, 1) := by decide +kernel
theorem dX12_attributes_121 : decode cX12_attributes 121 = .ok (.bipush 16, 2) := by decide +kernel
theorem dX12_attributes_123 : decode cX12_attributes 123 = .ok (.if_icmp .eq 21, 3) := by decide +kernel
theorem dX12_attributes_126 : decode cX12_attributes 126 = .ok (.iload_n 3, 1) := by decide +kernel
theorem dX12_attributes_127 : decode cX12_attributes 127 = .ok (.bipush 18, 2) := by decide +kernel
theorem dX12_attributes_129 : decode cX12_attributes 129 = .ok (.if_icmp .eq 15, 3) := by decide +kernel
theorem dX12_attributes_132 : decode cX12_attributes 132 = .ok (.iload_n 3, 1) := by decide +kernel
theorem dX12_attributes_133 : decode cX12_attributes 133 = .ok (.bipush 22, 2) := by decide +kernel
theorem dX12_attributes_135 : decode cX12_attributes 135 = .ok (.if_icmp .eq 9, 3) := by decide +kernel
theorem dX12_attributes_138 : decode cX12_attributes 138 = .ok (.iload_n 3, 1) := by decide +kernel
theorem dX12_attributes_139 : decode cX12_attributes 139 = .ok (.bipush 24, 2) := by decide +kernel
theorem dX12_attributes_141 : decode cX12_attributes 141 = .ok (.if_icmp .ne 13, 3) := by decide +kernel
theorem dX12_attributes_144 : decode cX12_attributes 144 = .ok (.aload_n 0, 1) := by decide +kernel
theorem dX12_attributes_145 : decode cX12_attributes 145 = .ok (.iload_n 1, 1) := by decide +kernel
theorem dX12_attributes_146 : decode cX12_attributes 146 = .ok (.iload_n 3, 1) := by decide +kernel
theorem dX12_attributes_147 : decode cX12_attributes 147 = .ok (.iload_n 2, 1) := by decide +kernel
theorem dX12_attributes_148 : decode cX12_attributes 148 = .ok (.invokevirtual 562, 3) := by decide +kernel
theorem dX12_attributes_151 : decode cX12_attributes 151 = .ok (.goto 19, 3) := by decide +kernel
theorem dX12_attributes_154 : decode cX12_attributes 154 = .ok (.iload_n 3, 1) := by decide +kernel
theorem dX12_attributes_155 : decode cX12_attributes 155 = .ok (.bipush 64, 2) := by decide +kernel
theorem dX12_attributes_157 : decode cX12_attributes 157 = .ok (.iand, 1) := by decide +kernel
theorem dX12_attributes_158 : decode cX12_attributes 158 = .ok (.ifCond .ne 12, 3) := by decide +kernel
theorem dX12_attributes_161 : decode cX12_attributes 161 = .ok (.aload_n 0, 1) := by decide +kernel
theorem dX12_attributes_162 : decode cX12_attributes 162 = .ok (.iload_n 1, 1) := by decide +kernel
theorem dX12_attributes_163 : decode cX12_attributes 163 = .ok (.iload_n 3, 1) := by decide +kernel
theorem dX12_attributes_164 : decode cX12_attributes 164 = .ok (.iconst 0, 1) := by decide +kernel
theorem dX12_attributes_165 : decode cX12_attributes 165 = .ok (.bipush 6, 2) := by decide +kernel
theorem dX12_attributes_167 : decode cX12_attributes 167 = .ok (.invokevirtual 564, 3) := by decide +kernel
theorem dX12_attributes_170 : decode cX12_attributes 170 = .ok (.return_, 1) := by decide +kernel
theorem dX12_confirmed_0 : decode cX12_confirmed 0 = .ok (.iload_n 2, 1) := by decide +kernel
theorem dX12_confirmed_1 : decode cX12_confirmed 1 = .ok (.iconst 1, 1) := by decide +kernel
theorem dX12_confirmed_2 : decode cX12_confirmed 2 = .ok (.if_icmp .ne 12, 3) := by decide +kernel
theorem dX12_confirmed_5 : decode cX12_confirmed 5 = .ok (.aload_n 0, 1) := by decide +kernel
theorem dX12_confirmed_6 : decode cX12_confirmed 6 = .ok (.getfield 362, 3) := by decide +kernel
theorem dX12_confirmed_9 : decode cX12_confirmed 9 = .ok (.iload_n 1, 1) := by decide +kernel
theorem dX12_confirmed_10 : decode cX12_confirmed 10 = .ok (.baload, 1) := by decide +kernel
theorem dX12_confirmed_11 : decode cX12_confirmed 11 = .ok (.ifCond .ne 4, 3) := by decide +kernel
theorem dX12_confirmed_14 : decode cX12_confirmed 14 = .ok (.return_, 1) := by decide +kernel
theorem dX12_confirmed_15 : decode cX12_confirmed 15 = .ok (.aload_n 0, 1) := by decide +kernel
theorem dX12_confirmed_16 : decode cX12_confirmed 16 = .ok (.getfield 362, 3) := by decide +kernel
theorem dX12_confirmed_19 : decode cX12_confirmed 19 = .ok (.iload_n 1, 1) := by decide +kernel
theorem dX12_confirmed_20 : decode cX12_confirmed 20 = .ok (.iconst 0, 1) := by decide +kernel
theorem dX12_confirmed_21 : decode cX12_confirmed 21 = .ok (.bastore, 1) := by decide +kernel
theorem dX12_confirmed_22 : decode cX12_confirmed 22 = .ok (.aload_n 0, 1) := by decide +kernel
theorem dX12_confirmed_23 : decode cX12_confirmed 23 = .ok (.iload_n 1, 1) := by decide +kernel
theorem dX12_confirmed_24 : decode cX12_confirmed 24 = .ok (.bipush 18, 2) := by decide +kernel
theorem dX12_confirmed_26 : decode cX12_confirmed 26 = .ok (.iconst 0, 1) := by decide +kernel
theorem dX12_confirmed_27 : decode cX12_confirmed 27 = .ok (.iconst 0, 1) := by decide +kernel
theorem dX12_confirmed_28 : decode cX12_confirmed 28 = .ok (.iconst 0, 1) := by decide +kernel
theorem dX12_confirmed_29 : decode cX12_confirmed 29 = .ok (.invokevirtual 504, 3) := by decide +kernel
theorem dX12_confirmed_32 : decode cX12_confirmed 32 = .ok (.return_, 1) := by decide +kernel
theorem dX12_toldOf_0 : decode cX12_toldOf 0 = .ok (.iload_n 3, 1) := by decide +kernel
theorem dX12_toldOf_1 : decode cX12_toldOf 1 = .ok (.iconst 3, 1) := by decide +kernel
theorem dX12_toldOf_2 : decode cX12_toldOf 2 = .ok (.if_icmp .lt 13, 3) := by decide +kernel
theorem dX12_toldOf_5 : decode cX12_toldOf 5 = .ok (.iload_n 3, 1) := by decide +kernel
theorem dX12_toldOf_6 : decode cX12_toldOf 6 = .ok (.aload_n 0, 1) := by decide +kernel
theorem dX12_toldOf_7 : decode cX12_toldOf 7 = .ok (.getfield 332, 3) := by decide +kernel
theorem dX12_toldOf_10 : decode cX12_toldOf 10 = .ok (.iload_n 1, 1) := by decide +kernel
theorem dX12_toldOf_11 : decode cX12_toldOf 11 = .ok (.iaload, 1) := by decide +kernel
theorem dX12_toldOf_12 : decode cX12_toldOf 12 = .ok (.if_icmp .le 4, 3) := by decide +kernel
theorem dX12_toldOf_15 : decode cX12_toldOf 15 = .ok (.return_, 1) := by decide +kernel
theorem dX12_toldOf_16 : decode cX12_toldOf 16 = .ok (.aload_n 0, 1) := by decide +kernel
theorem dX12_toldOf_17 : decode cX12_toldOf 17 = .ok (.iload_n 1, 1) := by decide +kernel
theorem dX12_toldOf_18 : decode cX12_toldOf 18 = .ok (.iload_n 2, 1) := by decide +kernel
theorem dX12_toldOf_19 : decode cX12_toldOf 19 = .ok (.bipush 27, 2) := by decide +kernel
theorem dX12_toldOf_21 : decode cX12_toldOf 21 = .ok (.if_icmp .ne 8, 3) := by decide +kernel
theorem dX12_toldOf_24 : decode cX12_toldOf 24 = .ok (.bipush 16, 2) := by decide +kernel
theorem dX12_toldOf_26 : decode cX12_toldOf 26 = .ok (.goto 5, 3) := by decide +kernel
theorem dX12_toldOf_29 : decode cX12_toldOf 29 = .ok (.bipush 17, 2) := by decide +kernel
theorem dX12_toldOf_31 : decode cX12_toldOf 31 = .ok (.aload_n 0, 1) := by decide +kernel
theorem dX12_toldOf_32 : decode cX12_toldOf 32 = .ok (.getfield 293, 3) := by decide +kernel
theorem dX12_toldOf_35 : decode cX12_toldOf 35 = .ok (.iconst 1, 1) := by decide +kernel
theorem dX12_toldOf_36 : decode cX12_toldOf 36 = .ok (.invokestatic 489, 3) := by decide +kernel
theorem dX12_toldOf_39 : decode cX12_toldOf 39 = .ok (.iconst 0, 1) := by decide +kernel
theorem dX12_toldOf_40 : decode cX12_toldOf 40 = .ok (.iconst 0, 1) := by decide +kernel
theorem dX12_toldOf_41 : decode cX12_toldOf 41 = .ok (.aload_n 0, 1) := by decide +kernel
theorem dX12_toldOf_42 : decode cX12_toldOf 42 = .ok (.getfield 293, 3) := by decide +kernel
theorem dX12_toldOf_45 : decode cX12_toldOf 45 = .ok (.iconst 3, 1) := by decide +kernel
theorem dX12_toldOf_46 : decode cX12_toldOf 46 = .ok (.iload_n 3, 1) := by decide +kernel
theorem dX12_toldOf_47 : decode cX12_toldOf 47 = .ok (.iconst 3, 1) := by decide +kernel
theorem dX12_toldOf_48 : decode cX12_toldOf 48 = .ok (.isub, 1) := by decide +kernel
theorem dX12_toldOf_49 : decode cX12_toldOf 49 = .ok (.invokevirtual 409, 3) := by decide +kernel
theorem dX12_toldOf_52 : decode cX12_toldOf 52 = .ok (.iload_n 2, 1) := by decide +kernel
theorem dX12_toldOf_53 : decode cX12_toldOf 53 = .ok (.bipush 27, 2) := by decide +kernel
theorem dX12_toldOf_55 : decode cX12_toldOf 55 = .ok (.if_icmp .ne 4, 3) := by decide +kernel
theorem dX12_toldOf_58 : decode cX12_toldOf 58 = .ok (.return_, 1) := by decide +kernel
theorem dX12_toldOf_59 : decode cX12_toldOf 59 = .ok (.aload_n 0, 1) := by decide +kernel
theorem dX12_toldOf_60 : decode cX12_toldOf 60 = .ok (.getfield 290, 3) := by decide +kernel
theorem dX12_toldOf_63 : decode cX12_toldOf 63 = .ok (.iconst 0, 1) := by decide +kernel
theorem dX12_toldOf_64 : decode cX12_toldOf 64 = .ok (.bipush 30, 2) := by decide +kernel
theorem dX12_toldOf_66 : decode cX12_toldOf 66 = .ok (.bastore, 1) := by decide +kernel
theorem dX12_toldOf_67 : decode cX12_toldOf 67 = .ok (.aload_n 0, 1) := by decide +kernel
theorem dX12_toldOf_68 : decode cX12_toldOf 68 = .ok (.iload_n 1, 1) := by decide +kernel
theorem dX12_toldOf_69 : decode cX12_toldOf 69 = .ok (.iconst 4, 1) := by decide +kernel
theorem dX12_toldOf_70 : decode cX12_toldOf 70 = .ok (.iconst 1, 1) := by decide +kernel
theorem dX12_toldOf_71 : decode cX12_toldOf 71 = .ok (.invokevirtual 527, 3) := by decide +kernel
theorem dX12_toldOf_74 : decode cX12_toldOf 74 = .ok (.return_, 1) := by decide +kernel
theorem dX12_writesAlone_0 : decode cX12_writesAlone 0 = .ok (.iload_n 2, 1) := by decide +kernel
theorem dX12_writesAlone_1 : decode cX12_writesAlone 1 = .ok (.iconst 3, 1) := by decide +kernel
theorem dX12_writesAlone_2 : decode cX12_writesAlone 2 = .ok (.if_icmp .lt 19, 3) := by decide +kernel
theorem dX12_writesAlone_5 : decode cX12_writesAlone 5 = .ok (.iload_n 2, 1) := by decide +kernel
theorem dX12_writesAlone_6 : decode cX12_writesAlone 6 = .ok (.aload_n 0, 1) := by decide +kernel
theorem dX12_writesAlone_7 : decode cX12_writesAlone 7 = .ok (.getfield 332, 3) := by decide +kernel
theorem dX12_writesAlone_10 : decode cX12_writesAlone 10 = .ok (.iload_n 1, 1) := by decide +kernel
theorem dX12_writesAlone_11 : decode cX12_writesAlone 11 = .ok (.iaload, 1) := by decide +kernel
theorem dX12_writesAlone_12 : decode cX12_writesAlone 12 = .ok (.if_icmp .gt 9, 3) := by decide +kernel
theorem dX12_writesAlone_15 : decode cX12_writesAlone 15 = .ok (.iload_n 2, 1) := by decide +kernel
theorem dX12_writesAlone_16 : decode cX12_writesAlone 16 = .ok (.bipush 43, 2) := by decide +kernel
theorem dX12_writesAlone_18 : decode cX12_writesAlone 18 = .ok (.if_icmp .le 4, 3) := by decide +kernel
theorem dX12_writesAlone_21 : decode cX12_writesAlone 21 = .ok (.return_, 1) := by decide +kernel
theorem dX12_writesAlone_22 : decode cX12_writesAlone 22 = .ok (.aload_n 0, 1) := by decide +kernel
theorem dX12_writesAlone_23 : decode cX12_writesAlone 23 = .ok (.getfield 293, 3) := by decide +kernel
theorem dX12_writesAlone_26 : decode cX12_writesAlone 26 = .ok (.iconst 1, 1) := by decide +kernel
theorem dX12_writesAlone_27 : decode cX12_writesAlone 27 = .ok (.invokestatic 489, 3) := by decide +kernel
theorem dX12_writesAlone_30 : decode cX12_writesAlone 30 = .ok (.istore_n 3, 1) := by decide +kernel
theorem dX12_writesAlone_31 : decode cX12_writesAlone 31 = .ok (.aload_n 0, 1) := by decide +kernel
theorem dX12_writesAlone_32 : decode cX12_writesAlone 32 = .ok (.iload_n 1, 1) := by decide +kernel
theorem dX12_writesAlone_33 : decode cX12_writesAlone 33 = .ok (.iload_n 3, 1) := by decide +kernel
theorem dX12_writesAlone_34 : decode cX12_writesAlone 34 = .ok (.invokevirtual 567, 3) := by decide +kernel
theorem dX12_writesAlone_37 : decode cX12_writesAlone 37 = .ok (.ifCond .eq 20, 3) := by decide +kernel
theorem dX12_writesAlone_40 : decode cX12_writesAlone 40 = .ok (.aload_n 0, 1) := by decide +kernel
theorem dX12_writesAlone_41 : decode cX12_writesAlone 41 = .ok (.iload_n 1, 1) := by decide +kernel
theorem dX12_writesAlone_42 : decode cX12_writesAlone 42 = .ok (.iload_n 3, 1) := by decide +kernel
theorem dX12_writesAlone_43 : decode cX12_writesAlone 43 = .ok (.iconst 2, 1) := by decide +kernel
theorem dX12_writesAlone_44 : decode cX12_writesAlone 44 = .ok (.invokevirtual 570, 3) := by decide +kernel
theorem dX12_writesAlone_47 : decode cX12_writesAlone 47 = .ok (.ifCond .ne 10, 3) := by decide +kernel
theorem dX12_writesAlone_50 : decode cX12_writesAlone 50 = .ok (.aload_n 0, 1) := by decide +kernel
theorem dX12_writesAlone_51 : decode cX12_writesAlone 51 = .ok (.iload_n 1, 1) := by decide +kernel
theorem dX12_writesAlone_52 : decode cX12_writesAlone 52 = .ok (.iload_n 3, 1) := by decide +kernel
theorem dX12_writesAlone_53 : decode cX12_writesAlone 53 = .ok (.iload_n 2, 1) := by decide +kernel
theorem dX12_writesAlone_54 : decode cX12_writesAlone 54 = .ok (.invokevirtual 574, 3) := by decide +kernel
theorem dX12_writesAlone_57 : decode cX12_writesAlone 57 = .ok (.return_, 1) := by decide +kernel
theorem dX12_writes_0 : decode cX12_writes 0 = .ok (.aload_n 0, 1) := by decide +kernel
theorem dX12_writes_1 : decode cX12_writes 1 = .ok (.getfield 329, 3) := by decide +kernel
theorem dX12_writes_4 : decode cX12_writes 4 = .ok (.aload_n 0, 1) := by decide +kernel
theorem dX12_writes_5 : decode cX12_writes 5 = .ok (.iload_n 1, 1) := by decide +kernel
theorem dX12_writes_6 : decode cX12_writes 6 = .ok (.iload_n 2, 1) := by decide +kernel
theorem dX12_writes_7 : decode cX12_writes 7 = .ok (.invokevirtual 547, 3) := by decide +kernel
theorem dX12_writes_10 : decode cX12_writes 10 = .ok (.iload_n 3, 1) := by decide +kernel
theorem dX12_writes_11 : decode cX12_writes 11 = .ok (.iconst 3, 1) := by decide +kernel
theorem dX12_writes_12 : decode cX12_writes 12 = .ok (.isub, 1) := by decide +kernel
theorem dX12_writes_13 : decode cX12_writes 13 = .ok (.iastore, 1) := by decide +kernel
theorem dX12_writes_14 : decode cX12_writes 14 = .ok (.aload_n 0, 1) := by decide +kernel
theorem dX12_writes_15 : decode cX12_writes 15 = .ok (.getfield 293, 3) := by decide +kernel
theorem dX12_writes_18 : decode cX12_writes 18 = .ok (.iconst 3, 1) := by decide +kernel
theorem dX12_writes_19 : decode cX12_writes 19 = .ok (.aload_n 0, 1) := by decide +kernel
theorem dX12_writes_20 : decode cX12_writes 20 = .ok (.getfield 341, 3) := by decide +kernel
theorem dX12_writes_23 : decode cX12_writes 23 = .ok (.bipush 40, 2) := by decide +kernel
theorem dX12_writes_25 : decode cX12_writes 25 = .ok (.aload_n 0, 1) := by decide +kernel
theorem dX12_writes_26 : decode cX12_writes 26 = .ok (.iload_n 1, 1) := by decide +kernel
theorem dX12_writes_27 : decode cX12_writes 27 = .ok (.iload_n 2, 1) := by decide +kernel
theorem dX12_writes_28 : decode cX12_writes 28 = .ok (.invokevirtual 547, 3) := by decide +kernel
theorem dX12_writes_31 : decode cX12_writes 31 = .ok (.imul, 1) := by decide +kernel
theorem dX12_writes_32 : decode cX12_writes 32 = .ok (.iload_n 3, 1) := by decide +kernel
theorem dX12_writes_33 : decode cX12_writes 33 = .ok (.iconst 3, 1) := by decide +kernel
theorem dX12_writes_34 : decode cX12_writes 34 = .ok (.isub, 1) := by decide +kernel
theorem dX12_writes_35 : decode cX12_writes 35 = .ok (.invokestatic 29, 3) := by decide +kernel
theorem dX12_writes_38 : decode cX12_writes 38 = .ok (.return_, 1) := by decide +kernel
theorem dX12_hasBytes_0 : decode cX12_hasBytes 0 = .ok (.iload_n 3, 1) := by decide +kernel
theorem dX12_hasBytes_1 : decode cX12_hasBytes 1 = .ok (.aload_n 0, 1) := by decide +kernel
theorem dX12_hasBytes_2 : decode cX12_hasBytes 2 = .ok (.getfield 332, 3) := by decide +kernel
theorem dX12_hasBytes_5 : decode cX12_hasBytes 5 = .ok (.iload_n 1, 1) := by decide +kernel
theorem dX12_hasBytes_6 : decode cX12_hasBytes 6 = .ok (.iaload, 1) := by decide +kernel
theorem dX12_hasBytes_7 : decode cX12_hasBytes 7 = .ok (.if_icmp .le 5, 3) := by decide +kernel
theorem dX12_hasBytes_10 : decode cX12_hasBytes 10 = .ok (.iconst 0, 1) := by decide +kernel
theorem dX12_hasBytes_11 : decode cX12_hasBytes 11 = .ok (.ireturn, 1) := by decide +kernel
theorem dX12_hasBytes_12 : decode cX12_hasBytes 12 = .ok (.iload_n 2, 1) := by decide +kernel
theorem dX12_hasBytes_13 : decode cX12_hasBytes 13 = .ok (.tableswitch 191 2 22 #[99, 191, 123, 191, 134, 191, 146, 191, 158, 191, 123, 191, 191, 191, 146, 191, 169, 191, 191, 191, 180], 99) := by decide +kernel
theorem dX12_hasBytes_112 : decode cX12_hasBytes 112 = .ok (.iload_n 3, 1) := by decide +kernel
theorem dX12_hasBytes_113 : decode cX12_hasBytes 113 = .ok (.iconst 3, 1) := by decide +kernel
theorem dX12_hasBytes_114 : decode cX12_hasBytes 114 = .ok (.if_icmp .ne 20, 3) := by decide +kernel
theorem dX12_hasBytes_117 : decode cX12_hasBytes 117 = .ok (.aload_n 0, 1) := by decide +kernel
theorem dX12_hasBytes_118 : decode cX12_hasBytes 118 = .ok (.getfield 293, 3) := by decide +kernel
theorem dX12_hasBytes_121 : decode cX12_hasBytes 121 = .ok (.iconst 1, 1) := by decide +kernel
theorem dX12_hasBytes_122 : decode cX12_hasBytes 122 = .ok (.invokestatic 489, 3) := by decide +kernel
theorem dX12_hasBytes_125 : decode cX12_hasBytes 125 = .ok (.bipush 22, 2) := by decide +kernel
theorem dX12_hasBytes_127 : decode cX12_hasBytes 127 = .ok (.if_icmp .le 7, 3) := by decide +kernel
theorem dX12_hasBytes_130 : decode cX12_hasBytes 130 = .ok (.iconst 1, 1) := by decide +kernel
theorem dX12_hasBytes_131 : decode cX12_hasBytes 131 = .ok (.goto 4, 3) := by decide +kernel
theorem dX12_hasBytes_134 : decode cX12_hasBytes 134 = .ok (.iconst 0, 1) := by decide +kernel
theorem dX12_hasBytes_135 : decode cX12_hasBytes 135 = .ok (.ireturn, 1) := by decide +kernel
theorem dX12_hasBytes_136 : decode cX12_hasBytes 136 = .ok (.iload_n 3, 1) := by decide +kernel
theorem dX12_hasBytes_137 : decode cX12_hasBytes 137 = .ok (.iconst 5, 1) := by decide +kernel
theorem dX12_hasBytes_138 : decode cX12_hasBytes 138 = .ok (.if_icmp .ne 7, 3) := by decide +kernel
theorem dX12_hasBytes_141 : decode cX12_hasBytes 141 = .ok (.iconst 1, 1) := by decide +kernel
theorem dX12_hasBytes_142 : decode cX12_hasBytes 142 = .ok (.goto 4, 3) := by decide +kernel
theorem dX12_hasBytes_145 : decode cX12_hasBytes 145 = .ok (.iconst 0, 1) := by decide +kernel
theorem dX12_hasBytes_146 : decode cX12_hasBytes 146 = .ok (.ireturn, 1) := by decide +kernel
theorem dX12_hasBytes_147 : decode cX12_hasBytes 147 = .ok (.iload_n 3, 1) := by decide +kernel
theorem dX12_hasBytes_148 : decode cX12_hasBytes 148 = .ok (.bipush 7, 2) := by decide +kernel
theorem dX12_hasBytes_150 : decode cX12_hasBytes 150 = .ok (.if_icmp .lt 7, 3) := by decide +kernel
theorem dX12_hasBytes_153 : decode cX12_hasBytes 153 = .ok (.iconst 1, 1) := by decide +kernel
theorem dX12_hasBytes_154 : decode cX12_hasBytes 154 = .ok (.goto 4, 3) := by decide +kernel
theorem dX12_hasBytes_157 : decode cX12_hasBytes 157 = .ok (.iconst 0, 1) := by decide +kernel
theorem dX12_hasBytes_158 : decode cX12_hasBytes 158 = .ok (.ireturn, 1) := by decide +kernel
theorem dX12_hasBytes_159 : decode cX12_hasBytes 159 = .ok (.iload_n 3, 1) := by decide +kernel
theorem dX12_hasBytes_160 : decode cX12_hasBytes 160 = .ok (.bipush 7, 2) := by decide +kernel
theorem dX12_hasBytes_162 : decode cX12_hasBytes 162 = .ok (.if_icmp .ne 7, 3) := by decide +kernel
theorem dX12_hasBytes_165 : decode cX12_hasBytes 165 = .ok (.iconst 1, 1) := by decide +kernel
theorem dX12_hasBytes_166 : decode cX12_hasBytes 166 = .ok (.goto 4, 3) := by decide +kernel
theorem dX12_hasBytes_169 : decode cX12_hasBytes 169 = .ok (.iconst 0, 1) := by decide +kernel
theorem dX12_hasBytes_170 : decode cX12_hasBytes 170 = .ok (.ireturn, 1) := by decide +kernel
theorem dX12_hasBytes_171 : decode cX12_hasBytes 171 = .ok (.iload_n 3, 1) := by decide +kernel
theorem dX12_hasBytes_172 : decode cX12_hasBytes 172 = .ok (.iconst 3, 1) := by decide +kernel
theorem dX12_hasBytes_173 : decode cX12_hasBytes 173 = .ok (.if_icmp .ne 7, 3) := by decide +kernel
theorem dX12_hasBytes_176 : decode cX12_hasBytes 176 = .ok (.iconst 1, 1) := by decide +kernel
theorem dX12_hasBytes_177 : decode cX12_hasBytes 177 = .ok (.goto 4, 3) := by decide +kernel
theorem dX12_hasBytes_180 : decode cX12_hasBytes 180 = .ok (.iconst 0, 1) := by decide +kernel
theorem dX12_hasBytes_181 : decode cX12_hasBytes 181 = .ok (.ireturn, 1) := by decide +kernel
theorem dX12_hasBytes_182 : decode cX12_hasBytes 182 = .ok (.iload_n 3, 1) := by decide +kernel
theorem dX12_hasBytes_183 : decode cX12_hasBytes 183 = .ok (.iconst 3, 1) := by decide +kernel
theorem dX12_hasBytes_184 : decode cX12_hasBytes 184 = .ok (.if_icmp .lt 7, 3) := by decide +kernel
theorem dX12_hasBytes_187 : decode cX12_hasBytes 187 = .ok (.iconst 1, 1) := by decide +kernel
theorem dX12_hasBytes_188 : decode cX12_hasBytes 188 = .ok (.goto 4, 3) := by decide +kernel
theorem dX12_hasBytes_191 : decode cX12_hasBytes 191 = .ok (.iconst 0, 1) := by decide +kernel
theorem dX12_hasBytes_192 : decode cX12_hasBytes 192 = .ok (.ireturn, 1) := by decide +kernel
theorem dX12_hasBytes_193 : decode cX12_hasBytes 193 = .ok (.iload_n 3, 1) := by decide +kernel
theorem dX12_hasBytes_194 : decode cX12_hasBytes 194 = .ok (.iconst 5, 1) := by decide +kernel
theorem dX12_hasBytes_195 : decode cX12_hasBytes 195 = .ok (.if_icmp .lt 7, 3) := by decide +kernel
theorem dX12_hasBytes_198 : decode cX12_hasBytes 198 = .ok (.iconst 1, 1) := by decide +kernel
theorem dX12_hasBytes_199 : decode cX12_hasBytes 199 = .ok (.goto 4, 3) := by decide +kernel
theorem dX12_hasBytes_202 : decode cX12_hasBytes 202 = .ok (.iconst 0, 1) := by decide +kernel
theorem dX12_hasBytes_203 : decode cX12_hasBytes 203 = .ok (.ireturn, 1) := by decide +kernel
theorem dX12_hasBytes_204 : decode cX12_hasBytes 204 = .ok (.iload_n 3, 1) := by decide +kernel
theorem dX12_hasBytes_205 : decode cX12_hasBytes 205 = .ok (.iconst 2, 1) := by decide +kernel
theorem dX12_hasBytes_206 : decode cX12_hasBytes 206 = .ok (.if_icmp .ne 7, 3) := by decide +kernel
theorem dX12_hasBytes_209 : decode cX12_hasBytes 209 = .ok (.iconst 1, 1) := by decide +kernel
theorem dX12_hasBytes_210 : decode cX12_hasBytes 210 = .ok (.goto 4, 3) := by decide +kernel
theorem dX12_hasBytes_213 : decode cX12_hasBytes 213 = .ok (.iconst 0, 1) := by decide +kernel
theorem dX12_hasBytes_214 : decode cX12_hasBytes 214 = .ok (.ireturn, 1) := by decide +kernel
theorem dX12_asked_0 : decode cX12_asked 0 = .ok (.aload_n 0, 1) := by decide +kernel
theorem dX12_asked_1 : decode cX12_asked 1 = .ok (.iload_n 1, 1) := by decide +kernel
theorem dX12_asked_2 : decode cX12_asked 2 = .ok (.iload_n 2, 1) := by decide +kernel
theorem dX12_asked_3 : decode cX12_asked 3 = .ok (.iload_n 3, 1) := by decide +kernel
theorem dX12_asked_4 : decode cX12_asked 4 = .ok (.invokevirtual 577, 3) := by decide +kernel
theorem dX12_asked_7 : decode cX12_asked 7 = .ok (.ifCond .ne 12, 3) := by decide +kernel
theorem dX12_asked_10 : decode cX12_asked 10 = .ok (.aload_n 0, 1) := by decide +kernel
theorem dX12_asked_11 : decode cX12_asked 11 = .ok (.iload_n 1, 1) := by decide +kernel
theorem dX12_asked_12 : decode cX12_asked 12 = .ok (.iload_n 2, 1) := by decide +kernel
theorem dX12_asked_13 : decode cX12_asked 13 = .ok (.iconst 0, 1) := by decide +kernel
theorem dX12_asked_14 : decode cX12_asked 14 = .ok (.iconst 4, 1) := by decide +kernel
theorem dX12_asked_15 : decode cX12_asked 15 = .ok (.invokevirtual 564, 3) := by decide +kernel
theorem dX12_asked_18 : decode cX12_asked 18 = .ok (.return_, 1) := by decide +kernel
theorem dX12_asked_19 : decode cX12_asked 19 = .ok (.iload_n 3, 1) := by decide +kernel
theorem dX12_asked_20 : decode cX12_asked 20 = .ok (.iconst 2, 1) := by decide +kernel
theorem dX12_asked_21 : decode cX12_asked 21 = .ok (.if_icmp .le 14, 3) := by decide +kernel
theorem dX12_asked_24 : decode cX12_asked 24 = .ok (.aload_n 0, 1) := by decide +kernel
theorem dX12_asked_25 : decode cX12_asked 25 = .ok (.getfield 293, 3) := by decide +kernel
theorem dX12_asked_28 : decode cX12_asked 28 = .ok (.iconst 1, 1) := by decide +kernel
theorem dX12_asked_29 : decode cX12_asked 29 = .ok (.invokestatic 489, 3) := by decide +kernel
theorem dX12_asked_32 : decode cX12_asked 32 = .ok (.goto 4, 3) := by decide +kernel
theorem dX12_asked_35 : decode cX12_asked 35 = .ok (.iconst 0, 1) := by decide +kernel
theorem dX12_asked_36 : decode cX12_asked 36 = .ok (.istore 4, 2) := by decide +kernel
theorem dX12_asked_38 : decode cX12_asked 38 = .ok (.iload_n 3, 1) := by decide +kernel
theorem dX12_asked_39 : decode cX12_asked 39 = .ok (.iconst 4, 1) := by decide +kernel
theorem dX12_asked_40 : decode cX12_asked 40 = .ok (.if_icmp .le 14, 3) := by decide +kernel
theorem dX12_asked_43 : decode cX12_asked 43 = .ok (.aload_n 0, 1) := by decide +kernel
theorem dX12_asked_44 : decode cX12_asked 44 = .ok (.getfield 293, 3) := by decide +kernel
theorem dX12_asked_47 : decode cX12_asked 47 = .ok (.iconst 3, 1) := by decide +kernel
theorem dX12_asked_48 : decode cX12_asked 48 = .ok (.invokestatic 489, 3) := by decide +kernel
theorem dX12_asked_51 : decode cX12_asked 51 = .ok (.goto 4, 3) := by decide +kernel
theorem dX12_asked_54 : decode cX12_asked 54 = .ok (.iconst 0, 1) := by decide +kernel
theorem dX12_asked_55 : decode cX12_asked 55 = .ok (.istore 5, 2) := by decide +kernel
theorem dX12_asked_57 : decode cX12_asked 57 = .ok (.iload_n 2, 1) := by decide +kernel
theorem dX12_asked_58 : decode cX12_asked 58 = .ok (.iconst 4, 1) := by decide +kernel
theorem dX12_asked_59 : decode cX12_asked 59 = .ok (.if_icmp .eq 21, 3) := by decide +kernel
theorem dX12_asked_62 : decode cX12_asked 62 = .ok (.iload_n 2, 1) := by decide +kernel
theorem dX12_asked_63 : decode cX12_asked 63 = .ok (.bipush 6, 2) := by decide +kernel
theorem dX12_asked_65 : decode cX12_asked 65 = .ok (.if_icmp .eq 15, 3) := by decide +kernel
theorem dX12_asked_68 : decode cX12_asked 68 = .ok (.iload_n 2, 1) := by decide +kernel
theorem dX12_asked_69 : decode cX12_asked 69 = .ok (.bipush 8, 2) := by decide +kernel
theorem dX12_asked_71 : decode cX12_asked 71 = .ok (.if_icmp .eq 9, 3) := by decide +kernel
theorem dX12_asked_74 : decode cX12_asked 74 = .ok (.iload_n 2, 1) := by decide +kernel
theorem dX12_asked_75 : decode cX12_asked 75 = .ok (.bipush 16, 2) := by decide +kernel
theorem dX12_asked_77 : decode cX12_asked 77 = .ok (.if_icmp .ne 7, 3) := by decide +kernel
theorem dX12_asked_80 : decode cX12_asked 80 = .ok (.iconst 1, 1) := by decide +kernel
theorem dX12_asked_81 : decode cX12_asked 81 = .ok (.goto 4, 3) := by decide +kernel
theorem dX12_asked_84 : decode cX12_asked 84 = .ok (.iconst 0, 1) := by decide +kernel
theorem dX12_asked_85 : decode cX12_asked 85 = .ok (.istore 6, 2) := by decide +kernel
theorem dX12_asked_87 : decode cX12_asked 87 = .ok (.iload 6, 2) := by decide +kernel
theorem dX12_asked_89 : decode cX12_asked 89 = .ok (.ifCond .eq 27, 3) := by decide +kernel
theorem dX12_asked_92 : decode cX12_asked 92 = .ok (.iload 4, 2) := by decide +kernel
theorem dX12_asked_94 : decode cX12_asked 94 = .ok (.ifCond .eq 10, 3) := by decide +kernel
theorem dX12_asked_97 : decode cX12_asked 97 = .ok (.iload 4, 2) := by decide +kernel
theorem dX12_asked_99 : decode cX12_asked 99 = .ok (.iload 5, 2) := by decide +kernel
theorem dX12_asked_101 : decode cX12_asked 101 = .ok (.if_icmp .le 15, 3) := by decide +kernel
theorem dX12_asked_104 : decode cX12_asked 104 = .ok (.aload_n 0, 1) := by decide +kernel
theorem dX12_asked_105 : decode cX12_asked 105 = .ok (.iload_n 1, 1) := by decide +kernel
theorem dX12_asked_106 : decode cX12_asked 106 = .ok (.iload_n 2, 1) := by decide +kernel
theorem dX12_asked_107 : decode cX12_asked 107 = .ok (.iload 4, 2) := by decide +kernel
theorem dX12_asked_109 : decode cX12_asked 109 = .ok (.iconst 1, 1) := by decide +kernel
theorem dX12_asked_110 : decode cX12_asked 110 = .ok (.invokevirtual 564, 3) := by decide +kernel
theorem dX12_asked_113 : decode cX12_asked 113 = .ok (.goto 166, 3) := by decide +kernel
theorem dX12_asked_116 : decode cX12_asked 116 = .ok (.iload_n 2, 1) := by decide +kernel
theorem dX12_asked_117 : decode cX12_asked 117 = .ok (.bipush 16, 2) := by decide +kernel
theorem dX12_asked_119 : decode cX12_asked 119 = .ok (.if_icmp .ne 44, 3) := by decide +kernel
theorem dX12_asked_122 : decode cX12_asked 122 = .ok (.aload_n 0, 1) := by decide +kernel
theorem dX12_asked_123 : decode cX12_asked 123 = .ok (.getfield 293, 3) := by decide +kernel
theorem dX12_asked_126 : decode cX12_asked 126 = .ok (.iconst 5, 1) := by decide +kernel
theorem dX12_asked_127 : decode cX12_asked 127 = .ok (.invokestatic 489, 3) := by decide +kernel
theorem dX12_asked_130 : decode cX12_asked 130 = .ok (.sipush 10240, 3) := by decide +kernel
theorem dX12_asked_133 : decode cX12_asked 133 = .ok (.if_icmp .eq 30, 3) := by decide +kernel
theorem dX12_asked_136 : decode cX12_asked 136 = .ok (.aload_n 0, 1) := by decide +kernel
theorem dX12_asked_137 : decode cX12_asked 137 = .ok (.getfield 293, 3) := by decide +kernel
theorem dX12_asked_140 : decode cX12_asked 140 = .ok (.iconst 5, 1) := by decide +kernel
theorem dX12_asked_141 : decode cX12_asked 141 = .ok (.invokestatic 489, 3) := by decide +kernel
theorem dX12_asked_144 : decode cX12_asked 144 = .ok (.sipush 10241, 3) := by decide +kernel
theorem dX12_asked_147 : decode cX12_asked 147 = .ok (.if_icmp .eq 16, 3) := by decide +kernel
theorem dX12_asked_150 : decode cX12_asked 150 = .ok (.aload_n 0, 1) := by decide +kernel
theorem dX12_asked_151 : decode cX12_asked 151 = .ok (.iload_n 1, 1) := by decide +kernel
theorem dX12_asked_152 : decode cX12_asked 152 = .ok (.iload_n 2, 1) := by decide +kernel
theorem dX12_asked_153 : decode cX12_asked 153 = .ok (.iload 4, 2) := by decide +kernel
theorem dX12_asked_155 : decode cX12_asked 155 = .ok (.bipush 16, 2) := by decide +kernel
theorem dX12_asked_157 : decode cX12_asked 157 = .ok (.invokevirtual 564, 3) := by decide +kernel
theorem dX12_asked_160 : decode cX12_asked 160 = .ok (.goto 119, 3) := by decide +kernel
theorem dX12_asked_163 : decode cX12_asked 163 = .ok (.iload 6, 2) := by decide +kernel
theorem dX12_asked_165 : decode cX12_asked 165 = .ok (.ifCond .eq 17, 3) := by decide +kernel
theorem dX12_asked_168 : decode cX12_asked 168 = .ok (.aload_n 0, 1) := by decide +kernel
theorem dX12_asked_169 : decode cX12_asked 169 = .ok (.iload_n 1, 1) := by decide +kernel
theorem dX12_asked_170 : decode cX12_asked 170 = .ok (.iload_n 2, 1) := by decide +kernel
theorem dX12_asked_171 : decode cX12_asked 171 = .ok (.iload 4, 2) := by decide +kernel
theorem dX12_asked_173 : decode cX12_asked 173 = .ok (.iload 5, 2) := by decide +kernel
theorem dX12_asked_175 : decode cX12_asked 175 = .ok (.iload_n 3, 1) := by decide +kernel
theorem dX12_asked_176 : decode cX12_asked 176 = .ok (.invokevirtual 581, 3) := by decide +kernel
theorem dX12_asked_179 : decode cX12_asked 179 = .ok (.goto 100, 3) := by decide +kernel
theorem dX12_asked_182 : decode cX12_asked 182 = .ok (.iload_n 2, 1) := by decide +kernel
theorem dX12_asked_183 : decode cX12_asked 183 = .ok (.iconst 2, 1) := by decide +kernel
theorem dX12_asked_184 : decode cX12_asked 184 = .ok (.if_icmp .ne 13, 3) := by decide +kernel
theorem dX12_asked_187 : decode cX12_asked 187 = .ok (.aload_n 0, 1) := by decide +kernel
theorem dX12_asked_188 : decode cX12_asked 188 = .ok (.iload_n 1, 1) := by decide +kernel
theorem dX12_asked_189 : decode cX12_asked 189 = .ok (.iload 4, 2) := by decide +kernel
theorem dX12_asked_191 : decode cX12_asked 191 = .ok (.invokevirtual 584, 3) := by decide +kernel
theorem dX12_asked_194 : decode cX12_asked 194 = .ok (.goto 85, 3) := by decide +kernel
theorem dX12_asked_197 : decode cX12_asked 197 = .ok (.iload_n 2, 1) := by decide +kernel
theorem dX12_asked_198 : decode cX12_asked 198 = .ok (.bipush 24, 2) := by decide +kernel
theorem dX12_asked_200 : decode cX12_asked 200 = .ok (.if_icmp .ne 21, 3) := by decide +kernel
theorem dX12_asked_203 : decode cX12_asked 203 = .ok (.aload_n 0, 1) := by decide +kernel
theorem dX12_asked_204 : decode cX12_asked 204 = .ok (.iload_n 1, 1) := by decide +kernel
theorem dX12_asked_205 : decode cX12_asked 205 = .ok (.aload_n 0, 1) := by decide +kernel
theorem dX12_asked_206 : decode cX12_asked 206 = .ok (.getfield 293, 3) := by decide +kernel
theorem dX12_asked_209 : decode cX12_asked 209 = .ok (.iconst 1, 1) := by decide +kernel
theorem dX12_asked_210 : decode cX12_asked 210 = .ok (.baload, 1) := by decide +kernel
theorem dX12_asked_211 : decode cX12_asked 211 = .ok (.sipush 255, 3) := by decide +kernel
theorem dX12_asked_214 : decode cX12_asked 214 = .ok (.iand, 1) := by decide +kernel
theorem dX12_asked_215 : decode cX12_asked 215 = .ok (.invokevirtual 587, 3) := by decide +kernel
theorem dX12_asked_218 : decode cX12_asked 218 = .ok (.goto 61, 3) := by decide +kernel
theorem dX12_asked_221 : decode cX12_asked 221 = .ok (.aload_n 0, 1) := by decide +kernel
theorem dX12_asked_222 : decode cX12_asked 222 = .ok (.iload_n 1, 1) := by decide +kernel
theorem dX12_asked_223 : decode cX12_asked 223 = .ok (.iload 4, 2) := by decide +kernel
theorem dX12_asked_225 : decode cX12_asked 225 = .ok (.invokevirtual 567, 3) := by decide +kernel
theorem dX12_asked_228 : decode cX12_asked 228 = .ok (.ifCond .ne 15, 3) := by decide +kernel
theorem dX12_asked_231 : decode cX12_asked 231 = .ok (.aload_n 0, 1) := by decide +kernel
theorem dX12_asked_232 : decode cX12_asked 232 = .ok (.iload_n 1, 1) := by decide +kernel
theorem dX12_asked_233 : decode cX12_asked 233 = .ok (.iload_n 2, 1) := by decide +kernel
theorem dX12_asked_234 : decode cX12_asked 234 = .ok (.iload 4, 2) := by decide +kernel
theorem dX12_asked_236 : decode cX12_asked 236 = .ok (.iconst 1, 1) := by decide +kernel
theorem dX12_asked_237 : decode cX12_asked 237 = .ok (.invokevirtual 564, 3) := by decide +kernel
theorem dX12_asked_240 : decode cX12_asked 240 = .ok (.goto 39, 3) := by decide +kernel
theorem dX12_asked_243 : decode cX12_asked 243 = .ok (.iload_n 2, 1) := by decide +kernel
theorem dX12_asked_244 : decode cX12_asked 244 = .ok (.bipush 10, 2) := by decide +kernel
theorem dX12_asked_246 : decode cX12_asked 246 = .ok (.if_icmp .eq 9, 3) := by decide +kernel
theorem dX12_asked_249 : decode cX12_asked 249 = .ok (.iload_n 2, 1) := by decide +kernel
theorem dX12_asked_250 : decode cX12_asked 250 = .ok (.bipush 12, 2) := by decide +kernel
theorem dX12_asked_252 : decode cX12_asked 252 = .ok (.if_icmp .ne 16, 3) := by decide +kernel
theorem dX12_asked_255 : decode cX12_asked 255 = .ok (.aload_n 0, 1) := by decide +kernel
theorem dX12_asked_256 : decode cX12_asked 256 = .ok (.iload_n 1, 1) := by decide +kernel
theorem dX12_asked_257 : decode cX12_asked 257 = .ok (.iload_n 2, 1) := by decide +kernel
theorem dX12_asked_258 : decode cX12_asked 258 = .ok (.iload 4, 2) := by decide +kernel
theorem dX12_asked_260 : decode cX12_asked 260 = .ok (.iload 5, 2) := by decide +kernel
theorem dX12_asked_262 : decode cX12_asked 262 = .ok (.invokevirtual 590, 3) := by decide +kernel
theorem dX12_asked_265 : decode cX12_asked 265 = .ok (.goto 14, 3) := by decide +kernel
theorem dX12_asked_268 : decode cX12_asked 268 = .ok (.aload_n 0, 1) := by decide +kernel
theorem dX12_asked_269 : decode cX12_asked 269 = .ok (.iload_n 1, 1) := by decide +kernel
theorem dX12_asked_270 : decode cX12_asked 270 = .ok (.iload_n 2, 1) := by decide +kernel
theorem dX12_asked_271 : decode cX12_asked 271 = .ok (.iload 4, 2) := by decide +kernel
theorem dX12_asked_273 : decode cX12_asked 273 = .ok (.iload 5, 2) := by decide +kernel
theorem dX12_asked_275 : decode cX12_asked 275 = .ok (.iload_n 3, 1) := by decide +kernel
theorem dX12_asked_276 : decode cX12_asked 276 = .ok (.invokevirtual 593, 3) := by decide +kernel
theorem dX12_asked_279 : decode cX12_asked 279 = .ok (.return_, 1) := by decide +kernel
theorem dX12_mtus_0 : decode cX12_mtus 0 = .ok (.aload_n 0, 1) := by decide +kernel
theorem dX12_mtus_1 : decode cX12_mtus 1 = .ok (.getfield 332, 3) := by decide +kernel
theorem dX12_mtus_4 : decode cX12_mtus 4 = .ok (.iload_n 1, 1) := by decide +kernel
theorem dX12_mtus_5 : decode cX12_mtus 5 = .ok (.bipush 23, 2) := by decide +kernel
theorem dX12_mtus_7 : decode cX12_mtus 7 = .ok (.iload_n 2, 1) := by decide +kernel
theorem dX12_mtus_8 : decode cX12_mtus 8 = .ok (.aload_n 0, 1) := by decide +kernel
theorem dX12_mtus_9 : decode cX12_mtus 9 = .ok (.getfield 335, 3) := by decide +kernel
theorem dX12_mtus_12 : decode cX12_mtus 12 = .ok (.iload_n 1, 1) := by decide +kernel
theorem dX12_mtus_13 : decode cX12_mtus 13 = .ok (.iaload, 1) := by decide +kernel
theorem dX12_mtus_14 : decode cX12_mtus 14 = .ok (.invokestatic 404, 3) := by decide +kernel
theorem dX12_mtus_17 : decode cX12_mtus 17 = .ok (.invokestatic 596, 3) := by decide +kernel
theorem dX12_mtus_20 : decode cX12_mtus 20 = .ok (.iastore, 1) := by decide +kernel
theorem dX12_mtus_21 : decode cX12_mtus 21 = .ok (.aload_n 0, 1) := by decide +kernel
theorem dX12_mtus_22 : decode cX12_mtus 22 = .ok (.getfield 290, 3) := by decide +kernel
theorem dX12_mtus_25 : decode cX12_mtus 25 = .ok (.iconst 0, 1) := by decide +kernel
theorem dX12_mtus_26 : decode cX12_mtus 26 = .ok (.iconst 3, 1) := by decide +kernel
theorem dX12_mtus_27 : decode cX12_mtus 27 = .ok (.bastore, 1) := by decide +kernel
theorem dX12_mtus_28 : decode cX12_mtus 28 = .ok (.aload_n 0, 1) := by decide +kernel
theorem dX12_mtus_29 : decode cX12_mtus 29 = .ok (.getfield 290, 3) := by decide +kernel
theorem dX12_mtus_32 : decode cX12_mtus 32 = .ok (.iconst 1, 1) := by decide +kernel
theorem dX12_mtus_33 : decode cX12_mtus 33 = .ok (.aload_n 0, 1) := by decide +kernel
theorem dX12_mtus_34 : decode cX12_mtus 34 = .ok (.getfield 335, 3) := by decide +kernel
theorem dX12_mtus_37 : decode cX12_mtus 37 = .ok (.iload_n 1, 1) := by decide +kernel
theorem dX12_mtus_38 : decode cX12_mtus 38 = .ok (.iaload, 1) := by decide +kernel
theorem dX12_mtus_39 : decode cX12_mtus 39 = .ok (.i2l, 1) := by decide +kernel
theorem dX12_mtus_40 : decode cX12_mtus 40 = .ok (.iconst 2, 1) := by decide +kernel
theorem dX12_mtus_41 : decode cX12_mtus 41 = .ok (.invokestatic 432, 3) := by decide +kernel
theorem dX12_mtus_44 : decode cX12_mtus 44 = .ok (.aload_n 0, 1) := by decide +kernel
theorem dX12_mtus_45 : decode cX12_mtus 45 = .ok (.iload_n 1, 1) := by decide +kernel
theorem dX12_mtus_46 : decode cX12_mtus 46 = .ok (.iconst 4, 1) := by decide +kernel
theorem dX12_mtus_47 : decode cX12_mtus 47 = .ok (.iconst 3, 1) := by decide +kernel
theorem dX12_mtus_48 : decode cX12_mtus 48 = .ok (.invokevirtual 527, 3) := by decide +kernel
theorem dX12_mtus_51 : decode cX12_mtus 51 = .ok (.return_, 1) := by decide +kernel
theorem dX12_reads_0 : decode cX12_reads 0 = .ok (.aload_n 0, 1) := by decide +kernel
theorem dX12_reads_1 : decode cX12_reads 1 = .ok (.iload_n 1, 1) := by decide +kernel
theorem dX12_reads_2 : decode cX12_reads 2 = .ok (.iload_n 3, 1) := by decide +kernel
theorem dX12_reads_3 : decode cX12_reads 3 = .ok (.iconst 1, 1) := by decide +kernel
theorem dX12_reads_4 : decode cX12_reads 4 = .ok (.invokevirtual 570, 3) := by decide +kernel
theorem dX12_reads_7 : decode cX12_reads 7 = .ok (.istore 5, 2) := by decide +kernel
theorem dX12_reads_9 : decode cX12_reads 9 = .ok (.aload_n 0, 1) := by decide +kernel
theorem dX12_reads_10 : decode cX12_reads 10 = .ok (.iload_n 1, 1) := by decide +kernel
theorem dX12_reads_11 : decode cX12_reads 11 = .ok (.iload_n 3, 1) := by decide +kernel
theorem dX12_reads_12 : decode cX12_reads 12 = .ok (.invokevirtual 547, 3) := by decide +kernel
theorem dX12_reads_15 : decode cX12_reads 15 = .ok (.istore 6, 2) := by decide +kernel
theorem dX12_reads_17 : decode cX12_reads 17 = .ok (.iload_n 2, 1) := by decide +kernel
theorem dX12_reads_18 : decode cX12_reads 18 = .ok (.bipush 12, 2) := by decide +kernel
theorem dX12_reads_20 : decode cX12_reads 20 = .ok (.if_icmp .ne 8, 3) := by decide +kernel
theorem dX12_reads_23 : decode cX12_reads 23 = .ok (.iload 4, 2) := by decide +kernel
theorem dX12_reads_25 : decode cX12_reads 25 = .ok (.goto 4, 3) := by decide +kernel
theorem dX12_reads_28 : decode cX12_reads 28 = .ok (.iconst 0, 1) := by decide +kernel
theorem dX12_reads_29 : decode cX12_reads 29 = .ok (.istore 7, 2) := by decide +kernel
theorem dX12_reads_31 : decode cX12_reads 31 = .ok (.iload 5, 2) := by decide +kernel
theorem dX12_reads_33 : decode cX12_reads 33 = .ok (.ifCond .ne 19, 3) := by decide +kernel
theorem dX12_reads_36 : decode cX12_reads 36 = .ok (.iload 7, 2) := by decide +kernel
theorem dX12_reads_38 : decode cX12_reads 38 = .ok (.aload_n 0, 1) := by decide +kernel
theorem dX12_reads_39 : decode cX12_reads 39 = .ok (.getfield 329, 3) := by decide +kernel
theorem dX12_reads_42 : decode cX12_reads 42 = .ok (.iload 6, 2) := by decide +kernel
theorem dX12_reads_44 : decode cX12_reads 44 = .ok (.iaload, 1) := by decide +kernel
theorem dX12_reads_45 : decode cX12_reads 45 = .ok (.if_icmp .le 7, 3) := by decide +kernel
theorem dX12_reads_48 : decode cX12_reads 48 = .ok (.bipush 7, 2) := by decide +kernel
theorem dX12_reads_50 : decode cX12_reads 50 = .ok (.istore 5, 2) := by decide +kernel
theorem dX12_reads_52 : decode cX12_reads 52 = .ok (.iload 5, 2) := by decide +kernel
theorem dX12_reads_54 : decode cX12_reads 54 = .ok (.ifCond .le 13, 3) := by decide +kernel
theorem dX12_reads_57 : decode cX12_reads 57 = .ok (.aload_n 0, 1) := by decide +kernel
theorem dX12_reads_58 : decode cX12_reads 58 = .ok (.iload_n 1, 1) := by decide +kernel
theorem dX12_reads_59 : decode cX12_reads 59 = .ok (.iload_n 2, 1) := by decide +kernel
theorem dX12_reads_60 : decode cX12_reads 60 = .ok (.iload_n 3, 1) := by decide +kernel
theorem dX12_reads_61 : decode cX12_reads 61 = .ok (.iload 5, 2) := by decide +kernel
theorem dX12_reads_63 : decode cX12_reads 63 = .ok (.invokevirtual 564, 3) := by decide +kernel
theorem dX12_reads_66 : decode cX12_reads 66 = .ok (.return_, 1) := by decide +kernel
theorem dX12_reads_67 : decode cX12_reads 67 = .ok (.aload_n 0, 1) := by decide +kernel
theorem dX12_reads_68 : decode cX12_reads 68 = .ok (.getfield 329, 3) := by decide +kernel
theorem dX12_reads_71 : decode cX12_reads 71 = .ok (.iload 6, 2) := by decide +kernel
theorem dX12_reads_73 : decode cX12_reads 73 = .ok (.iaload, 1) := by decide +kernel
theorem dX12_reads_74 : decode cX12_reads 74 = .ok (.iload 7, 2) := by decide +kernel
theorem dX12_reads_76 : decode cX12_reads 76 = .ok (.isub, 1) := by decide +kernel
theorem dX12_reads_77 : decode cX12_reads 77 = .ok (.aload_n 0, 1) := by decide +kernel
theorem dX12_reads_78 : decode cX12_reads 78 = .ok (.getfield 332, 3) := by decide +kernel
theorem dX12_reads_81 : decode cX12_reads 81 = .ok (.iload_n 1, 1) := by decide +kernel
theorem dX12_reads_82 : decode cX12_reads 82 = .ok (.iaload, 1) := by decide +kernel
theorem dX12_reads_83 : decode cX12_reads 83 = .ok (.iconst 1, 1) := by decide +kernel
theorem dX12_reads_84 : decode cX12_reads 84 = .ok (.isub, 1) := by decide +kernel
theorem dX12_reads_85 : decode cX12_reads 85 = .ok (.invokestatic 404, 3) := by decide +kernel
theorem dX12_reads_88 : decode cX12_reads 88 = .ok (.istore 8, 2) := by decide +kernel
theorem dX12_reads_90 : decode cX12_reads 90 = .ok (.aload_n 0, 1) := by decide +kernel
theorem dX12_reads_91 : decode cX12_reads 91 = .ok (.getfield 290, 3) := by decide +kernel
theorem dX12_reads_94 : decode cX12_reads 94 = .ok (.iconst 0, 1) := by decide +kernel
theorem dX12_reads_95 : decode cX12_reads 95 = .ok (.iload_n 2, 1) := by decide +kernel
theorem dX12_reads_96 : decode cX12_reads 96 = .ok (.iconst 1, 1) := by decide +kernel
theorem dX12_reads_97 : decode cX12_reads 97 = .ok (.iadd, 1) := by decide +kernel
theorem dX12_reads_98 : decode cX12_reads 98 = .ok (.i2b, 1) := by decide +kernel
theorem dX12_reads_99 : decode cX12_reads 99 = .ok (.bastore, 1) := by decide +kernel
theorem dX12_reads_100 : decode cX12_reads 100 = .ok (.aload_n 0, 1) := by decide +kernel
theorem dX12_reads_101 : decode cX12_reads 101 = .ok (.getfield 341, 3) := by decide +kernel
theorem dX12_reads_104 : decode cX12_reads 104 = .ok (.bipush 40, 2) := by decide +kernel
theorem dX12_reads_106 : decode cX12_reads 106 = .ok (.iload 6, 2) := by decide +kernel
theorem dX12_reads_108 : decode cX12_reads 108 = .ok (.imul, 1) := by decide +kernel
theorem dX12_reads_109 : decode cX12_reads 109 = .ok (.iload 7, 2) := by decide +kernel
theorem dX12_reads_111 : decode cX12_reads 111 = .ok (.iadd, 1) := by decide +kernel
theorem dX12_reads_112 : decode cX12_reads 112 = .ok (.aload_n 0, 1) := by decide +kernel
theorem dX12_reads_113 : decode cX12_reads 113 = .ok (.getfield 290, 3) := by decide +kernel
theorem dX12_reads_116 : decode cX12_reads 116 = .ok (.iconst 1, 1) := by decide +kernel
theorem dX12_reads_117 : decode cX12_reads 117 = .ok (.iload 8, 2) := by decide +kernel
theorem dX12_reads_119 : decode cX12_reads 119 = .ok (.invokestatic 29, 3) := by decide +kernel
theorem dX12_reads_122 : decode cX12_reads 122 = .ok (.aload_n 0, 1) := by decide +kernel
theorem dX12_reads_123 : decode cX12_reads 123 = .ok (.iload_n 1, 1) := by decide +kernel
theorem dX12_reads_124 : decode cX12_reads 124 = .ok (.iconst 4, 1) := by decide +kernel
theorem dX12_reads_125 : decode cX12_reads 125 = .ok (.iload 8, 2) := by decide +kernel
theorem dX12_reads_127 : decode cX12_reads 127 = .ok (.iconst 1, 1) := by decide +kernel
theorem dX12_reads_128 : decode cX12_reads 128 = .ok (.iadd, 1) := by decide +kernel
theorem dX12_reads_129 : decode cX12_reads 129 = .ok (.invokevirtual 527, 3) := by decide +kernel
theorem dX12_reads_132 : decode cX12_reads 132 = .ok (.return_, 1) := by decide +kernel
theorem dX12_writing_0 : decode cX12_writing 0 = .ok (.aload_n 0, 1) := by decide +kernel
theorem dX12_writing_1 : decode cX12_writing 1 = .ok (.iload_n 1, 1) := by decide +kernel
theorem dX12_writing_2 : decode cX12_writing 2 = .ok (.iload_n 3, 1) := by decide +kernel
theorem dX12_writing_3 : decode cX12_writing 3 = .ok (.iconst 2, 1) := by decide +kernel
theorem dX12_writing_4 : decode cX12_writing 4 = .ok (.invokevirtual 570, 3) := by decide +kernel
theorem dX12_writing_7 : decode cX12_writing 7 = .ok (.istore 6, 2) := by decide +kernel
theorem dX12_writing_9 : decode cX12_writing 9 = .ok (.iload 6, 2) := by decide +kernel
theorem dX12_writing_11 : decode cX12_writing 11 = .ok (.ifCond .ne 20, 3) := by decide +kernel
theorem dX12_writing_14 : decode cX12_writing 14 = .ok (.iload_n 2, 1) := by decide +kernel
theorem dX12_writing_15 : decode cX12_writing 15 = .ok (.bipush 18, 2) := by decide +kernel
theorem dX12_writing_17 : decode cX12_writing 17 = .ok (.if_icmp .ne 14, 3) := by decide +kernel
theorem dX12_writing_20 : decode cX12_writing 20 = .ok (.iload 5, 2) := by decide +kernel
theorem dX12_writing_22 : decode cX12_writing 22 = .ok (.bipush 43, 2) := by decide +kernel
theorem dX12_writing_24 : decode cX12_writing 24 = .ok (.if_icmp .le 7, 3) := by decide +kernel
theorem dX12_writing_27 : decode cX12_writing 27 = .ok (.bipush 13, 2) := by decide +kernel
theorem dX12_writing_29 : decode cX12_writing 29 = .ok (.istore 6, 2) := by decide +kernel
theorem dX12_writing_31 : decode cX12_writing 31 = .ok (.iload 6, 2) := by decide +kernel
theorem dX12_writing_33 : decode cX12_writing 33 = .ok (.ifCond .ne 24, 3) := by decide +kernel
theorem dX12_writing_36 : decode cX12_writing 36 = .ok (.iload_n 2, 1) := by decide +kernel
theorem dX12_writing_37 : decode cX12_writing 37 = .ok (.bipush 22, 2) := by decide +kernel
theorem dX12_writing_39 : decode cX12_writing 39 = .ok (.if_icmp .ne 18, 3) := by decide +kernel
theorem dX12_writing_42 : decode cX12_writing 42 = .ok (.aload_n 0, 1) := by decide +kernel
theorem dX12_writing_43 : decode cX12_writing 43 = .ok (.getfield 338, 3) := by decide +kernel
theorem dX12_writing_46 : decode cX12_writing 46 = .ok (.iload_n 1, 1) := by decide +kernel
theorem dX12_writing_47 : decode cX12_writing 47 = .ok (.iaload, 1) := by decide +kernel
theorem dX12_writing_48 : decode cX12_writing 48 = .ok (.bipush 6, 2) := by decide +kernel
theorem dX12_writing_50 : decode cX12_writing 50 = .ok (.if_icmp .ne 7, 3) := by decide +kernel
theorem dX12_writing_53 : decode cX12_writing 53 = .ok (.bipush 9, 2) := by decide +kernel
theorem dX12_writing_55 : decode cX12_writing 55 = .ok (.istore 6, 2) := by decide +kernel
theorem dX12_writing_57 : decode cX12_writing 57 = .ok (.iload 6, 2) := by decide +kernel
theorem dX12_writing_59 : decode cX12_writing 59 = .ok (.ifCond .le 13, 3) := by decide +kernel
theorem dX12_writing_62 : decode cX12_writing 62 = .ok (.aload_n 0, 1) := by decide +kernel
theorem dX12_writing_63 : decode cX12_writing 63 = .ok (.iload_n 1, 1) := by decide +kernel
theorem dX12_writing_64 : decode cX12_writing 64 = .ok (.iload_n 2, 1) := by decide +kernel
theorem dX12_writing_65 : decode cX12_writing 65 = .ok (.iload_n 3, 1) := by decide +kernel
theorem dX12_writing_66 : decode cX12_writing 66 = .ok (.iload 6, 2) := by decide +kernel
theorem dX12_writing_68 : decode cX12_writing 68 = .ok (.invokevirtual 564, 3) := by decide +kernel
theorem dX12_writing_71 : decode cX12_writing 71 = .ok (.return_, 1) := by decide +kernel
theorem dX12_writing_72 : decode cX12_writing 72 = .ok (.iload_n 2, 1) := by decide +kernel
theorem dX12_writing_73 : decode cX12_writing 73 = .ok (.bipush 18, 2) := by decide +kernel
theorem dX12_writing_75 : decode cX12_writing 75 = .ok (.if_icmp .ne 27, 3) := by decide +kernel
theorem dX12_writing_78 : decode cX12_writing 78 = .ok (.aload_n 0, 1) := by decide +kernel
theorem dX12_writing_79 : decode cX12_writing 79 = .ok (.iload_n 1, 1) := by decide +kernel
theorem dX12_writing_80 : decode cX12_writing 80 = .ok (.iload_n 3, 1) := by decide +kernel
theorem dX12_writing_81 : decode cX12_writing 81 = .ok (.iload 5, 2) := by decide +kernel
theorem dX12_writing_83 : decode cX12_writing 83 = .ok (.invokevirtual 574, 3) := by decide +kernel
theorem dX12_writing_86 : decode cX12_writing 86 = .ok (.aload_n 0, 1) := by decide +kernel
theorem dX12_writing_87 : decode cX12_writing 87 = .ok (.getfield 290, 3) := by decide +kernel
theorem dX12_writing_90 : decode cX12_writing 90 = .ok (.iconst 0, 1) := by decide +kernel
theorem dX12_writing_91 : decode cX12_writing 91 = .ok (.bipush 19, 2) := by decide +kernel
theorem dX12_writing_93 : decode cX12_writing 93 = .ok (.bastore, 1) := by decide +kernel
theorem dX12_writing_94 : decode cX12_writing 94 = .ok (.aload_n 0, 1) := by decide +kernel
theorem dX12_writing_95 : decode cX12_writing 95 = .ok (.iload_n 1, 1) := by decide +kernel
theorem dX12_writing_96 : decode cX12_writing 96 = .ok (.iconst 4, 1) := by decide +kernel
theorem dX12_writing_97 : decode cX12_writing 97 = .ok (.iconst 1, 1) := by decide +kernel
theorem dX12_writing_98 : decode cX12_writing 98 = .ok (.invokevirtual 527, 3) := by decide +kernel
theorem dX12_writing_101 : decode cX12_writing 101 = .ok (.return_, 1) := by decide +kernel
theorem dX12_writing_102 : decode cX12_writing 102 = .ok (.bipush 6, 2) := by decide +kernel
theorem dX12_writing_104 : decode cX12_writing 104 = .ok (.iload_n 1, 1) := by decide +kernel
theorem dX12_writing_105 : decode cX12_writing 105 = .ok (.imul, 1) := by decide +kernel
theorem dX12_writing_106 : decode cX12_writing 106 = .ok (.aload_n 0, 1) := by decide +kernel
theorem dX12_writing_107 : decode cX12_writing 107 = .ok (.getfield 338, 3) := by decide +kernel
theorem dX12_writing_110 : decode cX12_writing 110 = .ok (.iload_n 1, 1) := by decide +kernel
theorem dX12_writing_111 : decode cX12_writing 111 = .ok (.iaload, 1) := by decide +kernel
theorem dX12_writing_112 : decode cX12_writing 112 = .ok (.iadd, 1) := by decide +kernel
theorem dX12_writing_113 : decode cX12_writing 113 = .ok (.istore 7, 2) := by decide +kernel
theorem dX12_writing_115 : decode cX12_writing 115 = .ok (.aload_n 0, 1) := by decide +kernel
theorem dX12_writing_116 : decode cX12_writing 116 = .ok (.getfield 338, 3) := by decide +kernel
theorem dX12_writing_119 : decode cX12_writing 119 = .ok (.iload_n 1, 1) := by decide +kernel
theorem dX12_writing_120 : decode cX12_writing 120 = .ok (.dup2, 1) := by decide +kernel
theorem dX12_writing_121 : decode cX12_writing 121 = .ok (.iaload, 1) := by decide +kernel
theorem dX12_writing_122 : decode cX12_writing 122 = .ok (.iconst 1, 1) := by decide +kernel
theorem dX12_writing_123 : decode cX12_writing 123 = .ok (.iadd, 1) := by decide +kernel
theorem dX12_writing_124 : decode cX12_writing 124 = .ok (.iastore, 1) := by decide +kernel
theorem dX12_writing_125 : decode cX12_writing 125 = .ok (.aload_n 0, 1) := by decide +kernel
theorem dX12_writing_126 : decode cX12_writing 126 = .ok (.getfield 350, 3) := by decide +kernel
theorem dX12_writing_129 : decode cX12_writing 129 = .ok (.iload 7, 2) := by decide +kernel
theorem dX12_writing_131 : decode cX12_writing 131 = .ok (.iload_n 3, 1) := by decide +kernel
theorem dX12_writing_132 : decode cX12_writing 132 = .ok (.iastore, 1) := by decide +kernel
theorem dX12_writing_133 : decode cX12_writing 133 = .ok (.aload_n 0, 1) := by decide +kernel
theorem dX12_writing_134 : decode cX12_writing 134 = .ok (.getfield 353, 3) := by decide +kernel
theorem dX12_writing_137 : decode cX12_writing 137 = .ok (.iload 7, 2) := by decide +kernel
theorem dX12_writing_139 : decode cX12_writing 139 = .ok (.iload 4, 2) := by decide +kernel
theorem dX12_writing_141 : decode cX12_writing 141 = .ok (.iastore, 1) := by decide +kernel
theorem dX12_writing_142 : decode cX12_writing 142 = .ok (.aload_n 0, 1) := by decide +kernel
theorem dX12_writing_143 : decode cX12_writing 143 = .ok (.getfield 356, 3) := by decide +kernel
theorem dX12_writing_146 : decode cX12_writing 146 = .ok (.iload 7, 2) := by decide +kernel
theorem dX12_writing_148 : decode cX12_writing 148 = .ok (.iload 5, 2) := by decide +kernel
theorem dX12_writing_150 : decode cX12_writing 150 = .ok (.iconst 5, 1) := by decide +kernel
theorem dX12_writing_151 : decode cX12_writing 151 = .ok (.isub, 1) := by decide +kernel
theorem dX12_writing_152 : decode cX12_writing 152 = .ok (.iastore, 1) := by decide +kernel
theorem dX12_writing_153 : decode cX12_writing 153 = .ok (.aload_n 0, 1) := by decide +kernel
theorem dX12_writing_154 : decode cX12_writing 154 = .ok (.getfield 293, 3) := by decide +kernel
theorem dX12_writing_157 : decode cX12_writing 157 = .ok (.iconst 5, 1) := by decide +kernel
theorem dX12_writing_158 : decode cX12_writing 158 = .ok (.aload_n 0, 1) := by decide +kernel
theorem dX12_writing_159 : decode cX12_writing 159 = .ok (.getfield 344, 3) := by decide +kernel
theorem dX12_writing_162 : decode cX12_writing 162 = .ok (.bipush 64, 2) := by decide +kernel
theorem dX12_writing_164 : decode cX12_writing 164 = .ok (.iload 7, 2) := by decide +kernel
theorem dX12_writing_166 : decode cX12_writing 166 = .ok (.imul, 1) := by decide +kernel
theorem dX12_writing_167 : decode cX12_writing 167 = .ok (.iload 5, 2) := by decide +kernel
theorem dX12_writing_169 : decode cX12_writing 169 = .ok (.iconst 5, 1) := by decide +kernel
theorem dX12_writing_170 : decode cX12_writing 170 = .ok (.isub, 1) := by decide +kernel
theorem dX12_writing_171 : decode cX12_writing 171 = .ok (.invokestatic 29, 3) := by decide +kernel
theorem dX12_writing_174 : decode cX12_writing 174 = .ok (.aload_n 0, 1) := by decide +kernel
theorem dX12_writing_175 : decode cX12_writing 175 = .ok (.getfield 293, 3) := by decide +kernel
theorem dX12_writing_178 : decode cX12_writing 178 = .ok (.iconst 0, 1) := by decide +kernel
theorem dX12_writing_179 : decode cX12_writing 179 = .ok (.aload_n 0, 1) := by decide +kernel
theorem dX12_writing_180 : decode cX12_writing 180 = .ok (.getfield 290, 3) := by decide +kernel
theorem dX12_writing_183 : decode cX12_writing 183 = .ok (.iconst 0, 1) := by decide +kernel
theorem dX12_writing_184 : decode cX12_writing 184 = .ok (.iload 5, 2) := by decide +kernel
theorem dX12_writing_186 : decode cX12_writing 186 = .ok (.invokestatic 29, 3) := by decide +kernel
theorem dX12_writing_189 : decode cX12_writing 189 = .ok (.aload_n 0, 1) := by decide +kernel
theorem dX12_writing_190 : decode cX12_writing 190 = .ok (.getfield 290, 3) := by decide +kernel
theorem dX12_writing_193 : decode cX12_writing 193 = .ok (.iconst 0, 1) := by decide +kernel
theorem dX12_writing_194 : decode cX12_writing 194 = .ok (.bipush 23, 2) := by decide +kernel
theorem dX12_writing_196 : decode cX12_writing 196 = .ok (.bastore, 1) := by decide +kernel
theorem dX12_writing_197 : decode cX12_writing 197 = .ok (.aload_n 0, 1) := by decide +kernel
theorem dX12_writing_198 : decode cX12_writing 198 = .ok (.iload_n 1, 1) := by decide +kernel
theorem dX12_writing_199 : decode cX12_writing 199 = .ok (.iconst 4, 1) := by decide +kernel
theorem dX12_writing_200 : decode cX12_writing 200 = .ok (.iload 5, 2) := by decide +kernel
theorem dX12_writing_202 : decode cX12_writing 202 = .ok (.invokevirtual 527, 3) := by decide +kernel
theorem dX12_writing_205 : decode cX12_writing 205 = .ok (.return_, 1) := by decide +kernel
theorem dX12_executes_0 : decode cX12_executes 0 = .ok (.aload_n 0, 1) := by decide +kernel
theorem dX12_executes_1 : decode cX12_executes 1 = .ok (.getfield 338, 3) := by decide +kernel
theorem dX12_executes_4 : decode cX12_executes 4 = .ok (.iload_n 1, 1) := by decide +kernel
theorem dX12_executes_5 : decode cX12_executes 5 = .ok (.iaload, 1) := by decide +kernel
theorem dX12_executes_6 : decode cX12_executes 6 = .ok (.istore_n 3, 1) := by decide +kernel
theorem dX12_executes_7 : decode cX12_executes 7 = .ok (.aload_n 0, 1) := by decide +kernel
theorem dX12_executes_8 : decode cX12_executes 8 = .ok (.getfield 338, 3) := by decide +kernel
theorem dX12_executes_11 : decode cX12_executes 11 = .ok (.iload_n 1, 1) := by decide +kernel
theorem dX12_executes_12 : decode cX12_executes 12 = .ok (.iconst 0, 1) := by decide +kernel
theorem dX12_executes_13 : decode cX12_executes 13 = .ok (.iastore, 1) := by decide +kernel
theorem dX12_executes_14 : decode cX12_executes 14 = .ok (.bipush 20, 2) := by decide +kernel
theorem dX12_executes_16 : decode cX12_executes 16 = .ok (.iload_n 1, 1) := by decide +kernel
theorem dX12_executes_17 : decode cX12_executes 17 = .ok (.imul, 1) := by decide +kernel
theorem dX12_executes_18 : decode cX12_executes 18 = .ok (.istore 4, 2) := by decide +kernel
theorem dX12_executes_20 : decode cX12_executes 20 = .ok (.aload_n 0, 1) := by decide +kernel
theorem dX12_executes_21 : decode cX12_executes 21 = .ok (.getfield 341, 3) := by decide +kernel
theorem dX12_executes_24 : decode cX12_executes 24 = .ok (.bipush 40, 2) := by decide +kernel
theorem dX12_executes_26 : decode cX12_executes 26 = .ok (.iload 4, 2) := by decide +kernel
theorem dX12_executes_28 : decode cX12_executes 28 = .ok (.imul, 1) := by decide +kernel
theorem dX12_executes_29 : decode cX12_executes 29 = .ok (.aload_n 0, 1) := by decide +kernel
theorem dX12_executes_30 : decode cX12_executes 30 = .ok (.getfield 347, 3) := by decide +kernel
theorem dX12_executes_33 : decode cX12_executes 33 = .ok (.iconst 0, 1) := by decide +kernel
theorem dX12_executes_34 : decode cX12_executes 34 = .ok (.sipush 800, 3) := by decide +kernel
theorem dX12_executes_37 : decode cX12_executes 37 = .ok (.invokestatic 29, 3) := by decide +kernel
theorem dX12_executes_40 : decode cX12_executes 40 = .ok (.iconst 0, 1) := by decide +kernel
theorem dX12_executes_41 : decode cX12_executes 41 = .ok (.istore 5, 2) := by decide +kernel
theorem dX12_executes_43 : decode cX12_executes 43 = .ok (.iload 5, 2) := by decide +kernel
theorem dX12_executes_45 : decode cX12_executes 45 = .ok (.bipush 20, 2) := by decide +kernel
theorem dX12_executes_47 : decode cX12_executes 47 = .ok (.if_icmp .ge 26, 3) := by decide +kernel
theorem dX12_executes_50 : decode cX12_executes 50 = .ok (.aload_n 0, 1) := by decide +kernel
theorem dX12_executes_51 : decode cX12_executes 51 = .ok (.getfield 359, 3) := by decide +kernel
theorem dX12_executes_54 : decode cX12_executes 54 = .ok (.iload 5, 2) := by decide +kernel
theorem dX12_executes_56 : decode cX12_executes 56 = .ok (.aload_n 0, 1) := by decide +kernel
theorem dX12_executes_57 : decode cX12_executes 57 = .ok (.getfield 329, 3) := by decide +kernel
theorem dX12_executes_60 : decode cX12_executes 60 = .ok (.iload 4, 2) := by decide +kernel
theorem dX12_executes_62 : decode cX12_executes 62 = .ok (.iload 5, 2) := by decide +kernel
theorem dX12_executes_64 : decode cX12_executes 64 = .ok (.iadd, 1) := by decide +kernel
theorem dX12_executes_65 : decode cX12_executes 65 = .ok (.iaload, 1) := by decide +kernel
theorem dX12_executes_66 : decode cX12_executes 66 = .ok (.iastore, 1) := by decide +kernel
theorem dX12_executes_67 : decode cX12_executes 67 = .ok (.iinc 5 1, 3) := by decide +kernel
theorem dX12_executes_70 : decode cX12_executes 70 = .ok (.goto (-27), 3) := by decide +kernel
theorem dX12_executes_73 : decode cX12_executes 73 = .ok (.iconst 0, 1) := by decide +kernel
theorem dX12_executes_74 : decode cX12_executes 74 = .ok (.istore 5, 2) := by decide +kernel
theorem dX12_executes_76 : decode cX12_executes 76 = .ok (.iload 5, 2) := by decide +kernel
theorem dX12_executes_78 : decode cX12_executes 78 = .ok (.iload_n 3, 1) := by decide +kernel
theorem dX12_executes_79 : decode cX12_executes 79 = .ok (.if_icmp .ge 165, 3) := by decide +kernel
theorem dX12_executes_82 : decode cX12_executes 82 = .ok (.iload_n 2, 1) := by decide +kernel
theorem dX12_executes_83 : decode cX12_executes 83 = .ok (.ifCond .eq 161, 3) := by decide +kernel
theorem dX12_executes_86 : decode cX12_executes 86 = .ok (.bipush 6, 2) := by decide +kernel
theorem dX12_executes_88 : decode cX12_executes 88 = .ok (.iload_n 1, 1) := by decide +kernel
theorem dX12_executes_89 : decode cX12_executes 89 = .ok (.imul, 1) := by decide +kernel
theorem dX12_executes_90 : decode cX12_executes 90 = .ok (.iload 5, 2) := by decide +kernel
theorem dX12_executes_92 : decode cX12_executes 92 = .ok (.iadd, 1) := by decide +kernel
theorem dX12_executes_93 : decode cX12_executes 93 = .ok (.istore 6, 2) := by decide +kernel
theorem dX12_executes_95 : decode cX12_executes 95 = .ok (.aload_n 0, 1) := by decide +kernel
theorem dX12_executes_96 : decode cX12_executes 96 = .ok (.getfield 350, 3) := by decide +kernel
theorem dX12_executes_99 : decode cX12_executes 99 = .ok (.iload 6, 2) := by decide +kernel
theorem dX12_executes_101 : decode cX12_executes 101 = .ok (.iaload, 1) := by decide +kernel
theorem dX12_executes_102 : decode cX12_executes 102 = .ok (.iconst 1, 1) := by decide +kernel
theorem dX12_executes_103 : decode cX12_executes 103 = .ok (.isub, 1) := by decide +kernel
theorem dX12_executes_104 : decode cX12_executes 104 = .ok (.istore 7, 2) := by decide +kernel
theorem dX12_executes_106 : decode cX12_executes 106 = .ok (.aload_n 0, 1) := by decide +kernel
theorem dX12_executes_107 : decode cX12_executes 107 = .ok (.getfield 353, 3) := by decide +kernel
theorem dX12_executes_110 : decode cX12_executes 110 = .ok (.iload 6, 2) := by decide +kernel
theorem dX12_executes_112 : decode cX12_executes 112 = .ok (.iaload, 1) := by decide +kernel
theorem dX12_executes_113 : decode cX12_executes 113 = .ok (.aload_n 0, 1) := by decide +kernel
theorem dX12_executes_114 : decode cX12_executes 114 = .ok (.getfield 356, 3) := by decide +kernel
theorem dX12_executes_117 : decode cX12_executes 117 = .ok (.iload 6, 2) := by decide +kernel
theorem dX12_executes_119 : decode cX12_executes 119 = .ok (.iaload, 1) := by decide +kernel
theorem dX12_executes_120 : decode cX12_executes 120 = .ok (.iadd, 1) := by decide +kernel
theorem dX12_executes_121 : decode cX12_executes 121 = .ok (.istore 8, 2) := by decide +kernel
theorem dX12_executes_123 : decode cX12_executes 123 = .ok (.aload_n 0, 1) := by decide +kernel
theorem dX12_executes_124 : decode cX12_executes 124 = .ok (.getfield 353, 3) := by decide +kernel
theorem dX12_executes_127 : decode cX12_executes 127 = .ok (.iload 6, 2) := by decide +kernel
theorem dX12_executes_129 : decode cX12_executes 129 = .ok (.iaload, 1) := by decide +kernel
theorem dX12_executes_130 : decode cX12_executes 130 = .ok (.aload_n 0, 1) := by decide +kernel
theorem dX12_executes_131 : decode cX12_executes 131 = .ok (.getfield 359, 3) := by decide +kernel
theorem dX12_executes_134 : decode cX12_executes 134 = .ok (.iload 7, 2) := by decide +kernel
theorem dX12_executes_136 : decode cX12_executes 136 = .ok (.iaload, 1) := by decide +kernel
theorem dX12_executes_137 : decode cX12_executes 137 = .ok (.if_icmp .gt 10, 3) := by decide +kernel
theorem dX12_executes_140 : decode cX12_executes 140 = .ok (.iload 8, 2) := by decide +kernel
theorem dX12_executes_142 : decode cX12_executes 142 = .ok (.bipush 40, 2) := by decide +kernel
theorem dX12_executes_144 : decode cX12_executes 144 = .ok (.if_icmp .le 39, 3) := by decide +kernel
theorem dX12_executes_147 : decode cX12_executes 147 = .ok (.aload_n 0, 1) := by decide +kernel
theorem dX12_executes_148 : decode cX12_executes 148 = .ok (.iload_n 1, 1) := by decide +kernel
theorem dX12_executes_149 : decode cX12_executes 149 = .ok (.bipush 24, 2) := by decide +kernel
theorem dX12_executes_151 : decode cX12_executes 151 = .ok (.iload 7, 2) := by decide +kernel
theorem dX12_executes_153 : decode cX12_executes 153 = .ok (.iconst 1, 1) := by decide +kernel
theorem dX12_executes_154 : decode cX12_executes 154 = .ok (.iadd, 1) := by decide +kernel
theorem dX12_executes_155 : decode cX12_executes 155 = .ok (.aload_n 0, 1) := by decide +kernel
theorem dX12_executes_156 : decode cX12_executes 156 = .ok (.getfield 353, 3) := by decide +kernel
theorem dX12_executes_159 : decode cX12_executes 159 = .ok (.iload 6, 2) := by decide +kernel
theorem dX12_executes_161 : decode cX12_executes 161 = .ok (.iaload, 1) := by decide +kernel
theorem dX12_executes_162 : decode cX12_executes 162 = .ok (.aload_n 0, 1) := by decide +kernel
theorem dX12_executes_163 : decode cX12_executes 163 = .ok (.getfield 359, 3) := by decide +kernel
theorem dX12_executes_166 : decode cX12_executes 166 = .ok (.iload 7, 2) := by decide +kernel
theorem dX12_executes_168 : decode cX12_executes 168 = .ok (.iaload, 1) := by decide +kernel
theorem dX12_executes_169 : decode cX12_executes 169 = .ok (.if_icmp .le 8, 3) := by decide +kernel
theorem dX12_executes_172 : decode cX12_executes 172 = .ok (.bipush 7, 2) := by decide +kernel
theorem dX12_executes_174 : decode cX12_executes 174 = .ok (.goto 5, 3) := by decide +kernel
theorem dX12_executes_177 : decode cX12_executes 177 = .ok (.bipush 13, 2) := by decide +kernel
theorem dX12_executes_179 : decode cX12_executes 179 = .ok (.invokevirtual 564, 3) := by decide +kernel
theorem dX12_executes_182 : decode cX12_executes 182 = .ok (.return_, 1) := by decide +kernel
theorem dX12_executes_183 : decode cX12_executes 183 = .ok (.aload_n 0, 1) := by decide +kernel
theorem dX12_executes_184 : decode cX12_executes 184 = .ok (.getfield 344, 3) := by decide +kernel
theorem dX12_executes_187 : decode cX12_executes 187 = .ok (.bipush 64, 2) := by decide +kernel
theorem dX12_executes_189 : decode cX12_executes 189 = .ok (.iload 6, 2) := by decide +kernel
theorem dX12_executes_191 : decode cX12_executes 191 = .ok (.imul, 1) := by decide +kernel
theorem dX12_executes_192 : decode cX12_executes 192 = .ok (.aload_n 0, 1) := by decide +kernel
theorem dX12_executes_193 : decode cX12_executes 193 = .ok (.getfield 347, 3) := by decide +kernel
theorem dX12_executes_196 : decode cX12_executes 196 = .ok (.bipush 40, 2) := by decide +kernel
theorem dX12_executes_198 : decode cX12_executes 198 = .ok (.iload 7, 2) := by decide +kernel
theorem dX12_executes_200 : decode cX12_executes 200 = .ok (.imul, 1) := by decide +kernel
theorem dX12_executes_201 : decode cX12_executes 201 = .ok (.aload_n 0, 1) := by decide +kernel
theorem dX12_executes_202 : decode cX12_executes 202 = .ok (.getfield 353, 3) := by decide +kernel
theorem dX12_executes_205 : decode cX12_executes 205 = .ok (.iload 6, 2) := by decide +kernel
theorem dX12_executes_207 : decode cX12_executes 207 = .ok (.iaload, 1) := by decide +kernel
theorem dX12_executes_208 : decode cX12_executes 208 = .ok (.iadd, 1) := by decide +kernel
theorem dX12_executes_209 : decode cX12_executes 209 = .ok (.aload_n 0, 1) := by decide +kernel
theorem dX12_executes_210 : decode cX12_executes 210 = .ok (.getfield 356, 3) := by decide +kernel
theorem dX12_executes_213 : decode cX12_executes 213 = .ok (.iload 6, 2) := by decide +kernel
theorem dX12_executes_215 : decode cX12_executes 215 = .ok (.iaload, 1) := by decide +kernel
theorem dX12_executes_216 : decode cX12_executes 216 = .ok (.invokestatic 29, 3) := by decide +kernel
theorem dX12_executes_219 : decode cX12_executes 219 = .ok (.aload_n 0, 1) := by decide +kernel
theorem dX12_executes_220 : decode cX12_executes 220 = .ok (.getfield 359, 3) := by decide +kernel
theorem dX12_executes_223 : decode cX12_executes 223 = .ok (.iload 7, 2) := by decide +kernel
theorem dX12_executes_225 : decode cX12_executes 225 = .ok (.aload_n 0, 1) := by decide +kernel
theorem dX12_executes_226 : decode cX12_executes 226 = .ok (.getfield 359, 3) := by decide +kernel
theorem dX12_executes_229 : decode cX12_executes 229 = .ok (.iload 7, 2) := by decide +kernel
theorem dX12_executes_231 : decode cX12_executes 231 = .ok (.iaload, 1) := by decide +kernel
theorem dX12_executes_232 : decode cX12_executes 232 = .ok (.iload 8, 2) := by decide +kernel
theorem dX12_executes_234 : decode cX12_executes 234 = .ok (.invokestatic 596, 3) := by decide +kernel
theorem dX12_executes_237 : decode cX12_executes 237 = .ok (.iastore, 1) := by decide +kernel
theorem dX12_executes_238 : decode cX12_executes 238 = .ok (.iinc 5 1, 3) := by decide +kernel
theorem dX12_executes_241 : decode cX12_executes 241 = .ok (.goto (-165), 3) := by decide +kernel
theorem dX12_executes_244 : decode cX12_executes 244 = .ok (.aload_n 0, 1) := by decide +kernel
theorem dX12_executes_245 : decode cX12_executes 245 = .ok (.getfield 347, 3) := by decide +kernel
theorem dX12_executes_248 : decode cX12_executes 248 = .ok (.iconst 0, 1) := by decide +kernel
theorem dX12_executes_249 : decode cX12_executes 249 = .ok (.aload_n 0, 1) := by decide +kernel
theorem dX12_executes_250 : decode cX12_executes 250 = .ok (.getfield 341, 3) := by decide +kernel
theorem dX12_executes_253 : decode cX12_executes 253 = .ok (.bipush 40, 2) := by decide +kernel
theorem dX12_executes_255 : decode cX12_executes 255 = .ok (.iload 4, 2) := by decide +kernel
theorem dX12_executes_257 : decode cX12_executes 257 = .ok (.imul, 1) := by decide +kernel
theorem dX12_executes_258 : decode cX12_executes 258 = .ok (.sipush 800, 3) := by decide +kernel
theorem dX12_executes_261 : decode cX12_executes 261 = .ok (.invokestatic 29, 3) := by decide +kernel
theorem dX12_executes_264 : decode cX12_executes 264 = .ok (.iconst 0, 1) := by decide +kernel
theorem dX12_executes_265 : decode cX12_executes 265 = .ok (.istore 5, 2) := by decide +kernel
theorem dX12_executes_267 : decode cX12_executes 267 = .ok (.iload 5, 2) := by decide +kernel
theorem dX12_executes_269 : decode cX12_executes 269 = .ok (.bipush 20, 2) := by decide +kernel
theorem dX12_executes_271 : decode cX12_executes 271 = .ok (.if_icmp .ge 26, 3) := by decide +kernel
theorem dX12_executes_274 : decode cX12_executes 274 = .ok (.aload_n 0, 1) := by decide +kernel
theorem dX12_executes_275 : decode cX12_executes 275 = .ok (.getfield 329, 3) := by decide +kernel
theorem dX12_executes_278 : decode cX12_executes 278 = .ok (.iload 4, 2) := by decide +kernel
theorem dX12_executes_280 : decode cX12_executes 280 = .ok (.iload 5, 2) := by decide +kernel
theorem dX12_executes_282 : decode cX12_executes 282 = .ok (.iadd, 1) := by decide +kernel
theorem dX12_executes_283 : decode cX12_executes 283 = .ok (.aload_n 0, 1) := by decide +kernel
theorem dX12_executes_284 : decode cX12_executes 284 = .ok (.getfield 359, 3) := by decide +kernel
theorem dX12_executes_287 : decode cX12_executes 287 = .ok (.iload 5, 2) := by decide +kernel
theorem dX12_executes_289 : decode cX12_executes 289 = .ok (.iaload, 1) := by decide +kernel
theorem dX12_executes_290 : decode cX12_executes 290 = .ok (.iastore, 1) := by decide +kernel
theorem dX12_executes_291 : decode cX12_executes 291 = .ok (.iinc 5 1, 3) := by decide +kernel
theorem dX12_executes_294 : decode cX12_executes 294 = .ok (.goto (-27), 3) := by decide +kernel
theorem dX12_executes_297 : decode cX12_executes 297 = .ok (.aload_n 0, 1) := by decide +kernel
theorem dX12_executes_298 : decode cX12_executes 298 = .ok (.getfield 290, 3) := by decide +kernel
theorem dX12_executes_301 : decode cX12_executes 301 = .ok (.iconst 0, 1) := by decide +kernel
theorem dX12_executes_302 : decode cX12_executes 302 = .ok (.bipush 25, 2) := by decide +kernel
theorem dX12_executes_304 : decode cX12_executes 304 = .ok (.bastore, 1) := by decide +kernel
theorem dX12_executes_305 : decode cX12_executes 305 = .ok (.aload_n 0, 1) := by decide +kernel
theorem dX12_executes_306 : decode cX12_executes 306 = .ok (.iload_n 1, 1) := by decide +kernel
theorem dX12_executes_307 : decode cX12_executes 307 = .ok (.iconst 4, 1) := by decide +kernel
theorem dX12_executes_308 : decode cX12_executes 308 = .ok (.iconst 1, 1) := by decide +kernel
theorem dX12_executes_309 : decode cX12_executes 309 = .ok (.invokevirtual 527, 3) := by decide +kernel
theorem dX12_executes_312 : decode cX12_executes 312 = .ok (.return_, 1) := by decide +kernel
theorem dX12_isValue_0 : decode cX12_isValue 0 = .ok (.aload_n 0, 1) := by decide +kernel
theorem dX12_isValue_1 : decode cX12_isValue 1 = .ok (.iload_n 1, 1) := by decide +kernel
theorem dX12_isValue_2 : decode cX12_isValue 2 = .ok (.iload_n 2, 1) := by decide +kernel
theorem dX12_isValue_3 : decode cX12_isValue 3 = .ok (.invokevirtual 547, 3) := by decide +kernel
theorem dX12_isValue_6 : decode cX12_isValue 6 = .ok (.istore 5, 2) := by decide +kernel
theorem dX12_isValue_8 : decode cX12_isValue 8 = .ok (.aload_n 0, 1) := by decide +kernel
theorem dX12_isValue_9 : decode cX12_isValue 9 = .ok (.getfield 329, 3) := by decide +kernel
theorem dX12_isValue_12 : decode cX12_isValue 12 = .ok (.iload 5, 2) := by decide +kernel
theorem dX12_isValue_14 : decode cX12_isValue 14 = .ok (.iaload, 1) := by decide +kernel
theorem dX12_isValue_15 : decode cX12_isValue 15 = .ok (.iload 4, 2) := by decide +kernel
theorem dX12_isValue_17 : decode cX12_isValue 17 = .ok (.if_icmp .ne 7, 3) := by decide +kernel
theorem dX12_isValue_20 : decode cX12_isValue 20 = .ok (.iconst 1, 1) := by decide +kernel
theorem dX12_isValue_21 : decode cX12_isValue 21 = .ok (.goto 4, 3) := by decide +kernel
theorem dX12_isValue_24 : decode cX12_isValue 24 = .ok (.iconst 0, 1) := by decide +kernel
theorem dX12_isValue_25 : decode cX12_isValue 25 = .ok (.istore 6, 2) := by decide +kernel
theorem dX12_isValue_27 : decode cX12_isValue 27 = .ok (.iconst 0, 1) := by decide +kernel
theorem dX12_isValue_28 : decode cX12_isValue 28 = .ok (.istore 7, 2) := by decide +kernel
theorem dX12_isValue_30 : decode cX12_isValue 30 = .ok (.iload 7, 2) := by decide +kernel
theorem dX12_isValue_32 : decode cX12_isValue 32 = .ok (.iload 4, 2) := by decide +kernel
theorem dX12_isValue_34 : decode cX12_isValue 34 = .ok (.if_icmp .ge 46, 3) := by decide +kernel
theorem dX12_isValue_37 : decode cX12_isValue 37 = .ok (.iload 6, 2) := by decide +kernel
theorem dX12_isValue_39 : decode cX12_isValue 39 = .ok (.ifCond .eq 41, 3) := by decide +kernel
theorem dX12_isValue_42 : decode cX12_isValue 42 = .ok (.aload_n 0, 1) := by decide +kernel
theorem dX12_isValue_43 : decode cX12_isValue 43 = .ok (.getfield 341, 3) := by decide +kernel
theorem dX12_isValue_46 : decode cX12_isValue 46 = .ok (.bipush 40, 2) := by decide +kernel
theorem dX12_isValue_48 : decode cX12_isValue 48 = .ok (.iload 5, 2) := by decide +kernel
theorem dX12_isValue_50 : decode cX12_isValue 50 = .ok (.imul, 1) := by decide +kernel
theorem dX12_isValue_51 : decode cX12_isValue 51 = .ok (.iload 7, 2) := by decide +kernel
theorem dX12_isValue_53 : decode cX12_isValue 53 = .ok (.iadd, 1) := by decide +kernel
theorem dX12_isValue_54 : decode cX12_isValue 54 = .ok (.baload, 1) := by decide +kernel
theorem dX12_isValue_55 : decode cX12_isValue 55 = .ok (.aload_n 0, 1) := by decide +kernel
theorem dX12_isValue_56 : decode cX12_isValue 56 = .ok (.getfield 293, 3) := by decide +kernel
theorem dX12_isValue_59 : decode cX12_isValue 59 = .ok (.iload_n 3, 1) := by decide +kernel
theorem dX12_isValue_60 : decode cX12_isValue 60 = .ok (.iload 7, 2) := by decide +kernel
theorem dX12_isValue_62 : decode cX12_isValue 62 = .ok (.iadd, 1) := by decide +kernel
theorem dX12_isValue_63 : decode cX12_isValue 63 = .ok (.baload, 1) := by decide +kernel
theorem dX12_isValue_64 : decode cX12_isValue 64 = .ok (.if_icmp .ne 7, 3) := by decide +kernel
theorem dX12_isValue_67 : decode cX12_isValue 67 = .ok (.iconst 1, 1) := by decide +kernel
theorem dX12_isValue_68 : decode cX12_isValue 68 = .ok (.goto 4, 3) := by decide +kernel
theorem dX12_isValue_71 : decode cX12_isValue 71 = .ok (.iconst 0, 1) := by decide +kernel
theorem dX12_isValue_72 : decode cX12_isValue 72 = .ok (.istore 6, 2) := by decide +kernel
theorem dX12_isValue_74 : decode cX12_isValue 74 = .ok (.iinc 7 1, 3) := by decide +kernel
theorem dX12_isValue_77 : decode cX12_isValue 77 = .ok (.goto (-47), 3) := by decide +kernel
theorem dX12_isValue_80 : decode cX12_isValue 80 = .ok (.iload 6, 2) := by decide +kernel
theorem dX12_isValue_82 : decode cX12_isValue 82 = .ok (.ireturn, 1) := by decide +kernel
theorem dX12_lists_0 : decode cX12_lists 0 = .ok (.iload_n 2, 1) := by decide +kernel
theorem dX12_lists_1 : decode cX12_lists 1 = .ok (.iconst 4, 1) := by decide +kernel
theorem dX12_lists_2 : decode cX12_lists 2 = .ok (.if_icmp .ne 7, 3) := by decide +kernel
theorem dX12_lists_5 : decode cX12_lists 5 = .ok (.iconst 0, 1) := by decide +kernel
theorem dX12_lists_6 : decode cX12_lists 6 = .ok (.goto 11, 3) := by decide +kernel
theorem dX12_lists_9 : decode cX12_lists 9 = .ok (.aload_n 0, 1) := by decide +kernel
theorem dX12_lists_10 : decode cX12_lists 10 = .ok (.getfield 293, 3) := by decide +kernel
theorem dX12_lists_13 : decode cX12_lists 13 = .ok (.iconst 5, 1) := by decide +kernel
theorem dX12_lists_14 : decode cX12_lists 14 = .ok (.invokestatic 489, 3) := by decide +kernel
theorem dX12_lists_17 : decode cX12_lists 17 = .ok (.istore 6, 2) := by decide +kernel
theorem dX12_lists_19 : decode cX12_lists 19 = .ok (.iload_n 2, 1) := by decide +kernel
theorem dX12_lists_20 : decode cX12_lists 20 = .ok (.bipush 6, 2) := by decide +kernel
theorem dX12_lists_22 : decode cX12_lists 22 = .ok (.if_icmp .ne 7, 3) := by decide +kernel
theorem dX12_lists_25 : decode cX12_lists 25 = .ok (.iconst 1, 1) := by decide +kernel
theorem dX12_lists_26 : decode cX12_lists 26 = .ok (.goto 4, 3) := by decide +kernel
theorem dX12_lists_29 : decode cX12_lists 29 = .ok (.iconst 2, 1) := by decide +kernel
theorem dX12_lists_30 : decode cX12_lists 30 = .ok (.istore 7, 2) := by decide +kernel
theorem dX12_lists_32 : decode cX12_lists 32 = .ok (.iconst 0, 1) := by decide +kernel
theorem dX12_lists_33 : decode cX12_lists 33 = .ok (.istore 8, 2) := by decide +kernel
theorem dX12_lists_35 : decode cX12_lists 35 = .ok (.iconst 0, 1) := by decide +kernel
theorem dX12_lists_36 : decode cX12_lists 36 = .ok (.istore 9, 2) := by decide +kernel
theorem dX12_lists_38 : decode cX12_lists 38 = .ok (.iconst 1, 1) := by decide +kernel
theorem dX12_lists_39 : decode cX12_lists 39 = .ok (.istore 10, 2) := by decide +kernel
theorem dX12_lists_41 : decode cX12_lists 41 = .ok (.iload_n 3, 1) := by decide +kernel
theorem dX12_lists_42 : decode cX12_lists 42 = .ok (.istore 11, 2) := by decide +kernel
theorem dX12_lists_44 : decode cX12_lists 44 = .ok (.iload 11, 2) := by decide +kernel
theorem dX12_lists_46 : decode cX12_lists 46 = .ok (.iload 4, 2) := by decide +kernel
theorem dX12_lists_48 : decode cX12_lists 48 = .ok (.if_icmp .gt 355, 3) := by decide +kernel
theorem dX12_lists_51 : decode cX12_lists 51 = .ok (.iload 11, 2) := by decide +kernel
theorem dX12_lists_53 : decode cX12_lists 53 = .ok (.aload_n 0, 1) := by decide +kernel
theorem dX12_lists_54 : decode cX12_lists 54 = .ok (.getfield 320, 3) := by decide +kernel
theorem dX12_lists_57 : decode cX12_lists 57 = .ok (.iload_n 1, 1) := by decide +kernel
theorem dX12_lists_58 : decode cX12_lists 58 = .ok (.iaload, 1) := by decide +kernel
theorem dX12_lists_59 : decode cX12_lists 59 = .ok (.if_icmp .gt 344, 3) := by decide +kernel
theorem dX12_lists_62 : decode cX12_lists 62 = .ok (.iload 10, 2) := by decide +kernel
theorem dX12_lists_64 : decode cX12_lists 64 = .ok (.ifCond .eq 339, 3) := by decide +kernel
theorem dX12_lists_67 : decode cX12_lists 67 = .ok (.aload_n 0, 1) := by decide +kernel
theorem dX12_lists_68 : decode cX12_lists 68 = .ok (.iload_n 1, 1) := by decide +kernel
theorem dX12_lists_69 : decode cX12_lists 69 = .ok (.iload 11, 2) := by decide +kernel
theorem dX12_lists_71 : decode cX12_lists 71 = .ok (.invokevirtual 547, 3) := by decide +kernel
theorem dX12_lists_74 : decode cX12_lists 74 = .ok (.istore 12, 2) := by decide +kernel
theorem dX12_lists_76 : decode cX12_lists 76 = .ok (.iload_n 2, 1) := by decide +kernel
theorem dX12_lists_77 : decode cX12_lists 77 = .ok (.iconst 4, 1) := by decide +kernel
theorem dX12_lists_78 : decode cX12_lists 78 = .ok (.if_icmp .eq 15, 3) := by decide +kernel
theorem dX12_lists_81 : decode cX12_lists 81 = .ok (.aload_n 0, 1) := by decide +kernel
theorem dX12_lists_82 : decode cX12_lists 82 = .ok (.getfield 323, 3) := by decide +kernel
theorem dX12_lists_85 : decode cX12_lists 85 = .ok (.iload 12, 2) := by decide +kernel
theorem dX12_lists_87 : decode cX12_lists 87 = .ok (.iaload, 1) := by decide +kernel
theorem dX12_lists_88 : decode cX12_lists 88 = .ok (.iload 6, 2) := by decide +kernel
theorem dX12_lists_90 : decode cX12_lists 90 = .ok (.if_icmp .ne 307, 3) := by decide +kernel
theorem dX12_lists_93 : decode cX12_lists 93 = .ok (.iload_n 2, 1) := by decide +kernel
theorem dX12_lists_94 : decode cX12_lists 94 = .ok (.bipush 6, 2) := by decide +kernel
theorem dX12_lists_96 : decode cX12_lists 96 = .ok (.if_icmp .ne 34, 3) := by decide +kernel
theorem dX12_lists_99 : decode cX12_lists 99 = .ok (.aload_n 0, 1) := by decide +kernel
theorem dX12_lists_100 : decode cX12_lists 100 = .ok (.iload_n 1, 1) := by decide +kernel
theorem dX12_lists_101 : decode cX12_lists 101 = .ok (.iload 11, 2) := by decide +kernel
theorem dX12_lists_103 : decode cX12_lists 103 = .ok (.iconst 1, 1) := by decide +kernel
theorem dX12_lists_104 : decode cX12_lists 104 = .ok (.invokevirtual 570, 3) := by decide +kernel
theorem dX12_lists_107 : decode cX12_lists 107 = .ok (.ifCond .ne 290, 3) := by decide +kernel
theorem dX12_lists_110 : decode cX12_lists 110 = .ok (.aload_n 0, 1) := by decide +kernel
theorem dX12_lists_111 : decode cX12_lists 111 = .ok (.iload_n 1, 1) := by decide +kernel
theorem dX12_lists_112 : decode cX12_lists 112 = .ok (.iload 11, 2) := by decide +kernel
theorem dX12_lists_114 : decode cX12_lists 114 = .ok (.bipush 7, 2) := by decide +kernel
theorem dX12_lists_116 : decode cX12_lists 116 = .ok (.iload 5, 2) := by decide +kernel
theorem dX12_lists_118 : decode cX12_lists 118 = .ok (.bipush 7, 2) := by decide +kernel
theorem dX12_lists_120 : decode cX12_lists 120 = .ok (.isub, 1) := by decide +kernel
theorem dX12_lists_121 : decode cX12_lists 121 = .ok (.invokevirtual 599, 3) := by decide +kernel
theorem dX12_lists_124 : decode cX12_lists 124 = .ok (.ifCond .ne 6, 3) := by decide +kernel
theorem dX12_lists_127 : decode cX12_lists 127 = .ok (.goto 270, 3) := by decide +kernel
theorem dX12_lists_130 : decode cX12_lists 130 = .ok (.iload_n 2, 1) := by decide +kernel
theorem dX12_lists_131 : decode cX12_lists 131 = .ok (.bipush 16, 2) := by decide +kernel
theorem dX12_lists_133 : decode cX12_lists 133 = .ok (.if_icmp .ne 7, 3) := by decide +kernel
theorem dX12_lists_136 : decode cX12_lists 136 = .ok (.iconst 4, 1) := by decide +kernel
theorem dX12_lists_137 : decode cX12_lists 137 = .ok (.goto 4, 3) := by decide +kernel
theorem dX12_lists_140 : decode cX12_lists 140 = .ok (.iconst 2, 1) := by decide +kernel
theorem dX12_lists_141 : decode cX12_lists 141 = .ok (.istore 13, 2) := by decide +kernel
theorem dX12_lists_143 : decode cX12_lists 143 = .ok (.iload_n 2, 1) := by decide +kernel
theorem dX12_lists_144 : decode cX12_lists 144 = .ok (.bipush 8, 2) := by decide +kernel
theorem dX12_lists_146 : decode cX12_lists 146 = .ok (.if_icmp .eq 9, 3) := by decide +kernel
theorem dX12_lists_149 : decode cX12_lists 149 = .ok (.iload_n 2, 1) := by decide +kernel
theorem dX12_lists_150 : decode cX12_lists 150 = .ok (.bipush 16, 2) := by decide +kernel
theorem dX12_lists_152 : decode cX12_lists 152 = .ok (.if_icmp .ne 27, 3) := by decide +kernel
theorem dX12_lists_155 : decode cX12_lists 155 = .ok (.aload_n 0, 1) := by decide +kernel
theorem dX12_lists_156 : decode cX12_lists 156 = .ok (.getfield 329, 3) := by decide +kernel
theorem dX12_lists_159 : decode cX12_lists 159 = .ok (.iload 12, 2) := by decide +kernel
theorem dX12_lists_161 : decode cX12_lists 161 = .ok (.iaload, 1) := by decide +kernel
theorem dX12_lists_162 : decode cX12_lists 162 = .ok (.aload_n 0, 1) := by decide +kernel
theorem dX12_lists_163 : decode cX12_lists 163 = .ok (.getfield 332, 3) := by decide +kernel
theorem dX12_lists_166 : decode cX12_lists 166 = .ok (.iload_n 1, 1) := by decide +kernel
theorem dX12_lists_167 : decode cX12_lists 167 = .ok (.iaload, 1) := by decide +kernel
theorem dX12_lists_168 : decode cX12_lists 168 = .ok (.iconst 2, 1) := by decide +kernel
theorem dX12_lists_169 : decode cX12_lists 169 = .ok (.isub, 1) := by decide +kernel
theorem dX12_lists_170 : decode cX12_lists 170 = .ok (.iload 13, 2) := by decide +kernel
theorem dX12_lists_172 : decode cX12_lists 172 = .ok (.isub, 1) := by decide +kernel
theorem dX12_lists_173 : decode cX12_lists 173 = .ok (.invokestatic 404, 3) := by decide +kernel
theorem dX12_lists_176 : decode cX12_lists 176 = .ok (.goto 4, 3) := by decide +kernel
theorem dX12_lists_179 : decode cX12_lists 179 = .ok (.iconst 0, 1) := by decide +kernel
theorem dX12_lists_180 : decode cX12_lists 180 = .ok (.istore 14, 2) := by decide +kernel
theorem dX12_lists_182 : decode cX12_lists 182 = .ok (.iload_n 2, 1) := by decide +kernel
theorem dX12_lists_183 : decode cX12_lists 183 = .ok (.bipush 8, 2) := by decide +kernel
theorem dX12_lists_185 : decode cX12_lists 185 = .ok (.if_icmp .eq 9, 3) := by decide +kernel
theorem dX12_lists_188 : decode cX12_lists 188 = .ok (.iload_n 2, 1) := by decide +kernel
theorem dX12_lists_189 : decode cX12_lists 189 = .ok (.bipush 16, 2) := by decide +kernel
theorem dX12_lists_191 : decode cX12_lists 191 = .ok (.if_icmp .ne 81, 3) := by decide +kernel
theorem dX12_lists_194 : decode cX12_lists 194 = .ok (.aload_n 0, 1) := by decide +kernel
theorem dX12_lists_195 : decode cX12_lists 195 = .ok (.iload_n 1, 1) := by decide +kernel
theorem dX12_lists_196 : decode cX12_lists 196 = .ok (.iload 11, 2) := by decide +kernel
theorem dX12_lists_198 : decode cX12_lists 198 = .ok (.iconst 1, 1) := by decide +kernel
theorem dX12_lists_199 : decode cX12_lists 199 = .ok (.invokevirtual 570, 3) := by decide +kernel
theorem dX12_lists_202 : decode cX12_lists 202 = .ok (.istore 15, 2) := by decide +kernel
theorem dX12_lists_204 : decode cX12_lists 204 = .ok (.iload 9, 2) := by decide +kernel
theorem dX12_lists_206 : decode cX12_lists 206 = .ok (.ifCond .ne 19, 3) := by decide +kernel
theorem dX12_lists_209 : decode cX12_lists 209 = .ok (.iload 15, 2) := by decide +kernel
theorem dX12_lists_211 : decode cX12_lists 211 = .ok (.ifCond .le 14, 3) := by decide +kernel
theorem dX12_lists_214 : decode cX12_lists 214 = .ok (.aload_n 0, 1) := by decide +kernel
theorem dX12_lists_215 : decode cX12_lists 215 = .ok (.iload_n 1, 1) := by decide +kernel
theorem dX12_lists_216 : decode cX12_lists 216 = .ok (.iload_n 2, 1) := by decide +kernel
theorem dX12_lists_217 : decode cX12_lists 217 = .ok (.iload 11, 2) := by decide +kernel
theorem dX12_lists_219 : decode cX12_lists 219 = .ok (.iload 15, 2) := by decide +kernel
theorem dX12_lists_221 : decode cX12_lists 221 = .ok (.invokevirtual 564, 3) := by decide +kernel
theorem dX12_lists_224 : decode cX12_lists 224 = .ok (.return_, 1) := by decide +kernel
theorem dX12_lists_225 : decode cX12_lists 225 = .ok (.iload 15, 2) := by decide +kernel
theorem dX12_lists_227 : decode cX12_lists 227 = .ok (.ifCond .ne 22, 3) := by decide +kernel
theorem dX12_lists_230 : decode cX12_lists 230 = .ok (.iload 9, 2) := by decide +kernel
theorem dX12_lists_232 : decode cX12_lists 232 = .ok (.ifCond .eq 13, 3) := by decide +kernel
theorem dX12_lists_235 : decode cX12_lists 235 = .ok (.iload 13, 2) := by decide +kernel
theorem dX12_lists_237 : decode cX12_lists 237 = .ok (.iload 14, 2) := by decide +kernel
theorem dX12_lists_239 : decode cX12_lists 239 = .ok (.iadd, 1) := by decide +kernel
theorem dX12_lists_240 : decode cX12_lists 240 = .ok (.iload 8, 2) := by decide +kernel
theorem dX12_lists_242 : decode cX12_lists 242 = .ok (.if_icmp .ne 7, 3) := by decide +kernel
theorem dX12_lists_245 : decode cX12_lists 245 = .ok (.iconst 1, 1) := by decide +kernel
theorem dX12_lists_246 : decode cX12_lists 246 = .ok (.goto 4, 3) := by decide +kernel
theorem dX12_lists_249 : decode cX12_lists 249 = .ok (.iconst 0, 1) := by decide +kernel
theorem dX12_lists_250 : decode cX12_lists 250 = .ok (.istore 10, 2) := by decide +kernel
theorem dX12_lists_252 : decode cX12_lists 252 = .ok (.iload 9, 2) := by decide +kernel
theorem dX12_lists_254 : decode cX12_lists 254 = .ok (.ifCond .ne 11, 3) := by decide +kernel
theorem dX12_lists_257 : decode cX12_lists 257 = .ok (.iload 13, 2) := by decide +kernel
theorem dX12_lists_259 : decode cX12_lists 259 = .ok (.iload 14, 2) := by decide +kernel
theorem dX12_lists_261 : decode cX12_lists 261 = .ok (.iadd, 1) := by decide +kernel
theorem dX12_lists_262 : decode cX12_lists 262 = .ok (.goto 5, 3) := by decide +kernel
theorem dX12_lists_265 : decode cX12_lists 265 = .ok (.iload 8, 2) := by decide +kernel
theorem dX12_lists_267 : decode cX12_lists 267 = .ok (.istore 8, 2) := by decide +kernel
theorem dX12_lists_269 : decode cX12_lists 269 = .ok (.goto 6, 3) := by decide +kernel
theorem dX12_lists_272 : decode cX12_lists 272 = .ok (.iconst 4, 1) := by decide +kernel
theorem dX12_lists_273 : decode cX12_lists 273 = .ok (.istore 8, 2) := by decide +kernel
theorem dX12_lists_275 : decode cX12_lists 275 = .ok (.iload 10, 2) := by decide +kernel
theorem dX12_lists_277 : decode cX12_lists 277 = .ok (.ifCond .eq 21, 3) := by decide +kernel
theorem dX12_lists_280 : decode cX12_lists 280 = .ok (.iload 7, 2) := by decide +kernel
theorem dX12_lists_282 : decode cX12_lists 282 = .ok (.iload 8, 2) := by decide +kernel
theorem dX12_lists_284 : decode cX12_lists 284 = .ok (.iadd, 1) := by decide +kernel
theorem dX12_lists_285 : decode cX12_lists 285 = .ok (.aload_n 0, 1) := by decide +kernel
theorem dX12_lists_286 : decode cX12_lists 286 = .ok (.getfield 332, 3) := by decide +kernel
theorem dX12_lists_289 : decode cX12_lists 289 = .ok (.iload_n 1, 1) := by decide +kernel
theorem dX12_lists_290 : decode cX12_lists 290 = .ok (.iaload, 1) := by decide +kernel
theorem dX12_lists_291 : decode cX12_lists 291 = .ok (.if_icmp .gt 7, 3) := by decide +kernel
theorem dX12_lists_294 : decode cX12_lists 294 = .ok (.iconst 1, 1) := by decide +kernel
theorem dX12_lists_295 : decode cX12_lists 295 = .ok (.goto 4, 3) := by decide +kernel
theorem dX12_lists_298 : decode cX12_lists 298 = .ok (.iconst 0, 1) := by decide +kernel
theorem dX12_lists_299 : decode cX12_lists 299 = .ok (.istore 10, 2) := by decide +kernel
theorem dX12_lists_301 : decode cX12_lists 301 = .ok (.iload 10, 2) := by decide +kernel
theorem dX12_lists_303 : decode cX12_lists 303 = .ok (.ifCond .ne 6, 3) := by decide +kernel
theorem dX12_lists_306 : decode cX12_lists 306 = .ok (.goto 91, 3) := by decide +kernel
theorem dX12_lists_309 : decode cX12_lists 309 = .ok (.aload_n 0, 1) := by decide +kernel
theorem dX12_lists_310 : decode cX12_lists 310 = .ok (.getfield 290, 3) := by decide +kernel
theorem dX12_lists_313 : decode cX12_lists 313 = .ok (.iload 7, 2) := by decide +kernel
theorem dX12_lists_315 : decode cX12_lists 315 = .ok (.iload 11, 2) := by decide +kernel
theorem dX12_lists_317 : decode cX12_lists 317 = .ok (.i2l, 1) := by decide +kernel
theorem dX12_lists_318 : decode cX12_lists 318 = .ok (.iconst 2, 1) := by decide +kernel
theorem dX12_lists_319 : decode cX12_lists 319 = .ok (.invokestatic 432, 3) := by decide +kernel
theorem dX12_lists_322 : decode cX12_lists 322 = .ok (.iload_n 2, 1) := by decide +kernel
theorem dX12_lists_323 : decode cX12_lists 323 = .ok (.bipush 8, 2) := by decide +kernel
theorem dX12_lists_325 : decode cX12_lists 325 = .ok (.if_icmp .eq 39, 3) := by decide +kernel
theorem dX12_lists_328 : decode cX12_lists 328 = .ok (.aload_n 0, 1) := by decide +kernel
theorem dX12_lists_329 : decode cX12_lists 329 = .ok (.getfield 290, 3) := by decide +kernel
theorem dX12_lists_332 : decode cX12_lists 332 = .ok (.iload 7, 2) := by decide +kernel
theorem dX12_lists_334 : decode cX12_lists 334 = .ok (.iconst 2, 1) := by decide +kernel
theorem dX12_lists_335 : decode cX12_lists 335 = .ok (.iadd, 1) := by decide +kernel
theorem dX12_lists_336 : decode cX12_lists 336 = .ok (.iload_n 2, 1) := by decide +kernel
theorem dX12_lists_337 : decode cX12_lists 337 = .ok (.iconst 4, 1) := by decide +kernel
theorem dX12_lists_338 : decode cX12_lists 338 = .ok (.if_icmp .ne 14, 3) := by decide +kernel
theorem dX12_lists_341 : decode cX12_lists 341 = .ok (.aload_n 0, 1) := by decide +kernel
theorem dX12_lists_342 : decode cX12_lists 342 = .ok (.getfield 323, 3) := by decide +kernel
theorem dX12_lists_345 : decode cX12_lists 345 = .ok (.iload 12, 2) := by decide +kernel
theorem dX12_lists_347 : decode cX12_lists 347 = .ok (.iaload, 1) := by decide +kernel
theorem dX12_lists_348 : decode cX12_lists 348 = .ok (.i2l, 1) := by decide +kernel
theorem dX12_lists_349 : decode cX12_lists 349 = .ok (.goto 11, 3) := by decide +kernel
theorem dX12_lists_352 : decode cX12_lists 352 = .ok (.aload_n 0, 1) := by decide +kernel
theorem dX12_lists_353 : decode cX12_lists 353 = .ok (.iload_n 1, 1) := by decide +kernel
theorem dX12_lists_354 : decode cX12_lists 354 = .ok (.iload 11, 2) := by decide +kernel
theorem dX12_lists_356 : decode cX12_lists 356 = .ok (.invokevirtual 603, 3) := by decide +kernel
theorem dX12_lists_359 : decode cX12_lists 359 = .ok (.i2l, 1) := by decide +kernel
theorem dX12_lists_360 : decode cX12_lists 360 = .ok (.iconst 2, 1) := by decide +kernel
theorem dX12_lists_361 : decode cX12_lists 361 = .ok (.invokestatic 432, 3) := by decide +kernel
theorem dX12_lists_364 : decode cX12_lists 364 = .ok (.aload_n 0, 1) := by decide +kernel
theorem dX12_lists_365 : decode cX12_lists 365 = .ok (.getfield 341, 3) := by decide +kernel
theorem dX12_lists_368 : decode cX12_lists 368 = .ok (.bipush 40, 2) := by decide +kernel
theorem dX12_lists_370 : decode cX12_lists 370 = .ok (.iload 12, 2) := by decide +kernel
theorem dX12_lists_372 : decode cX12_lists 372 = .ok (.imul, 1) := by decide +kernel
theorem dX12_lists_373 : decode cX12_lists 373 = .ok (.aload_n 0, 1) := by decide +kernel
theorem dX12_lists_374 : decode cX12_lists 374 = .ok (.getfield 290, 3) := by decide +kernel
theorem dX12_lists_377 : decode cX12_lists 377 = .ok (.iload 7, 2) := by decide +kernel
theorem dX12_lists_379 : decode cX12_lists 379 = .ok (.iload 13, 2) := by decide +kernel
theorem dX12_lists_381 : decode cX12_lists 381 = .ok (.iadd, 1) := by decide +kernel
theorem dX12_lists_382 : decode cX12_lists 382 = .ok (.iload 14, 2) := by decide +kernel
theorem dX12_lists_384 : decode cX12_lists 384 = .ok (.invokestatic 29, 3) := by decide +kernel
theorem dX12_lists_387 : decode cX12_lists 387 = .ok (.iload 7, 2) := by decide +kernel
theorem dX12_lists_389 : decode cX12_lists 389 = .ok (.iload 8, 2) := by decide +kernel
theorem dX12_lists_391 : decode cX12_lists 391 = .ok (.iadd, 1) := by decide +kernel
theorem dX12_lists_392 : decode cX12_lists 392 = .ok (.istore 7, 2) := by decide +kernel
theorem dX12_lists_394 : decode cX12_lists 394 = .ok (.iinc 9 1, 3) := by decide +kernel
theorem dX12_lists_397 : decode cX12_lists 397 = .ok (.iinc 11 1, 3) := by decide +kernel
theorem dX12_lists_400 : decode cX12_lists 400 = .ok (.goto (-356), 3) := by decide +kernel
theorem dX12_lists_403 : decode cX12_lists 403 = .ok (.iload 9, 2) := by decide +kernel
theorem dX12_lists_405 : decode cX12_lists 405 = .ok (.ifCond .ne 13, 3) := by decide +kernel
theorem dX12_lists_408 : decode cX12_lists 408 = .ok (.aload_n 0, 1) := by decide +kernel
theorem dX12_lists_409 : decode cX12_lists 409 = .ok (.iload_n 1, 1) := by decide +kernel
theorem dX12_lists_410 : decode cX12_lists 410 = .ok (.iload_n 2, 1) := by decide +kernel
theorem dX12_lists_411 : decode cX12_lists 411 = .ok (.iload_n 3, 1) := by decide +kernel
theorem dX12_lists_412 : decode cX12_lists 412 = .ok (.bipush 10, 2) := by decide +kernel
theorem dX12_lists_414 : decode cX12_lists 414 = .ok (.invokevirtual 564, 3) := by decide +kernel
theorem dX12_lists_417 : decode cX12_lists 417 = .ok (.return_, 1) := by decide +kernel
theorem dX12_lists_418 : decode cX12_lists 418 = .ok (.aload_n 0, 1) := by decide +kernel
theorem dX12_lists_419 : decode cX12_lists 419 = .ok (.getfield 290, 3) := by decide +kernel
theorem dX12_lists_422 : decode cX12_lists 422 = .ok (.iconst 0, 1) := by decide +kernel
theorem dX12_lists_423 : decode cX12_lists 423 = .ok (.iload_n 2, 1) := by decide +kernel
theorem dX12_lists_424 : decode cX12_lists 424 = .ok (.iconst 1, 1) := by decide +kernel
theorem dX12_lists_425 : decode cX12_lists 425 = .ok (.iadd, 1) := by decide +kernel
theorem dX12_lists_426 : decode cX12_lists 426 = .ok (.i2b, 1) := by decide +kernel
theorem dX12_lists_427 : decode cX12_lists 427 = .ok (.bastore, 1) := by decide +kernel
theorem dX12_lists_428 : decode cX12_lists 428 = .ok (.iload_n 2, 1) := by decide +kernel
theorem dX12_lists_429 : decode cX12_lists 429 = .ok (.bipush 6, 2) := by decide +kernel
theorem dX12_lists_431 : decode cX12_lists 431 = .ok (.if_icmp .eq 21, 3) := by decide +kernel
theorem dX12_lists_434 : decode cX12_lists 434 = .ok (.aload_n 0, 1) := by decide +kernel
theorem dX12_lists_435 : decode cX12_lists 435 = .ok (.getfield 290, 3) := by decide +kernel
theorem dX12_lists_438 : decode cX12_lists 438 = .ok (.iconst 1, 1) := by decide +kernel
theorem dX12_lists_439 : decode cX12_lists 439 = .ok (.iload_n 2, 1) := by decide +kernel
theorem dX12_lists_440 : decode cX12_lists 440 = .ok (.iconst 4, 1) := by decide +kernel
theorem dX12_lists_441 : decode cX12_lists 441 = .ok (.if_icmp .ne 7, 3) := by decide +kernel
theorem dX12_lists_444 : decode cX12_lists 444 = .ok (.iconst 1, 1) := by decide +kernel
theorem dX12_lists_445 : decode cX12_lists 445 = .ok (.goto 5, 3) := by decide +kernel
theorem dX12_lists_448 : decode cX12_lists 448 = .ok (.iload 8, 2) := by decide +kernel
theorem dX12_lists_450 : decode cX12_lists 450 = .ok (.i2b, 1) := by decide +kernel
theorem dX12_lists_451 : decode cX12_lists 451 = .ok (.bastore, 1) := by decide +kernel
theorem dX12_lists_452 : decode cX12_lists 452 = .ok (.aload_n 0, 1) := by decide +kernel
theorem dX12_lists_453 : decode cX12_lists 453 = .ok (.iload_n 1, 1) := by decide +kernel
theorem dX12_lists_454 : decode cX12_lists 454 = .ok (.iconst 4, 1) := by decide +kernel
theorem dX12_lists_455 : decode cX12_lists 455 = .ok (.iload 7, 2) := by decide +kernel
theorem dX12_lists_457 : decode cX12_lists 457 = .ok (.invokevirtual 527, 3) := by decide +kernel
theorem dX12_lists_460 : decode cX12_lists 460 = .ok (.return_, 1) := by decide +kernel
theorem dX12_request_0 : decode cX12_request 0 = .ok (.aload_n 0, 1) := by decide +kernel
theorem dX12_request_1 : decode cX12_request 1 = .ok (.getfield 290, 3) := by decide +kernel
theorem dX12_request_4 : decode cX12_request 4 = .ok (.iconst 0, 1) := by decide +kernel
theorem dX12_request_5 : decode cX12_request 5 = .ok (.iload_n 2, 1) := by decide +kernel
theorem dX12_request_6 : decode cX12_request 6 = .ok (.i2b, 1) := by decide +kernel
theorem dX12_request_7 : decode cX12_request 7 = .ok (.bastore, 1) := by decide +kernel
theorem dX12_request_8 : decode cX12_request 8 = .ok (.aload_n 0, 1) := by decide +kernel
theorem dX12_request_9 : decode cX12_request 9 = .ok (.getfield 374, 3) := by decide +kernel
theorem dX12_request_12 : decode cX12_request 12 = .ok (.iload_n 1, 1) := by decide +kernel
theorem dX12_request_13 : decode cX12_request 13 = .ok (.iload_n 2, 1) := by decide +kernel
theorem dX12_request_14 : decode cX12_request 14 = .ok (.iconst 1, 1) := by decide +kernel
theorem dX12_request_15 : decode cX12_request 15 = .ok (.iadd, 1) := by decide +kernel
theorem dX12_request_16 : decode cX12_request 16 = .ok (.iastore, 1) := by decide +kernel
theorem dX12_request_17 : decode cX12_request 17 = .ok (.aload_n 0, 1) := by decide +kernel
theorem dX12_request_18 : decode cX12_request 18 = .ok (.iload_n 1, 1) := by decide +kernel
theorem dX12_request_19 : decode cX12_request 19 = .ok (.iconst 4, 1) := by decide +kernel
theorem dX12_request_20 : decode cX12_request 20 = .ok (.iload_n 3, 1) := by decide +kernel
theorem dX12_request_21 : decode cX12_request 21 = .ok (.invokevirtual 527, 3) := by decide +kernel
theorem dX12_request_24 : decode cX12_request 24 = .ok (.return_, 1) := by decide +kernel
theorem dX12_asksFor_0 : decode cX12_asksFor 0 = .ok (.aload_n 0, 1) := by decide +kernel
theorem dX12_asksFor_1 : decode cX12_asksFor 1 = .ok (.getfield 290, 3) := by decide +kernel
theorem dX12_asksFor_4 : decode cX12_asksFor 4 = .ok (.iconst 1, 1) := by decide +kernel
theorem dX12_asksFor_5 : decode cX12_asksFor 5 = .ok (.iload_n 2, 1) := by decide +kernel
theorem dX12_asksFor_6 : decode cX12_asksFor 6 = .ok (.i2l, 1) := by decide +kernel
theorem dX12_asksFor_7 : decode cX12_asksFor 7 = .ok (.iconst 2, 1) := by decide +kernel
theorem dX12_asksFor_8 : decode cX12_asksFor 8 = .ok (.invokestatic 432, 3) := by decide +kernel
theorem dX12_asksFor_11 : decode cX12_asksFor 11 = .ok (.aload_n 0, 1) := by decide +kernel
theorem dX12_asksFor_12 : decode cX12_asksFor 12 = .ok (.getfield 365, 3) := by decide +kernel
theorem dX12_asksFor_15 : decode cX12_asksFor 15 = .ok (.iload_n 1, 1) := by decide +kernel
theorem dX12_asksFor_16 : decode cX12_asksFor 16 = .ok (.iaload, 1) := by decide +kernel
theorem dX12_asksFor_17 : decode cX12_asksFor 17 = .ok (.tableswitch 317 0 6 #[43, 69, 181, 221, 247, 317, 69], 43) := by decide +kernel
theorem dX12_asksFor_60 : decode cX12_asksFor 60 = .ok (.aload_n 0, 1) := by decide +kernel
theorem dX12_asksFor_61 : decode cX12_asksFor 61 = .ok (.getfield 290, 3) := by decide +kernel
theorem dX12_asksFor_64 : decode cX12_asksFor 64 = .ok (.iconst 1, 1) := by decide +kernel
theorem dX12_asksFor_65 : decode cX12_asksFor 65 = .ok (.aload_n 0, 1) := by decide +kernel
theorem dX12_asksFor_66 : decode cX12_asksFor 66 = .ok (.getfield 335, 3) := by decide +kernel
theorem dX12_asksFor_69 : decode cX12_asksFor 69 = .ok (.iload_n 1, 1) := by decide +kernel
theorem dX12_asksFor_70 : decode cX12_asksFor 70 = .ok (.iaload, 1) := by decide +kernel
theorem dX12_asksFor_71 : decode cX12_asksFor 71 = .ok (.i2l, 1) := by decide +kernel
theorem dX12_asksFor_72 : decode cX12_asksFor 72 = .ok (.iconst 2, 1) := by decide +kernel
theorem dX12_asksFor_73 : decode cX12_asksFor 73 = .ok (.invokestatic 432, 3) := by decide +kernel
theorem dX12_asksFor_76 : decode cX12_asksFor 76 = .ok (.aload_n 0, 1) := by decide +kernel
theorem dX12_asksFor_77 : decode cX12_asksFor 77 = .ok (.iload_n 1, 1) := by decide +kernel
theorem dX12_asksFor_78 : decode cX12_asksFor 78 = .ok (.iconst 2, 1) := by decide +kernel
theorem dX12_asksFor_79 : decode cX12_asksFor 79 = .ok (.iconst 3, 1) := by decide +kernel
theorem dX12_asksFor_80 : decode cX12_asksFor 80 = .ok (.invokevirtual 606, 3) := by decide +kernel
theorem dX12_asksFor_83 : decode cX12_asksFor 83 = .ok (.goto 256, 3) := by decide +kernel
theorem dX12_asksFor_86 : decode cX12_asksFor 86 = .ok (.aload_n 0, 1) := by decide +kernel
theorem dX12_asksFor_87 : decode cX12_asksFor 87 = .ok (.getfield 290, 3) := by decide +kernel
theorem dX12_asksFor_90 : decode cX12_asksFor 90 = .ok (.iconst 3, 1) := by decide +kernel
theorem dX12_asksFor_91 : decode cX12_asksFor 91 = .ok (.ldc2_w 609, 3) := by decide +kernel
theorem dX12_asksFor_94 : decode cX12_asksFor 94 = .ok (.iconst 2, 1) := by decide +kernel
theorem dX12_asksFor_95 : decode cX12_asksFor 95 = .ok (.invokestatic 432, 3) := by decide +kernel
theorem dX12_asksFor_98 : decode cX12_asksFor 98 = .ok (.aload_n 0, 1) := by decide +kernel
theorem dX12_asksFor_99 : decode cX12_asksFor 99 = .ok (.getfield 290, 3) := by decide +kernel
theorem dX12_asksFor_102 : decode cX12_asksFor 102 = .ok (.iconst 5, 1) := by decide +kernel
theorem dX12_asksFor_103 : decode cX12_asksFor 103 = .ok (.ldc2_w 611, 3) := by decide +kernel
theorem dX12_asksFor_106 : decode cX12_asksFor 106 = .ok (.iconst 2, 1) := by decide +kernel
theorem dX12_asksFor_107 : decode cX12_asksFor 107 = .ok (.invokestatic 432, 3) := by decide +kernel
theorem dX12_asksFor_110 : decode cX12_asksFor 110 = .ok (.aload_n 0, 1) := by decide +kernel
theorem dX12_asksFor_111 : decode cX12_asksFor 111 = .ok (.getfield 383, 3) := by decide +kernel
theorem dX12_asksFor_114 : decode cX12_asksFor 114 = .ok (.bipush 40, 2) := by decide +kernel
theorem dX12_asksFor_116 : decode cX12_asksFor 116 = .ok (.iload_n 1, 1) := by decide +kernel
theorem dX12_asksFor_117 : decode cX12_asksFor 117 = .ok (.imul, 1) := by decide +kernel
theorem dX12_asksFor_118 : decode cX12_asksFor 118 = .ok (.aload_n 0, 1) := by decide +kernel
theorem dX12_asksFor_119 : decode cX12_asksFor 119 = .ok (.getfield 290, 3) := by decide +kernel
theorem dX12_asksFor_122 : decode cX12_asksFor 122 = .ok (.bipush 7, 2) := by decide +kernel
theorem dX12_asksFor_124 : decode cX12_asksFor 124 = .ok (.aload_n 0, 1) := by decide +kernel
theorem dX12_asksFor_125 : decode cX12_asksFor 125 = .ok (.getfield 365, 3) := by decide +kernel
theorem dX12_asksFor_128 : decode cX12_asksFor 128 = .ok (.iload_n 1, 1) := by decide +kernel
theorem dX12_asksFor_129 : decode cX12_asksFor 129 = .ok (.iaload, 1) := by decide +kernel
theorem dX12_asksFor_130 : decode cX12_asksFor 130 = .ok (.bipush 6, 2) := by decide +kernel
theorem dX12_asksFor_132 : decode cX12_asksFor 132 = .ok (.if_icmp .ne 12, 3) := by decide +kernel
theorem dX12_asksFor_135 : decode cX12_asksFor 135 = .ok (.aload_n 0, 1) := by decide +kernel
theorem dX12_asksFor_136 : decode cX12_asksFor 136 = .ok (.getfield 380, 3) := by decide +kernel
theorem dX12_asksFor_139 : decode cX12_asksFor 139 = .ok (.iload_n 1, 1) := by decide +kernel
theorem dX12_asksFor_140 : decode cX12_asksFor 140 = .ok (.iaload, 1) := by decide +kernel
theorem dX12_asksFor_141 : decode cX12_asksFor 141 = .ok (.goto 4, 3) := by decide +kernel
theorem dX12_asksFor_144 : decode cX12_asksFor 144 = .ok (.iconst 0, 1) := by decide +kernel
theorem dX12_asksFor_145 : decode cX12_asksFor 145 = .ok (.invokestatic 29, 3) := by decide +kernel
theorem dX12_asksFor_148 : decode cX12_asksFor 148 = .ok (.aload_n 0, 1) := by decide +kernel
theorem dX12_asksFor_149 : decode cX12_asksFor 149 = .ok (.iload_n 1, 1) := by decide +kernel
theorem dX12_asksFor_150 : decode cX12_asksFor 150 = .ok (.aload_n 0, 1) := by decide +kernel
theorem dX12_asksFor_151 : decode cX12_asksFor 151 = .ok (.getfield 365, 3) := by decide +kernel
theorem dX12_asksFor_154 : decode cX12_asksFor 154 = .ok (.iload_n 1, 1) := by decide +kernel
theorem dX12_asksFor_155 : decode cX12_asksFor 155 = .ok (.iaload, 1) := by decide +kernel
theorem dX12_asksFor_156 : decode cX12_asksFor 156 = .ok (.iconst 1, 1) := by decide +kernel
theorem dX12_asksFor_157 : decode cX12_asksFor 157 = .ok (.if_icmp .ne 8, 3) := by decide +kernel
theorem dX12_asksFor_160 : decode cX12_asksFor 160 = .ok (.bipush 16, 2) := by decide +kernel
theorem dX12_asksFor_162 : decode cX12_asksFor 162 = .ok (.goto 5, 3) := by decide +kernel
theorem dX12_asksFor_165 : decode cX12_asksFor 165 = .ok (.bipush 6, 2) := by decide +kernel
theorem dX12_asksFor_167 : decode cX12_asksFor 167 = .ok (.aload_n 0, 1) := by decide +kernel
theorem dX12_asksFor_168 : decode cX12_asksFor 168 = .ok (.getfield 365, 3) := by decide +kernel
theorem dX12_asksFor_171 : decode cX12_asksFor 171 = .ok (.iload_n 1, 1) := by decide +kernel
theorem dX12_asksFor_172 : decode cX12_asksFor 172 = .ok (.iaload, 1) := by decide +kernel
theorem dX12_asksFor_173 : decode cX12_asksFor 173 = .ok (.bipush 6, 2) := by decide +kernel
theorem dX12_asksFor_175 : decode cX12_asksFor 175 = .ok (.if_icmp .ne 15, 3) := by decide +kernel
theorem dX12_asksFor_178 : decode cX12_asksFor 178 = .ok (.bipush 7, 2) := by decide +kernel
theorem dX12_asksFor_180 : decode cX12_asksFor 180 = .ok (.aload_n 0, 1) := by decide +kernel
theorem dX12_asksFor_181 : decode cX12_asksFor 181 = .ok (.getfield 380, 3) := by decide +kernel
theorem dX12_asksFor_184 : decode cX12_asksFor 184 = .ok (.iload_n 1, 1) := by decide +kernel
theorem dX12_asksFor_185 : decode cX12_asksFor 185 = .ok (.iaload, 1) := by decide +kernel
theorem dX12_asksFor_186 : decode cX12_asksFor 186 = .ok (.iadd, 1) := by decide +kernel
theorem dX12_asksFor_187 : decode cX12_asksFor 187 = .ok (.goto 5, 3) := by decide +kernel
theorem dX12_asksFor_190 : decode cX12_asksFor 190 = .ok (.bipush 7, 2) := by decide +kernel
theorem dX12_asksFor_192 : decode cX12_asksFor 192 = .ok (.invokevirtual 606, 3) := by decide +kernel
theorem dX12_asksFor_195 : decode cX12_asksFor 195 = .ok (.goto 144, 3) := by decide +kernel
theorem dX12_asksFor_198 : decode cX12_asksFor 198 = .ok (.aload_n 0, 1) := by decide +kernel
theorem dX12_asksFor_199 : decode cX12_asksFor 199 = .ok (.getfield 290, 3) := by decide +kernel
theorem dX12_asksFor_202 : decode cX12_asksFor 202 = .ok (.iconst 3, 1) := by decide +kernel
theorem dX12_asksFor_203 : decode cX12_asksFor 203 = .ok (.aload_n 0, 1) := by decide +kernel
theorem dX12_asksFor_204 : decode cX12_asksFor 204 = .ok (.getfield 371, 3) := by decide +kernel
theorem dX12_asksFor_207 : decode cX12_asksFor 207 = .ok (.iload_n 1, 1) := by decide +kernel
theorem dX12_asksFor_208 : decode cX12_asksFor 208 = .ok (.iaload, 1) := by decide +kernel
theorem dX12_asksFor_209 : decode cX12_asksFor 209 = .ok (.i2l, 1) := by decide +kernel
theorem dX12_asksFor_210 : decode cX12_asksFor 210 = .ok (.iconst 2, 1) := by decide +kernel
theorem dX12_asksFor_211 : decode cX12_asksFor 211 = .ok (.invokestatic 432, 3) := by decide +kernel
theorem dX12_asksFor_214 : decode cX12_asksFor 214 = .ok (.aload_n 0, 1) := by decide +kernel
