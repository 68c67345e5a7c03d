theorem dL_acts_336 : decode cL_acts 336 = .ok (.goto 7, 3) := by decide +kernel
theorem dL_acts_339 : decode cL_acts 339 = .ok (.aload_n 3, 1) := by decide +kernel
theorem dL_acts_340 : decode cL_acts 340 = .ok (.iload 11, 2) := by decide +kernel
theorem dL_acts_342 : decode cL_acts 342 = .ok (.iaload, 1) := by decide +kernel
theorem dL_acts_343 : decode cL_acts 343 = .ok (.istore 12, 2) := by decide +kernel
theorem dL_acts_345 : decode cL_acts 345 = .ok (.iload 10, 2) := by decide +kernel
theorem dL_acts_347 : decode cL_acts 347 = .ok (.bipush 19, 2) := by decide +kernel
theorem dL_acts_349 : decode cL_acts 349 = .ok (.if_icmp .le 8, 3) := by decide +kernel
theorem dL_acts_352 : decode cL_acts 352 = .ok (.bipush (-101), 2) := by decide +kernel
theorem dL_acts_354 : decode cL_acts 354 = .ok (.goto 25, 3) := by decide +kernel
theorem dL_acts_357 : decode cL_acts 357 = .ok (.aload_n 3, 1) := by decide +kernel
theorem dL_acts_358 : decode cL_acts 358 = .ok (.iload 10, 2) := by decide +kernel
theorem dL_acts_360 : decode cL_acts 360 = .ok (.iaload, 1) := by decide +kernel
theorem dL_acts_361 : decode cL_acts 361 = .ok (.aload_n 3, 1) := by decide +kernel
theorem dL_acts_362 : decode cL_acts 362 = .ok (.iload 11, 2) := by decide +kernel
theorem dL_acts_364 : decode cL_acts 364 = .ok (.iaload, 1) := by decide +kernel
theorem dL_acts_365 : decode cL_acts 365 = .ok (.if_icmp .ge 10, 3) := by decide +kernel
theorem dL_acts_368 : decode cL_acts 368 = .ok (.aload_n 3, 1) := by decide +kernel
theorem dL_acts_369 : decode cL_acts 369 = .ok (.iload 11, 2) := by decide +kernel
theorem dL_acts_371 : decode cL_acts 371 = .ok (.iaload, 1) := by decide +kernel
theorem dL_acts_372 : decode cL_acts 372 = .ok (.goto 7, 3) := by decide +kernel
theorem dL_acts_375 : decode cL_acts 375 = .ok (.aload_n 3, 1) := by decide +kernel
theorem dL_acts_376 : decode cL_acts 376 = .ok (.iload 10, 2) := by decide +kernel
theorem dL_acts_378 : decode cL_acts 378 = .ok (.iaload, 1) := by decide +kernel
theorem dL_acts_379 : decode cL_acts 379 = .ok (.istore 13, 2) := by decide +kernel
theorem dL_acts_381 : decode cL_acts 381 = .ok (.iconst 0, 1) := by decide +kernel
theorem dL_acts_382 : decode cL_acts 382 = .ok (.istore 14, 2) := by decide +kernel
theorem dL_acts_384 : decode cL_acts 384 = .ok (.iload 14, 2) := by decide +kernel
theorem dL_acts_386 : decode cL_acts 386 = .ok (.bipush 8, 2) := by decide +kernel
theorem dL_acts_388 : decode cL_acts 388 = .ok (.if_icmp .ge 31, 3) := by decide +kernel
theorem dL_acts_391 : decode cL_acts 391 = .ok (.aload_n 3, 1) := by decide +kernel
theorem dL_acts_392 : decode cL_acts 392 = .ok (.iload 14, 2) := by decide +kernel
theorem dL_acts_394 : decode cL_acts 394 = .ok (.aload_n 3, 1) := by decide +kernel
theorem dL_acts_395 : decode cL_acts 395 = .ok (.iload 14, 2) := by decide +kernel
theorem dL_acts_397 : decode cL_acts 397 = .ok (.iaload, 1) := by decide +kernel
theorem dL_acts_398 : decode cL_acts 398 = .ok (.iload 13, 2) := by decide +kernel
theorem dL_acts_400 : decode cL_acts 400 = .ok (.if_icmp .ne 8, 3) := by decide +kernel
theorem dL_acts_403 : decode cL_acts 403 = .ok (.iload 12, 2) := by decide +kernel
theorem dL_acts_405 : decode cL_acts 405 = .ok (.goto 7, 3) := by decide +kernel
theorem dL_acts_408 : decode cL_acts 408 = .ok (.aload_n 3, 1) := by decide +kernel
theorem dL_acts_409 : decode cL_acts 409 = .ok (.iload 14, 2) := by decide +kernel
theorem dL_acts_411 : decode cL_acts 411 = .ok (.iaload, 1) := by decide +kernel
theorem dL_acts_412 : decode cL_acts 412 = .ok (.iastore, 1) := by decide +kernel
theorem dL_acts_413 : decode cL_acts 413 = .ok (.iinc 14 1, 3) := by decide +kernel
theorem dL_acts_416 : decode cL_acts 416 = .ok (.goto (-32), 3) := by decide +kernel
theorem dL_acts_419 : decode cL_acts 419 = .ok (.aload_n 0, 1) := by decide +kernel
theorem dL_acts_420 : decode cL_acts 420 = .ok (.iconst 0, 1) := by decide +kernel
theorem dL_acts_421 : decode cL_acts 421 = .ok (.iload 10, 2) := by decide +kernel
theorem dL_acts_423 : decode cL_acts 423 = .ok (.iload 11, 2) := by decide +kernel
theorem dL_acts_425 : decode cL_acts 425 = .ok (.invokestatic 110, 3) := by decide +kernel
theorem dL_acts_428 : decode cL_acts 428 = .ok (.iload 12, 2) := by decide +kernel
theorem dL_acts_430 : decode cL_acts 430 = .ok (.if_icmp .ne 7, 3) := by decide +kernel
theorem dL_acts_433 : decode cL_acts 433 = .ok (.iconst 1, 1) := by decide +kernel
theorem dL_acts_434 : decode cL_acts 434 = .ok (.goto 4, 3) := by decide +kernel
theorem dL_acts_437 : decode cL_acts 437 = .ok (.iconst 0, 1) := by decide +kernel
theorem dL_acts_438 : decode cL_acts 438 = .ok (.ireturn, 1) := by decide +kernel
theorem dL_acts_439 : decode cL_acts 439 = .ok (.iload_n 1, 1) := by decide +kernel
theorem dL_acts_440 : decode cL_acts 440 = .ok (.bipush 12, 2) := by decide +kernel
theorem dL_acts_442 : decode cL_acts 442 = .ok (.if_icmp .ne 152, 3) := by decide +kernel
theorem dL_acts_445 : decode cL_acts 445 = .ok (.iload_n 2, 1) := by decide +kernel
theorem dL_acts_446 : decode cL_acts 446 = .ok (.iconst 2, 1) := by decide +kernel
theorem dL_acts_447 : decode cL_acts 447 = .ok (.invokestatic 103, 3) := by decide +kernel
theorem dL_acts_450 : decode cL_acts 450 = .ok (.ifCond .ne 7, 3) := by decide +kernel
theorem dL_acts_453 : decode cL_acts 453 = .ok (.iconst 1, 1) := by decide +kernel
theorem dL_acts_454 : decode cL_acts 454 = .ok (.goto 4, 3) := by decide +kernel
theorem dL_acts_457 : decode cL_acts 457 = .ok (.iconst 0, 1) := by decide +kernel
theorem dL_acts_458 : decode cL_acts 458 = .ok (.istore 10, 2) := by decide +kernel
theorem dL_acts_460 : decode cL_acts 460 = .ok (.iload_n 2, 1) := by decide +kernel
theorem dL_acts_461 : decode cL_acts 461 = .ok (.iconst 3, 1) := by decide +kernel
theorem dL_acts_462 : decode cL_acts 462 = .ok (.ishr, 1) := by decide +kernel
theorem dL_acts_463 : decode cL_acts 463 = .ok (.bipush 15, 2) := by decide +kernel
theorem dL_acts_465 : decode cL_acts 465 = .ok (.invokestatic 103, 3) := by decide +kernel
theorem dL_acts_468 : decode cL_acts 468 = .ok (.ifCond .ne 19, 3) := by decide +kernel
theorem dL_acts_471 : decode cL_acts 471 = .ok (.iload_n 2, 1) := by decide +kernel
theorem dL_acts_472 : decode cL_acts 472 = .ok (.iconst 2, 1) := by decide +kernel
theorem dL_acts_473 : decode cL_acts 473 = .ok (.ishr, 1) := by decide +kernel
theorem dL_acts_474 : decode cL_acts 474 = .ok (.iconst 2, 1) := by decide +kernel
theorem dL_acts_475 : decode cL_acts 475 = .ok (.invokestatic 103, 3) := by decide +kernel
theorem dL_acts_478 : decode cL_acts 478 = .ok (.sipush 2001, 3) := by decide +kernel
theorem dL_acts_481 : decode cL_acts 481 = .ok (.imul, 1) := by decide +kernel
theorem dL_acts_482 : decode cL_acts 482 = .ok (.iconst 1, 1) := by decide +kernel
theorem dL_acts_483 : decode cL_acts 483 = .ok (.isub, 1) := by decide +kernel
theorem dL_acts_484 : decode cL_acts 484 = .ok (.goto 14, 3) := by decide +kernel
theorem dL_acts_487 : decode cL_acts 487 = .ok (.iconst 1, 1) := by decide +kernel
theorem dL_acts_488 : decode cL_acts 488 = .ok (.iload_n 2, 1) := by decide +kernel
theorem dL_acts_489 : decode cL_acts 489 = .ok (.iconst 3, 1) := by decide +kernel
theorem dL_acts_490 : decode cL_acts 490 = .ok (.ishr, 1) := by decide +kernel
theorem dL_acts_491 : decode cL_acts 491 = .ok (.sipush 150, 3) := by decide +kernel
theorem dL_acts_494 : decode cL_acts 494 = .ok (.invokestatic 103, 3) := by decide +kernel
theorem dL_acts_497 : decode cL_acts 497 = .ok (.iadd, 1) := by decide +kernel
theorem dL_acts_498 : decode cL_acts 498 = .ok (.istore 11, 2) := by decide +kernel
theorem dL_acts_500 : decode cL_acts 500 = .ok (.iload 11, 2) := by decide +kernel
theorem dL_acts_502 : decode cL_acts 502 = .ok (.ifCond .lt 15, 3) := by decide +kernel
theorem dL_acts_505 : decode cL_acts 505 = .ok (.iload 11, 2) := by decide +kernel
theorem dL_acts_507 : decode cL_acts 507 = .ok (.sipush 2000, 3) := by decide +kernel
theorem dL_acts_510 : decode cL_acts 510 = .ok (.if_icmp .ge 7, 3) := by decide +kernel
theorem dL_acts_513 : decode cL_acts 513 = .ok (.iconst 1, 1) := by decide +kernel
theorem dL_acts_514 : decode cL_acts 514 = .ok (.goto 4, 3) := by decide +kernel
theorem dL_acts_517 : decode cL_acts 517 = .ok (.iconst 0, 1) := by decide +kernel
theorem dL_acts_518 : decode cL_acts 518 = .ok (.istore 12, 2) := by decide +kernel
theorem dL_acts_520 : decode cL_acts 520 = .ok (.aload 7, 2) := by decide +kernel
theorem dL_acts_522 : decode cL_acts 522 = .ok (.iload 10, 2) := by decide +kernel
theorem dL_acts_524 : decode cL_acts 524 = .ok (.ifCond .eq 7, 3) := by decide +kernel
theorem dL_acts_527 : decode cL_acts 527 = .ok (.iconst 2, 1) := by decide +kernel
theorem dL_acts_528 : decode cL_acts 528 = .ok (.goto 4, 3) := by decide +kernel
theorem dL_acts_531 : decode cL_acts 531 = .ok (.iconst 1, 1) := by decide +kernel
theorem dL_acts_532 : decode cL_acts 532 = .ok (.iaload, 1) := by decide +kernel
theorem dL_acts_533 : decode cL_acts 533 = .ok (.istore 13, 2) := by decide +kernel
theorem dL_acts_535 : decode cL_acts 535 = .ok (.iload 12, 2) := by decide +kernel
theorem dL_acts_537 : decode cL_acts 537 = .ok (.ifCond .eq 18, 3) := by decide +kernel
