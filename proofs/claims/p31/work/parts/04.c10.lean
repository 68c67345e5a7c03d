theorem dL_tellsAll_379 : decode cL_tellsAll 379 = .ok (.aload_n 2, 1) := by decide +kernel
theorem dL_tellsAll_380 : decode cL_tellsAll 380 = .ok (.aload_n 3, 1) := by decide +kernel
theorem dL_tellsAll_381 : decode cL_tellsAll 381 = .ok (.aload 6, 2) := by decide +kernel
theorem dL_tellsAll_383 : decode cL_tellsAll 383 = .ok (.iload 26, 2) := by decide +kernel
theorem dL_tellsAll_385 : decode cL_tellsAll 385 = .ok (.invokestatic 135, 3) := by decide +kernel
theorem dL_tellsAll_388 : decode cL_tellsAll 388 = .ok (.ifCond .ne 7, 3) := by decide +kernel
theorem dL_tellsAll_391 : decode cL_tellsAll 391 = .ok (.iconst (-1), 1) := by decide +kernel
theorem dL_tellsAll_392 : decode cL_tellsAll 392 = .ok (.goto 22, 3) := by decide +kernel
theorem dL_tellsAll_395 : decode cL_tellsAll 395 = .ok (.aload_n 2, 1) := by decide +kernel
theorem dL_tellsAll_396 : decode cL_tellsAll 396 = .ok (.aload_n 3, 1) := by decide +kernel
theorem dL_tellsAll_397 : decode cL_tellsAll 397 = .ok (.aload 4, 2) := by decide +kernel
theorem dL_tellsAll_399 : decode cL_tellsAll 399 = .ok (.aload 5, 2) := by decide +kernel
theorem dL_tellsAll_401 : decode cL_tellsAll 401 = .ok (.aload 6, 2) := by decide +kernel
theorem dL_tellsAll_403 : decode cL_tellsAll 403 = .ok (.aload 7, 2) := by decide +kernel
theorem dL_tellsAll_405 : decode cL_tellsAll 405 = .ok (.iload 26, 2) := by decide +kernel
theorem dL_tellsAll_407 : decode cL_tellsAll 407 = .ok (.iload 13, 2) := by decide +kernel
theorem dL_tellsAll_409 : decode cL_tellsAll 409 = .ok (.aload 9, 2) := by decide +kernel
theorem dL_tellsAll_411 : decode cL_tellsAll 411 = .ok (.invokestatic 145, 3) := by decide +kernel
theorem dL_tellsAll_414 : decode cL_tellsAll 414 = .ok (.istore 27, 2) := by decide +kernel
theorem dL_tellsAll_416 : decode cL_tellsAll 416 = .ok (.iload 25, 2) := by decide +kernel
theorem dL_tellsAll_418 : decode cL_tellsAll 418 = .ok (.iload 27, 2) := by decide +kernel
theorem dL_tellsAll_420 : decode cL_tellsAll 420 = .ok (.iload 24, 2) := by decide +kernel
theorem dL_tellsAll_422 : decode cL_tellsAll 422 = .ok (.if_icmp .gt 17, 3) := by decide +kernel
theorem dL_tellsAll_425 : decode cL_tellsAll 425 = .ok (.iload 27, 2) := by decide +kernel
theorem dL_tellsAll_427 : decode cL_tellsAll 427 = .ok (.iload 24, 2) := by decide +kernel
theorem dL_tellsAll_429 : decode cL_tellsAll 429 = .ok (.if_icmp .ne 14, 3) := by decide +kernel
theorem dL_tellsAll_432 : decode cL_tellsAll 432 = .ok (.iload 26, 2) := by decide +kernel
theorem dL_tellsAll_434 : decode cL_tellsAll 434 = .ok (.iload 21, 2) := by decide +kernel
theorem dL_tellsAll_436 : decode cL_tellsAll 436 = .ok (.if_icmp .ge 7, 3) := by decide +kernel
theorem dL_tellsAll_439 : decode cL_tellsAll 439 = .ok (.iconst 1, 1) := by decide +kernel
theorem dL_tellsAll_440 : decode cL_tellsAll 440 = .ok (.goto 4, 3) := by decide +kernel
theorem dL_tellsAll_443 : decode cL_tellsAll 443 = .ok (.iconst 0, 1) := by decide +kernel
theorem dL_tellsAll_444 : decode cL_tellsAll 444 = .ok (.iadd, 1) := by decide +kernel
theorem dL_tellsAll_445 : decode cL_tellsAll 445 = .ok (.istore 25, 2) := by decide +kernel
theorem dL_tellsAll_447 : decode cL_tellsAll 447 = .ok (.iinc 26 1, 3) := by decide +kernel
theorem dL_tellsAll_450 : decode cL_tellsAll 450 = .ok (.goto (-78), 3) := by decide +kernel
theorem dL_tellsAll_453 : decode cL_tellsAll 453 = .ok (.iload 25, 2) := by decide +kernel
theorem dL_tellsAll_455 : decode cL_tellsAll 455 = .ok (.iload 14, 2) := by decide +kernel
theorem dL_tellsAll_457 : decode cL_tellsAll 457 = .ok (.if_icmp .ne 8, 3) := by decide +kernel
theorem dL_tellsAll_460 : decode cL_tellsAll 460 = .ok (.iload 21, 2) := by decide +kernel
theorem dL_tellsAll_462 : decode cL_tellsAll 462 = .ok (.goto 5, 3) := by decide +kernel
theorem dL_tellsAll_465 : decode cL_tellsAll 465 = .ok (.iload 20, 2) := by decide +kernel
theorem dL_tellsAll_467 : decode cL_tellsAll 467 = .ok (.istore 20, 2) := by decide +kernel
theorem dL_tellsAll_469 : decode cL_tellsAll 469 = .ok (.iinc 21 1, 3) := by decide +kernel
theorem dL_tellsAll_472 : decode cL_tellsAll 472 = .ok (.goto (-328), 3) := by decide +kernel
theorem dL_tellsAll_475 : decode cL_tellsAll 475 = .ok (.iload 10, 2) := by decide +kernel
theorem dL_tellsAll_477 : decode cL_tellsAll 477 = .ok (.bipush 20, 2) := by decide +kernel
theorem dL_tellsAll_479 : decode cL_tellsAll 479 = .ok (.if_icmp .ge 7, 3) := by decide +kernel
theorem dL_tellsAll_482 : decode cL_tellsAll 482 = .ok (.iconst 1, 1) := by decide +kernel
theorem dL_tellsAll_483 : decode cL_tellsAll 483 = .ok (.goto 4, 3) := by decide +kernel
theorem dL_tellsAll_486 : decode cL_tellsAll 486 = .ok (.iconst 0, 1) := by decide +kernel
theorem dL_tellsAll_487 : decode cL_tellsAll 487 = .ok (.istore 21, 2) := by decide +kernel
theorem dL_tellsAll_489 : decode cL_tellsAll 489 = .ok (.iload 21, 2) := by decide +kernel
theorem dL_tellsAll_491 : decode cL_tellsAll 491 = .ok (.ifCond .eq 22, 3) := by decide +kernel
theorem dL_tellsAll_494 : decode cL_tellsAll 494 = .ok (.iload 11, 2) := by decide +kernel
theorem dL_tellsAll_496 : decode cL_tellsAll 496 = .ok (.ifCond .lt 17, 3) := by decide +kernel
theorem dL_tellsAll_499 : decode cL_tellsAll 499 = .ok (.iload 10, 2) := by decide +kernel
theorem dL_tellsAll_501 : decode cL_tellsAll 501 = .ok (.iload 11, 2) := by decide +kernel
theorem dL_tellsAll_503 : decode cL_tellsAll 503 = .ok (.iadd, 1) := by decide +kernel
theorem dL_tellsAll_504 : decode cL_tellsAll 504 = .ok (.bipush 20, 2) := by decide +kernel
theorem dL_tellsAll_506 : decode cL_tellsAll 506 = .ok (.if_icmp .ge 7, 3) := by decide +kernel
theorem dL_tellsAll_509 : decode cL_tellsAll 509 = .ok (.iconst 1, 1) := by decide +kernel
theorem dL_tellsAll_510 : decode cL_tellsAll 510 = .ok (.goto 4, 3) := by decide +kernel
theorem dL_tellsAll_513 : decode cL_tellsAll 513 = .ok (.iconst 0, 1) := by decide +kernel
theorem dL_tellsAll_514 : decode cL_tellsAll 514 = .ok (.istore 22, 2) := by decide +kernel
theorem dL_tellsAll_516 : decode cL_tellsAll 516 = .ok (.aload_n 0, 1) := by decide +kernel
theorem dL_tellsAll_517 : decode cL_tellsAll 517 = .ok (.invokevirtual 149, 3) := by decide +kernel
theorem dL_tellsAll_520 : decode cL_tellsAll 520 = .ok (.iload 15, 2) := by decide +kernel
theorem dL_tellsAll_522 : decode cL_tellsAll 522 = .ok (.if_icmp .ne 143, 3) := by decide +kernel
theorem dL_tellsAll_525 : decode cL_tellsAll 525 = .ok (.aload_n 0, 1) := by decide +kernel
theorem dL_tellsAll_526 : decode cL_tellsAll 526 = .ok (.bipush 6, 2) := by decide +kernel
theorem dL_tellsAll_528 : decode cL_tellsAll 528 = .ok (.iload 10, 2) := by decide +kernel
theorem dL_tellsAll_530 : decode cL_tellsAll 530 = .ok (.invokestatic 113, 3) := by decide +kernel
theorem dL_tellsAll_533 : decode cL_tellsAll 533 = .ok (.iload 21, 2) := by decide +kernel
theorem dL_tellsAll_535 : decode cL_tellsAll 535 = .ok (.ifCond .eq 8, 3) := by decide +kernel
theorem dL_tellsAll_538 : decode cL_tellsAll 538 = .ok (.iload 17, 2) := by decide +kernel
theorem dL_tellsAll_540 : decode cL_tellsAll 540 = .ok (.goto 5, 3) := by decide +kernel
theorem dL_tellsAll_543 : decode cL_tellsAll 543 = .ok (.bipush (-101), 2) := by decide +kernel
theorem dL_tellsAll_545 : decode cL_tellsAll 545 = .ok (.if_icmp .ne 120, 3) := by decide +kernel
theorem dL_tellsAll_548 : decode cL_tellsAll 548 = .ok (.aload_n 0, 1) := by decide +kernel
theorem dL_tellsAll_549 : decode cL_tellsAll 549 = .ok (.iconst 1, 1) := by decide +kernel
theorem dL_tellsAll_550 : decode cL_tellsAll 550 = .ok (.iload 10, 2) := by decide +kernel
theorem dL_tellsAll_552 : decode cL_tellsAll 552 = .ok (.iload 11, 2) := by decide +kernel
theorem dL_tellsAll_554 : decode cL_tellsAll 554 = .ok (.invokestatic 110, 3) := by decide +kernel
theorem dL_tellsAll_557 : decode cL_tellsAll 557 = .ok (.iload 22, 2) := by decide +kernel
theorem dL_tellsAll_559 : decode cL_tellsAll 559 = .ok (.ifCond .eq 8, 3) := by decide +kernel
theorem dL_tellsAll_562 : decode cL_tellsAll 562 = .ok (.iload 16, 2) := by decide +kernel
theorem dL_tellsAll_564 : decode cL_tellsAll 564 = .ok (.goto 5, 3) := by decide +kernel
theorem dL_tellsAll_567 : decode cL_tellsAll 567 = .ok (.bipush (-101), 2) := by decide +kernel
theorem dL_tellsAll_569 : decode cL_tellsAll 569 = .ok (.if_icmp .ne 96, 3) := by decide +kernel
theorem dL_tellsAll_572 : decode cL_tellsAll 572 = .ok (.aload_n 0, 1) := by decide +kernel
theorem dL_tellsAll_573 : decode cL_tellsAll 573 = .ok (.iconst 2, 1) := by decide +kernel
theorem dL_tellsAll_574 : decode cL_tellsAll 574 = .ok (.iload 10, 2) := by decide +kernel
theorem dL_tellsAll_576 : decode cL_tellsAll 576 = .ok (.iload 10, 2) := by decide +kernel
theorem dL_tellsAll_578 : decode cL_tellsAll 578 = .ok (.iload 11, 2) := by decide +kernel
theorem dL_tellsAll_580 : decode cL_tellsAll 580 = .ok (.iadd, 1) := by decide +kernel
theorem dL_tellsAll_581 : decode cL_tellsAll 581 = .ok (.invokestatic 110, 3) := by decide +kernel
theorem dL_tellsAll_584 : decode cL_tellsAll 584 = .ok (.iload 22, 2) := by decide +kernel
theorem dL_tellsAll_586 : decode cL_tellsAll 586 = .ok (.ifCond .eq 8, 3) := by decide +kernel
theorem dL_tellsAll_589 : decode cL_tellsAll 589 = .ok (.iload 18, 2) := by decide +kernel
theorem dL_tellsAll_591 : decode cL_tellsAll 591 = .ok (.goto 5, 3) := by decide +kernel
theorem dL_tellsAll_594 : decode cL_tellsAll 594 = .ok (.bipush (-101), 2) := by decide +kernel
theorem dL_tellsAll_596 : decode cL_tellsAll 596 = .ok (.if_icmp .ne 69, 3) := by decide +kernel
theorem dL_tellsAll_599 : decode cL_tellsAll 599 = .ok (.aload_n 0, 1) := by decide +kernel
theorem dL_tellsAll_600 : decode cL_tellsAll 600 = .ok (.iconst 0, 1) := by decide +kernel
theorem dL_tellsAll_601 : decode cL_tellsAll 601 = .ok (.iload 12, 2) := by decide +kernel
theorem dL_tellsAll_603 : decode cL_tellsAll 603 = .ok (.invokestatic 152, 3) := by decide +kernel
theorem dL_tellsAll_606 : decode cL_tellsAll 606 = .ok (.iload 12, 2) := by decide +kernel
theorem dL_tellsAll_608 : decode cL_tellsAll 608 = .ok (.ifCond .lt 17, 3) := by decide +kernel
theorem dL_tellsAll_611 : decode cL_tellsAll 611 = .ok (.iload 12, 2) := by decide +kernel
