theorem dL_tellsAll_416 : decode cL_tellsAll 416 = .ok (.iload 25, 2) := by decide +kernel
theorem dL_tellsAll_418 : decode cL_tellsAll 418 = .ok (.iload 27, 2) := by decide +kernel
theorem dL_tellsAll_420 : decode cL_tellsAll 420 = .ok (.iload 24, 2) := by decide +kernel
theorem dL_tellsAll_422 : decode cL_tellsAll 422 = .ok (.if_icmp .gt 17, 3) := by decide +kernel
theorem dL_tellsAll_425 : decode cL_tellsAll 425 = .ok (.iload 27, 2) := by decide +kernel
theorem dL_tellsAll_427 : decode cL_tellsAll 427 = .ok (.iload 24, 2) := by decide +kernel
theorem dL_tellsAll_429 : decode cL_tellsAll 429 = .ok (.if_icmp .ne 14, 3) := by decide +kernel
theorem dL_tellsAll_432 : decode cL_tellsAll 432 = .ok (.iload 26, 2) := by decide +kernel
theorem dL_tellsAll_434 : decode cL_tellsAll 434 = .ok (.iload 21, 2) := by decide +kernel
theorem dL_tellsAll_436 : decode cL_tellsAll 436 = .ok (.if_icmp .ge 7, 3) := by decide +kernel
theorem dL_tellsAll_439 : decode cL_tellsAll 439 = .ok (.iconst 1, 1) := by decide +kernel
theorem dL_tellsAll_440 : decode cL_tellsAll 440 = .ok (.goto 4, 3) := by decide +kernel
theorem dL_tellsAll_443 : decode cL_tellsAll 443 = .ok (.iconst 0, 1) := by decide +kernel
theorem dL_tellsAll_444 : decode cL_tellsAll 444 = .ok (.iadd, 1) := by decide +kernel
theorem dL_tellsAll_445 : decode cL_tellsAll 445 = .ok (.istore 25, 2) := by decide +kernel
theorem dL_tellsAll_447 : decode cL_tellsAll 447 = .ok (.iinc 26 1, 3) := by decide +kernel
theorem dL_tellsAll_450 : decode cL_tellsAll 450 = .ok (.goto (-78), 3) := by decide +kernel
theorem dL_tellsAll_453 : decode cL_tellsAll 453 = .ok (.iload 25, 2) := by decide +kernel
theorem dL_tellsAll_455 : decode cL_tellsAll 455 = .ok (.iload 14, 2) := by decide +kernel
theorem dL_tellsAll_457 : decode cL_tellsAll 457 = .ok (.if_icmp .ne 8, 3) := by decide +kernel
theorem dL_tellsAll_460 : decode cL_tellsAll 460 = .ok (.iload 21, 2) := by decide +kernel
theorem dL_tellsAll_462 : decode cL_tellsAll 462 = .ok (.goto 5, 3) := by decide +kernel
theorem dL_tellsAll_465 : decode cL_tellsAll 465 = .ok (.iload 20, 2) := by decide +kernel
theorem dL_tellsAll_467 : decode cL_tellsAll 467 = .ok (.istore 20, 2) := by decide +kernel
theorem dL_tellsAll_469 : decode cL_tellsAll 469 = .ok (.iinc 21 1, 3) := by decide +kernel
theorem dL_tellsAll_472 : decode cL_tellsAll 472 = .ok (.goto (-328), 3) := by decide +kernel
theorem dL_tellsAll_475 : decode cL_tellsAll 475 = .ok (.iload 10, 2) := by decide +kernel
theorem dL_tellsAll_477 : decode cL_tellsAll 477 = .ok (.bipush 20, 2) := by decide +kernel
theorem dL_tellsAll_479 : decode cL_tellsAll 479 = .ok (.if_icmp .ge 7, 3) := by decide +kernel
theorem dL_tellsAll_482 : decode cL_tellsAll 482 = .ok (.iconst 1, 1) := by decide +kernel
theorem dL_tellsAll_483 : decode cL_tellsAll 483 = .ok (.goto 4, 3) := by decide +kernel
theorem dL_tellsAll_486 : decode cL_tellsAll 486 = .ok (.iconst 0, 1) := by decide +kernel
theorem dL_tellsAll_487 : decode cL_tellsAll 487 = .ok (.istore 21, 2) := by decide +kernel
theorem dL_tellsAll_489 : decode cL_tellsAll 489 = .ok (.iload 21, 2) := by decide +kernel
theorem dL_tellsAll_491 : decode cL_tellsAll 491 = .ok (.ifCond .eq 22, 3) := by decide +kernel
theorem dL_tellsAll_494 : decode cL_tellsAll 494 = .ok (.iload 11, 2) := by decide +kernel
theorem dL_tellsAll_496 : decode cL_tellsAll 496 = .ok (.ifCond .lt 17, 3) := by decide +kernel
theorem dL_tellsAll_499 : decode cL_tellsAll 499 = .ok (.iload 10, 2) := by decide +kernel
theorem dL_tellsAll_501 : decode cL_tellsAll 501 = .ok (.iload 11, 2) := by decide +kernel
theorem dL_tellsAll_503 : decode cL_tellsAll 503 = .ok (.iadd, 1) := by decide +kernel
theorem dL_tellsAll_504 : decode cL_tellsAll 504 = .ok (.bipush 20, 2) := by decide +kernel
theorem dL_tellsAll_506 : decode cL_tellsAll 506 = .ok (.if_icmp .ge 7, 3) := by decide +kernel
theorem dL_tellsAll_509 : decode cL_tellsAll 509 = .ok (.iconst 1, 1) := by decide +kernel
theorem dL_tellsAll_510 : decode cL_tellsAll 510 = .ok (.goto 4, 3) := by decide +kernel
theorem dL_tellsAll_513 : decode cL_tellsAll 513 = .ok (.iconst 0, 1) := by decide +kernel
theorem dL_tellsAll_514 : decode cL_tellsAll 514 = .ok (.istore 22, 2) := by decide +kernel
theorem dL_tellsAll_516 : decode cL_tellsAll 516 = .ok (.aload_n 0, 1) := by decide +kernel
theorem dL_tellsAll_517 : decode cL_tellsAll 517 = .ok (.invokevirtual 149, 3) := by decide +kernel
theorem dL_tellsAll_520 : decode cL_tellsAll 520 = .ok (.iload 15, 2) := by decide +kernel
theorem dL_tellsAll_522 : decode cL_tellsAll 522 = .ok (.if_icmp .ne 143, 3) := by decide +kernel
theorem dL_tellsAll_525 : decode cL_tellsAll 525 = .ok (.aload_n 0, 1) := by decide +kernel
theorem dL_tellsAll_526 : decode cL_tellsAll 526 = .ok (.bipush 6, 2) := by decide +kernel
theorem dL_tellsAll_528 : decode cL_tellsAll 528 = .ok (.iload 10, 2) := by decide +kernel
theorem dL_tellsAll_530 : decode cL_tellsAll 530 = .ok (.invokestatic 113, 3) := by decide +kernel
theorem dL_tellsAll_533 : decode cL_tellsAll 533 = .ok (.iload 21, 2) := by decide +kernel
theorem dL_tellsAll_535 : decode cL_tellsAll 535 = .ok (.ifCond .eq 8, 3) := by decide +kernel
theorem dL_tellsAll_538 : decode cL_tellsAll 538 = .ok (.iload 17, 2) := by decide +kernel
theorem dL_tellsAll_540 : decode cL_tellsAll 540 = .ok (.goto 5, 3) := by decide +kernel
theorem dL_tellsAll_543 : decode cL_tellsAll 543 = .ok (.bipush (-101), 2) := by decide +kernel
theorem dL_tellsAll_545 : decode cL_tellsAll 545 = .ok (.if_icmp .ne 120, 3) := by decide +kernel
theorem dL_tellsAll_548 : decode cL_tellsAll 548 = .ok (.aload_n 0, 1) := by decide +kernel
theorem dL_tellsAll_549 : decode cL_tellsAll 549 = .ok (.iconst 1, 1) := by decide +kernel
theorem dL_tellsAll_550 : decode cL_tellsAll 550 = .ok (.iload 10, 2) := by decide +kernel
theorem dL_tellsAll_552 : decode cL_tellsAll 552 = .ok (.iload 11, 2) := by decide +kernel
theorem dL_tellsAll_554 : decode cL_tellsAll 554 = .ok (.invokestatic 110, 3) := by decide +kernel
theorem dL_tellsAll_557 : decode cL_tellsAll 557 = .ok (.iload 22, 2) := by decide +kernel
theorem dL_tellsAll_559 : decode cL_tellsAll 559 = .ok (.ifCond .eq 8, 3) := by decide +kernel
theorem dL_tellsAll_562 : decode cL_tellsAll 562 = .ok (.iload 16, 2) := by decide +kernel
theorem dL_tellsAll_564 : decode cL_tellsAll 564 = .ok (.goto 5, 3) := by decide +kernel
theorem dL_tellsAll_567 : decode cL_tellsAll 567 = .ok (.bipush (-101), 2) := by decide +kernel
theorem dL_tellsAll_569 : decode cL_tellsAll 569 = .ok (.if_icmp .ne 96, 3) := by decide +kernel
theorem dL_tellsAll_572 : decode cL_tellsAll 572 = .ok (.aload_n 0, 1) := by decide +kernel
theorem dL_tellsAll_573 : decode cL_tellsAll 573 = .ok (.iconst 2, 1) := by decide +kernel
theorem dL_tellsAll_574 : decode cL_tellsAll 574 = .ok (.iload 10, 2) := by decide +kernel
theorem dL_tellsAll_576 : decode cL_tellsAll 576 = .ok (.iload 10, 2) := by decide +kernel
theorem dL_tellsAll_578 : decode cL_tellsAll 578 = .ok (.iload 11, 2) := by decide +kernel
theorem dL_tellsAll_580 : decode cL_tellsAll 580 = .ok (.iadd, 1) := by decide +kernel
theorem dL_tellsAll_581 : decode cL_tellsAll 581 = .ok (.invokestatic 110, 3) := by decide +kernel
theorem dL_tellsAll_584 : decode cL_tellsAll 584 = .ok (.iload 22, 2) := by decide +kernel
theorem dL_tellsAll_586 : decode cL_tellsAll 586 = .ok (.ifCond .eq 8, 3) := by decide +kernel
theorem dL_tellsAll_589 : decode cL_tellsAll 589 = .ok (.iload 18, 2) := by decide +kernel
theorem dL_tellsAll_591 : decode cL_tellsAll 591 = .ok (.goto 5, 3) := by decide +kernel
theorem dL_tellsAll_594 : decode cL_tellsAll 594 = .ok (.bipush (-101), 2) := by decide +kernel
theorem dL_tellsAll_596 : decode cL_tellsAll 596 = .ok (.if_icmp .ne 69, 3) := by decide +kernel
theorem dL_tellsAll_599 : decode cL_tellsAll 599 = .ok (.aload_n 0, 1) := by decide +kernel
theorem dL_tellsAll_600 : decode cL_tellsAll 600 = .ok (.iconst 0, 1) := by decide +kernel
theorem dL_tellsAll_601 : decode cL_tellsAll 601 = .ok (.iload 12, 2) := by decide +kernel
theorem dL_tellsAll_603 : decode cL_tellsAll 603 = .ok (.invokestatic 152, 3) := by decide +kernel
theorem dL_tellsAll_606 : decode cL_tellsAll 606 = .ok (.iload 12, 2) := by decide +kernel
theorem dL_tellsAll_608 : decode cL_tellsAll 608 = .ok (.ifCond .lt 17, 3) := by decide +kernel
theorem dL_tellsAll_611 : decode cL_tellsAll 611 = .ok (.iload 12, 2) := by decide +kernel
theorem dL_tellsAll_613 : decode cL_tellsAll 613 = .ok (.aload 6, 2) := by decide +kernel
theorem dL_tellsAll_615 : decode cL_tellsAll 615 = .ok (.iconst 3, 1) := by decide +kernel
theorem dL_tellsAll_616 : decode cL_tellsAll 616 = .ok (.iaload, 1) := by decide +kernel
theorem dL_tellsAll_617 : decode cL_tellsAll 617 = .ok (.if_icmp .ge 8, 3) := by decide +kernel
theorem dL_tellsAll_620 : decode cL_tellsAll 620 = .ok (.iload 19, 2) := by decide +kernel
theorem dL_tellsAll_622 : decode cL_tellsAll 622 = .ok (.goto 5, 3) := by decide +kernel
theorem dL_tellsAll_625 : decode cL_tellsAll 625 = .ok (.bipush (-101), 2) := by decide +kernel
theorem dL_tellsAll_627 : decode cL_tellsAll 627 = .ok (.if_icmp .ne 38, 3) := by decide +kernel
theorem dL_tellsAll_630 : decode cL_tellsAll 630 = .ok (.aload_n 0, 1) := by decide +kernel
theorem dL_tellsAll_631 : decode cL_tellsAll 631 = .ok (.iconst 4, 1) := by decide +kernel
theorem dL_tellsAll_632 : decode cL_tellsAll 632 = .ok (.iload 13, 2) := by decide +kernel
theorem dL_tellsAll_634 : decode cL_tellsAll 634 = .ok (.iload 14, 2) := by decide +kernel
theorem dL_tellsAll_636 : decode cL_tellsAll 636 = .ok (.invokestatic 139, 3) := by decide +kernel
theorem dL_tellsAll_639 : decode cL_tellsAll 639 = .ok (.iload 13, 2) := by decide +kernel
theorem dL_tellsAll_641 : decode cL_tellsAll 641 = .ok (.iconst 2, 1) := by decide +kernel
theorem dL_tellsAll_642 : decode cL_tellsAll 642 = .ok (.if_icmp .le 8, 3) := by decide +kernel
theorem dL_tellsAll_645 : decode cL_tellsAll 645 = .ok (.bipush (-101), 2) := by decide +kernel
theorem dL_tellsAll_647 : decode cL_tellsAll 647 = .ok (.goto 15, 3) := by decide +kernel
theorem dL_tellsAll_650 : decode cL_tellsAll 650 = .ok (.iload 20, 2) := by decide +kernel
theorem dL_tellsAll_652 : decode cL_tellsAll 652 = .ok (.ifCond .ge 8, 3) := by decide +kernel
theorem dL_tellsAll_655 : decode cL_tellsAll 655 = .ok (.bipush (-102), 2) := by decide +kernel
theorem dL_tellsAll_657 : decode cL_tellsAll 657 = .ok (.goto 5, 3) := by decide +kernel
theorem dL_tellsAll_660 : decode cL_tellsAll 660 = .ok (.iload 20, 2) := by decide +kernel
theorem dL_tellsAll_662 : decode cL_tellsAll 662 = .ok (.if_icmp .eq 5, 3) := by decide +kernel
theorem dL_tellsAll_665 : decode cL_tellsAll 665 = .ok (.iconst 0, 1) := by decide +kernel
theorem dL_tellsAll_666 : decode cL_tellsAll 666 = .ok (.ireturn, 1) := by decide +kernel
theorem dL_tellsAll_667 : decode cL_tellsAll 667 = .ok (.iload_n 1, 1) := by decide +kernel
theorem dL_tellsAll_668 : decode cL_tellsAll 668 = .ok (.iconst 4, 1) := by decide +kernel
theorem dL_tellsAll_669 : decode cL_tellsAll 669 = .ok (.ishr, 1) := by decide +kernel
theorem dL_tellsAll_670 : decode cL_tellsAll 670 = .ok (.bipush 20, 2) := by decide +kernel
theorem dL_tellsAll_672 : decode cL_tellsAll 672 = .ok (.invokestatic 103, 3) := by decide +kernel
theorem dL_tellsAll_675 : decode cL_tellsAll 675 = .ok (.iconst 1, 1) := by decide +kernel
theorem dL_tellsAll_676 : decode cL_tellsAll 676 = .ok (.isub, 1) := by decide +kernel
theorem dL_tellsAll_677 : decode cL_tellsAll 677 = .ok (.istore 23, 2) := by decide +kernel
theorem dL_tellsAll_679 : decode cL_tellsAll 679 = .ok (.iconst 1, 1) := by decide +kernel
theorem dL_tellsAll_680 : decode cL_tellsAll 680 = .ok (.istore 24, 2) := by decide +kernel
theorem dL_tellsAll_682 : decode cL_tellsAll 682 = .ok (.iload 24, 2) := by decide +kernel
theorem dL_tellsAll_684 : decode cL_tellsAll 684 = .ok (.iconst 4, 1) := by decide +kernel
theorem dL_tellsAll_685 : decode cL_tellsAll 685 = .ok (.if_icmp .ge 55, 3) := by decide +kernel
theorem dL_tellsAll_688 : decode cL_tellsAll 688 = .ok (.aload_n 0, 1) := by decide +kernel
theorem dL_tellsAll_689 : decode cL_tellsAll 689 = .ok (.iload 24, 2) := by decide +kernel
theorem dL_tellsAll_691 : decode cL_tellsAll 691 = .ok (.iload 23, 2) := by decide +kernel
theorem dL_tellsAll_693 : decode cL_tellsAll 693 = .ok (.invokestatic 152, 3) := by decide +kernel
theorem dL_tellsAll_696 : decode cL_tellsAll 696 = .ok (.iload 23, 2) := by decide +kernel
theorem dL_tellsAll_698 : decode cL_tellsAll 698 = .ok (.ifCond .lt 29, 3) := by decide +kernel
theorem dL_tellsAll_701 : decode cL_tellsAll 701 = .ok (.iload 23, 2) := by decide +kernel
theorem dL_tellsAll_703 : decode cL_tellsAll 703 = .ok (.aload 6, 2) := by decide +kernel
theorem dL_tellsAll_705 : decode cL_tellsAll 705 = .ok (.iconst 4, 1) := by decide +kernel
theorem dL_tellsAll_706 : decode cL_tellsAll 706 = .ok (.iaload, 1) := by decide +kernel
theorem dL_tellsAll_707 : decode cL_tellsAll 707 = .ok (.if_icmp .ge 20, 3) := by decide +kernel
theorem dL_tellsAll_710 : decode cL_tellsAll 710 = .ok (.aload 8, 2) := by decide +kernel
theorem dL_tellsAll_712 : decode cL_tellsAll 712 = .ok (.bipush 20, 2) := by decide +kernel
theorem dL_tellsAll_714 : decode cL_tellsAll 714 = .ok (.iload 24, 2) := by decide +kernel
theorem dL_tellsAll_716 : decode cL_tellsAll 716 = .ok (.imul, 1) := by decide +kernel
theorem dL_tellsAll_717 : decode cL_tellsAll 717 = .ok (.bipush 20, 2) := by decide +kernel
theorem dL_tellsAll_719 : decode cL_tellsAll 719 = .ok (.isub, 1) := by decide +kernel
theorem dL_tellsAll_720 : decode cL_tellsAll 720 = .ok (.iload 23, 2) := by decide +kernel
theorem dL_tellsAll_722 : decode cL_tellsAll 722 = .ok (.iadd, 1) := by decide +kernel
theorem dL_tellsAll_723 : decode cL_tellsAll 723 = .ok (.iaload, 1) := by decide +kernel
theorem dL_tellsAll_724 : decode cL_tellsAll 724 = .ok (.goto 5, 3) := by decide +kernel
theorem dL_tellsAll_727 : decode cL_tellsAll 727 = .ok (.bipush (-101), 2) := by decide +kernel
theorem dL_tellsAll_729 : decode cL_tellsAll 729 = .ok (.if_icmp .eq 5, 3) := by decide +kernel
theorem dL_tellsAll_732 : decode cL_tellsAll 732 = .ok (.iconst 0, 1) := by decide +kernel
theorem dL_tellsAll_733 : decode cL_tellsAll 733 = .ok (.ireturn, 1) := by decide +kernel
theorem dL_tellsAll_734 : decode cL_tellsAll 734 = .ok (.iinc 24 1, 3) := by decide +kernel
theorem dL_tellsAll_737 : decode cL_tellsAll 737 = .ok (.goto (-55), 3) := by decide +kernel
theorem dL_tellsAll_740 : decode cL_tellsAll 740 = .ok (.aload_n 0, 1) := by decide +kernel
theorem dL_tellsAll_741 : decode cL_tellsAll 741 = .ok (.invokevirtual 155, 3) := by decide +kernel
theorem dL_tellsAll_744 : decode cL_tellsAll 744 = .ok (.aload 6, 2) := by decide +kernel
