theorem dL_acts_540 : decode cL_acts 540 = .ok (.aload 7, 2) := by decide +kernel
theorem dL_acts_542 : decode cL_acts 542 = .ok (.iload 10, 2) := by decide +kernel
theorem dL_acts_544 : decode cL_acts 544 = .ok (.ifCond .eq 7, 3) := by decide +kernel
theorem dL_acts_547 : decode cL_acts 547 = .ok (.iconst 2, 1) := by decide +kernel
theorem dL_acts_548 : decode cL_acts 548 = .ok (.goto 4, 3) := by decide +kernel
theorem dL_acts_551 : decode cL_acts 551 = .ok (.iconst 1, 1) := by decide +kernel
theorem dL_acts_552 : decode cL_acts 552 = .ok (.iload 11, 2) := by decide +kernel
theorem dL_acts_554 : decode cL_acts 554 = .ok (.iastore, 1) := by decide +kernel
theorem dL_acts_555 : decode cL_acts 555 = .ok (.aload_n 0, 1) := by decide +kernel
theorem dL_acts_556 : decode cL_acts 556 = .ok (.iload 10, 2) := by decide +kernel
theorem dL_acts_558 : decode cL_acts 558 = .ok (.ifCond .eq 8, 3) := by decide +kernel
theorem dL_acts_561 : decode cL_acts 561 = .ok (.bipush 8, 2) := by decide +kernel
theorem dL_acts_563 : decode cL_acts 563 = .ok (.goto 5, 3) := by decide +kernel
theorem dL_acts_566 : decode cL_acts 566 = .ok (.bipush 7, 2) := by decide +kernel
theorem dL_acts_568 : decode cL_acts 568 = .ok (.iload 11, 2) := by decide +kernel
theorem dL_acts_570 : decode cL_acts 570 = .ok (.invokestatic 113, 3) := by decide +kernel
theorem dL_acts_573 : decode cL_acts 573 = .ok (.iload 12, 2) := by decide +kernel
theorem dL_acts_575 : decode cL_acts 575 = .ok (.ifCond .eq 8, 3) := by decide +kernel
theorem dL_acts_578 : decode cL_acts 578 = .ok (.iload 13, 2) := by decide +kernel
theorem dL_acts_580 : decode cL_acts 580 = .ok (.goto 5, 3) := by decide +kernel
theorem dL_acts_583 : decode cL_acts 583 = .ok (.bipush (-101), 2) := by decide +kernel
theorem dL_acts_585 : decode cL_acts 585 = .ok (.if_icmp .ne 7, 3) := by decide +kernel
theorem dL_acts_588 : decode cL_acts 588 = .ok (.iconst 1, 1) := by decide +kernel
theorem dL_acts_589 : decode cL_acts 589 = .ok (.goto 4, 3) := by decide +kernel
theorem dL_acts_592 : decode cL_acts 592 = .ok (.iconst 0, 1) := by decide +kernel
theorem dL_acts_593 : decode cL_acts 593 = .ok (.ireturn, 1) := by decide +kernel
theorem dL_acts_594 : decode cL_acts 594 = .ok (.iload_n 1, 1) := by decide +kernel
theorem dL_acts_595 : decode cL_acts 595 = .ok (.bipush 15, 2) := by decide +kernel
theorem dL_acts_597 : decode cL_acts 597 = .ok (.if_icmp .ge 118, 3) := by decide +kernel
theorem dL_acts_600 : decode cL_acts 600 = .ok (.iload_n 2, 1) := by decide +kernel
theorem dL_acts_601 : decode cL_acts 601 = .ok (.bipush 9, 2) := by decide +kernel
theorem dL_acts_603 : decode cL_acts 603 = .ok (.invokestatic 103, 3) := by decide +kernel
theorem dL_acts_606 : decode cL_acts 606 = .ok (.ifCond .ne 14, 3) := by decide +kernel
theorem dL_acts_609 : decode cL_acts 609 = .ok (.aload_n 0, 1) := by decide +kernel
theorem dL_acts_610 : decode cL_acts 610 = .ok (.invokevirtual 117, 3) := by decide +kernel
theorem dL_acts_613 : decode cL_acts 613 = .ok (.aload 7, 2) := by decide +kernel
theorem dL_acts_615 : decode cL_acts 615 = .ok (.iconst 3, 1) := by decide +kernel
theorem dL_acts_616 : decode cL_acts 616 = .ok (.iconst 0, 1) := by decide +kernel
theorem dL_acts_617 : decode cL_acts 617 = .ok (.iastore, 1) := by decide +kernel
theorem dL_acts_618 : decode cL_acts 618 = .ok (.iconst 1, 1) := by decide +kernel
theorem dL_acts_619 : decode cL_acts 619 = .ok (.ireturn, 1) := by decide +kernel
theorem dL_acts_620 : decode cL_acts 620 = .ok (.iload_n 2, 1) := by decide +kernel
theorem dL_acts_621 : decode cL_acts 621 = .ok (.iconst 3, 1) := by decide +kernel
theorem dL_acts_622 : decode cL_acts 622 = .ok (.ishr, 1) := by decide +kernel
theorem dL_acts_623 : decode cL_acts 623 = .ok (.bipush 30, 2) := by decide +kernel
theorem dL_acts_625 : decode cL_acts 625 = .ok (.invokestatic 103, 3) := by decide +kernel
theorem dL_acts_628 : decode cL_acts 628 = .ok (.ifCond .ne 7, 3) := by decide +kernel
theorem dL_acts_631 : decode cL_acts 631 = .ok (.iconst (-1), 1) := by decide +kernel
theorem dL_acts_632 : decode cL_acts 632 = .ok (.goto 10, 3) := by decide +kernel
theorem dL_acts_635 : decode cL_acts 635 = .ok (.iload_n 2, 1) := by decide +kernel
theorem dL_acts_636 : decode cL_acts 636 = .ok (.iconst 3, 1) := by decide +kernel
theorem dL_acts_637 : decode cL_acts 637 = .ok (.ishr, 1) := by decide +kernel
theorem dL_acts_638 : decode cL_acts 638 = .ok (.iconst 4, 1) := by decide +kernel
theorem dL_acts_639 : decode cL_acts 639 = .ok (.invokestatic 103, 3) := by decide +kernel
theorem dL_acts_642 : decode cL_acts 642 = .ok (.istore 10, 2) := by decide +kernel
theorem dL_acts_644 : decode cL_acts 644 = .ok (.iload 10, 2) := by decide +kernel
theorem dL_acts_646 : decode cL_acts 646 = .ok (.ifCond .ge 8, 3) := by decide +kernel
theorem dL_acts_649 : decode cL_acts 649 = .ok (.bipush (-101), 2) := by decide +kernel
theorem dL_acts_651 : decode cL_acts 651 = .ok (.goto 23, 3) := by decide +kernel
theorem dL_acts_654 : decode cL_acts 654 = .ok (.aload 7, 2) := by decide +kernel
theorem dL_acts_656 : decode cL_acts 656 = .ok (.iconst 3, 1) := by decide +kernel
theorem dL_acts_657 : decode cL_acts 657 = .ok (.iaload, 1) := by decide +kernel
theorem dL_acts_658 : decode cL_acts 658 = .ok (.bipush 6, 2) := by decide +kernel
theorem dL_acts_660 : decode cL_acts 660 = .ok (.if_icmp .ne 8, 3) := by decide +kernel
theorem dL_acts_663 : decode cL_acts 663 = .ok (.bipush (-102), 2) := by decide +kernel
theorem dL_acts_665 : decode cL_acts 665 = .ok (.goto 9, 3) := by decide +kernel
theorem dL_acts_668 : decode cL_acts 668 = .ok (.aload 7, 2) := by decide +kernel
theorem dL_acts_670 : decode cL_acts 670 = .ok (.iconst 3, 1) := by decide +kernel
theorem dL_acts_671 : decode cL_acts 671 = .ok (.iaload, 1) := by decide +kernel
theorem dL_acts_672 : decode cL_acts 672 = .ok (.iconst 1, 1) := by decide +kernel
theorem dL_acts_673 : decode cL_acts 673 = .ok (.iadd, 1) := by decide +kernel
theorem dL_acts_674 : decode cL_acts 674 = .ok (.istore 11, 2) := by decide +kernel
theorem dL_acts_676 : decode cL_acts 676 = .ok (.iload 11, 2) := by decide +kernel
theorem dL_acts_678 : decode cL_acts 678 = .ok (.ifCond .le 20, 3) := by decide +kernel
theorem dL_acts_681 : decode cL_acts 681 = .ok (.aload 8, 2) := by decide +kernel
theorem dL_acts_683 : decode cL_acts 683 = .ok (.aload 7, 2) := by decide +kernel
theorem dL_acts_685 : decode cL_acts 685 = .ok (.iconst 3, 1) := by decide +kernel
theorem dL_acts_686 : decode cL_acts 686 = .ok (.iaload, 1) := by decide +kernel
theorem dL_acts_687 : decode cL_acts 687 = .ok (.iload 10, 2) := by decide +kernel
theorem dL_acts_689 : decode cL_acts 689 = .ok (.iastore, 1) := by decide +kernel
theorem dL_acts_690 : decode cL_acts 690 = .ok (.aload 7, 2) := by decide +kernel
theorem dL_acts_692 : decode cL_acts 692 = .ok (.iconst 3, 1) := by decide +kernel
theorem dL_acts_693 : decode cL_acts 693 = .ok (.dup2, 1) := by decide +kernel
theorem dL_acts_694 : decode cL_acts 694 = .ok (.iaload, 1) := by decide +kernel
theorem dL_acts_695 : decode cL_acts 695 = .ok (.iconst 1, 1) := by decide +kernel
theorem dL_acts_696 : decode cL_acts 696 = .ok (.iadd, 1) := by decide +kernel
theorem dL_acts_697 : decode cL_acts 697 = .ok (.iastore, 1) := by decide +kernel
theorem dL_acts_698 : decode cL_acts 698 = .ok (.aload_n 0, 1) := by decide +kernel
theorem dL_acts_699 : decode cL_acts 699 = .ok (.iload 10, 2) := by decide +kernel
theorem dL_acts_701 : decode cL_acts 701 = .ok (.invokestatic 120, 3) := by decide +kernel
theorem dL_acts_704 : decode cL_acts 704 = .ok (.iload 11, 2) := by decide +kernel
theorem dL_acts_706 : decode cL_acts 706 = .ok (.if_icmp .ne 7, 3) := by decide +kernel
theorem dL_acts_709 : decode cL_acts 709 = .ok (.iconst 1, 1) := by decide +kernel
theorem dL_acts_710 : decode cL_acts 710 = .ok (.goto 4, 3) := by decide +kernel
theorem dL_acts_713 : decode cL_acts 713 = .ok (.iconst 0, 1) := by decide +kernel
theorem dL_acts_714 : decode cL_acts 714 = .ok (.ireturn, 1) := by decide +kernel
theorem dL_acts_715 : decode cL_acts 715 = .ok (.iload_n 2, 1) := by decide +kernel
theorem dL_acts_716 : decode cL_acts 716 = .ok (.iconst 3, 1) := by decide +kernel
theorem dL_acts_717 : decode cL_acts 717 = .ok (.invokestatic 103, 3) := by decide +kernel
theorem dL_acts_720 : decode cL_acts 720 = .ok (.ifCond .gt 12, 3) := by decide +kernel
theorem dL_acts_723 : decode cL_acts 723 = .ok (.aload 7, 2) := by decide +kernel
theorem dL_acts_725 : decode cL_acts 725 = .ok (.iconst 4, 1) := by decide +kernel
theorem dL_acts_726 : decode cL_acts 726 = .ok (.iaload, 1) := by decide +kernel
theorem dL_acts_727 : decode cL_acts 727 = .ok (.bipush 15, 2) := by decide +kernel
theorem dL_acts_729 : decode cL_acts 729 = .ok (.if_icmp .le 5, 3) := by decide +kernel
theorem dL_acts_732 : decode cL_acts 732 = .ok (.iconst 1, 1) := by decide +kernel
theorem dL_acts_733 : decode cL_acts 733 = .ok (.ireturn, 1) := by decide +kernel
theorem dL_acts_734 : decode cL_acts 734 = .ok (.iconst 3, 1) := by decide +kernel
theorem dL_acts_735 : decode cL_acts 735 = .ok (.newarray .int, 2) := by decide +kernel
theorem dL_acts_737 : decode cL_acts 737 = .ok (.astore 10, 2) := by decide +kernel
