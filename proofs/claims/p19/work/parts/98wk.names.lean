theorem dL_isDone_445 : decode cL_isDone 445 = .ok (.aload_n 1, 1) := by decide +kernel
theorem dL_isDone_446 : decode cL_isDone 446 = .ok (.iload 13, 2) := by decide +kernel
theorem dL_isDone_448 : decode cL_isDone 448 = .ok (.bipush 12, 2) := by decide +kernel
theorem dL_isDone_450 : decode cL_isDone 450 = .ok (.iadd, 1) := by decide +kernel
theorem dL_isDone_451 : decode cL_isDone 451 = .ok (.iaload, 1) := by decide +kernel
theorem dL_isDone_452 : decode cL_isDone 452 = .ok (.if_icmp .gt 15, 3) := by decide +kernel
theorem dL_isDone_455 : decode cL_isDone 455 = .ok (.iload 16, 2) := by decide +kernel
theorem dL_isDone_457 : decode cL_isDone 457 = .ok (.sipush 10007, 3) := by decide +kernel
theorem dL_isDone_460 : decode cL_isDone 460 = .ok (.if_icmp .ge 7, 3) := by decide +kernel
theorem dL_isDone_463 : decode cL_isDone 463 = .ok (.iconst 1, 1) := by decide +kernel
theorem dL_isDone_464 : decode cL_isDone 464 = .ok (.goto 4, 3) := by decide +kernel
theorem dL_isDone_467 : decode cL_isDone 467 = .ok (.iconst 0, 1) := by decide +kernel
theorem dL_isDone_468 : decode cL_isDone 468 = .ok (.istore 20, 2) := by decide +kernel
theorem dL_isDone_470 : decode cL_isDone 470 = .ok (.iload 12, 2) := by decide +kernel
theorem dL_isDone_472 : decode cL_isDone 472 = .ok (.ifCond .eq 12, 3) := by decide +kernel
theorem dL_isDone_475 : decode cL_isDone 475 = .ok (.iload 20, 2) := by decide +kernel
theorem dL_isDone_477 : decode cL_isDone 477 = .ok (.ifCond .eq 7, 3) := by decide +kernel
theorem dL_isDone_480 : decode cL_isDone 480 = .ok (.iconst 1, 1) := by decide +kernel
theorem dL_isDone_481 : decode cL_isDone 481 = .ok (.goto 4, 3) := by decide +kernel
theorem dL_isDone_484 : decode cL_isDone 484 = .ok (.iconst 0, 1) := by decide +kernel
theorem dL_isDone_485 : decode cL_isDone 485 = .ok (.istore 21, 2) := by decide +kernel
theorem dL_isDone_487 : decode cL_isDone 487 = .ok (.bipush 8, 2) := by decide +kernel
theorem dL_isDone_489 : decode cL_isDone 489 = .ok (.iload 11, 2) := by decide +kernel
theorem dL_isDone_491 : decode cL_isDone 491 = .ok (.imul, 1) := by decide +kernel
theorem dL_isDone_492 : decode cL_isDone 492 = .ok (.aload_n 1, 1) := by decide +kernel
theorem dL_isDone_493 : decode cL_isDone 493 = .ok (.iload 13, 2) := by decide +kernel
theorem dL_isDone_495 : decode cL_isDone 495 = .ok (.bipush 14, 2) := by decide +kernel
theorem dL_isDone_497 : decode cL_isDone 497 = .ok (.iadd, 1) := by decide +kernel
theorem dL_isDone_498 : decode cL_isDone 498 = .ok (.iaload, 1) := by decide +kernel
theorem dL_isDone_499 : decode cL_isDone 499 = .ok (.iadd, 1) := by decide +kernel
theorem dL_isDone_500 : decode cL_isDone 500 = .ok (.istore 22, 2) := by decide +kernel
theorem dL_isDone_502 : decode cL_isDone 502 = .ok (.iload 21, 2) := by decide +kernel
theorem dL_isDone_504 : decode cL_isDone 504 = .ok (.ifCond .eq 105, 3) := by decide +kernel
theorem dL_isDone_507 : decode cL_isDone 507 = .ok (.aload_n 2, 1) := by decide +kernel
theorem dL_isDone_508 : decode cL_isDone 508 = .ok (.iload 22, 2) := by decide +kernel
theorem dL_isDone_510 : decode cL_isDone 510 = .ok (.iload 16, 2) := by decide +kernel
theorem dL_isDone_512 : decode cL_isDone 512 = .ok (.i2l, 1) := by decide +kernel
theorem dL_isDone_513 : decode cL_isDone 513 = .ok (.bipush 32, 2) := by decide +kernel
theorem dL_isDone_515 : decode cL_isDone 515 = .ok (.lshl, 1) := by decide +kernel
theorem dL_isDone_516 : decode cL_isDone 516 = .ok (.ldc2_w 84, 3) := by decide +kernel
theorem dL_isDone_519 : decode cL_isDone 519 = .ok (.aload_n 1, 1) := by decide +kernel
theorem dL_isDone_520 : decode cL_isDone 520 = .ok (.iload 13, 2) := by decide +kernel
theorem dL_isDone_522 : decode cL_isDone 522 = .ok (.bipush 13, 2) := by decide +kernel
theorem dL_isDone_524 : decode cL_isDone 524 = .ok (.iadd, 1) := by decide +kernel
theorem dL_isDone_525 : decode cL_isDone 525 = .ok (.iaload, 1) := by decide +kernel
theorem dL_isDone_526 : decode cL_isDone 526 = .ok (.iconst 1, 1) := by decide +kernel
theorem dL_isDone_527 : decode cL_isDone 527 = .ok (.iadd, 1) := by decide +kernel
theorem dL_isDone_528 : decode cL_isDone 528 = .ok (.i2l, 1) := by decide +kernel
theorem dL_isDone_529 : decode cL_isDone 529 = .ok (.lmul, 1) := by decide +kernel
theorem dL_isDone_530 : decode cL_isDone 530 = .ok (.ladd, 1) := by decide +kernel
theorem dL_isDone_531 : decode cL_isDone 531 = .ok (.iload 15, 2) := by decide +kernel
theorem dL_isDone_533 : decode cL_isDone 533 = .ok (.i2l, 1) := by decide +kernel
theorem dL_isDone_534 : decode cL_isDone 534 = .ok (.ladd, 1) := by decide +kernel
theorem dL_isDone_535 : decode cL_isDone 535 = .ok (.lastore, 1) := by decide +kernel
theorem dL_isDone_536 : decode cL_isDone 536 = .ok (.aload_n 3, 1) := by decide +kernel
theorem dL_isDone_537 : decode cL_isDone 537 = .ok (.iload 22, 2) := by decide +kernel
theorem dL_isDone_539 : decode cL_isDone 539 = .ok (.iload 17, 2) := by decide +kernel
theorem dL_isDone_541 : decode cL_isDone 541 = .ok (.i2l, 1) := by decide +kernel
theorem dL_isDone_542 : decode cL_isDone 542 = .ok (.bipush 32, 2) := by decide +kernel
theorem dL_isDone_544 : decode cL_isDone 544 = .ok (.lshl, 1) := by decide +kernel
theorem dL_isDone_545 : decode cL_isDone 545 = .ok (.iload 18, 2) := by decide +kernel
theorem dL_isDone_547 : decode cL_isDone 547 = .ok (.i2l, 1) := by decide +kernel
theorem dL_isDone_548 : decode cL_isDone 548 = .ok (.ladd, 1) := by decide +kernel
theorem dL_isDone_549 : decode cL_isDone 549 = .ok (.lastore, 1) := by decide +kernel
theorem dL_isDone_550 : decode cL_isDone 550 = .ok (.aload 4, 2) := by decide +kernel
theorem dL_isDone_552 : decode cL_isDone 552 = .ok (.iload 22, 2) := by decide +kernel
theorem dL_isDone_554 : decode cL_isDone 554 = .ok (.ldc2_w 86, 3) := by decide +kernel
theorem dL_isDone_557 : decode cL_isDone 557 = .ok (.iload 19, 2) := by decide +kernel
theorem dL_isDone_559 : decode cL_isDone 559 = .ok (.i2l, 1) := by decide +kernel
theorem dL_isDone_560 : decode cL_isDone 560 = .ok (.lmul, 1) := by decide +kernel
theorem dL_isDone_561 : decode cL_isDone 561 = .ok (.lastore, 1) := by decide +kernel
theorem dL_isDone_562 : decode cL_isDone 562 = .ok (.aload_n 1, 1) := by decide +kernel
theorem dL_isDone_563 : decode cL_isDone 563 = .ok (.iload 13, 2) := by decide +kernel
theorem dL_isDone_565 : decode cL_isDone 565 = .ok (.bipush 14, 2) := by decide +kernel
theorem dL_isDone_567 : decode cL_isDone 567 = .ok (.iadd, 1) := by decide +kernel
theorem dL_isDone_568 : decode cL_isDone 568 = .ok (.dup2, 1) := by decide +kernel
theorem dL_isDone_569 : decode cL_isDone 569 = .ok (.iaload, 1) := by decide +kernel
theorem dL_isDone_570 : decode cL_isDone 570 = .ok (.iconst 1, 1) := by decide +kernel
theorem dL_isDone_571 : decode cL_isDone 571 = .ok (.iadd, 1) := by decide +kernel
theorem dL_isDone_572 : decode cL_isDone 572 = .ok (.iastore, 1) := by decide +kernel
theorem dL_isDone_573 : decode cL_isDone 573 = .ok (.aload_n 1, 1) := by decide +kernel
theorem dL_isDone_574 : decode cL_isDone 574 = .ok (.aload_n 2, 1) := by decide +kernel
theorem dL_isDone_575 : decode cL_isDone 575 = .ok (.aload_n 3, 1) := by decide +kernel
theorem dL_isDone_576 : decode cL_isDone 576 = .ok (.aload 4, 2) := by decide +kernel
theorem dL_isDone_578 : decode cL_isDone 578 = .ok (.aload 5, 2) := by decide +kernel
theorem dL_isDone_580 : decode cL_isDone 580 = .ok (.aload 6, 2) := by decide +kernel
theorem dL_isDone_582 : decode cL_isDone 582 = .ok (.iload 11, 2) := by decide +kernel
theorem dL_isDone_584 : decode cL_isDone 584 = .ok (.invokestatic 95, 3) := by decide +kernel
theorem dL_isDone_587 : decode cL_isDone 587 = .ok (.istore 21, 2) := by decide +kernel
theorem dL_isDone_589 : decode cL_isDone 589 = .ok (.aload_n 1, 1) := by decide +kernel
theorem dL_isDone_590 : decode cL_isDone 590 = .ok (.iload 13, 2) := by decide +kernel
theorem dL_isDone_592 : decode cL_isDone 592 = .ok (.bipush 14, 2) := by decide +kernel
theorem dL_isDone_594 : decode cL_isDone 594 = .ok (.iadd, 1) := by decide +kernel
theorem dL_isDone_595 : decode cL_isDone 595 = .ok (.dup2, 1) := by decide +kernel
theorem dL_isDone_596 : decode cL_isDone 596 = .ok (.iaload, 1) := by decide +kernel
theorem dL_isDone_597 : decode cL_isDone 597 = .ok (.iload 21, 2) := by decide +kernel
theorem dL_isDone_599 : decode cL_isDone 599 = .ok (.ifCond .eq 7, 3) := by decide +kernel
theorem dL_isDone_602 : decode cL_isDone 602 = .ok (.iconst 0, 1) := by decide +kernel
theorem dL_isDone_603 : decode cL_isDone 603 = .ok (.goto 4, 3) := by decide +kernel
theorem dL_isDone_606 : decode cL_isDone 606 = .ok (.iconst 1, 1) := by decide +kernel
theorem dL_isDone_607 : decode cL_isDone 607 = .ok (.isub, 1) := by decide +kernel
theorem dL_isDone_608 : decode cL_isDone 608 = .ok (.iastore, 1) := by decide +kernel
theorem dL_isDone_609 : decode cL_isDone 609 = .ok (.iload 12, 2) := by decide +kernel
theorem dL_isDone_611 : decode cL_isDone 611 = .ok (.ifCond .ne 8, 3) := by decide +kernel
theorem dL_isDone_614 : decode cL_isDone 614 = .ok (.bipush (-3), 2) := by decide +kernel
theorem dL_isDone_616 : decode cL_isDone 616 = .ok (.goto 27, 3) := by decide +kernel
theorem dL_isDone_619 : decode cL_isDone 619 = .ok (.iload 20, 2) := by decide +kernel
theorem dL_isDone_621 : decode cL_isDone 621 = .ok (.ifCond .ne 8, 3) := by decide +kernel
theorem dL_isDone_624 : decode cL_isDone 624 = .ok (.bipush (-2), 2) := by decide +kernel
theorem dL_isDone_626 : decode cL_isDone 626 = .ok (.goto 17, 3) := by decide +kernel
theorem dL_isDone_629 : decode cL_isDone 629 = .ok (.iload 21, 2) := by decide +kernel
theorem dL_isDone_631 : decode cL_isDone 631 = .ok (.ifCond .eq 11, 3) := by decide +kernel
theorem dL_isDone_634 : decode cL_isDone 634 = .ok (.iload 22, 2) := by decide +kernel
theorem dL_isDone_636 : decode cL_isDone 636 = .ok (.bipush 8, 2) := by decide +kernel
theorem dL_isDone_638 : decode cL_isDone 638 = .ok (.irem, 1) := by decide +kernel
theorem dL_isDone_639 : decode cL_isDone 639 = .ok (.goto 4, 3) := by decide +kernel
theorem dL_isDone_642 : decode cL_isDone 642 = .ok (.iconst (-1), 1) := by decide +kernel
theorem dL_isDone_643 : decode cL_isDone 643 = .ok (.istore 23, 2) := by decide +kernel
theorem dL_isDone_645 : decode cL_isDone 645 = .ok (.iload 14, 2) := by decide +kernel
theorem dL_isDone_647 : decode cL_isDone 647 = .ok (.ifCond .eq 24, 3) := by decide +kernel
theorem dL_isDone_650 : decode cL_isDone 650 = .ok (.aload_n 0, 1) := by decide +kernel
theorem dL_isDone_651 : decode cL_isDone 651 = .ok (.bipush 6, 2) := by decide +kernel
theorem dL_isDone_653 : decode cL_isDone 653 = .ok (.iload 11, 2) := by decide +kernel
theorem dL_isDone_655 : decode cL_isDone 655 = .ok (.iload 15, 2) := by decide +kernel
theorem dL_isDone_657 : decode cL_isDone 657 = .ok (.iload 16, 2) := by decide +kernel
theorem dL_isDone_659 : decode cL_isDone 659 = .ok (.iload 17, 2) := by decide +kernel
theorem dL_isDone_661 : decode cL_isDone 661 = .ok (.iload 18, 2) := by decide +kernel
theorem dL_isDone_663 : decode cL_isDone 663 = .ok (.iload 19, 2) := by decide +kernel
theorem dL_isDone_665 : decode cL_isDone 665 = .ok (.invokestatic 101, 3) := by decide +kernel
theorem dL_isDone_668 : decode cL_isDone 668 = .ok (.goto 19, 3) := by decide +kernel
theorem dL_isDone_671 : decode cL_isDone 671 = .ok (.aload_n 0, 1) := by decide +kernel
theorem dL_isDone_672 : decode cL_isDone 672 = .ok (.iconst 5, 1) := by decide +kernel
theorem dL_isDone_673 : decode cL_isDone 673 = .ok (.iload 11, 2) := by decide +kernel
theorem dL_isDone_675 : decode cL_isDone 675 = .ok (.iload 16, 2) := by decide +kernel
theorem dL_isDone_677 : decode cL_isDone 677 = .ok (.iload 17, 2) := by decide +kernel
theorem dL_isDone_679 : decode cL_isDone 679 = .ok (.iload 18, 2) := by decide +kernel
theorem dL_isDone_681 : decode cL_isDone 681 = .ok (.iload 19, 2) := by decide +kernel
theorem dL_isDone_683 : decode cL_isDone 683 = .ok (.iconst 0, 1) := by decide +kernel
theorem dL_isDone_684 : decode cL_isDone 684 = .ok (.invokestatic 101, 3) := by decide +kernel
theorem dL_isDone_687 : decode cL_isDone 687 = .ok (.iload 23, 2) := by decide +kernel
theorem dL_isDone_689 : decode cL_isDone 689 = .ok (.if_icmp .ne 7, 3) := by decide +kernel
theorem dL_isDone_692 : decode cL_isDone 692 = .ok (.iconst 1, 1) := by decide +kernel
theorem dL_isDone_693 : decode cL_isDone 693 = .ok (.goto 4, 3) := by decide +kernel
theorem dL_isDone_696 : decode cL_isDone 696 = .ok (.iconst 0, 1) := by decide +kernel
theorem dL_isDone_697 : decode cL_isDone 697 = .ok (.ireturn, 1) := by decide +kernel
theorem dL_isDone_698 : decode cL_isDone 698 = .ok (.iload 12, 2) := by decide +kernel
theorem dL_isDone_700 : decode cL_isDone 700 = .ok (.ifCond .eq 18, 3) := by decide +kernel
theorem dL_isDone_703 : decode cL_isDone 703 = .ok (.iload 10, 2) := by decide +kernel
theorem dL_isDone_705 : decode cL_isDone 705 = .ok (.aload_n 1, 1) := by decide +kernel
theorem dL_isDone_706 : decode cL_isDone 706 = .ok (.iload 13, 2) := by decide +kernel
theorem dL_isDone_708 : decode cL_isDone 708 = .ok (.bipush 14, 2) := by decide +kernel
theorem dL_isDone_710 : decode cL_isDone 710 = .ok (.iadd, 1) := by decide +kernel
theorem dL_isDone_711 : decode cL_isDone 711 = .ok (.iaload, 1) := by decide +kernel
theorem dL_isDone_712 : decode cL_isDone 712 = .ok (.iconst 1, 1) := by decide +kernel
theorem dL_isDone_713 : decode cL_isDone 713 = .ok (.iadd, 1) := by decide +kernel
theorem dL_isDone_714 : decode cL_isDone 714 = .ok (.irem, 1) := by decide +kernel
theorem dL_isDone_715 : decode cL_isDone 715 = .ok (.goto 4, 3) := by decide +kernel
theorem dL_isDone_718 : decode cL_isDone 718 = .ok (.iconst 0, 1) := by decide +kernel
theorem dL_isDone_719 : decode cL_isDone 719 = .ok (.istore 14, 2) := by decide +kernel
theorem dL_isDone_721 : decode cL_isDone 721 = .ok (.iload 12, 2) := by decide +kernel
theorem dL_isDone_723 : decode cL_isDone 723 = .ok (.ifCond .eq 19, 3) := by decide +kernel
theorem dL_isDone_726 : decode cL_isDone 726 = .ok (.iload 14, 2) := by decide +kernel
theorem dL_isDone_728 : decode cL_isDone 728 = .ok (.aload_n 1, 1) := by decide +kernel
theorem dL_isDone_729 : decode cL_isDone 729 = .ok (.iload 13, 2) := by decide +kernel
theorem dL_isDone_731 : decode cL_isDone 731 = .ok (.bipush 14, 2) := by decide +kernel
theorem dL_isDone_733 : decode cL_isDone 733 = .ok (.iadd, 1) := by decide +kernel
theorem dL_isDone_734 : decode cL_isDone 734 = .ok (.iaload, 1) := by decide +kernel
theorem dL_isDone_735 : decode cL_isDone 735 = .ok (.if_icmp .ge 7, 3) := by decide +kernel
theorem dL_isDone_738 : decode cL_isDone 738 = .ok (.iconst 1, 1) := by decide +kernel
theorem dL_isDone_739 : decode cL_isDone 739 = .ok (.goto 4, 3) := by decide +kernel
theorem dL_isDone_742 : decode cL_isDone 742 = .ok (.iconst 0, 1) := by decide +kernel
theorem dL_isDone_743 : decode cL_isDone 743 = .ok (.istore 15, 2) := by decide +kernel
theorem dL_isDone_745 : decode cL_isDone 745 = .ok (.iload 15, 2) := by decide +kernel
theorem dL_isDone_747 : decode cL_isDone 747 = .ok (.ifCond .eq 27, 3) := by decide +kernel
theorem dL_isDone_750 : decode cL_isDone 750 = .ok (.aload 4, 2) := by decide +kernel
theorem dL_isDone_752 : decode cL_isDone 752 = .ok (.bipush 8, 2) := by decide +kernel
theorem dL_isDone_754 : decode cL_isDone 754 = .ok (.iload 11, 2) := by decide +kernel
theorem dL_isDone_756 : decode cL_isDone 756 = .ok (.imul, 1) := by decide +kernel
theorem dL_isDone_757 : decode cL_isDone 757 = .ok (.iload 14, 2) := by decide +kernel
theorem dL_isDone_759 : decode cL_isDone 759 = .ok (.iadd, 1) := by decide +kernel
theorem dL_isDone_760 : decode cL_isDone 760 = .ok (.laload, 1) := by decide +kernel
theorem dL_isDone_761 : decode cL_isDone 761 = .ok (.ldc2_w 86, 3) := by decide +kernel
theorem dL_isDone_764 : decode cL_isDone 764 = .ok (.lrem, 1) := by decide +kernel
theorem dL_isDone_765 : decode cL_isDone 765 = .ok (.lconst 0, 1) := by decide +kernel
theorem dL_isDone_766 : decode cL_isDone 766 = .ok (.lcmp, 1) := by decide +kernel
theorem dL_isDone_767 : decode cL_isDone 767 = .ok (.ifCond .ne 7, 3) := by decide +kernel
theorem dL_isDone_770 : decode cL_isDone 770 = .ok (.iconst 1, 1) := by decide +kernel
theorem dL_isDone_771 : decode cL_isDone 771 = .ok (.goto 4, 3) := by decide +kernel
theorem dL_isDone_774 : decode cL_isDone 774 = .ok (.iconst 0, 1) := by decide +kernel
theorem dL_isDone_775 : decode cL_isDone 775 = .ok (.istore 16, 2) := by decide +kernel
theorem dL_isDone_777 : decode cL_isDone 777 = .ok (.iload 16, 2) := by decide +kernel
theorem dL_isDone_779 : decode cL_isDone 779 = .ok (.ifCond .eq 58, 3) := by decide +kernel
theorem dL_isDone_782 : decode cL_isDone 782 = .ok (.aload 4, 2) := by decide +kernel
theorem dL_isDone_784 : decode cL_isDone 784 = .ok (.bipush 8, 2) := by decide +kernel
theorem dL_isDone_786 : decode cL_isDone 786 = .ok (.iload 11, 2) := by decide +kernel
theorem dL_isDone_788 : decode cL_isDone 788 = .ok (.imul, 1) := by decide +kernel
theorem dL_isDone_789 : decode cL_isDone 789 = .ok (.iload 14, 2) := by decide +kernel
theorem dL_isDone_791 : decode cL_isDone 791 = .ok (.iadd, 1) := by decide +kernel
theorem dL_isDone_792 : decode cL_isDone 792 = .ok (.dup2, 1) := by decide +kernel
theorem dL_isDone_793 : decode cL_isDone 793 = .ok (.laload, 1) := by decide +kernel
theorem dL_isDone_794 : decode cL_isDone 794 = .ok (.lconst 1, 1) := by decide +kernel
theorem dL_isDone_795 : decode cL_isDone 795 = .ok (.ladd, 1) := by decide +kernel
theorem dL_isDone_796 : decode cL_isDone 796 = .ok (.lastore, 1) := by decide +kernel
theorem dL_isDone_797 : decode cL_isDone 797 = .ok (.aload_n 1, 1) := by decide +kernel
theorem dL_isDone_798 : decode cL_isDone 798 = .ok (.aload_n 2, 1) := by decide +kernel
theorem dL_isDone_799 : decode cL_isDone 799 = .ok (.aload_n 3, 1) := by decide +kernel
theorem dL_isDone_800 : decode cL_isDone 800 = .ok (.aload 4, 2) := by decide +kernel
theorem dL_isDone_802 : decode cL_isDone 802 = .ok (.aload 5, 2) := by decide +kernel
theorem dL_isDone_804 : decode cL_isDone 804 = .ok (.aload 6, 2) := by decide +kernel
theorem dL_isDone_806 : decode cL_isDone 806 = .ok (.iload 11, 2) := by decide +kernel
theorem dL_isDone_808 : decode cL_isDone 808 = .ok (.invokestatic 95, 3) := by decide +kernel
theorem dL_isDone_811 : decode cL_isDone 811 = .ok (.istore 16, 2) := by decide +kernel
theorem dL_isDone_813 : decode cL_isDone 813 = .ok (.aload 4, 2) := by decide +kernel
theorem dL_isDone_815 : decode cL_isDone 815 = .ok (.bipush 8, 2) := by decide +kernel
theorem dL_isDone_817 : decode cL_isDone 817 = .ok (.iload 11, 2) := by decide +kernel
theorem dL_isDone_819 : decode cL_isDone 819 = .ok (.imul, 1) := by decide +kernel
theorem dL_isDone_820 : decode cL_isDone 820 = .ok (.iload 14, 2) := by decide +kernel
theorem dL_isDone_822 : decode cL_isDone 822 = .ok (.iadd, 1) := by decide +kernel
theorem dL_isDone_823 : decode cL_isDone 823 = .ok (.dup2, 1) := by decide +kernel
theorem dL_isDone_824 : decode cL_isDone 824 = .ok (.laload, 1) := by decide +kernel
theorem dL_isDone_825 : decode cL_isDone 825 = .ok (.iload 16, 2) := by decide +kernel
theorem dL_isDone_827 : decode cL_isDone 827 = .ok (.ifCond .eq 7, 3) := by decide +kernel
theorem dL_isDone_830 : decode cL_isDone 830 = .ok (.lconst 0, 1) := by decide +kernel
theorem dL_isDone_831 : decode cL_isDone 831 = .ok (.goto 4, 3) := by decide +kernel
theorem dL_isDone_834 : decode cL_isDone 834 = .ok (.lconst 1, 1) := by decide +kernel
theorem dL_isDone_835 : decode cL_isDone 835 = .ok (.lsub, 1) := by decide +kernel
theorem dL_isDone_836 : decode cL_isDone 836 = .ok (.lastore, 1) := by decide +kernel
theorem dL_isDone_837 : decode cL_isDone 837 = .ok (.aload_n 0, 1) := by decide +kernel
theorem dL_isDone_838 : decode cL_isDone 838 = .ok (.bipush 7, 2) := by decide +kernel
theorem dL_isDone_840 : decode cL_isDone 840 = .ok (.iload 11, 2) := by decide +kernel
theorem dL_isDone_842 : decode cL_isDone 842 = .ok (.iload 14, 2) := by decide +kernel
theorem dL_isDone_844 : decode cL_isDone 844 = .ok (.iconst 0, 1) := by decide +kernel
theorem dL_isDone_845 : decode cL_isDone 845 = .ok (.iconst 0, 1) := by decide +kernel
theorem dL_isDone_846 : decode cL_isDone 846 = .ok (.iconst 0, 1) := by decide +kernel
theorem dL_isDone_847 : decode cL_isDone 847 = .ok (.iconst 0, 1) := by decide +kernel
theorem dL_isDone_848 : decode cL_isDone 848 = .ok (.invokestatic 101, 3) := by decide +kernel
theorem dL_isDone_851 : decode cL_isDone 851 = .ok (.iload 15, 2) := by decide +kernel
theorem dL_isDone_853 : decode cL_isDone 853 = .ok (.ifCond .ne 8, 3) := by decide +kernel
theorem dL_isDone_856 : decode cL_isDone 856 = .ok (.bipush (-3), 2) := by decide +kernel
theorem dL_isDone_858 : decode cL_isDone 858 = .ok (.goto 13, 3) := by decide +kernel
theorem dL_isDone_861 : decode cL_isDone 861 = .ok (.iload 16, 2) := by decide +kernel
theorem dL_isDone_863 : decode cL_isDone 863 = .ok (.ifCond .eq 7, 3) := by decide +kernel
theorem dL_isDone_866 : decode cL_isDone 866 = .ok (.iconst 0, 1) := by decide +kernel
theorem dL_isDone_867 : decode cL_isDone 867 = .ok (.goto 4, 3) := by decide +kernel
theorem dL_isDone_870 : decode cL_isDone 870 = .ok (.iconst (-1), 1) := by decide +kernel
theorem dL_isDone_871 : decode cL_isDone 871 = .ok (.if_icmp .ne 7, 3) := by decide +kernel
theorem dL_isDone_874 : decode cL_isDone 874 = .ok (.iconst 1, 1) := by decide +kernel
theorem dL_isDone_875 : decode cL_isDone 875 = .ok (.goto 4, 3) := by decide +kernel
theorem dL_isDone_878 : decode cL_isDone 878 = .ok (.iconst 0, 1) := by decide +kernel
theorem dL_isDone_879 : decode cL_isDone 879 = .ok (.ireturn, 1) := by decide +kernel
