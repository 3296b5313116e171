theorem dL_isSo_457 : decode cL_isSo 457 = .ok (.irem, 1) := by decide +kernel
theorem dL_isSo_458 : decode cL_isSo 458 = .ok (.iconst 0, 1) := by decide +kernel
theorem dL_isSo_459 : decode cL_isSo 459 = .ok (.invokestatic 101, 3) := by decide +kernel
theorem dL_isSo_462 : decode cL_isSo 462 = .ok (.i2l, 1) := by decide +kernel
theorem dL_isSo_463 : decode cL_isSo 463 = .ok (.lload 16, 2) := by decide +kernel
theorem dL_isSo_465 : decode cL_isSo 465 = .ok (.lload 20, 2) := by decide +kernel
theorem dL_isSo_467 : decode cL_isSo 467 = .ok (.lmul, 1) := by decide +kernel
theorem dL_isSo_468 : decode cL_isSo 468 = .ok (.lload 18, 2) := by decide +kernel
theorem dL_isSo_470 : decode cL_isSo 470 = .ok (.lload 22, 2) := by decide +kernel
theorem dL_isSo_472 : decode cL_isSo 472 = .ok (.lmul, 1) := by decide +kernel
theorem dL_isSo_473 : decode cL_isSo 473 = .ok (.ladd, 1) := by decide +kernel
theorem dL_isSo_474 : decode cL_isSo 474 = .ok (.iload 8, 2) := by decide +kernel
theorem dL_isSo_476 : decode cL_isSo 476 = .ok (.iconst 5, 1) := by decide +kernel
theorem dL_isSo_477 : decode cL_isSo 477 = .ok (.idiv, 1) := by decide +kernel
theorem dL_isSo_478 : decode cL_isSo 478 = .ok (.sipush 10007, 3) := by decide +kernel
theorem dL_isSo_481 : decode cL_isSo 481 = .ok (.irem, 1) := by decide +kernel
theorem dL_isSo_482 : decode cL_isSo 482 = .ok (.i2l, 1) := by decide +kernel
theorem dL_isSo_483 : decode cL_isSo 483 = .ok (.ladd, 1) := by decide +kernel
theorem dL_isSo_484 : decode cL_isSo 484 = .ok (.invokestatic 76, 3) := by decide +kernel
theorem dL_isSo_487 : decode cL_isSo 487 = .ok (.lconst 0, 1) := by decide +kernel
theorem dL_isSo_488 : decode cL_isSo 488 = .ok (.lcmp, 1) := by decide +kernel
theorem dL_isSo_489 : decode cL_isSo 489 = .ok (.ifCond .ne 9, 3) := by decide +kernel
theorem dL_isSo_492 : decode cL_isSo 492 = .ok (.ldc2_w 99, 3) := by decide +kernel
theorem dL_isSo_495 : decode cL_isSo 495 = .ok (.goto 45, 3) := by decide +kernel
theorem dL_isSo_498 : decode cL_isSo 498 = .ok (.iload 9, 2) := by decide +kernel
theorem dL_isSo_500 : decode cL_isSo 500 = .ok (.iconst 2, 1) := by decide +kernel
theorem dL_isSo_501 : decode cL_isSo 501 = .ok (.irem, 1) := by decide +kernel
theorem dL_isSo_502 : decode cL_isSo 502 = .ok (.ifCond .ne 8, 3) := by decide +kernel
theorem dL_isSo_505 : decode cL_isSo 505 = .ok (.lload 20, 2) := by decide +kernel
theorem dL_isSo_507 : decode cL_isSo 507 = .ok (.goto 5, 3) := by decide +kernel
theorem dL_isSo_510 : decode cL_isSo 510 = .ok (.lload 22, 2) := by decide +kernel
theorem dL_isSo_512 : decode cL_isSo 512 = .ok (.lload 16, 2) := by decide +kernel
theorem dL_isSo_514 : decode cL_isSo 514 = .ok (.lload 20, 2) := by decide +kernel
theorem dL_isSo_516 : decode cL_isSo 516 = .ok (.lmul, 1) := by decide +kernel
theorem dL_isSo_517 : decode cL_isSo 517 = .ok (.lload 18, 2) := by decide +kernel
theorem dL_isSo_519 : decode cL_isSo 519 = .ok (.lload 22, 2) := by decide +kernel
theorem dL_isSo_521 : decode cL_isSo 521 = .ok (.lmul, 1) := by decide +kernel
theorem dL_isSo_522 : decode cL_isSo 522 = .ok (.ladd, 1) := by decide +kernel
theorem dL_isSo_523 : decode cL_isSo 523 = .ok (.iload 8, 2) := by decide +kernel
theorem dL_isSo_525 : decode cL_isSo 525 = .ok (.iconst 5, 1) := by decide +kernel
theorem dL_isSo_526 : decode cL_isSo 526 = .ok (.idiv, 1) := by decide +kernel
theorem dL_isSo_527 : decode cL_isSo 527 = .ok (.sipush 10007, 3) := by decide +kernel
theorem dL_isSo_530 : decode cL_isSo 530 = .ok (.irem, 1) := by decide +kernel
theorem dL_isSo_531 : decode cL_isSo 531 = .ok (.i2l, 1) := by decide +kernel
theorem dL_isSo_532 : decode cL_isSo 532 = .ok (.ladd, 1) := by decide +kernel
theorem dL_isSo_533 : decode cL_isSo 533 = .ok (.invokestatic 90, 3) := by decide +kernel
theorem dL_isSo_536 : decode cL_isSo 536 = .ok (.lmul, 1) := by decide +kernel
theorem dL_isSo_537 : decode cL_isSo 537 = .ok (.invokestatic 76, 3) := by decide +kernel
theorem dL_isSo_540 : decode cL_isSo 540 = .ok (.lcmp, 1) := by decide +kernel
theorem dL_isSo_541 : decode cL_isSo 541 = .ok (.ifCond .ne 7, 3) := by decide +kernel
theorem dL_isSo_544 : decode cL_isSo 544 = .ok (.iconst 1, 1) := by decide +kernel
theorem dL_isSo_545 : decode cL_isSo 545 = .ok (.goto 4, 3) := by decide +kernel
theorem dL_isSo_548 : decode cL_isSo 548 = .ok (.iconst 0, 1) := by decide +kernel
theorem dL_isSo_549 : decode cL_isSo 549 = .ok (.istore 10, 2) := by decide +kernel
theorem dL_isSo_551 : decode cL_isSo 551 = .ok (.lload 14, 2) := by decide +kernel
theorem dL_isSo_553 : decode cL_isSo 553 = .ok (.lconst 0, 1) := by decide +kernel
theorem dL_isSo_554 : decode cL_isSo 554 = .ok (.lcmp, 1) := by decide +kernel
theorem dL_isSo_555 : decode cL_isSo 555 = .ok (.ifCond .ne 7, 3) := by decide +kernel
theorem dL_isSo_558 : decode cL_isSo 558 = .ok (.lconst 0, 1) := by decide +kernel
theorem dL_isSo_559 : decode cL_isSo 559 = .ok (.goto 8, 3) := by decide +kernel
theorem dL_isSo_562 : decode cL_isSo 562 = .ok (.lload 14, 2) := by decide +kernel
theorem dL_isSo_564 : decode cL_isSo 564 = .ok (.invokestatic 90, 3) := by decide +kernel
theorem dL_isSo_567 : decode cL_isSo 567 = .ok (.lstore 24, 2) := by decide +kernel
theorem dL_isSo_569 : decode cL_isSo 569 = .ok (.aload 5, 2) := by decide +kernel
theorem dL_isSo_571 : decode cL_isSo 571 = .ok (.iconst 4, 1) := by decide +kernel
theorem dL_isSo_572 : decode cL_isSo 572 = .ok (.laload, 1) := by decide +kernel
theorem dL_isSo_573 : decode cL_isSo 573 = .ok (.lload 24, 2) := by decide +kernel
theorem dL_isSo_575 : decode cL_isSo 575 = .ok (.lmul, 1) := by decide +kernel
theorem dL_isSo_576 : decode cL_isSo 576 = .ok (.invokestatic 76, 3) := by decide +kernel
theorem dL_isSo_579 : decode cL_isSo 579 = .ok (.lstore 26, 2) := by decide +kernel
theorem dL_isSo_581 : decode cL_isSo 581 = .ok (.aload 5, 2) := by decide +kernel
theorem dL_isSo_583 : decode cL_isSo 583 = .ok (.iconst 3, 1) := by decide +kernel
theorem dL_isSo_584 : decode cL_isSo 584 = .ok (.laload, 1) := by decide +kernel
theorem dL_isSo_585 : decode cL_isSo 585 = .ok (.lneg, 1) := by decide +kernel
theorem dL_isSo_586 : decode cL_isSo 586 = .ok (.lload 24, 2) := by decide +kernel
theorem dL_isSo_588 : decode cL_isSo 588 = .ok (.lmul, 1) := by decide +kernel
theorem dL_isSo_589 : decode cL_isSo 589 = .ok (.invokestatic 76, 3) := by decide +kernel
theorem dL_isSo_592 : decode cL_isSo 592 = .ok (.lstore 28, 2) := by decide +kernel
theorem dL_isSo_594 : decode cL_isSo 594 = .ok (.aload 5, 2) := by decide +kernel
theorem dL_isSo_596 : decode cL_isSo 596 = .ok (.iconst 2, 1) := by decide +kernel
theorem dL_isSo_597 : decode cL_isSo 597 = .ok (.laload, 1) := by decide +kernel
theorem dL_isSo_598 : decode cL_isSo 598 = .ok (.lload 24, 2) := by decide +kernel
theorem dL_isSo_600 : decode cL_isSo 600 = .ok (.lmul, 1) := by decide +kernel
theorem dL_isSo_601 : decode cL_isSo 601 = .ok (.invokestatic 76, 3) := by decide +kernel
theorem dL_isSo_604 : decode cL_isSo 604 = .ok (.lstore 30, 2) := by decide +kernel
theorem dL_isSo_606 : decode cL_isSo 606 = .ok (.iload 8, 2) := by decide +kernel
theorem dL_isSo_608 : decode cL_isSo 608 = .ok (.iconst 5, 1) := by decide +kernel
theorem dL_isSo_609 : decode cL_isSo 609 = .ok (.irem, 1) := by decide +kernel
theorem dL_isSo_610 : decode cL_isSo 610 = .ok (.istore 32, 2) := by decide +kernel
theorem dL_isSo_612 : decode cL_isSo 612 = .ok (.iload 32, 2) := by decide +kernel
theorem dL_isSo_614 : decode cL_isSo 614 = .ok (.ifCond .ne 24, 3) := by decide +kernel
theorem dL_isSo_617 : decode cL_isSo 617 = .ok (.lload 26, 2) := by decide +kernel
theorem dL_isSo_619 : decode cL_isSo 619 = .ok (.aload 5, 2) := by decide +kernel
theorem dL_isSo_621 : decode cL_isSo 621 = .ok (.iconst 0, 1) := by decide +kernel
theorem dL_isSo_622 : decode cL_isSo 622 = .ok (.laload, 1) := by decide +kernel
theorem dL_isSo_623 : decode cL_isSo 623 = .ok (.lmul, 1) := by decide +kernel
theorem dL_isSo_624 : decode cL_isSo 624 = .ok (.lload 28, 2) := by decide +kernel
theorem dL_isSo_626 : decode cL_isSo 626 = .ok (.aload 5, 2) := by decide +kernel
theorem dL_isSo_628 : decode cL_isSo 628 = .ok (.iconst 1, 1) := by decide +kernel
theorem dL_isSo_629 : decode cL_isSo 629 = .ok (.laload, 1) := by decide +kernel
theorem dL_isSo_630 : decode cL_isSo 630 = .ok (.lmul, 1) := by decide +kernel
theorem dL_isSo_631 : decode cL_isSo 631 = .ok (.ladd, 1) := by decide +kernel
theorem dL_isSo_632 : decode cL_isSo 632 = .ok (.invokestatic 76, 3) := by decide +kernel
theorem dL_isSo_635 : decode cL_isSo 635 = .ok (.goto 54, 3) := by decide +kernel
theorem dL_isSo_638 : decode cL_isSo 638 = .ok (.iload 32, 2) := by decide +kernel
theorem dL_isSo_640 : decode cL_isSo 640 = .ok (.iconst 1, 1) := by decide +kernel
theorem dL_isSo_641 : decode cL_isSo 641 = .ok (.if_icmp .ne 24, 3) := by decide +kernel
theorem dL_isSo_644 : decode cL_isSo 644 = .ok (.lload 28, 2) := by decide +kernel
theorem dL_isSo_646 : decode cL_isSo 646 = .ok (.aload 5, 2) := by decide +kernel
theorem dL_isSo_648 : decode cL_isSo 648 = .ok (.iconst 0, 1) := by decide +kernel
theorem dL_isSo_649 : decode cL_isSo 649 = .ok (.laload, 1) := by decide +kernel
theorem dL_isSo_650 : decode cL_isSo 650 = .ok (.lmul, 1) := by decide +kernel
theorem dL_isSo_651 : decode cL_isSo 651 = .ok (.lload 30, 2) := by decide +kernel
theorem dL_isSo_653 : decode cL_isSo 653 = .ok (.aload 5, 2) := by decide +kernel
theorem dL_isSo_655 : decode cL_isSo 655 = .ok (.iconst 1, 1) := by decide +kernel
theorem dL_isSo_656 : decode cL_isSo 656 = .ok (.laload, 1) := by decide +kernel
theorem dL_isSo_657 : decode cL_isSo 657 = .ok (.lmul, 1) := by decide +kernel
theorem dL_isSo_658 : decode cL_isSo 658 = .ok (.ladd, 1) := by decide +kernel
theorem dL_isSo_659 : decode cL_isSo 659 = .ok (.invokestatic 76, 3) := by decide +kernel
theorem dL_isSo_662 : decode cL_isSo 662 = .ok (.goto 27, 3) := by decide +kernel
theorem dL_isSo_665 : decode cL_isSo 665 = .ok (.iload 32, 2) := by decide +kernel
theorem dL_isSo_667 : decode cL_isSo 667 = .ok (.iconst 2, 1) := by decide +kernel
theorem dL_isSo_668 : decode cL_isSo 668 = .ok (.if_icmp .ne 8, 3) := by decide +kernel
theorem dL_isSo_671 : decode cL_isSo 671 = .ok (.lload 26, 2) := by decide +kernel
theorem dL_isSo_673 : decode cL_isSo 673 = .ok (.goto 16, 3) := by decide +kernel
theorem dL_isSo_676 : decode cL_isSo 676 = .ok (.iload 32, 2) := by decide +kernel
theorem dL_isSo_678 : decode cL_isSo 678 = .ok (.iconst 3, 1) := by decide +kernel
theorem dL_isSo_679 : decode cL_isSo 679 = .ok (.if_icmp .ne 8, 3) := by decide +kernel
theorem dL_isSo_682 : decode cL_isSo 682 = .ok (.lload 28, 2) := by decide +kernel
theorem dL_isSo_684 : decode cL_isSo 684 = .ok (.goto 5, 3) := by decide +kernel
theorem dL_isSo_687 : decode cL_isSo 687 = .ok (.lload 30, 2) := by decide +kernel
theorem dL_isSo_689 : decode cL_isSo 689 = .ok (.lstore 33, 2) := by decide +kernel
theorem dL_isSo_691 : decode cL_isSo 691 = .ok (.iload 10, 2) := by decide +kernel
theorem dL_isSo_693 : decode cL_isSo 693 = .ok (.ifCond .eq 41, 3) := by decide +kernel
theorem dL_isSo_696 : decode cL_isSo 696 = .ok (.aload_n 0, 1) := by decide +kernel
theorem dL_isSo_697 : decode cL_isSo 697 = .ok (.bipush 9, 2) := by decide +kernel
theorem dL_isSo_699 : decode cL_isSo 699 = .ok (.iload 11, 2) := by decide +kernel
theorem dL_isSo_701 : decode cL_isSo 701 = .ok (.iload 32, 2) := by decide +kernel
theorem dL_isSo_703 : decode cL_isSo 703 = .ok (.iconst 0, 1) := by decide +kernel
theorem dL_isSo_704 : decode cL_isSo 704 = .ok (.iconst 0, 1) := by decide +kernel
theorem dL_isSo_705 : decode cL_isSo 705 = .ok (.iconst 0, 1) := by decide +kernel
theorem dL_isSo_706 : decode cL_isSo 706 = .ok (.iconst 0, 1) := by decide +kernel
theorem dL_isSo_707 : decode cL_isSo 707 = .ok (.invokestatic 101, 3) := by decide +kernel
theorem dL_isSo_710 : decode cL_isSo 710 = .ok (.i2l, 1) := by decide +kernel
theorem dL_isSo_711 : decode cL_isSo 711 = .ok (.lload 14, 2) := by decide +kernel
theorem dL_isSo_713 : decode cL_isSo 713 = .ok (.lconst 0, 1) := by decide +kernel
theorem dL_isSo_714 : decode cL_isSo 714 = .ok (.lcmp, 1) := by decide +kernel
theorem dL_isSo_715 : decode cL_isSo 715 = .ok (.ifCond .ne 9, 3) := by decide +kernel
theorem dL_isSo_718 : decode cL_isSo 718 = .ok (.ldc2_w 99, 3) := by decide +kernel
theorem dL_isSo_721 : decode cL_isSo 721 = .ok (.goto 5, 3) := by decide +kernel
theorem dL_isSo_724 : decode cL_isSo 724 = .ok (.lload 33, 2) := by decide +kernel
theorem dL_isSo_726 : decode cL_isSo 726 = .ok (.lcmp, 1) := by decide +kernel
theorem dL_isSo_727 : decode cL_isSo 727 = .ok (.ifCond .ne 7, 3) := by decide +kernel
theorem dL_isSo_730 : decode cL_isSo 730 = .ok (.iconst 1, 1) := by decide +kernel
theorem dL_isSo_731 : decode cL_isSo 731 = .ok (.goto 4, 3) := by decide +kernel
theorem dL_isSo_734 : decode cL_isSo 734 = .ok (.iconst 0, 1) := by decide +kernel
theorem dL_isSo_735 : decode cL_isSo 735 = .ok (.istore 10, 2) := by decide +kernel
theorem dL_isSo_737 : decode cL_isSo 737 = .ok (.aload_n 0, 1) := by decide +kernel
theorem dL_isSo_738 : decode cL_isSo 738 = .ok (.bipush 10, 2) := by decide +kernel
theorem dL_isSo_740 : decode cL_isSo 740 = .ok (.iload 11, 2) := by decide +kernel
theorem dL_isSo_742 : decode cL_isSo 742 = .ok (.iload 32, 2) := by decide +kernel
theorem dL_isSo_744 : decode cL_isSo 744 = .ok (.iconst 0, 1) := by decide +kernel
theorem dL_isSo_745 : decode cL_isSo 745 = .ok (.iconst 0, 1) := by decide +kernel
theorem dL_isSo_746 : decode cL_isSo 746 = .ok (.iconst 0, 1) := by decide +kernel
theorem dL_isSo_747 : decode cL_isSo 747 = .ok (.iconst 0, 1) := by decide +kernel
theorem dL_isSo_748 : decode cL_isSo 748 = .ok (.invokestatic 101, 3) := by decide +kernel
theorem dL_isSo_751 : decode cL_isSo 751 = .ok (.istore 35, 2) := by decide +kernel
theorem dL_isSo_753 : decode cL_isSo 753 = .ok (.iload 10, 2) := by decide +kernel
theorem dL_isSo_755 : decode cL_isSo 755 = .ok (.ifCond .eq 25, 3) := by decide +kernel
theorem dL_isSo_758 : decode cL_isSo 758 = .ok (.iload 35, 2) := by decide +kernel
theorem dL_isSo_760 : decode cL_isSo 760 = .ok (.iconst (-1), 1) := by decide +kernel
theorem dL_isSo_761 : decode cL_isSo 761 = .ok (.if_icmp .eq 15, 3) := by decide +kernel
theorem dL_isSo_764 : decode cL_isSo 764 = .ok (.iload 35, 2) := by decide +kernel
theorem dL_isSo_766 : decode cL_isSo 766 = .ok (.i2l, 1) := by decide +kernel
theorem dL_isSo_767 : decode cL_isSo 767 = .ok (.aload 5, 2) := by decide +kernel
theorem dL_isSo_769 : decode cL_isSo 769 = .ok (.iload 32, 2) := by decide +kernel
theorem dL_isSo_771 : decode cL_isSo 771 = .ok (.laload, 1) := by decide +kernel
theorem dL_isSo_772 : decode cL_isSo 772 = .ok (.lcmp, 1) := by decide +kernel
theorem dL_isSo_773 : decode cL_isSo 773 = .ok (.ifCond .ne 7, 3) := by decide +kernel
theorem dL_isSo_776 : decode cL_isSo 776 = .ok (.iconst 1, 1) := by decide +kernel
theorem dL_isSo_777 : decode cL_isSo 777 = .ok (.goto 4, 3) := by decide +kernel
theorem dL_isSo_780 : decode cL_isSo 780 = .ok (.iconst 0, 1) := by decide +kernel
theorem dL_isSo_781 : decode cL_isSo 781 = .ok (.istore 10, 2) := by decide +kernel
theorem dL_isSo_783 : decode cL_isSo 783 = .ok (.aload_n 1, 1) := by decide +kernel
theorem dL_isSo_784 : decode cL_isSo 784 = .ok (.iload 12, 2) := by decide +kernel
theorem dL_isSo_786 : decode cL_isSo 786 = .ok (.bipush 12, 2) := by decide +kernel
theorem dL_isSo_788 : decode cL_isSo 788 = .ok (.iadd, 1) := by decide +kernel
theorem dL_isSo_789 : decode cL_isSo 789 = .ok (.iaload, 1) := by decide +kernel
theorem dL_isSo_790 : decode cL_isSo 790 = .ok (.iconst 1, 1) := by decide +kernel
theorem dL_isSo_791 : decode cL_isSo 791 = .ok (.isub, 1) := by decide +kernel
theorem dL_isSo_792 : decode cL_isSo 792 = .ok (.istore 36, 2) := by decide +kernel
theorem dL_isSo_794 : decode cL_isSo 794 = .ok (.iload 36, 2) := by decide +kernel
theorem dL_isSo_796 : decode cL_isSo 796 = .ok (.ifCond .lt 380, 3) := by decide +kernel
theorem dL_isSo_799 : decode cL_isSo 799 = .ok (.iload 36, 2) := by decide +kernel
theorem dL_isSo_801 : decode cL_isSo 801 = .ok (.iconst 4, 1) := by decide +kernel
theorem dL_isSo_802 : decode cL_isSo 802 = .ok (.if_icmp .ge 374, 3) := by decide +kernel
theorem dL_isSo_805 : decode cL_isSo 805 = .ok (.iload 10, 2) := by decide +kernel
theorem dL_isSo_807 : decode cL_isSo 807 = .ok (.ifCond .eq 369, 3) := by decide +kernel
theorem dL_isSo_810 : decode cL_isSo 810 = .ok (.bipush 10, 2) := by decide +kernel
theorem dL_isSo_812 : decode cL_isSo 812 = .ok (.iconst 5, 1) := by decide +kernel
theorem dL_isSo_813 : decode cL_isSo 813 = .ok (.iload 36, 2) := by decide +kernel
theorem dL_isSo_815 : decode cL_isSo 815 = .ok (.imul, 1) := by decide +kernel
theorem dL_isSo_816 : decode cL_isSo 816 = .ok (.iadd, 1) := by decide +kernel
theorem dL_isSo_817 : decode cL_isSo 817 = .ok (.istore 37, 2) := by decide +kernel
theorem dL_isSo_819 : decode cL_isSo 819 = .ok (.aload 5, 2) := by decide +kernel
theorem dL_isSo_821 : decode cL_isSo 821 = .ok (.iload 37, 2) := by decide +kernel
theorem dL_isSo_823 : decode cL_isSo 823 = .ok (.iconst 2, 1) := by decide +kernel
theorem dL_isSo_824 : decode cL_isSo 824 = .ok (.iadd, 1) := by decide +kernel
theorem dL_isSo_825 : decode cL_isSo 825 = .ok (.laload, 1) := by decide +kernel
theorem dL_isSo_826 : decode cL_isSo 826 = .ok (.aload 5, 2) := by decide +kernel
theorem dL_isSo_828 : decode cL_isSo 828 = .ok (.iload 37, 2) := by decide +kernel
theorem dL_isSo_830 : decode cL_isSo 830 = .ok (.iconst 4, 1) := by decide +kernel
theorem dL_isSo_831 : decode cL_isSo 831 = .ok (.iadd, 1) := by decide +kernel
theorem dL_isSo_832 : decode cL_isSo 832 = .ok (.laload, 1) := by decide +kernel
theorem dL_isSo_833 : decode cL_isSo 833 = .ok (.lmul, 1) := by decide +kernel
theorem dL_isSo_834 : decode cL_isSo 834 = .ok (.aload 5, 2) := by decide +kernel
theorem dL_isSo_836 : decode cL_isSo 836 = .ok (.iload 37, 2) := by decide +kernel
theorem dL_isSo_838 : decode cL_isSo 838 = .ok (.iconst 3, 1) := by decide +kernel
theorem dL_isSo_839 : decode cL_isSo 839 = .ok (.iadd, 1) := by decide +kernel
theorem dL_isSo_840 : decode cL_isSo 840 = .ok (.laload, 1) := by decide +kernel
theorem dL_isSo_841 : decode cL_isSo 841 = .ok (.aload 5, 2) := by decide +kernel
theorem dL_isSo_843 : decode cL_isSo 843 = .ok (.iload 37, 2) := by decide +kernel
theorem dL_isSo_845 : decode cL_isSo 845 = .ok (.iconst 3, 1) := by decide +kernel
theorem dL_isSo_846 : decode cL_isSo 846 = .ok (.iadd, 1) := by decide +kernel
theorem dL_isSo_847 : decode cL_isSo 847 = .ok (.laload, 1) := by decide +kernel
theorem dL_isSo_848 : decode cL_isSo 848 = .ok (.lmul, 1) := by decide +kernel
theorem dL_isSo_849 : decode cL_isSo 849 = .ok (.lsub, 1) := by decide +kernel
theorem dL_isSo_850 : decode cL_isSo 850 = .ok (.invokestatic 76, 3) := by decide +kernel
theorem dL_isSo_853 : decode cL_isSo 853 = .ok (.lstore 38, 2) := by decide +kernel
theorem dL_isSo_855 : decode cL_isSo 855 = .ok (.lload 38, 2) := by decide +kernel
theorem dL_isSo_857 : decode cL_isSo 857 = .ok (.lconst 0, 1) := by decide +kernel
theorem dL_isSo_858 : decode cL_isSo 858 = .ok (.lcmp, 1) := by decide +kernel
theorem dL_isSo_859 : decode cL_isSo 859 = .ok (.ifCond .ne 7, 3) := by decide +kernel
theorem dL_isSo_862 : decode cL_isSo 862 = .ok (.lconst 0, 1) := by decide +kernel
theorem dL_isSo_863 : decode cL_isSo 863 = .ok (.goto 8, 3) := by decide +kernel
theorem dL_isSo_866 : decode cL_isSo 866 = .ok (.lload 38, 2) := by decide +kernel
theorem dL_isSo_868 : decode cL_isSo 868 = .ok (.invokestatic 90, 3) := by decide +kernel
theorem dL_isSo_871 : decode cL_isSo 871 = .ok (.lstore 40, 2) := by decide +kernel
theorem dL_isSo_873 : decode cL_isSo 873 = .ok (.aload 5, 2) := by decide +kernel
theorem dL_isSo_875 : decode cL_isSo 875 = .ok (.iconst 0, 1) := by decide +kernel
theorem dL_isSo_876 : decode cL_isSo 876 = .ok (.laload, 1) := by decide +kernel
theorem dL_isSo_877 : decode cL_isSo 877 = .ok (.aload 5, 2) := by decide +kernel
theorem dL_isSo_879 : decode cL_isSo 879 = .ok (.iload 37, 2) := by decide +kernel
theorem dL_isSo_881 : decode cL_isSo 881 = .ok (.laload, 1) := by decide +kernel
theorem dL_isSo_882 : decode cL_isSo 882 = .ok (.lsub, 1) := by decide +kernel
theorem dL_isSo_883 : decode cL_isSo 883 = .ok (.invokestatic 76, 3) := by decide +kernel
theorem dL_isSo_886 : decode cL_isSo 886 = .ok (.lstore 42, 2) := by decide +kernel
theorem dL_isSo_888 : decode cL_isSo 888 = .ok (.aload 5, 2) := by decide +kernel
theorem dL_isSo_890 : decode cL_isSo 890 = .ok (.iconst 1, 1) := by decide +kernel
theorem dL_isSo_891 : decode cL_isSo 891 = .ok (.laload, 1) := by decide +kernel
theorem dL_isSo_892 : decode cL_isSo 892 = .ok (.aload 5, 2) := by decide +kernel
theorem dL_isSo_894 : decode cL_isSo 894 = .ok (.iload 37, 2) := by decide +kernel
theorem dL_isSo_896 : decode cL_isSo 896 = .ok (.iconst 1, 1) := by decide +kernel
theorem dL_isSo_897 : decode cL_isSo 897 = .ok (.iadd, 1) := by decide +kernel
theorem dL_isSo_898 : decode cL_isSo 898 = .ok (.laload, 1) := by decide +kernel
theorem dL_isSo_899 : decode cL_isSo 899 = .ok (.lsub, 1) := by decide +kernel
theorem dL_isSo_900 : decode cL_isSo 900 = .ok (.invokestatic 76, 3) := by decide +kernel
theorem dL_isSo_903 : decode cL_isSo 903 = .ok (.lstore 44, 2) := by decide +kernel
theorem dL_isSo_905 : decode cL_isSo 905 = .ok (.aload 5, 2) := by decide +kernel
theorem dL_isSo_907 : decode cL_isSo 907 = .ok (.iload 37, 2) := by decide +kernel
