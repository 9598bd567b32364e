theorem nd_Law_law_475 : decode nC_Law_law 475 = .ok (.aload_n 3, 1) := by decide +kernel
theorem nd_Law_law_476 : decode nC_Law_law 476 = .ok (.invokestatic 111, 3) := by decide +kernel
theorem nd_Law_law_479 : decode nC_Law_law 479 = .ok (.istore 5, 2) := by decide +kernel
theorem nd_Law_law_481 : decode nC_Law_law 481 = .ok (.aload_n 2, 1) := by decide +kernel
theorem nd_Law_law_482 : decode nC_Law_law 482 = .ok (.aload_n 0, 1) := by decide +kernel
theorem nd_Law_law_483 : decode nC_Law_law 483 = .ok (.iload 4, 2) := by decide +kernel
theorem nd_Law_law_485 : decode nC_Law_law 485 = .ok (.iconst 1, 1) := by decide +kernel
theorem nd_Law_law_486 : decode nC_Law_law 486 = .ok (.iadd, 1) := by decide +kernel
theorem nd_Law_law_487 : decode nC_Law_law 487 = .ok (.iaload, 1) := by decide +kernel
theorem nd_Law_law_488 : decode nC_Law_law 488 = .ok (.aload_n 0, 1) := by decide +kernel
theorem nd_Law_law_489 : decode nC_Law_law 489 = .ok (.iload 4, 2) := by decide +kernel
theorem nd_Law_law_491 : decode nC_Law_law 491 = .ok (.iconst 2, 1) := by decide +kernel
theorem nd_Law_law_492 : decode nC_Law_law 492 = .ok (.iadd, 1) := by decide +kernel
theorem nd_Law_law_493 : decode nC_Law_law 493 = .ok (.iaload, 1) := by decide +kernel
theorem nd_Law_law_494 : decode nC_Law_law 494 = .ok (.aload_n 0, 1) := by decide +kernel
theorem nd_Law_law_495 : decode nC_Law_law 495 = .ok (.iload 4, 2) := by decide +kernel
theorem nd_Law_law_497 : decode nC_Law_law 497 = .ok (.iconst 3, 1) := by decide +kernel
theorem nd_Law_law_498 : decode nC_Law_law 498 = .ok (.iadd, 1) := by decide +kernel
theorem nd_Law_law_499 : decode nC_Law_law 499 = .ok (.iaload, 1) := by decide +kernel
theorem nd_Law_law_500 : decode nC_Law_law 500 = .ok (.invokevirtual 114, 3) := by decide +kernel
theorem nd_Law_law_503 : decode nC_Law_law 503 = .ok (.istore 6, 2) := by decide +kernel
theorem nd_Law_law_505 : decode nC_Law_law 505 = .ok (.aload_n 2, 1) := by decide +kernel
theorem nd_Law_law_506 : decode nC_Law_law 506 = .ok (.invokevirtual 92, 3) := by decide +kernel
theorem nd_Law_law_509 : decode nC_Law_law 509 = .ok (.iload 5, 2) := by decide +kernel
theorem nd_Law_law_511 : decode nC_Law_law 511 = .ok (.if_icmp .eq 5, 3) := by decide +kernel
theorem nd_Law_law_514 : decode nC_Law_law 514 = .ok (.iconst 0, 1) := by decide +kernel
theorem nd_Law_law_515 : decode nC_Law_law 515 = .ok (.ireturn, 1) := by decide +kernel
theorem nd_Law_law_516 : decode nC_Law_law 516 = .ok (.iload 5, 2) := by decide +kernel
theorem nd_Law_law_518 : decode nC_Law_law 518 = .ok (.ifCond .ne 15, 3) := by decide +kernel
theorem nd_Law_law_521 : decode nC_Law_law 521 = .ok (.aload_n 3, 1) := by decide +kernel
theorem nd_Law_law_522 : decode nC_Law_law 522 = .ok (.iconst 0, 1) := by decide +kernel
theorem nd_Law_law_523 : decode nC_Law_law 523 = .ok (.laload, 1) := by decide +kernel
theorem nd_Law_law_524 : decode nC_Law_law 524 = .ok (.iload 6, 2) := by decide +kernel
theorem nd_Law_law_526 : decode nC_Law_law 526 = .ok (.i2l, 1) := by decide +kernel
theorem nd_Law_law_527 : decode nC_Law_law 527 = .ok (.lcmp, 1) := by decide +kernel
theorem nd_Law_law_528 : decode nC_Law_law 528 = .ok (.ifCond .eq 5, 3) := by decide +kernel
theorem nd_Law_law_531 : decode nC_Law_law 531 = .ok (.iconst 0, 1) := by decide +kernel
theorem nd_Law_law_532 : decode nC_Law_law 532 = .ok (.ireturn, 1) := by decide +kernel
theorem nd_Law_law_533 : decode nC_Law_law 533 = .ok (.goto 919, 3) := by decide +kernel
theorem nd_Law_law_536 : decode nC_Law_law 536 = .ok (.aload_n 1, 1) := by decide +kernel
theorem nd_Law_law_537 : decode nC_Law_law 537 = .ok (.invokevirtual 115, 3) := by decide +kernel
theorem nd_Law_law_540 : decode nC_Law_law 540 = .ok (.aload_n 2, 1) := by decide +kernel
theorem nd_Law_law_541 : decode nC_Law_law 541 = .ok (.invokevirtual 118, 3) := by decide +kernel
theorem nd_Law_law_544 : decode nC_Law_law 544 = .ok (.if_icmp .eq 908, 3) := by decide +kernel
theorem nd_Law_law_547 : decode nC_Law_law 547 = .ok (.iconst 0, 1) := by decide +kernel
theorem nd_Law_law_548 : decode nC_Law_law 548 = .ok (.ireturn, 1) := by decide +kernel
theorem nd_Law_law_549 : decode nC_Law_law 549 = .ok (.aload_n 1, 1) := by decide +kernel
theorem nd_Law_law_550 : decode nC_Law_law 550 = .ok (.invokevirtual 119, 3) := by decide +kernel
theorem nd_Law_law_553 : decode nC_Law_law 553 = .ok (.aload_n 2, 1) := by decide +kernel
theorem nd_Law_law_554 : decode nC_Law_law 554 = .ok (.invokevirtual 122, 3) := by decide +kernel
theorem nd_Law_law_557 : decode nC_Law_law 557 = .ok (.if_icmp .eq 895, 3) := by decide +kernel
theorem nd_Law_law_560 : decode nC_Law_law 560 = .ok (.iconst 0, 1) := by decide +kernel
theorem nd_Law_law_561 : decode nC_Law_law 561 = .ok (.ireturn, 1) := by decide +kernel
theorem nd_Law_law_562 : decode nC_Law_law 562 = .ok (.aload_n 1, 1) := by decide +kernel
theorem nd_Law_law_563 : decode nC_Law_law 563 = .ok (.aload_n 0, 1) := by decide +kernel
theorem nd_Law_law_564 : decode nC_Law_law 564 = .ok (.iload 4, 2) := by decide +kernel
theorem nd_Law_law_566 : decode nC_Law_law 566 = .ok (.iconst 1, 1) := by decide +kernel
theorem nd_Law_law_567 : decode nC_Law_law 567 = .ok (.iadd, 1) := by decide +kernel
theorem nd_Law_law_568 : decode nC_Law_law 568 = .ok (.iaload, 1) := by decide +kernel
theorem nd_Law_law_569 : decode nC_Law_law 569 = .ok (.aload_n 3, 1) := by decide +kernel
theorem nd_Law_law_570 : decode nC_Law_law 570 = .ok (.invokestatic 123, 3) := by decide +kernel
theorem nd_Law_law_573 : decode nC_Law_law 573 = .ok (.istore 5, 2) := by decide +kernel
theorem nd_Law_law_575 : decode nC_Law_law 575 = .ok (.aload_n 2, 1) := by decide +kernel
theorem nd_Law_law_576 : decode nC_Law_law 576 = .ok (.aload_n 0, 1) := by decide +kernel
theorem nd_Law_law_577 : decode nC_Law_law 577 = .ok (.iload 4, 2) := by decide +kernel
theorem nd_Law_law_579 : decode nC_Law_law 579 = .ok (.iconst 1, 1) := by decide +kernel
theorem nd_Law_law_580 : decode nC_Law_law 580 = .ok (.iadd, 1) := by decide +kernel
theorem nd_Law_law_581 : decode nC_Law_law 581 = .ok (.iaload, 1) := by decide +kernel
theorem nd_Law_law_582 : decode nC_Law_law 582 = .ok (.invokevirtual 125, 3) := by decide +kernel
theorem nd_Law_law_585 : decode nC_Law_law 585 = .ok (.istore 6, 2) := by decide +kernel
theorem nd_Law_law_587 : decode nC_Law_law 587 = .ok (.aload_n 2, 1) := by decide +kernel
theorem nd_Law_law_588 : decode nC_Law_law 588 = .ok (.invokevirtual 92, 3) := by decide +kernel
theorem nd_Law_law_591 : decode nC_Law_law 591 = .ok (.iload 5, 2) := by decide +kernel
theorem nd_Law_law_593 : decode nC_Law_law 593 = .ok (.if_icmp .eq 5, 3) := by decide +kernel
theorem nd_Law_law_596 : decode nC_Law_law 596 = .ok (.iconst 0, 1) := by decide +kernel
theorem nd_Law_law_597 : decode nC_Law_law 597 = .ok (.ireturn, 1) := by decide +kernel
theorem nd_Law_law_598 : decode nC_Law_law 598 = .ok (.iload 5, 2) := by decide +kernel
theorem nd_Law_law_600 : decode nC_Law_law 600 = .ok (.ifCond .ne 15, 3) := by decide +kernel
theorem nd_Law_law_603 : decode nC_Law_law 603 = .ok (.aload_n 3, 1) := by decide +kernel
theorem nd_Law_law_604 : decode nC_Law_law 604 = .ok (.iconst 0, 1) := by decide +kernel
theorem nd_Law_law_605 : decode nC_Law_law 605 = .ok (.laload, 1) := by decide +kernel
theorem nd_Law_law_606 : decode nC_Law_law 606 = .ok (.iload 6, 2) := by decide +kernel
theorem nd_Law_law_608 : decode nC_Law_law 608 = .ok (.i2l, 1) := by decide +kernel
theorem nd_Law_law_609 : decode nC_Law_law 609 = .ok (.lcmp, 1) := by decide +kernel
theorem nd_Law_law_610 : decode nC_Law_law 610 = .ok (.ifCond .eq 5, 3) := by decide +kernel
theorem nd_Law_law_613 : decode nC_Law_law 613 = .ok (.iconst 0, 1) := by decide +kernel
theorem nd_Law_law_614 : decode nC_Law_law 614 = .ok (.ireturn, 1) := by decide +kernel
theorem nd_Law_law_615 : decode nC_Law_law 615 = .ok (.goto 837, 3) := by decide +kernel
theorem nd_Law_law_618 : decode nC_Law_law 618 = .ok (.aload_n 1, 1) := by decide +kernel
theorem nd_Law_law_619 : decode nC_Law_law 619 = .ok (.invokevirtual 126, 3) := by decide +kernel
theorem nd_Law_law_622 : decode nC_Law_law 622 = .ok (.aload_n 2, 1) := by decide +kernel
theorem nd_Law_law_623 : decode nC_Law_law 623 = .ok (.invokevirtual 129, 3) := by decide +kernel
theorem nd_Law_law_626 : decode nC_Law_law 626 = .ok (.if_icmp .eq 826, 3) := by decide +kernel
theorem nd_Law_law_629 : decode nC_Law_law 629 = .ok (.iconst 0, 1) := by decide +kernel
theorem nd_Law_law_630 : decode nC_Law_law 630 = .ok (.ireturn, 1) := by decide +kernel
theorem nd_Law_law_631 : decode nC_Law_law 631 = .ok (.aload_n 1, 1) := by decide +kernel
theorem nd_Law_law_632 : decode nC_Law_law 632 = .ok (.aload_n 0, 1) := by decide +kernel
theorem nd_Law_law_633 : decode nC_Law_law 633 = .ok (.iload 4, 2) := by decide +kernel
theorem nd_Law_law_635 : decode nC_Law_law 635 = .ok (.iconst 1, 1) := by decide +kernel
theorem nd_Law_law_636 : decode nC_Law_law 636 = .ok (.iadd, 1) := by decide +kernel
theorem nd_Law_law_637 : decode nC_Law_law 637 = .ok (.iaload, 1) := by decide +kernel
theorem nd_Law_law_638 : decode nC_Law_law 638 = .ok (.aload_n 3, 1) := by decide +kernel
theorem nd_Law_law_639 : decode nC_Law_law 639 = .ok (.invokestatic 130, 3) := by decide +kernel
theorem nd_Law_law_642 : decode nC_Law_law 642 = .ok (.istore 5, 2) := by decide +kernel
theorem nd_Law_law_644 : decode nC_Law_law 644 = .ok (.aload_n 2, 1) := by decide +kernel
theorem nd_Law_law_645 : decode nC_Law_law 645 = .ok (.aload_n 0, 1) := by decide +kernel
theorem nd_Law_law_646 : decode nC_Law_law 646 = .ok (.iload 4, 2) := by decide +kernel
theorem nd_Law_law_648 : decode nC_Law_law 648 = .ok (.iconst 1, 1) := by decide +kernel
theorem nd_Law_law_649 : decode nC_Law_law 649 = .ok (.iadd, 1) := by decide +kernel
theorem nd_Law_law_650 : decode nC_Law_law 650 = .ok (.iaload, 1) := by decide +kernel
theorem nd_Law_law_651 : decode nC_Law_law 651 = .ok (.invokevirtual 132, 3) := by decide +kernel
theorem nd_Law_law_654 : decode nC_Law_law 654 = .ok (.istore 6, 2) := by decide +kernel
theorem nd_Law_law_656 : decode nC_Law_law 656 = .ok (.aload_n 2, 1) := by decide +kernel
theorem nd_Law_law_657 : decode nC_Law_law 657 = .ok (.invokevirtual 92, 3) := by decide +kernel
theorem nd_Law_law_660 : decode nC_Law_law 660 = .ok (.iload 5, 2) := by decide +kernel
theorem nd_Law_law_662 : decode nC_Law_law 662 = .ok (.if_icmp .eq 5, 3) := by decide +kernel
theorem nd_Law_law_665 : decode nC_Law_law 665 = .ok (.iconst 0, 1) := by decide +kernel
theorem nd_Law_law_666 : decode nC_Law_law 666 = .ok (.ireturn, 1) := by decide +kernel
theorem nd_Law_law_667 : decode nC_Law_law 667 = .ok (.iload 5, 2) := by decide +kernel
theorem nd_Law_law_669 : decode nC_Law_law 669 = .ok (.ifCond .ne 22, 3) := by decide +kernel
theorem nd_Law_law_672 : decode nC_Law_law 672 = .ok (.aload_n 3, 1) := by decide +kernel
theorem nd_Law_law_673 : decode nC_Law_law 673 = .ok (.iconst 0, 1) := by decide +kernel
theorem nd_Law_law_674 : decode nC_Law_law 674 = .ok (.laload, 1) := by decide +kernel
theorem nd_Law_law_675 : decode nC_Law_law 675 = .ok (.iload 6, 2) := by decide +kernel
theorem nd_Law_law_677 : decode nC_Law_law 677 = .ok (.ifCond .eq 7, 3) := by decide +kernel
theorem nd_Law_law_680 : decode nC_Law_law 680 = .ok (.lconst 1, 1) := by decide +kernel
theorem nd_Law_law_681 : decode nC_Law_law 681 = .ok (.goto 4, 3) := by decide +kernel
theorem nd_Law_law_684 : decode nC_Law_law 684 = .ok (.lconst 0, 1) := by decide +kernel
theorem nd_Law_law_685 : decode nC_Law_law 685 = .ok (.lcmp, 1) := by decide +kernel
theorem nd_Law_law_686 : decode nC_Law_law 686 = .ok (.ifCond .eq 5, 3) := by decide +kernel
theorem nd_Law_law_689 : decode nC_Law_law 689 = .ok (.iconst 0, 1) := by decide +kernel
theorem nd_Law_law_690 : decode nC_Law_law 690 = .ok (.ireturn, 1) := by decide +kernel
theorem nd_Law_law_691 : decode nC_Law_law 691 = .ok (.goto 761, 3) := by decide +kernel
theorem nd_Law_law_694 : decode nC_Law_law 694 = .ok (.aload_n 1, 1) := by decide +kernel
theorem nd_Law_law_695 : decode nC_Law_law 695 = .ok (.aload_n 0, 1) := by decide +kernel
theorem nd_Law_law_696 : decode nC_Law_law 696 = .ok (.iload 4, 2) := by decide +kernel
theorem nd_Law_law_698 : decode nC_Law_law 698 = .ok (.iconst 1, 1) := by decide +kernel
theorem nd_Law_law_699 : decode nC_Law_law 699 = .ok (.iadd, 1) := by decide +kernel
theorem nd_Law_law_700 : decode nC_Law_law 700 = .ok (.iaload, 1) := by decide +kernel
theorem nd_Law_law_701 : decode nC_Law_law 701 = .ok (.aload_n 0, 1) := by decide +kernel
theorem nd_Law_law_702 : decode nC_Law_law 702 = .ok (.iload 4, 2) := by decide +kernel
theorem nd_Law_law_704 : decode nC_Law_law 704 = .ok (.iconst 2, 1) := by decide +kernel
theorem nd_Law_law_705 : decode nC_Law_law 705 = .ok (.iadd, 1) := by decide +kernel
theorem nd_Law_law_706 : decode nC_Law_law 706 = .ok (.iaload, 1) := by decide +kernel
theorem nd_Law_law_707 : decode nC_Law_law 707 = .ok (.aload_n 3, 1) := by decide +kernel
theorem nd_Law_law_708 : decode nC_Law_law 708 = .ok (.invokestatic 133, 3) := by decide +kernel
theorem nd_Law_law_711 : decode nC_Law_law 711 = .ok (.istore 5, 2) := by decide +kernel
theorem nd_Law_law_713 : decode nC_Law_law 713 = .ok (.aload_n 2, 1) := by decide +kernel
theorem nd_Law_law_714 : decode nC_Law_law 714 = .ok (.aload_n 0, 1) := by decide +kernel
theorem nd_Law_law_715 : decode nC_Law_law 715 = .ok (.iload 4, 2) := by decide +kernel
theorem nd_Law_law_717 : decode nC_Law_law 717 = .ok (.iconst 1, 1) := by decide +kernel
theorem nd_Law_law_718 : decode nC_Law_law 718 = .ok (.iadd, 1) := by decide +kernel
theorem nd_Law_law_719 : decode nC_Law_law 719 = .ok (.iaload, 1) := by decide +kernel
theorem nd_Law_law_720 : decode nC_Law_law 720 = .ok (.aload_n 0, 1) := by decide +kernel
theorem nd_Law_law_721 : decode nC_Law_law 721 = .ok (.iload 4, 2) := by decide +kernel
theorem nd_Law_law_723 : decode nC_Law_law 723 = .ok (.iconst 2, 1) := by decide +kernel
theorem nd_Law_law_724 : decode nC_Law_law 724 = .ok (.iadd, 1) := by decide +kernel
theorem nd_Law_law_725 : decode nC_Law_law 725 = .ok (.iaload, 1) := by decide +kernel
theorem nd_Law_law_726 : decode nC_Law_law 726 = .ok (.invokevirtual 135, 3) := by decide +kernel
theorem nd_Law_law_729 : decode nC_Law_law 729 = .ok (.lstore 6, 2) := by decide +kernel
theorem nd_Law_law_731 : decode nC_Law_law 731 = .ok (.aload_n 2, 1) := by decide +kernel
theorem nd_Law_law_732 : decode nC_Law_law 732 = .ok (.invokevirtual 92, 3) := by decide +kernel
theorem nd_Law_law_735 : decode nC_Law_law 735 = .ok (.iload 5, 2) := by decide +kernel
theorem nd_Law_law_737 : decode nC_Law_law 737 = .ok (.if_icmp .eq 5, 3) := by decide +kernel
theorem nd_Law_law_740 : decode nC_Law_law 740 = .ok (.iconst 0, 1) := by decide +kernel
theorem nd_Law_law_741 : decode nC_Law_law 741 = .ok (.ireturn, 1) := by decide +kernel
theorem nd_Law_law_742 : decode nC_Law_law 742 = .ok (.iload 5, 2) := by decide +kernel
theorem nd_Law_law_744 : decode nC_Law_law 744 = .ok (.ifCond .ne 14, 3) := by decide +kernel
theorem nd_Law_law_747 : decode nC_Law_law 747 = .ok (.aload_n 3, 1) := by decide +kernel
theorem nd_Law_law_748 : decode nC_Law_law 748 = .ok (.iconst 0, 1) := by decide +kernel
theorem nd_Law_law_749 : decode nC_Law_law 749 = .ok (.laload, 1) := by decide +kernel
theorem nd_Law_law_750 : decode nC_Law_law 750 = .ok (.lload 6, 2) := by decide +kernel
theorem nd_Law_law_752 : decode nC_Law_law 752 = .ok (.lcmp, 1) := by decide +kernel
theorem nd_Law_law_753 : decode nC_Law_law 753 = .ok (.ifCond .eq 5, 3) := by decide +kernel
theorem nd_Law_law_756 : decode nC_Law_law 756 = .ok (.iconst 0, 1) := by decide +kernel
theorem nd_Law_law_757 : decode nC_Law_law 757 = .ok (.ireturn, 1) := by decide +kernel
theorem nd_Law_law_758 : decode nC_Law_law 758 = .ok (.goto 694, 3) := by decide +kernel
theorem nd_Law_law_761 : decode nC_Law_law 761 = .ok (.aload_n 1, 1) := by decide +kernel
theorem nd_Law_law_762 : decode nC_Law_law 762 = .ok (.aload_n 0, 1) := by decide +kernel
theorem nd_Law_law_763 : decode nC_Law_law 763 = .ok (.iload 4, 2) := by decide +kernel
theorem nd_Law_law_765 : decode nC_Law_law 765 = .ok (.iconst 1, 1) := by decide +kernel
theorem nd_Law_law_766 : decode nC_Law_law 766 = .ok (.iadd, 1) := by decide +kernel
theorem nd_Law_law_767 : decode nC_Law_law 767 = .ok (.iaload, 1) := by decide +kernel
theorem nd_Law_law_768 : decode nC_Law_law 768 = .ok (.aload_n 3, 1) := by decide +kernel
theorem nd_Law_law_769 : decode nC_Law_law 769 = .ok (.invokestatic 136, 3) := by decide +kernel
theorem nd_Law_law_772 : decode nC_Law_law 772 = .ok (.istore 5, 2) := by decide +kernel
theorem nd_Law_law_774 : decode nC_Law_law 774 = .ok (.aload_n 2, 1) := by decide +kernel
theorem nd_Law_law_775 : decode nC_Law_law 775 = .ok (.aload_n 0, 1) := by decide +kernel
theorem nd_Law_law_776 : decode nC_Law_law 776 = .ok (.iload 4, 2) := by decide +kernel
theorem nd_Law_law_778 : decode nC_Law_law 778 = .ok (.iconst 1, 1) := by decide +kernel
theorem nd_Law_law_779 : decode nC_Law_law 779 = .ok (.iadd, 1) := by decide +kernel
theorem nd_Law_law_780 : decode nC_Law_law 780 = .ok (.iaload, 1) := by decide +kernel
theorem nd_Law_law_781 : decode nC_Law_law 781 = .ok (.invokevirtual 138, 3) := by decide +kernel
theorem nd_Law_law_784 : decode nC_Law_law 784 = .ok (.istore 6, 2) := by decide +kernel
theorem nd_Law_law_786 : decode nC_Law_law 786 = .ok (.aload_n 2, 1) := by decide +kernel
theorem nd_Law_law_787 : decode nC_Law_law 787 = .ok (.invokevirtual 92, 3) := by decide +kernel
theorem nd_Law_law_790 : decode nC_Law_law 790 = .ok (.iload 5, 2) := by decide +kernel
theorem nd_Law_law_792 : decode nC_Law_law 792 = .ok (.if_icmp .eq 5, 3) := by decide +kernel
theorem nd_Law_law_795 : decode nC_Law_law 795 = .ok (.iconst 0, 1) := by decide +kernel
theorem nd_Law_law_796 : decode nC_Law_law 796 = .ok (.ireturn, 1) := by decide +kernel
theorem nd_Law_law_797 : decode nC_Law_law 797 = .ok (.iload 5, 2) := by decide +kernel
theorem nd_Law_law_799 : decode nC_Law_law 799 = .ok (.ifCond .ne 22, 3) := by decide +kernel
theorem nd_Law_law_802 : decode nC_Law_law 802 = .ok (.aload_n 3, 1) := by decide +kernel
theorem nd_Law_law_803 : decode nC_Law_law 803 = .ok (.iconst 0, 1) := by decide +kernel
theorem nd_Law_law_804 : decode nC_Law_law 804 = .ok (.laload, 1) := by decide +kernel
theorem nd_Law_law_805 : decode nC_Law_law 805 = .ok (.iload 6, 2) := by decide +kernel
theorem nd_Law_law_807 : decode nC_Law_law 807 = .ok (.ifCond .eq 7, 3) := by decide +kernel
theorem nd_Law_law_810 : decode nC_Law_law 810 = .ok (.lconst 1, 1) := by decide +kernel
theorem nd_Law_law_811 : decode nC_Law_law 811 = .ok (.goto 4, 3) := by decide +kernel
theorem nd_Law_law_814 : decode nC_Law_law 814 = .ok (.lconst 0, 1) := by decide +kernel
theorem nd_Law_law_815 : decode nC_Law_law 815 = .ok (.lcmp, 1) := by decide +kernel
theorem nd_Law_law_816 : decode nC_Law_law 816 = .ok (.ifCond .eq 5, 3) := by decide +kernel
theorem nd_Law_law_819 : decode nC_Law_law 819 = .ok (.iconst 0, 1) := by decide +kernel
theorem nd_Law_law_820 : decode nC_Law_law 820 = .ok (.ireturn, 1) := by decide +kernel
theorem nd_Law_law_821 : decode nC_Law_law 821 = .ok (.goto 631, 3) := by decide +kernel
theorem nd_Law_law_824 : decode nC_Law_law 824 = .ok (.aload_n 1, 1) := by decide +kernel
theorem nd_Law_law_825 : decode nC_Law_law 825 = .ok (.aload_n 0, 1) := by decide +kernel
theorem nd_Law_law_826 : decode nC_Law_law 826 = .ok (.iload 4, 2) := by decide +kernel
theorem nd_Law_law_828 : decode nC_Law_law 828 = .ok (.iconst 1, 1) := by decide +kernel
theorem nd_Law_law_829 : decode nC_Law_law 829 = .ok (.iadd, 1) := by decide +kernel
theorem nd_Law_law_830 : decode nC_Law_law 830 = .ok (.iaload, 1) := by decide +kernel
theorem nd_Law_law_831 : decode nC_Law_law 831 = .ok (.aload_n 0, 1) := by decide +kernel
theorem nd_Law_law_832 : decode nC_Law_law 832 = .ok (.iload 4, 2) := by decide +kernel
theorem nd_Law_law_834 : decode nC_Law_law 834 = .ok (.iconst 2, 1) := by decide +kernel
theorem nd_Law_law_835 : decode nC_Law_law 835 = .ok (.iadd, 1) := by decide +kernel
theorem nd_Law_law_836 : decode nC_Law_law 836 = .ok (.iaload, 1) := by decide +kernel
theorem nd_Law_law_837 : decode nC_Law_law 837 = .ok (.aload_n 0, 1) := by decide +kernel
theorem nd_Law_law_838 : decode nC_Law_law 838 = .ok (.iload 4, 2) := by decide +kernel
theorem nd_Law_law_840 : decode nC_Law_law 840 = .ok (.iconst 3, 1) := by decide +kernel
theorem nd_Law_law_841 : decode nC_Law_law 841 = .ok (.iadd, 1) := by decide +kernel
theorem nd_Law_law_842 : decode nC_Law_law 842 = .ok (.iaload, 1) := by decide +kernel
theorem nd_Law_law_843 : decode nC_Law_law 843 = .ok (.aload_n 3, 1) := by decide +kernel
theorem nd_Law_law_844 : decode nC_Law_law 844 = .ok (.invokestatic 139, 3) := by decide +kernel
theorem nd_Law_law_847 : decode nC_Law_law 847 = .ok (.istore 5, 2) := by decide +kernel
theorem nd_Law_law_849 : decode nC_Law_law 849 = .ok (.aload_n 2, 1) := by decide +kernel
theorem nd_Law_law_850 : decode nC_Law_law 850 = .ok (.aload_n 0, 1) := by decide +kernel
theorem nd_Law_law_851 : decode nC_Law_law 851 = .ok (.iload 4, 2) := by decide +kernel
theorem nd_Law_law_853 : decode nC_Law_law 853 = .ok (.iconst 1, 1) := by decide +kernel
theorem nd_Law_law_854 : decode nC_Law_law 854 = .ok (.iadd, 1) := by decide +kernel
theorem nd_Law_law_855 : decode nC_Law_law 855 = .ok (.iaload, 1) := by decide +kernel
theorem nd_Law_law_856 : decode nC_Law_law 856 = .ok (.aload_n 0, 1) := by decide +kernel
theorem nd_Law_law_857 : decode nC_Law_law 857 = .ok (.iload 4, 2) := by decide +kernel
theorem nd_Law_law_859 : decode nC_Law_law 859 = .ok (.iconst 2, 1) := by decide +kernel
theorem nd_Law_law_860 : decode nC_Law_law 860 = .ok (.iadd, 1) := by decide +kernel
theorem nd_Law_law_861 : decode nC_Law_law 861 = .ok (.iaload, 1) := by decide +kernel
theorem nd_Law_law_862 : decode nC_Law_law 862 = .ok (.aload_n 0, 1) := by decide +kernel
theorem nd_Law_law_863 : decode nC_Law_law 863 = .ok (.iload 4, 2) := by decide +kernel
theorem nd_Law_law_865 : decode nC_Law_law 865 = .ok (.iconst 3, 1) := by decide +kernel
theorem nd_Law_law_866 : decode nC_Law_law 866 = .ok (.iadd, 1) := by decide +kernel
theorem nd_Law_law_867 : decode nC_Law_law 867 = .ok (.iaload, 1) := by decide +kernel
