theorem d_Law_law_521 : decode code 521 = .ok (.aload_n 3, 1) := by decide +kernel
theorem d_Law_law_522 : decode code 522 = .ok (.invokestatic 129, 3) := by decide +kernel
theorem d_Law_law_525 : decode code 525 = .ok (.istore 5, 2) := by decide +kernel
theorem d_Law_law_527 : decode code 527 = .ok (.aload_n 2, 1) := by decide +kernel
theorem d_Law_law_528 : decode code 528 = .ok (.aload_n 0, 1) := by decide +kernel
theorem d_Law_law_529 : decode code 529 = .ok (.iload 4, 2) := by decide +kernel
theorem d_Law_law_531 : decode code 531 = .ok (.iconst 1, 1) := by decide +kernel
theorem d_Law_law_532 : decode code 532 = .ok (.iadd, 1) := by decide +kernel
theorem d_Law_law_533 : decode code 533 = .ok (.iaload, 1) := by decide +kernel
theorem d_Law_law_534 : decode code 534 = .ok (.invokevirtual 131, 3) := by decide +kernel
theorem d_Law_law_537 : decode code 537 = .ok (.istore 6, 2) := by decide +kernel
theorem d_Law_law_539 : decode code 539 = .ok (.goto 297, 3) := by decide +kernel
theorem d_Law_law_542 : decode code 542 = .ok (.aload_n 1, 1) := by decide +kernel
theorem d_Law_law_543 : decode code 543 = .ok (.invokevirtual 132, 3) := by decide +kernel
theorem d_Law_law_546 : decode code 546 = .ok (.pop, 1) := by decide +kernel
theorem d_Law_law_547 : decode code 547 = .ok (.aload_n 2, 1) := by decide +kernel
theorem d_Law_law_548 : decode code 548 = .ok (.invokevirtual 135, 3) := by decide +kernel
theorem d_Law_law_551 : decode code 551 = .ok (.pop, 1) := by decide +kernel
theorem d_Law_law_552 : decode code 552 = .ok (.goto 284, 3) := by decide +kernel
theorem d_Law_law_555 : decode code 555 = .ok (.aload_n 1, 1) := by decide +kernel
theorem d_Law_law_556 : decode code 556 = .ok (.invokevirtual 136, 3) := by decide +kernel
theorem d_Law_law_559 : decode code 559 = .ok (.pop, 1) := by decide +kernel
theorem d_Law_law_560 : decode code 560 = .ok (.aload_n 2, 1) := by decide +kernel
theorem d_Law_law_561 : decode code 561 = .ok (.invokevirtual 139, 3) := by decide +kernel
theorem d_Law_law_564 : decode code 564 = .ok (.pop, 1) := by decide +kernel
theorem d_Law_law_565 : decode code 565 = .ok (.goto 271, 3) := by decide +kernel
theorem d_Law_law_568 : decode code 568 = .ok (.aload_n 1, 1) := by decide +kernel
theorem d_Law_law_569 : decode code 569 = .ok (.aload_n 0, 1) := by decide +kernel
theorem d_Law_law_570 : decode code 570 = .ok (.iload 4, 2) := by decide +kernel
theorem d_Law_law_572 : decode code 572 = .ok (.iconst 1, 1) := by decide +kernel
theorem d_Law_law_573 : decode code 573 = .ok (.iadd, 1) := by decide +kernel
theorem d_Law_law_574 : decode code 574 = .ok (.iaload, 1) := by decide +kernel
theorem d_Law_law_575 : decode code 575 = .ok (.aload_n 3, 1) := by decide +kernel
theorem d_Law_law_576 : decode code 576 = .ok (.invokestatic 140, 3) := by decide +kernel
theorem d_Law_law_579 : decode code 579 = .ok (.istore 5, 2) := by decide +kernel
theorem d_Law_law_581 : decode code 581 = .ok (.aload_n 2, 1) := by decide +kernel
theorem d_Law_law_582 : decode code 582 = .ok (.aload_n 0, 1) := by decide +kernel
theorem d_Law_law_583 : decode code 583 = .ok (.iload 4, 2) := by decide +kernel
theorem d_Law_law_585 : decode code 585 = .ok (.iconst 1, 1) := by decide +kernel
theorem d_Law_law_586 : decode code 586 = .ok (.iadd, 1) := by decide +kernel
theorem d_Law_law_587 : decode code 587 = .ok (.iaload, 1) := by decide +kernel
theorem d_Law_law_588 : decode code 588 = .ok (.invokevirtual 142, 3) := by decide +kernel
theorem d_Law_law_591 : decode code 591 = .ok (.istore 6, 2) := by decide +kernel
theorem d_Law_law_593 : decode code 593 = .ok (.goto 243, 3) := by decide +kernel
theorem d_Law_law_596 : decode code 596 = .ok (.aload_n 1, 1) := by decide +kernel
theorem d_Law_law_597 : decode code 597 = .ok (.aload_n 0, 1) := by decide +kernel
theorem d_Law_law_598 : decode code 598 = .ok (.iload 4, 2) := by decide +kernel
theorem d_Law_law_600 : decode code 600 = .ok (.iconst 1, 1) := by decide +kernel
theorem d_Law_law_601 : decode code 601 = .ok (.iadd, 1) := by decide +kernel
theorem d_Law_law_602 : decode code 602 = .ok (.iaload, 1) := by decide +kernel
theorem d_Law_law_603 : decode code 603 = .ok (.aload_n 3, 1) := by decide +kernel
theorem d_Law_law_604 : decode code 604 = .ok (.invokestatic 143, 3) := by decide +kernel
theorem d_Law_law_607 : decode code 607 = .ok (.istore 5, 2) := by decide +kernel
theorem d_Law_law_609 : decode code 609 = .ok (.aload_n 2, 1) := by decide +kernel
theorem d_Law_law_610 : decode code 610 = .ok (.aload_n 0, 1) := by decide +kernel
theorem d_Law_law_611 : decode code 611 = .ok (.iload 4, 2) := by decide +kernel
theorem d_Law_law_613 : decode code 613 = .ok (.iconst 1, 1) := by decide +kernel
theorem d_Law_law_614 : decode code 614 = .ok (.iadd, 1) := by decide +kernel
theorem d_Law_law_615 : decode code 615 = .ok (.iaload, 1) := by decide +kernel
theorem d_Law_law_616 : decode code 616 = .ok (.invokevirtual 145, 3) := by decide +kernel
theorem d_Law_law_619 : decode code 619 = .ok (.istore 6, 2) := by decide +kernel
theorem d_Law_law_621 : decode code 621 = .ok (.goto 215, 3) := by decide +kernel
theorem d_Law_law_624 : decode code 624 = .ok (.aload_n 1, 1) := by decide +kernel
theorem d_Law_law_625 : decode code 625 = .ok (.invokevirtual 146, 3) := by decide +kernel
theorem d_Law_law_628 : decode code 628 = .ok (.pop, 1) := by decide +kernel
theorem d_Law_law_629 : decode code 629 = .ok (.aload_n 2, 1) := by decide +kernel
theorem d_Law_law_630 : decode code 630 = .ok (.invokevirtual 149, 3) := by decide +kernel
theorem d_Law_law_633 : decode code 633 = .ok (.pop, 1) := by decide +kernel
theorem d_Law_law_634 : decode code 634 = .ok (.goto 202, 3) := by decide +kernel
theorem d_Law_law_637 : decode code 637 = .ok (.aload_n 1, 1) := by decide +kernel
theorem d_Law_law_638 : decode code 638 = .ok (.aload_n 0, 1) := by decide +kernel
theorem d_Law_law_639 : decode code 639 = .ok (.iload 4, 2) := by decide +kernel
theorem d_Law_law_641 : decode code 641 = .ok (.iconst 1, 1) := by decide +kernel
theorem d_Law_law_642 : decode code 642 = .ok (.iadd, 1) := by decide +kernel
theorem d_Law_law_643 : decode code 643 = .ok (.iaload, 1) := by decide +kernel
theorem d_Law_law_644 : decode code 644 = .ok (.aload_n 3, 1) := by decide +kernel
theorem d_Law_law_645 : decode code 645 = .ok (.invokestatic 150, 3) := by decide +kernel
theorem d_Law_law_648 : decode code 648 = .ok (.istore 5, 2) := by decide +kernel
theorem d_Law_law_650 : decode code 650 = .ok (.aload_n 2, 1) := by decide +kernel
theorem d_Law_law_651 : decode code 651 = .ok (.aload_n 0, 1) := by decide +kernel
theorem d_Law_law_652 : decode code 652 = .ok (.iload 4, 2) := by decide +kernel
theorem d_Law_law_654 : decode code 654 = .ok (.iconst 1, 1) := by decide +kernel
theorem d_Law_law_655 : decode code 655 = .ok (.iadd, 1) := by decide +kernel
theorem d_Law_law_656 : decode code 656 = .ok (.iaload, 1) := by decide +kernel
theorem d_Law_law_657 : decode code 657 = .ok (.invokevirtual 152, 3) := by decide +kernel
theorem d_Law_law_660 : decode code 660 = .ok (.istore 6, 2) := by decide +kernel
theorem d_Law_law_662 : decode code 662 = .ok (.goto 174, 3) := by decide +kernel
theorem d_Law_law_665 : decode code 665 = .ok (.aload_n 1, 1) := by decide +kernel
theorem d_Law_law_666 : decode code 666 = .ok (.aload_n 0, 1) := by decide +kernel
theorem d_Law_law_667 : decode code 667 = .ok (.iload 4, 2) := by decide +kernel
theorem d_Law_law_669 : decode code 669 = .ok (.iconst 1, 1) := by decide +kernel
theorem d_Law_law_670 : decode code 670 = .ok (.iadd, 1) := by decide +kernel
theorem d_Law_law_671 : decode code 671 = .ok (.iaload, 1) := by decide +kernel
theorem d_Law_law_672 : decode code 672 = .ok (.aload_n 0, 1) := by decide +kernel
theorem d_Law_law_673 : decode code 673 = .ok (.iload 4, 2) := by decide +kernel
theorem d_Law_law_675 : decode code 675 = .ok (.iconst 2, 1) := by decide +kernel
theorem d_Law_law_676 : decode code 676 = .ok (.iadd, 1) := by decide +kernel
theorem d_Law_law_677 : decode code 677 = .ok (.iaload, 1) := by decide +kernel
theorem d_Law_law_678 : decode code 678 = .ok (.aload_n 0, 1) := by decide +kernel
theorem d_Law_law_679 : decode code 679 = .ok (.iload 4, 2) := by decide +kernel
theorem d_Law_law_681 : decode code 681 = .ok (.iconst 3, 1) := by decide +kernel
theorem d_Law_law_682 : decode code 682 = .ok (.iadd, 1) := by decide +kernel
theorem d_Law_law_683 : decode code 683 = .ok (.iaload, 1) := by decide +kernel
theorem d_Law_law_684 : decode code 684 = .ok (.aload_n 3, 1) := by decide +kernel
theorem d_Law_law_685 : decode code 685 = .ok (.invokestatic 153, 3) := by decide +kernel
theorem d_Law_law_688 : decode code 688 = .ok (.istore 5, 2) := by decide +kernel
theorem d_Law_law_690 : decode code 690 = .ok (.aload_n 2, 1) := by decide +kernel
theorem d_Law_law_691 : decode code 691 = .ok (.aload_n 0, 1) := by decide +kernel
theorem d_Law_law_692 : decode code 692 = .ok (.iload 4, 2) := by decide +kernel
theorem d_Law_law_694 : decode code 694 = .ok (.iconst 1, 1) := by decide +kernel
theorem d_Law_law_695 : decode code 695 = .ok (.iadd, 1) := by decide +kernel
theorem d_Law_law_696 : decode code 696 = .ok (.iaload, 1) := by decide +kernel
theorem d_Law_law_697 : decode code 697 = .ok (.aload_n 0, 1) := by decide +kernel
theorem d_Law_law_698 : decode code 698 = .ok (.iload 4, 2) := by decide +kernel
theorem d_Law_law_700 : decode code 700 = .ok (.iconst 2, 1) := by decide +kernel
theorem d_Law_law_701 : decode code 701 = .ok (.iadd, 1) := by decide +kernel
theorem d_Law_law_702 : decode code 702 = .ok (.iaload, 1) := by decide +kernel
theorem d_Law_law_703 : decode code 703 = .ok (.aload_n 0, 1) := by decide +kernel
theorem d_Law_law_704 : decode code 704 = .ok (.iload 4, 2) := by decide +kernel
theorem d_Law_law_706 : decode code 706 = .ok (.iconst 3, 1) := by decide +kernel
theorem d_Law_law_707 : decode code 707 = .ok (.iadd, 1) := by decide +kernel
theorem d_Law_law_708 : decode code 708 = .ok (.iaload, 1) := by decide +kernel
theorem d_Law_law_709 : decode code 709 = .ok (.invokevirtual 156, 3) := by decide +kernel
theorem d_Law_law_712 : decode code 712 = .ok (.istore 6, 2) := by decide +kernel
theorem d_Law_law_714 : decode code 714 = .ok (.goto 122, 3) := by decide +kernel
theorem d_Law_law_717 : decode code 717 = .ok (.aload_n 1, 1) := by decide +kernel
theorem d_Law_law_718 : decode code 718 = .ok (.aload_n 0, 1) := by decide +kernel
theorem d_Law_law_719 : decode code 719 = .ok (.iload 4, 2) := by decide +kernel
theorem d_Law_law_721 : decode code 721 = .ok (.iconst 1, 1) := by decide +kernel
theorem d_Law_law_722 : decode code 722 = .ok (.iadd, 1) := by decide +kernel
theorem d_Law_law_723 : decode code 723 = .ok (.iaload, 1) := by decide +kernel
theorem d_Law_law_724 : decode code 724 = .ok (.aload_n 0, 1) := by decide +kernel
theorem d_Law_law_725 : decode code 725 = .ok (.iload 4, 2) := by decide +kernel
theorem d_Law_law_727 : decode code 727 = .ok (.iconst 2, 1) := by decide +kernel
theorem d_Law_law_728 : decode code 728 = .ok (.iadd, 1) := by decide +kernel
theorem d_Law_law_729 : decode code 729 = .ok (.iaload, 1) := by decide +kernel
theorem d_Law_law_730 : decode code 730 = .ok (.aload_n 3, 1) := by decide +kernel
theorem d_Law_law_731 : decode code 731 = .ok (.invokestatic 157, 3) := by decide +kernel
theorem d_Law_law_734 : decode code 734 = .ok (.istore 5, 2) := by decide +kernel
theorem d_Law_law_736 : decode code 736 = .ok (.aload_n 2, 1) := by decide +kernel
theorem d_Law_law_737 : decode code 737 = .ok (.aload_n 0, 1) := by decide +kernel
theorem d_Law_law_738 : decode code 738 = .ok (.iload 4, 2) := by decide +kernel
theorem d_Law_law_740 : decode code 740 = .ok (.iconst 1, 1) := by decide +kernel
theorem d_Law_law_741 : decode code 741 = .ok (.iadd, 1) := by decide +kernel
theorem d_Law_law_742 : decode code 742 = .ok (.iaload, 1) := by decide +kernel
theorem d_Law_law_743 : decode code 743 = .ok (.aload_n 0, 1) := by decide +kernel
theorem d_Law_law_744 : decode code 744 = .ok (.iload 4, 2) := by decide +kernel
theorem d_Law_law_746 : decode code 746 = .ok (.iconst 2, 1) := by decide +kernel
theorem d_Law_law_747 : decode code 747 = .ok (.iadd, 1) := by decide +kernel
theorem d_Law_law_748 : decode code 748 = .ok (.iaload, 1) := by decide +kernel
theorem d_Law_law_749 : decode code 749 = .ok (.invokevirtual 159, 3) := by decide +kernel
theorem d_Law_law_752 : decode code 752 = .ok (.istore 6, 2) := by decide +kernel
theorem d_Law_law_754 : decode code 754 = .ok (.goto 82, 3) := by decide +kernel
theorem d_Law_law_757 : decode code 757 = .ok (.aload_n 1, 1) := by decide +kernel
theorem d_Law_law_758 : decode code 758 = .ok (.aload_n 0, 1) := by decide +kernel
theorem d_Law_law_759 : decode code 759 = .ok (.iload 4, 2) := by decide +kernel
theorem d_Law_law_761 : decode code 761 = .ok (.iconst 1, 1) := by decide +kernel
theorem d_Law_law_762 : decode code 762 = .ok (.iadd, 1) := by decide +kernel
theorem d_Law_law_763 : decode code 763 = .ok (.iaload, 1) := by decide +kernel
theorem d_Law_law_764 : decode code 764 = .ok (.aload_n 0, 1) := by decide +kernel
theorem d_Law_law_765 : decode code 765 = .ok (.iload 4, 2) := by decide +kernel
theorem d_Law_law_767 : decode code 767 = .ok (.iconst 2, 1) := by decide +kernel
theorem d_Law_law_768 : decode code 768 = .ok (.iadd, 1) := by decide +kernel
theorem d_Law_law_769 : decode code 769 = .ok (.iaload, 1) := by decide +kernel
theorem d_Law_law_770 : decode code 770 = .ok (.aload_n 3, 1) := by decide +kernel
theorem d_Law_law_771 : decode code 771 = .ok (.invokestatic 160, 3) := by decide +kernel
theorem d_Law_law_774 : decode code 774 = .ok (.istore 5, 2) := by decide +kernel
theorem d_Law_law_776 : decode code 776 = .ok (.aload_n 2, 1) := by decide +kernel
theorem d_Law_law_777 : decode code 777 = .ok (.aload_n 0, 1) := by decide +kernel
theorem d_Law_law_778 : decode code 778 = .ok (.iload 4, 2) := by decide +kernel
theorem d_Law_law_780 : decode code 780 = .ok (.iconst 1, 1) := by decide +kernel
theorem d_Law_law_781 : decode code 781 = .ok (.iadd, 1) := by decide +kernel
theorem d_Law_law_782 : decode code 782 = .ok (.iaload, 1) := by decide +kernel
theorem d_Law_law_783 : decode code 783 = .ok (.aload_n 0, 1) := by decide +kernel
theorem d_Law_law_784 : decode code 784 = .ok (.iload 4, 2) := by decide +kernel
theorem d_Law_law_786 : decode code 786 = .ok (.iconst 2, 1) := by decide +kernel
theorem d_Law_law_787 : decode code 787 = .ok (.iadd, 1) := by decide +kernel
theorem d_Law_law_788 : decode code 788 = .ok (.iaload, 1) := by decide +kernel
theorem d_Law_law_789 : decode code 789 = .ok (.invokevirtual 162, 3) := by decide +kernel
theorem d_Law_law_792 : decode code 792 = .ok (.istore 6, 2) := by decide +kernel
theorem d_Law_law_794 : decode code 794 = .ok (.goto 42, 3) := by decide +kernel
theorem d_Law_law_797 : decode code 797 = .ok (.aload_n 1, 1) := by decide +kernel
theorem d_Law_law_798 : decode code 798 = .ok (.invokevirtual 163, 3) := by decide +kernel
theorem d_Law_law_801 : decode code 801 = .ok (.pop, 1) := by decide +kernel
theorem d_Law_law_802 : decode code 802 = .ok (.aload_n 2, 1) := by decide +kernel
theorem d_Law_law_803 : decode code 803 = .ok (.invokevirtual 166, 3) := by decide +kernel
theorem d_Law_law_806 : decode code 806 = .ok (.pop, 1) := by decide +kernel
theorem d_Law_law_807 : decode code 807 = .ok (.goto 29, 3) := by decide +kernel
theorem d_Law_law_810 : decode code 810 = .ok (.aload_n 1, 1) := by decide +kernel
theorem d_Law_law_811 : decode code 811 = .ok (.invokevirtual 167, 3) := by decide +kernel
theorem d_Law_law_814 : decode code 814 = .ok (.pop, 1) := by decide +kernel
theorem d_Law_law_815 : decode code 815 = .ok (.aload_n 2, 1) := by decide +kernel
theorem d_Law_law_816 : decode code 816 = .ok (.invokevirtual 170, 3) := by decide +kernel
theorem d_Law_law_819 : decode code 819 = .ok (.pop, 1) := by decide +kernel
theorem d_Law_law_820 : decode code 820 = .ok (.goto 16, 3) := by decide +kernel
theorem d_Law_law_823 : decode code 823 = .ok (.aload_n 1, 1) := by decide +kernel
theorem d_Law_law_824 : decode code 824 = .ok (.invokevirtual 171, 3) := by decide +kernel
theorem d_Law_law_827 : decode code 827 = .ok (.pop, 1) := by decide +kernel
theorem d_Law_law_828 : decode code 828 = .ok (.aload_n 2, 1) := by decide +kernel
theorem d_Law_law_829 : decode code 829 = .ok (.invokevirtual 174, 3) := by decide +kernel
theorem d_Law_law_832 : decode code 832 = .ok (.pop, 1) := by decide +kernel
theorem d_Law_law_833 : decode code 833 = .ok (.goto 3, 3) := by decide +kernel
theorem d_Law_law_836 : decode code 836 = .ok (.iinc 4 4, 3) := by decide +kernel
theorem d_Law_law_839 : decode code 839 = .ok (.goto (-816), 3) := by decide +kernel
theorem d_Law_law_842 : decode code 842 = .ok (.iconst 1, 1) := by decide +kernel
theorem d_Law_law_843 : decode code 843 = .ok (.ireturn, 1) := by decide +kernel
