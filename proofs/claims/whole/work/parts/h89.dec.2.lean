theorem d_Law_law_572 : decode code 572 = .ok (.laload, 1) := by decide +kernel
theorem d_Law_law_573 : decode code 573 = .ok (.iload 6, 2) := by decide +kernel
theorem d_Law_law_575 : decode code 575 = .ok (.i2l, 1) := by decide +kernel
theorem d_Law_law_576 : decode code 576 = .ok (.lcmp, 1) := by decide +kernel
theorem d_Law_law_577 : decode code 577 = .ok (.ifCond .eq 5, 3) := by decide +kernel
theorem d_Law_law_582 : decode code 582 = .ok (.goto 681, 3) := by decide +kernel
theorem d_Law_law_585 : decode code 585 = .ok (.aload_n 1, 1) := by decide +kernel
theorem d_Law_law_586 : decode code 586 = .ok (.aload_n 3, 1) := by decide +kernel
theorem d_Law_law_587 : decode code 587 = .ok (.invokestatic 118, 3) := by decide +kernel
theorem d_Law_law_590 : decode code 590 = .ok (.istore 5, 2) := by decide +kernel
theorem d_Law_law_592 : decode code 592 = .ok (.aload_n 2, 1) := by decide +kernel
theorem d_Law_law_593 : decode code 593 = .ok (.invokevirtual 121, 3) := by decide +kernel
theorem d_Law_law_596 : decode code 596 = .ok (.istore 6, 2) := by decide +kernel
theorem d_Law_law_598 : decode code 598 = .ok (.aload_n 2, 1) := by decide +kernel
theorem d_Law_law_599 : decode code 599 = .ok (.invokevirtual 78, 3) := by decide +kernel
theorem d_Law_law_602 : decode code 602 = .ok (.iload 5, 2) := by decide +kernel
theorem d_Law_law_604 : decode code 604 = .ok (.if_icmp .eq 5, 3) := by decide +kernel
theorem d_Law_law_609 : decode code 609 = .ok (.iload 5, 2) := by decide +kernel
theorem d_Law_law_611 : decode code 611 = .ok (.ifCond .ne 15, 3) := by decide +kernel
theorem d_Law_law_614 : decode code 614 = .ok (.aload_n 3, 1) := by decide +kernel
theorem d_Law_law_615 : decode code 615 = .ok (.iconst 0, 1) := by decide +kernel
theorem d_Law_law_616 : decode code 616 = .ok (.laload, 1) := by decide +kernel
theorem d_Law_law_617 : decode code 617 = .ok (.iload 6, 2) := by decide +kernel
theorem d_Law_law_619 : decode code 619 = .ok (.i2l, 1) := by decide +kernel
theorem d_Law_law_620 : decode code 620 = .ok (.lcmp, 1) := by decide +kernel
theorem d_Law_law_621 : decode code 621 = .ok (.ifCond .eq 5, 3) := by decide +kernel
theorem d_Law_law_626 : decode code 626 = .ok (.goto 637, 3) := by decide +kernel
theorem d_Law_law_629 : decode code 629 = .ok (.aload_n 1, 1) := by decide +kernel
theorem d_Law_law_630 : decode code 630 = .ok (.aload_n 0, 1) := by decide +kernel
theorem d_Law_law_631 : decode code 631 = .ok (.iload 4, 2) := by decide +kernel
theorem d_Law_law_633 : decode code 633 = .ok (.iconst 1, 1) := by decide +kernel
theorem d_Law_law_634 : decode code 634 = .ok (.iadd, 1) := by decide +kernel
theorem d_Law_law_635 : decode code 635 = .ok (.iaload, 1) := by decide +kernel
theorem d_Law_law_636 : decode code 636 = .ok (.aload_n 0, 1) := by decide +kernel
theorem d_Law_law_637 : decode code 637 = .ok (.iload 4, 2) := by decide +kernel
theorem d_Law_law_639 : decode code 639 = .ok (.iconst 2, 1) := by decide +kernel
theorem d_Law_law_640 : decode code 640 = .ok (.iadd, 1) := by decide +kernel
theorem d_Law_law_641 : decode code 641 = .ok (.iaload, 1) := by decide +kernel
theorem d_Law_law_642 : decode code 642 = .ok (.aload_n 3, 1) := by decide +kernel
theorem d_Law_law_643 : decode code 643 = .ok (.invokestatic 122, 3) := by decide +kernel
theorem d_Law_law_646 : decode code 646 = .ok (.istore 5, 2) := by decide +kernel
theorem d_Law_law_648 : decode code 648 = .ok (.aload_n 2, 1) := by decide +kernel
theorem d_Law_law_649 : decode code 649 = .ok (.aload_n 0, 1) := by decide +kernel
theorem d_Law_law_650 : decode code 650 = .ok (.iload 4, 2) := by decide +kernel
theorem d_Law_law_652 : decode code 652 = .ok (.iconst 1, 1) := by decide +kernel
theorem d_Law_law_653 : decode code 653 = .ok (.iadd, 1) := by decide +kernel
theorem d_Law_law_654 : decode code 654 = .ok (.iaload, 1) := by decide +kernel
theorem d_Law_law_655 : decode code 655 = .ok (.aload_n 0, 1) := by decide +kernel
theorem d_Law_law_656 : decode code 656 = .ok (.iload 4, 2) := by decide +kernel
theorem d_Law_law_658 : decode code 658 = .ok (.iconst 2, 1) := by decide +kernel
theorem d_Law_law_659 : decode code 659 = .ok (.iadd, 1) := by decide +kernel
theorem d_Law_law_660 : decode code 660 = .ok (.iaload, 1) := by decide +kernel
theorem d_Law_law_661 : decode code 661 = .ok (.invokevirtual 124, 3) := by decide +kernel
theorem d_Law_law_664 : decode code 664 = .ok (.istore 6, 2) := by decide +kernel
theorem d_Law_law_666 : decode code 666 = .ok (.aload_n 2, 1) := by decide +kernel
theorem d_Law_law_667 : decode code 667 = .ok (.invokevirtual 78, 3) := by decide +kernel
theorem d_Law_law_670 : decode code 670 = .ok (.iload 5, 2) := by decide +kernel
theorem d_Law_law_672 : decode code 672 = .ok (.if_icmp .eq 5, 3) := by decide +kernel
theorem d_Law_law_677 : decode code 677 = .ok (.iload 5, 2) := by decide +kernel
theorem d_Law_law_679 : decode code 679 = .ok (.ifCond .ne 22, 3) := by decide +kernel
theorem d_Law_law_682 : decode code 682 = .ok (.aload_n 3, 1) := by decide +kernel
theorem d_Law_law_683 : decode code 683 = .ok (.iconst 0, 1) := by decide +kernel
theorem d_Law_law_684 : decode code 684 = .ok (.laload, 1) := by decide +kernel
theorem d_Law_law_685 : decode code 685 = .ok (.iload 6, 2) := by decide +kernel
theorem d_Law_law_687 : decode code 687 = .ok (.ifCond .eq 7, 3) := by decide +kernel
theorem d_Law_law_690 : decode code 690 = .ok (.lconst 1, 1) := by decide +kernel
theorem d_Law_law_691 : decode code 691 = .ok (.goto 4, 3) := by decide +kernel
theorem d_Law_law_694 : decode code 694 = .ok (.lconst 0, 1) := by decide +kernel
theorem d_Law_law_695 : decode code 695 = .ok (.lcmp, 1) := by decide +kernel
theorem d_Law_law_696 : decode code 696 = .ok (.ifCond .eq 5, 3) := by decide +kernel
theorem d_Law_law_701 : decode code 701 = .ok (.goto 562, 3) := by decide +kernel
theorem d_Law_law_704 : decode code 704 = .ok (.aload_n 1, 1) := by decide +kernel
theorem d_Law_law_705 : decode code 705 = .ok (.invokevirtual 125, 3) := by decide +kernel
theorem d_Law_law_708 : decode code 708 = .ok (.aload_n 2, 1) := by decide +kernel
theorem d_Law_law_709 : decode code 709 = .ok (.invokevirtual 128, 3) := by decide +kernel
theorem d_Law_law_712 : decode code 712 = .ok (.if_icmp .eq 551, 3) := by decide +kernel
theorem d_Law_law_717 : decode code 717 = .ok (.aload_n 1, 1) := by decide +kernel
theorem d_Law_law_718 : decode code 718 = .ok (.aload_n 0, 1) := by decide +kernel
theorem d_Law_law_719 : decode code 719 = .ok (.iload 4, 2) := by decide +kernel
theorem d_Law_law_721 : decode code 721 = .ok (.iconst 1, 1) := by decide +kernel
theorem d_Law_law_722 : decode code 722 = .ok (.iadd, 1) := by decide +kernel
theorem d_Law_law_723 : decode code 723 = .ok (.iaload, 1) := by decide +kernel
theorem d_Law_law_724 : decode code 724 = .ok (.aload_n 3, 1) := by decide +kernel
theorem d_Law_law_725 : decode code 725 = .ok (.invokestatic 129, 3) := by decide +kernel
theorem d_Law_law_728 : decode code 728 = .ok (.istore 5, 2) := by decide +kernel
theorem d_Law_law_730 : decode code 730 = .ok (.aload_n 2, 1) := by decide +kernel
theorem d_Law_law_731 : decode code 731 = .ok (.aload_n 0, 1) := by decide +kernel
theorem d_Law_law_732 : decode code 732 = .ok (.iload 4, 2) := by decide +kernel
theorem d_Law_law_734 : decode code 734 = .ok (.iconst 1, 1) := by decide +kernel
theorem d_Law_law_735 : decode code 735 = .ok (.iadd, 1) := by decide +kernel
theorem d_Law_law_736 : decode code 736 = .ok (.iaload, 1) := by decide +kernel
theorem d_Law_law_737 : decode code 737 = .ok (.invokevirtual 131, 3) := by decide +kernel
theorem d_Law_law_740 : decode code 740 = .ok (.istore 6, 2) := by decide +kernel
theorem d_Law_law_742 : decode code 742 = .ok (.aload_n 2, 1) := by decide +kernel
theorem d_Law_law_743 : decode code 743 = .ok (.invokevirtual 78, 3) := by decide +kernel
theorem d_Law_law_746 : decode code 746 = .ok (.iload 5, 2) := by decide +kernel
theorem d_Law_law_748 : decode code 748 = .ok (.if_icmp .eq 5, 3) := by decide +kernel
theorem d_Law_law_753 : decode code 753 = .ok (.iload 5, 2) := by decide +kernel
theorem d_Law_law_755 : decode code 755 = .ok (.ifCond .ne 22, 3) := by decide +kernel
theorem d_Law_law_758 : decode code 758 = .ok (.aload_n 3, 1) := by decide +kernel
theorem d_Law_law_759 : decode code 759 = .ok (.iconst 0, 1) := by decide +kernel
theorem d_Law_law_760 : decode code 760 = .ok (.laload, 1) := by decide +kernel
theorem d_Law_law_761 : decode code 761 = .ok (.iload 6, 2) := by decide +kernel
theorem d_Law_law_763 : decode code 763 = .ok (.ifCond .eq 7, 3) := by decide +kernel
theorem d_Law_law_766 : decode code 766 = .ok (.lconst 1, 1) := by decide +kernel
theorem d_Law_law_767 : decode code 767 = .ok (.goto 4, 3) := by decide +kernel
theorem d_Law_law_770 : decode code 770 = .ok (.lconst 0, 1) := by decide +kernel
theorem d_Law_law_771 : decode code 771 = .ok (.lcmp, 1) := by decide +kernel
theorem d_Law_law_772 : decode code 772 = .ok (.ifCond .eq 5, 3) := by decide +kernel
theorem d_Law_law_777 : decode code 777 = .ok (.goto 486, 3) := by decide +kernel
theorem d_Law_law_780 : decode code 780 = .ok (.aload_n 1, 1) := by decide +kernel
theorem d_Law_law_781 : decode code 781 = .ok (.invokevirtual 132, 3) := by decide +kernel
theorem d_Law_law_784 : decode code 784 = .ok (.aload_n 2, 1) := by decide +kernel
theorem d_Law_law_785 : decode code 785 = .ok (.invokevirtual 135, 3) := by decide +kernel
theorem d_Law_law_788 : decode code 788 = .ok (.if_icmp .eq 475, 3) := by decide +kernel
theorem d_Law_law_793 : decode code 793 = .ok (.aload_n 1, 1) := by decide +kernel
theorem d_Law_law_794 : decode code 794 = .ok (.invokevirtual 136, 3) := by decide +kernel
theorem d_Law_law_797 : decode code 797 = .ok (.aload_n 2, 1) := by decide +kernel
theorem d_Law_law_798 : decode code 798 = .ok (.invokevirtual 139, 3) := by decide +kernel
theorem d_Law_law_801 : decode code 801 = .ok (.if_icmp .eq 462, 3) := by decide +kernel
theorem d_Law_law_806 : decode code 806 = .ok (.aload_n 1, 1) := by decide +kernel
theorem d_Law_law_807 : decode code 807 = .ok (.aload_n 0, 1) := by decide +kernel
theorem d_Law_law_808 : decode code 808 = .ok (.iload 4, 2) := by decide +kernel
theorem d_Law_law_810 : decode code 810 = .ok (.iconst 1, 1) := by decide +kernel
theorem d_Law_law_811 : decode code 811 = .ok (.iadd, 1) := by decide +kernel
theorem d_Law_law_812 : decode code 812 = .ok (.iaload, 1) := by decide +kernel
theorem d_Law_law_813 : decode code 813 = .ok (.aload_n 3, 1) := by decide +kernel
theorem d_Law_law_814 : decode code 814 = .ok (.invokestatic 140, 3) := by decide +kernel
theorem d_Law_law_817 : decode code 817 = .ok (.istore 5, 2) := by decide +kernel
theorem d_Law_law_819 : decode code 819 = .ok (.aload_n 2, 1) := by decide +kernel
theorem d_Law_law_820 : decode code 820 = .ok (.aload_n 0, 1) := by decide +kernel
theorem d_Law_law_821 : decode code 821 = .ok (.iload 4, 2) := by decide +kernel
theorem d_Law_law_823 : decode code 823 = .ok (.iconst 1, 1) := by decide +kernel
theorem d_Law_law_824 : decode code 824 = .ok (.iadd, 1) := by decide +kernel
theorem d_Law_law_825 : decode code 825 = .ok (.iaload, 1) := by decide +kernel
theorem d_Law_law_826 : decode code 826 = .ok (.invokevirtual 142, 3) := by decide +kernel
theorem d_Law_law_829 : decode code 829 = .ok (.istore 6, 2) := by decide +kernel
theorem d_Law_law_831 : decode code 831 = .ok (.aload_n 2, 1) := by decide +kernel
theorem d_Law_law_832 : decode code 832 = .ok (.invokevirtual 78, 3) := by decide +kernel
theorem d_Law_law_835 : decode code 835 = .ok (.iload 5, 2) := by decide +kernel
theorem d_Law_law_837 : decode code 837 = .ok (.if_icmp .eq 5, 3) := by decide +kernel
theorem d_Law_law_842 : decode code 842 = .ok (.iload 5, 2) := by decide +kernel
theorem d_Law_law_844 : decode code 844 = .ok (.ifCond .ne 22, 3) := by decide +kernel
theorem d_Law_law_847 : decode code 847 = .ok (.aload_n 3, 1) := by decide +kernel
theorem d_Law_law_848 : decode code 848 = .ok (.iconst 0, 1) := by decide +kernel
theorem d_Law_law_849 : decode code 849 = .ok (.laload, 1) := by decide +kernel
theorem d_Law_law_850 : decode code 850 = .ok (.iload 6, 2) := by decide +kernel
theorem d_Law_law_852 : decode code 852 = .ok (.ifCond .eq 7, 3) := by decide +kernel
theorem d_Law_law_855 : decode code 855 = .ok (.lconst 1, 1) := by decide +kernel
theorem d_Law_law_856 : decode code 856 = .ok (.goto 4, 3) := by decide +kernel
theorem d_Law_law_859 : decode code 859 = .ok (.lconst 0, 1) := by decide +kernel
theorem d_Law_law_860 : decode code 860 = .ok (.lcmp, 1) := by decide +kernel
theorem d_Law_law_861 : decode code 861 = .ok (.ifCond .eq 5, 3) := by decide +kernel
theorem d_Law_law_866 : decode code 866 = .ok (.goto 397, 3) := by decide +kernel
theorem d_Law_law_869 : decode code 869 = .ok (.aload_n 1, 1) := by decide +kernel
theorem d_Law_law_870 : decode code 870 = .ok (.aload_n 0, 1) := by decide +kernel
theorem d_Law_law_871 : decode code 871 = .ok (.iload 4, 2) := by decide +kernel
theorem d_Law_law_873 : decode code 873 = .ok (.iconst 1, 1) := by decide +kernel
theorem d_Law_law_874 : decode code 874 = .ok (.iadd, 1) := by decide +kernel
theorem d_Law_law_875 : decode code 875 = .ok (.iaload, 1) := by decide +kernel
theorem d_Law_law_876 : decode code 876 = .ok (.aload_n 3, 1) := by decide +kernel
theorem d_Law_law_877 : decode code 877 = .ok (.invokestatic 143, 3) := by decide +kernel
theorem d_Law_law_880 : decode code 880 = .ok (.istore 5, 2) := by decide +kernel
theorem d_Law_law_882 : decode code 882 = .ok (.aload_n 2, 1) := by decide +kernel
theorem d_Law_law_883 : decode code 883 = .ok (.aload_n 0, 1) := by decide +kernel
theorem d_Law_law_884 : decode code 884 = .ok (.iload 4, 2) := by decide +kernel
theorem d_Law_law_886 : decode code 886 = .ok (.iconst 1, 1) := by decide +kernel
theorem d_Law_law_887 : decode code 887 = .ok (.iadd, 1) := by decide +kernel
theorem d_Law_law_888 : decode code 888 = .ok (.iaload, 1) := by decide +kernel
theorem d_Law_law_889 : decode code 889 = .ok (.invokevirtual 145, 3) := by decide +kernel
theorem d_Law_law_892 : decode code 892 = .ok (.istore 6, 2) := by decide +kernel
theorem d_Law_law_894 : decode code 894 = .ok (.aload_n 2, 1) := by decide +kernel
theorem d_Law_law_895 : decode code 895 = .ok (.invokevirtual 78, 3) := by decide +kernel
theorem d_Law_law_898 : decode code 898 = .ok (.iload 5, 2) := by decide +kernel
theorem d_Law_law_900 : decode code 900 = .ok (.if_icmp .eq 5, 3) := by decide +kernel
theorem d_Law_law_905 : decode code 905 = .ok (.iload 5, 2) := by decide +kernel
theorem d_Law_law_907 : decode code 907 = .ok (.ifCond .ne 22, 3) := by decide +kernel
theorem d_Law_law_910 : decode code 910 = .ok (.aload_n 3, 1) := by decide +kernel
theorem d_Law_law_911 : decode code 911 = .ok (.iconst 0, 1) := by decide +kernel
theorem d_Law_law_912 : decode code 912 = .ok (.laload, 1) := by decide +kernel
theorem d_Law_law_913 : decode code 913 = .ok (.iload 6, 2) := by decide +kernel
theorem d_Law_law_915 : decode code 915 = .ok (.ifCond .eq 7, 3) := by decide +kernel
theorem d_Law_law_918 : decode code 918 = .ok (.lconst 1, 1) := by decide +kernel
theorem d_Law_law_919 : decode code 919 = .ok (.goto 4, 3) := by decide +kernel
theorem d_Law_law_922 : decode code 922 = .ok (.lconst 0, 1) := by decide +kernel
theorem d_Law_law_923 : decode code 923 = .ok (.lcmp, 1) := by decide +kernel
theorem d_Law_law_924 : decode code 924 = .ok (.ifCond .eq 5, 3) := by decide +kernel
theorem d_Law_law_929 : decode code 929 = .ok (.goto 334, 3) := by decide +kernel
theorem d_Law_law_932 : decode code 932 = .ok (.aload_n 1, 1) := by decide +kernel
theorem d_Law_law_933 : decode code 933 = .ok (.invokevirtual 146, 3) := by decide +kernel
theorem d_Law_law_936 : decode code 936 = .ok (.aload_n 2, 1) := by decide +kernel
theorem d_Law_law_937 : decode code 937 = .ok (.invokevirtual 149, 3) := by decide +kernel
theorem d_Law_law_940 : decode code 940 = .ok (.if_icmp .eq 323, 3) := by decide +kernel
theorem d_Law_law_945 : decode code 945 = .ok (.aload_n 1, 1) := by decide +kernel
theorem d_Law_law_946 : decode code 946 = .ok (.aload_n 0, 1) := by decide +kernel
theorem d_Law_law_947 : decode code 947 = .ok (.iload 4, 2) := by decide +kernel
theorem d_Law_law_949 : decode code 949 = .ok (.iconst 1, 1) := by decide +kernel
theorem d_Law_law_950 : decode code 950 = .ok (.iadd, 1) := by decide +kernel
theorem d_Law_law_951 : decode code 951 = .ok (.iaload, 1) := by decide +kernel
theorem d_Law_law_952 : decode code 952 = .ok (.aload_n 3, 1) := by decide +kernel
theorem d_Law_law_953 : decode code 953 = .ok (.invokestatic 150, 3) := by decide +kernel
theorem d_Law_law_956 : decode code 956 = .ok (.istore 5, 2) := by decide +kernel
theorem d_Law_law_958 : decode code 958 = .ok (.aload_n 2, 1) := by decide +kernel
theorem d_Law_law_959 : decode code 959 = .ok (.aload_n 0, 1) := by decide +kernel
theorem d_Law_law_960 : decode code 960 = .ok (.iload 4, 2) := by decide +kernel
theorem d_Law_law_962 : decode code 962 = .ok (.iconst 1, 1) := by decide +kernel
theorem d_Law_law_963 : decode code 963 = .ok (.iadd, 1) := by decide +kernel
theorem d_Law_law_964 : decode code 964 = .ok (.iaload, 1) := by decide +kernel
theorem d_Law_law_965 : decode code 965 = .ok (.invokevirtual 152, 3) := by decide +kernel
theorem d_Law_law_968 : decode code 968 = .ok (.istore 6, 2) := by decide +kernel
theorem d_Law_law_970 : decode code 970 = .ok (.aload_n 2, 1) := by decide +kernel
theorem d_Law_law_971 : decode code 971 = .ok (.invokevirtual 78, 3) := by decide +kernel
theorem d_Law_law_974 : decode code 974 = .ok (.iload 5, 2) := by decide +kernel
theorem d_Law_law_976 : decode code 976 = .ok (.if_icmp .eq 5, 3) := by decide +kernel
theorem d_Law_law_981 : decode code 981 = .ok (.iload 5, 2) := by decide +kernel
theorem d_Law_law_983 : decode code 983 = .ok (.ifCond .ne 15, 3) := by decide +kernel
theorem d_Law_law_986 : decode code 986 = .ok (.aload_n 3, 1) := by decide +kernel
theorem d_Law_law_987 : decode code 987 = .ok (.iconst 0, 1) := by decide +kernel
theorem d_Law_law_988 : decode code 988 = .ok (.laload, 1) := by decide +kernel
theorem d_Law_law_989 : decode code 989 = .ok (.iload 6, 2) := by decide +kernel
theorem d_Law_law_991 : decode code 991 = .ok (.i2l, 1) := by decide +kernel
theorem d_Law_law_992 : decode code 992 = .ok (.lcmp, 1) := by decide +kernel
theorem d_Law_law_993 : decode code 993 = .ok (.ifCond .eq 5, 3) := by decide +kernel
theorem d_Law_law_998 : decode code 998 = .ok (.goto 265, 3) := by decide +kernel
theorem d_Law_law_1001 : decode code 1001 = .ok (.aload_n 1, 1) := by decide +kernel
theorem d_Law_law_1002 : decode code 1002 = .ok (.aload_n 0, 1) := by decide +kernel
theorem d_Law_law_1003 : decode code 1003 = .ok (.iload 4, 2) := by decide +kernel
theorem d_Law_law_1005 : decode code 1005 = .ok (.iconst 1, 1) := by decide +kernel
theorem d_Law_law_1006 : decode code 1006 = .ok (.iadd, 1) := by decide +kernel
theorem d_Law_law_1007 : decode code 1007 = .ok (.iaload, 1) := by decide +kernel
theorem d_Law_law_1008 : decode code 1008 = .ok (.aload_n 0, 1) := by decide +kernel
theorem d_Law_law_1009 : decode code 1009 = .ok (.iload 4, 2) := by decide +kernel
theorem d_Law_law_1011 : decode code 1011 = .ok (.iconst 2, 1) := by decide +kernel
theorem d_Law_law_1012 : decode code 1012 = .ok (.iadd, 1) := by decide +kernel
theorem d_Law_law_1013 : decode code 1013 = .ok (.iaload, 1) := by decide +kernel
theorem d_Law_law_1014 : decode code 1014 = .ok (.aload_n 0, 1) := by decide +kernel
theorem d_Law_law_1015 : decode code 1015 = .ok (.iload 4, 2) := by decide +kernel
theorem d_Law_law_1017 : decode code 1017 = .ok (.iconst 3, 1) := by decide +kernel
theorem d_Law_law_1018 : decode code 1018 = .ok (.iadd, 1) := by decide +kernel
theorem d_Law_law_1019 : decode code 1019 = .ok (.iaload, 1) := by decide +kernel
theorem d_Law_law_1020 : decode code 1020 = .ok (.aload_n 3, 1) := by decide +kernel
theorem d_Law_law_1021 : decode code 1021 = .ok (.invokestatic 153, 3) := by decide +kernel
theorem d_Law_law_1024 : decode code 1024 = .ok (.istore 5, 2) := by decide +kernel
theorem d_Law_law_1026 : decode code 1026 = .ok (.aload_n 2, 1) := by decide +kernel
theorem d_Law_law_1027 : decode code 1027 = .ok (.aload_n 0, 1) := by decide +kernel
theorem d_Law_law_1028 : decode code 1028 = .ok (.iload 4, 2) := by decide +kernel
theorem d_Law_law_1030 : decode code 1030 = .ok (.iconst 1, 1) := by decide +kernel
theorem d_Law_law_1031 : decode code 1031 = .ok (.iadd, 1) := by decide +kernel
theorem d_Law_law_1032 : decode code 1032 = .ok (.iaload, 1) := by decide +kernel
theorem d_Law_law_1033 : decode code 1033 = .ok (.aload_n 0, 1) := by decide +kernel
