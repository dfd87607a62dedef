theorem dL_isStruck_557 : decode cL_isStruck 557 = .ok (.iload 23, 2) := by decide +kernel
theorem dL_isStruck_559 : decode cL_isStruck 559 = .ok (.goto 5, 3) := by decide +kernel
theorem dL_isStruck_562 : decode cL_isStruck 562 = .ok (.ldc 90, 2) := by decide +kernel
theorem dL_isStruck_564 : decode cL_isStruck 564 = .ok (.if_icmp .ne 7, 3) := by decide +kernel
theorem dL_isStruck_567 : decode cL_isStruck 567 = .ok (.iconst 1, 1) := by decide +kernel
theorem dL_isStruck_568 : decode cL_isStruck 568 = .ok (.goto 4, 3) := by decide +kernel
theorem dL_isStruck_571 : decode cL_isStruck 571 = .ok (.iconst 0, 1) := by decide +kernel
theorem dL_isStruck_572 : decode cL_isStruck 572 = .ok (.ireturn, 1) := by decide +kernel
theorem dL_isStruck_573 : decode cL_isStruck 573 = .ok (.iload 11, 2) := by decide +kernel
theorem dL_isStruck_575 : decode cL_isStruck 575 = .ok (.iconst 2, 1) := by decide +kernel
theorem dL_isStruck_576 : decode cL_isStruck 576 = .ok (.if_icmp .ne 68, 3) := by decide +kernel
theorem dL_isStruck_579 : decode cL_isStruck 579 = .ok (.iload 12, 2) := by decide +kernel
theorem dL_isStruck_581 : decode cL_isStruck 581 = .ok (.bipush 22, 2) := by decide +kernel
theorem dL_isStruck_583 : decode cL_isStruck 583 = .ok (.irem, 1) := by decide +kernel
theorem dL_isStruck_584 : decode cL_isStruck 584 = .ok (.istore 19, 2) := by decide +kernel
theorem dL_isStruck_586 : decode cL_isStruck 586 = .ok (.aload 10, 2) := by decide +kernel
theorem dL_isStruck_588 : decode cL_isStruck 588 = .ok (.iconst 3, 1) := by decide +kernel
theorem dL_isStruck_589 : decode cL_isStruck 589 = .ok (.iaload, 1) := by decide +kernel
theorem dL_isStruck_590 : decode cL_isStruck 590 = .ok (.istore 20, 2) := by decide +kernel
theorem dL_isStruck_592 : decode cL_isStruck 592 = .ok (.aload 10, 2) := by decide +kernel
theorem dL_isStruck_594 : decode cL_isStruck 594 = .ok (.iconst 3, 1) := by decide +kernel
theorem dL_isStruck_595 : decode cL_isStruck 595 = .ok (.iload 19, 2) := by decide +kernel
theorem dL_isStruck_597 : decode cL_isStruck 597 = .ok (.bipush 21, 2) := by decide +kernel
theorem dL_isStruck_599 : decode cL_isStruck 599 = .ok (.if_icmp .ge 8, 3) := by decide +kernel
theorem dL_isStruck_602 : decode cL_isStruck 602 = .ok (.iload 19, 2) := by decide +kernel
theorem dL_isStruck_604 : decode cL_isStruck 604 = .ok (.goto 5, 3) := by decide +kernel
theorem dL_isStruck_607 : decode cL_isStruck 607 = .ok (.iload 20, 2) := by decide +kernel
theorem dL_isStruck_609 : decode cL_isStruck 609 = .ok (.iastore, 1) := by decide +kernel
theorem dL_isStruck_610 : decode cL_isStruck 610 = .ok (.aload_n 0, 1) := by decide +kernel
theorem dL_isStruck_611 : decode cL_isStruck 611 = .ok (.bipush 10, 2) := by decide +kernel
theorem dL_isStruck_613 : decode cL_isStruck 613 = .ok (.iload 19, 2) := by decide +kernel
theorem dL_isStruck_615 : decode cL_isStruck 615 = .ok (.iconst 0, 1) := by decide +kernel
theorem dL_isStruck_616 : decode cL_isStruck 616 = .ok (.iconst 0, 1) := by decide +kernel
theorem dL_isStruck_617 : decode cL_isStruck 617 = .ok (.iconst 0, 1) := by decide +kernel
theorem dL_isStruck_618 : decode cL_isStruck 618 = .ok (.invokestatic 161, 3) := by decide +kernel
theorem dL_isStruck_621 : decode cL_isStruck 621 = .ok (.iload 19, 2) := by decide +kernel
theorem dL_isStruck_623 : decode cL_isStruck 623 = .ok (.bipush 21, 2) := by decide +kernel
theorem dL_isStruck_625 : decode cL_isStruck 625 = .ok (.if_icmp .ne 8, 3) := by decide +kernel
theorem dL_isStruck_628 : decode cL_isStruck 628 = .ok (.ldc 87, 2) := by decide +kernel
theorem dL_isStruck_630 : decode cL_isStruck 630 = .ok (.goto 5, 3) := by decide +kernel
theorem dL_isStruck_633 : decode cL_isStruck 633 = .ok (.iload 20, 2) := by decide +kernel
theorem dL_isStruck_635 : decode cL_isStruck 635 = .ok (.if_icmp .ne 7, 3) := by decide +kernel
theorem dL_isStruck_638 : decode cL_isStruck 638 = .ok (.iconst 1, 1) := by decide +kernel
theorem dL_isStruck_639 : decode cL_isStruck 639 = .ok (.goto 4, 3) := by decide +kernel
theorem dL_isStruck_642 : decode cL_isStruck 642 = .ok (.iconst 0, 1) := by decide +kernel
theorem dL_isStruck_643 : decode cL_isStruck 643 = .ok (.ireturn, 1) := by decide +kernel
theorem dL_isStruck_644 : decode cL_isStruck 644 = .ok (.iload 11, 2) := by decide +kernel
theorem dL_isStruck_646 : decode cL_isStruck 646 = .ok (.iconst 3, 1) := by decide +kernel
theorem dL_isStruck_647 : decode cL_isStruck 647 = .ok (.if_icmp .ne 104, 3) := by decide +kernel
theorem dL_isStruck_650 : decode cL_isStruck 650 = .ok (.iload 15, 2) := by decide +kernel
theorem dL_isStruck_652 : decode cL_isStruck 652 = .ok (.ifCond .eq 22, 3) := by decide +kernel
theorem dL_isStruck_655 : decode cL_isStruck 655 = .ok (.aload_n 1, 1) := by decide +kernel
theorem dL_isStruck_656 : decode cL_isStruck 656 = .ok (.aload_n 2, 1) := by decide +kernel
theorem dL_isStruck_657 : decode cL_isStruck 657 = .ok (.aload_n 3, 1) := by decide +kernel
theorem dL_isStruck_658 : decode cL_isStruck 658 = .ok (.aload 4, 2) := by decide +kernel
theorem dL_isStruck_660 : decode cL_isStruck 660 = .ok (.aload 5, 2) := by decide +kernel
theorem dL_isStruck_662 : decode cL_isStruck 662 = .ok (.aload 9, 2) := by decide +kernel
theorem dL_isStruck_664 : decode cL_isStruck 664 = .ok (.aload 10, 2) := by decide +kernel
theorem dL_isStruck_666 : decode cL_isStruck 666 = .ok (.iload 14, 2) := by decide +kernel
theorem dL_isStruck_668 : decode cL_isStruck 668 = .ok (.invokestatic 158, 3) := by decide +kernel
theorem dL_isStruck_671 : decode cL_isStruck 671 = .ok (.goto 4, 3) := by decide +kernel
theorem dL_isStruck_674 : decode cL_isStruck 674 = .ok (.iconst 0, 1) := by decide +kernel
theorem dL_isStruck_675 : decode cL_isStruck 675 = .ok (.istore 19, 2) := by decide +kernel
theorem dL_isStruck_677 : decode cL_isStruck 677 = .ok (.iload 15, 2) := by decide +kernel
theorem dL_isStruck_679 : decode cL_isStruck 679 = .ok (.ifCond .eq 30, 3) := by decide +kernel
theorem dL_isStruck_682 : decode cL_isStruck 682 = .ok (.iload 19, 2) := by decide +kernel
theorem dL_isStruck_684 : decode cL_isStruck 684 = .ok (.ifCond .ne 25, 3) := by decide +kernel
theorem dL_isStruck_687 : decode cL_isStruck 687 = .ok (.aload_n 1, 1) := by decide +kernel
theorem dL_isStruck_688 : decode cL_isStruck 688 = .ok (.aload_n 2, 1) := by decide +kernel
theorem dL_isStruck_689 : decode cL_isStruck 689 = .ok (.aload_n 3, 1) := by decide +kernel
theorem dL_isStruck_690 : decode cL_isStruck 690 = .ok (.aload 4, 2) := by decide +kernel
theorem dL_isStruck_692 : decode cL_isStruck 692 = .ok (.aload 5, 2) := by decide +kernel
theorem dL_isStruck_694 : decode cL_isStruck 694 = .ok (.aload 6, 2) := by decide +kernel
theorem dL_isStruck_696 : decode cL_isStruck 696 = .ok (.aload 7, 2) := by decide +kernel
theorem dL_isStruck_698 : decode cL_isStruck 698 = .ok (.aload 8, 2) := by decide +kernel
theorem dL_isStruck_700 : decode cL_isStruck 700 = .ok (.aload 9, 2) := by decide +kernel
theorem dL_isStruck_702 : decode cL_isStruck 702 = .ok (.aload 10, 2) := by decide +kernel
theorem dL_isStruck_704 : decode cL_isStruck 704 = .ok (.iload 14, 2) := by decide +kernel
theorem dL_isStruck_706 : decode cL_isStruck 706 = .ok (.invokestatic 168, 3) := by decide +kernel
theorem dL_isStruck_709 : decode cL_isStruck 709 = .ok (.aload_n 0, 1) := by decide +kernel
theorem dL_isStruck_710 : decode cL_isStruck 710 = .ok (.bipush 11, 2) := by decide +kernel
theorem dL_isStruck_712 : decode cL_isStruck 712 = .ok (.iload 14, 2) := by decide +kernel
theorem dL_isStruck_714 : decode cL_isStruck 714 = .ok (.iconst 0, 1) := by decide +kernel
theorem dL_isStruck_715 : decode cL_isStruck 715 = .ok (.iconst 0, 1) := by decide +kernel
theorem dL_isStruck_716 : decode cL_isStruck 716 = .ok (.iconst 0, 1) := by decide +kernel
theorem dL_isStruck_717 : decode cL_isStruck 717 = .ok (.invokestatic 161, 3) := by decide +kernel
theorem dL_isStruck_720 : decode cL_isStruck 720 = .ok (.iload 15, 2) := by decide +kernel
theorem dL_isStruck_722 : decode cL_isStruck 722 = .ok (.ifCond .ne 8, 3) := by decide +kernel
theorem dL_isStruck_725 : decode cL_isStruck 725 = .ok (.ldc 84, 2) := by decide +kernel
theorem dL_isStruck_727 : decode cL_isStruck 727 = .ok (.goto 15, 3) := by decide +kernel
theorem dL_isStruck_730 : decode cL_isStruck 730 = .ok (.iload 19, 2) := by decide +kernel
theorem dL_isStruck_732 : decode cL_isStruck 732 = .ok (.ifCond .le 8, 3) := by decide +kernel
theorem dL_isStruck_735 : decode cL_isStruck 735 = .ok (.ldc 90, 2) := by decide +kernel
theorem dL_isStruck_737 : decode cL_isStruck 737 = .ok (.goto 5, 3) := by decide +kernel
theorem dL_isStruck_740 : decode cL_isStruck 740 = .ok (.iload 17, 2) := by decide +kernel
theorem dL_isStruck_742 : decode cL_isStruck 742 = .ok (.if_icmp .ne 7, 3) := by decide +kernel
theorem dL_isStruck_745 : decode cL_isStruck 745 = .ok (.iconst 1, 1) := by decide +kernel
theorem dL_isStruck_746 : decode cL_isStruck 746 = .ok (.goto 4, 3) := by decide +kernel
theorem dL_isStruck_749 : decode cL_isStruck 749 = .ok (.iconst 0, 1) := by decide +kernel
theorem dL_isStruck_750 : decode cL_isStruck 750 = .ok (.ireturn, 1) := by decide +kernel
theorem dL_isStruck_751 : decode cL_isStruck 751 = .ok (.iload 11, 2) := by decide +kernel
theorem dL_isStruck_753 : decode cL_isStruck 753 = .ok (.iconst 4, 1) := by decide +kernel
theorem dL_isStruck_754 : decode cL_isStruck 754 = .ok (.if_icmp .ne 162, 3) := by decide +kernel
theorem dL_isStruck_757 : decode cL_isStruck 757 = .ok (.iload 13, 2) := by decide +kernel
theorem dL_isStruck_759 : decode cL_isStruck 759 = .ok (.bipush 9, 2) := by decide +kernel
theorem dL_isStruck_761 : decode cL_isStruck 761 = .ok (.irem, 1) := by decide +kernel
theorem dL_isStruck_762 : decode cL_isStruck 762 = .ok (.ifCond .ne 20, 3) := by decide +kernel
theorem dL_isStruck_765 : decode cL_isStruck 765 = .ok (.iload 13, 2) := by decide +kernel
theorem dL_isStruck_767 : decode cL_isStruck 767 = .ok (.bipush 9, 2) := by decide +kernel
theorem dL_isStruck_769 : decode cL_isStruck 769 = .ok (.idiv, 1) := by decide +kernel
theorem dL_isStruck_770 : decode cL_isStruck 770 = .ok (.iconst 2, 1) := by decide +kernel
theorem dL_isStruck_771 : decode cL_isStruck 771 = .ok (.irem, 1) := by decide +kernel
theorem dL_isStruck_772 : decode cL_isStruck 772 = .ok (.sipush 200, 3) := by decide +kernel
theorem dL_isStruck_775 : decode cL_isStruck 775 = .ok (.imul, 1) := by decide +kernel
theorem dL_isStruck_776 : decode cL_isStruck 776 = .ok (.bipush 100, 2) := by decide +kernel
theorem dL_isStruck_778 : decode cL_isStruck 778 = .ok (.isub, 1) := by decide +kernel
theorem dL_isStruck_779 : decode cL_isStruck 779 = .ok (.goto 10, 3) := by decide +kernel
theorem dL_isStruck_782 : decode cL_isStruck 782 = .ok (.iload 13, 2) := by decide +kernel
theorem dL_isStruck_784 : decode cL_isStruck 784 = .ok (.bipush 9, 2) := by decide +kernel
theorem dL_isStruck_786 : decode cL_isStruck 786 = .ok (.irem, 1) := by decide +kernel
theorem dL_isStruck_787 : decode cL_isStruck 787 = .ok (.iconst 4, 1) := by decide +kernel
theorem dL_isStruck_788 : decode cL_isStruck 788 = .ok (.isub, 1) := by decide +kernel
theorem dL_isStruck_789 : decode cL_isStruck 789 = .ok (.istore 19, 2) := by decide +kernel
theorem dL_isStruck_791 : decode cL_isStruck 791 = .ok (.iload 19, 2) := by decide +kernel
theorem dL_isStruck_793 : decode cL_isStruck 793 = .ok (.bipush (-100), 2) := by decide +kernel
theorem dL_isStruck_795 : decode cL_isStruck 795 = .ok (.if_icmp .le 14, 3) := by decide +kernel
theorem dL_isStruck_798 : decode cL_isStruck 798 = .ok (.iload 19, 2) := by decide +kernel
theorem dL_isStruck_800 : decode cL_isStruck 800 = .ok (.bipush 100, 2) := by decide +kernel
theorem dL_isStruck_802 : decode cL_isStruck 802 = .ok (.if_icmp .ge 7, 3) := by decide +kernel
theorem dL_isStruck_805 : decode cL_isStruck 805 = .ok (.iconst 1, 1) := by decide +kernel
theorem dL_isStruck_806 : decode cL_isStruck 806 = .ok (.goto 4, 3) := by decide +kernel
theorem dL_isStruck_809 : decode cL_isStruck 809 = .ok (.iconst 0, 1) := by decide +kernel
theorem dL_isStruck_810 : decode cL_isStruck 810 = .ok (.istore 20, 2) := by decide +kernel
theorem dL_isStruck_812 : decode cL_isStruck 812 = .ok (.iload 15, 2) := by decide +kernel
theorem dL_isStruck_814 : decode cL_isStruck 814 = .ok (.ifCond .eq 17, 3) := by decide +kernel
theorem dL_isStruck_817 : decode cL_isStruck 817 = .ok (.iload 20, 2) := by decide +kernel
theorem dL_isStruck_819 : decode cL_isStruck 819 = .ok (.ifCond .eq 12, 3) := by decide +kernel
theorem dL_isStruck_822 : decode cL_isStruck 822 = .ok (.iload 17, 2) := by decide +kernel
theorem dL_isStruck_824 : decode cL_isStruck 824 = .ok (.ifCond .le 7, 3) := by decide +kernel
theorem dL_isStruck_827 : decode cL_isStruck 827 = .ok (.iconst 1, 1) := by decide +kernel
theorem dL_isStruck_828 : decode cL_isStruck 828 = .ok (.goto 4, 3) := by decide +kernel
theorem dL_isStruck_831 : decode cL_isStruck 831 = .ok (.iconst 0, 1) := by decide +kernel
theorem dL_isStruck_832 : decode cL_isStruck 832 = .ok (.istore 21, 2) := by decide +kernel
theorem dL_isStruck_834 : decode cL_isStruck 834 = .ok (.aload 9, 2) := by decide +kernel
theorem dL_isStruck_836 : decode cL_isStruck 836 = .ok (.iload 21, 2) := by decide +kernel
theorem dL_isStruck_838 : decode cL_isStruck 838 = .ok (.ifCond .eq 11, 3) := by decide +kernel
theorem dL_isStruck_841 : decode cL_isStruck 841 = .ok (.bipush 54, 2) := by decide +kernel
theorem dL_isStruck_843 : decode cL_isStruck 843 = .ok (.iload 14, 2) := by decide +kernel
theorem dL_isStruck_845 : decode cL_isStruck 845 = .ok (.iadd, 1) := by decide +kernel
theorem dL_isStruck_846 : decode cL_isStruck 846 = .ok (.goto 5, 3) := by decide +kernel
theorem dL_isStruck_849 : decode cL_isStruck 849 = .ok (.bipush 57, 2) := by decide +kernel
theorem dL_isStruck_851 : decode cL_isStruck 851 = .ok (.dup2, 1) := by decide +kernel
theorem dL_isStruck_852 : decode cL_isStruck 852 = .ok (.iaload, 1) := by decide +kernel
theorem dL_isStruck_853 : decode cL_isStruck 853 = .ok (.iload 19, 2) := by decide +kernel
theorem dL_isStruck_855 : decode cL_isStruck 855 = .ok (.iadd, 1) := by decide +kernel
theorem dL_isStruck_856 : decode cL_isStruck 856 = .ok (.iastore, 1) := by decide +kernel
theorem dL_isStruck_857 : decode cL_isStruck 857 = .ok (.aload_n 0, 1) := by decide +kernel
theorem dL_isStruck_858 : decode cL_isStruck 858 = .ok (.bipush 12, 2) := by decide +kernel
theorem dL_isStruck_860 : decode cL_isStruck 860 = .ok (.iload 14, 2) := by decide +kernel
theorem dL_isStruck_862 : decode cL_isStruck 862 = .ok (.iload 19, 2) := by decide +kernel
theorem dL_isStruck_864 : decode cL_isStruck 864 = .ok (.iconst 0, 1) := by decide +kernel
theorem dL_isStruck_865 : decode cL_isStruck 865 = .ok (.iconst 0, 1) := by decide +kernel
theorem dL_isStruck_866 : decode cL_isStruck 866 = .ok (.invokestatic 161, 3) := by decide +kernel
theorem dL_isStruck_869 : decode cL_isStruck 869 = .ok (.iload 15, 2) := by decide +kernel
theorem dL_isStruck_871 : decode cL_isStruck 871 = .ok (.ifCond .ne 8, 3) := by decide +kernel
theorem dL_isStruck_874 : decode cL_isStruck 874 = .ok (.ldc 84, 2) := by decide +kernel
theorem dL_isStruck_876 : decode cL_isStruck 876 = .ok (.goto 31, 3) := by decide +kernel
theorem dL_isStruck_879 : decode cL_isStruck 879 = .ok (.iload 20, 2) := by decide +kernel
theorem dL_isStruck_881 : decode cL_isStruck 881 = .ok (.ifCond .ne 8, 3) := by decide +kernel
theorem dL_isStruck_884 : decode cL_isStruck 884 = .ok (.ldc 87, 2) := by decide +kernel
theorem dL_isStruck_886 : decode cL_isStruck 886 = .ok (.goto 21, 3) := by decide +kernel
theorem dL_isStruck_889 : decode cL_isStruck 889 = .ok (.iload 21, 2) := by decide +kernel
theorem dL_isStruck_891 : decode cL_isStruck 891 = .ok (.ifCond .eq 14, 3) := by decide +kernel
theorem dL_isStruck_894 : decode cL_isStruck 894 = .ok (.aload 9, 2) := by decide +kernel
theorem dL_isStruck_896 : decode cL_isStruck 896 = .ok (.bipush 54, 2) := by decide +kernel
theorem dL_isStruck_898 : decode cL_isStruck 898 = .ok (.iload 14, 2) := by decide +kernel
theorem dL_isStruck_900 : decode cL_isStruck 900 = .ok (.iadd, 1) := by decide +kernel
theorem dL_isStruck_901 : decode cL_isStruck 901 = .ok (.iaload, 1) := by decide +kernel
theorem dL_isStruck_902 : decode cL_isStruck 902 = .ok (.goto 5, 3) := by decide +kernel
theorem dL_isStruck_905 : decode cL_isStruck 905 = .ok (.ldc 90, 2) := by decide +kernel
theorem dL_isStruck_907 : decode cL_isStruck 907 = .ok (.if_icmp .ne 7, 3) := by decide +kernel
theorem dL_isStruck_910 : decode cL_isStruck 910 = .ok (.iconst 1, 1) := by decide +kernel
theorem dL_isStruck_911 : decode cL_isStruck 911 = .ok (.goto 4, 3) := by decide +kernel
theorem dL_isStruck_914 : decode cL_isStruck 914 = .ok (.iconst 0, 1) := by decide +kernel
theorem dL_isStruck_915 : decode cL_isStruck 915 = .ok (.ireturn, 1) := by decide +kernel
theorem dL_isStruck_916 : decode cL_isStruck 916 = .ok (.iload 11, 2) := by decide +kernel
theorem dL_isStruck_918 : decode cL_isStruck 918 = .ok (.iconst 5, 1) := by decide +kernel
theorem dL_isStruck_919 : decode cL_isStruck 919 = .ok (.if_icmp .ne 73, 3) := by decide +kernel
theorem dL_isStruck_922 : decode cL_isStruck 922 = .ok (.iload 15, 2) := by decide +kernel
theorem dL_isStruck_924 : decode cL_isStruck 924 = .ok (.ifCond .eq 14, 3) := by decide +kernel
theorem dL_isStruck_927 : decode cL_isStruck 927 = .ok (.aload 9, 2) := by decide +kernel
theorem dL_isStruck_929 : decode cL_isStruck 929 = .ok (.bipush 54, 2) := by decide +kernel
theorem dL_isStruck_931 : decode cL_isStruck 931 = .ok (.iload 14, 2) := by decide +kernel
theorem dL_isStruck_933 : decode cL_isStruck 933 = .ok (.iadd, 1) := by decide +kernel
theorem dL_isStruck_934 : decode cL_isStruck 934 = .ok (.iaload, 1) := by decide +kernel
theorem dL_isStruck_935 : decode cL_isStruck 935 = .ok (.goto 4, 3) := by decide +kernel
theorem dL_isStruck_938 : decode cL_isStruck 938 = .ok (.iconst 0, 1) := by decide +kernel
theorem dL_isStruck_939 : decode cL_isStruck 939 = .ok (.istore 19, 2) := by decide +kernel
theorem dL_isStruck_941 : decode cL_isStruck 941 = .ok (.aload 9, 2) := by decide +kernel
theorem dL_isStruck_943 : decode cL_isStruck 943 = .ok (.iload 15, 2) := by decide +kernel
theorem dL_isStruck_945 : decode cL_isStruck 945 = .ok (.ifCond .eq 11, 3) := by decide +kernel
theorem dL_isStruck_948 : decode cL_isStruck 948 = .ok (.bipush 54, 2) := by decide +kernel
theorem dL_isStruck_950 : decode cL_isStruck 950 = .ok (.iload 14, 2) := by decide +kernel
theorem dL_isStruck_952 : decode cL_isStruck 952 = .ok (.iadd, 1) := by decide +kernel
theorem dL_isStruck_953 : decode cL_isStruck 953 = .ok (.goto 5, 3) := by decide +kernel
theorem dL_isStruck_956 : decode cL_isStruck 956 = .ok (.bipush 57, 2) := by decide +kernel
theorem dL_isStruck_958 : decode cL_isStruck 958 = .ok (.iconst 0, 1) := by decide +kernel
theorem dL_isStruck_959 : decode cL_isStruck 959 = .ok (.iastore, 1) := by decide +kernel
theorem dL_isStruck_960 : decode cL_isStruck 960 = .ok (.aload_n 0, 1) := by decide +kernel
theorem dL_isStruck_961 : decode cL_isStruck 961 = .ok (.bipush 13, 2) := by decide +kernel
theorem dL_isStruck_963 : decode cL_isStruck 963 = .ok (.iload 14, 2) := by decide +kernel
theorem dL_isStruck_965 : decode cL_isStruck 965 = .ok (.iconst 0, 1) := by decide +kernel
theorem dL_isStruck_966 : decode cL_isStruck 966 = .ok (.iconst 0, 1) := by decide +kernel
theorem dL_isStruck_967 : decode cL_isStruck 967 = .ok (.iconst 0, 1) := by decide +kernel
theorem dL_isStruck_968 : decode cL_isStruck 968 = .ok (.invokestatic 161, 3) := by decide +kernel
theorem dL_isStruck_971 : decode cL_isStruck 971 = .ok (.iload 15, 2) := by decide +kernel
theorem dL_isStruck_973 : decode cL_isStruck 973 = .ok (.ifCond .eq 8, 3) := by decide +kernel
theorem dL_isStruck_976 : decode cL_isStruck 976 = .ok (.iload 19, 2) := by decide +kernel
theorem dL_isStruck_978 : decode cL_isStruck 978 = .ok (.goto 5, 3) := by decide +kernel
theorem dL_isStruck_981 : decode cL_isStruck 981 = .ok (.ldc 84, 2) := by decide +kernel
theorem dL_isStruck_983 : decode cL_isStruck 983 = .ok (.if_icmp .ne 7, 3) := by decide +kernel
theorem dL_isStruck_986 : decode cL_isStruck 986 = .ok (.iconst 1, 1) := by decide +kernel
theorem dL_isStruck_987 : decode cL_isStruck 987 = .ok (.goto 4, 3) := by decide +kernel
theorem dL_isStruck_990 : decode cL_isStruck 990 = .ok (.iconst 0, 1) := by decide +kernel
theorem dL_isStruck_991 : decode cL_isStruck 991 = .ok (.ireturn, 1) := by decide +kernel
theorem dL_isStruck_992 : decode cL_isStruck 992 = .ok (.iload 11, 2) := by decide +kernel
theorem dL_isStruck_994 : decode cL_isStruck 994 = .ok (.bipush 6, 2) := by decide +kernel
theorem dL_isStruck_996 : decode cL_isStruck 996 = .ok (.if_icmp .ne 132, 3) := by decide +kernel
theorem dL_isStruck_999 : decode cL_isStruck 999 = .ok (.iload 15, 2) := by decide +kernel
theorem dL_isStruck_1001 : decode cL_isStruck 1001 = .ok (.ifCond .eq 14, 3) := by decide +kernel
theorem dL_isStruck_1004 : decode cL_isStruck 1004 = .ok (.iload 18, 2) := by decide +kernel
theorem dL_isStruck_1006 : decode cL_isStruck 1006 = .ok (.iload 16, 2) := by decide +kernel
theorem dL_isStruck_1008 : decode cL_isStruck 1008 = .ok (.if_icmp .ge 7, 3) := by decide +kernel
theorem dL_isStruck_1011 : decode cL_isStruck 1011 = .ok (.iconst 1, 1) := by decide +kernel
theorem dL_isStruck_1012 : decode cL_isStruck 1012 = .ok (.goto 4, 3) := by decide +kernel
theorem dL_isStruck_1015 : decode cL_isStruck 1015 = .ok (.iconst 0, 1) := by decide +kernel
theorem dL_isStruck_1016 : decode cL_isStruck 1016 = .ok (.istore 19, 2) := by decide +kernel
theorem dL_isStruck_1018 : decode cL_isStruck 1018 = .ok (.iload 19, 2) := by decide +kernel
theorem dL_isStruck_1020 : decode cL_isStruck 1020 = .ok (.ifCond .eq 24, 3) := by decide +kernel
theorem dL_isStruck_1023 : decode cL_isStruck 1023 = .ok (.iload 18, 2) := by decide +kernel
theorem dL_isStruck_1025 : decode cL_isStruck 1025 = .ok (.iload 17, 2) := by decide +kernel
theorem dL_isStruck_1027 : decode cL_isStruck 1027 = .ok (.if_icmp .ge 17, 3) := by decide +kernel
theorem dL_isStruck_1030 : decode cL_isStruck 1030 = .ok (.aload 10, 2) := by decide +kernel
theorem dL_isStruck_1032 : decode cL_isStruck 1032 = .ok (.iload 14, 2) := by decide +kernel
theorem dL_isStruck_1034 : decode cL_isStruck 1034 = .ok (.invokestatic 172, 3) := by decide +kernel
theorem dL_isStruck_1037 : decode cL_isStruck 1037 = .ok (.ifCond .ge 7, 3) := by decide +kernel
theorem dL_isStruck_1040 : decode cL_isStruck 1040 = .ok (.iconst 1, 1) := by decide +kernel
theorem dL_isStruck_1041 : decode cL_isStruck 1041 = .ok (.goto 4, 3) := by decide +kernel
theorem dL_isStruck_1044 : decode cL_isStruck 1044 = .ok (.iconst 0, 1) := by decide +kernel
theorem dL_isStruck_1045 : decode cL_isStruck 1045 = .ok (.istore 20, 2) := by decide +kernel
theorem dL_isStruck_1047 : decode cL_isStruck 1047 = .ok (.aload 5, 2) := by decide +kernel
theorem dL_isStruck_1049 : decode cL_isStruck 1049 = .ok (.iload 20, 2) := by decide +kernel
theorem dL_isStruck_1051 : decode cL_isStruck 1051 = .ok (.ifCond .eq 8, 3) := by decide +kernel
theorem dL_isStruck_1054 : decode cL_isStruck 1054 = .ok (.iload 14, 2) := by decide +kernel
theorem dL_isStruck_1056 : decode cL_isStruck 1056 = .ok (.goto 4, 3) := by decide +kernel
theorem dL_isStruck_1059 : decode cL_isStruck 1059 = .ok (.iconst 3, 1) := by decide +kernel
theorem dL_isStruck_1060 : decode cL_isStruck 1060 = .ok (.dup2, 1) := by decide +kernel
theorem dL_isStruck_1061 : decode cL_isStruck 1061 = .ok (.iaload, 1) := by decide +kernel
theorem dL_isStruck_1062 : decode cL_isStruck 1062 = .ok (.iload 20, 2) := by decide +kernel
theorem dL_isStruck_1064 : decode cL_isStruck 1064 = .ok (.ifCond .eq 15, 3) := by decide +kernel
theorem dL_isStruck_1067 : decode cL_isStruck 1067 = .ok (.sipush 8192, 3) := by decide +kernel
theorem dL_isStruck_1070 : decode cL_isStruck 1070 = .ok (.iload 17, 2) := by decide +kernel
theorem dL_isStruck_1072 : decode cL_isStruck 1072 = .ok (.iload 18, 2) := by decide +kernel
theorem dL_isStruck_1074 : decode cL_isStruck 1074 = .ok (.isub, 1) := by decide +kernel
theorem dL_isStruck_1075 : decode cL_isStruck 1075 = .ok (.imul, 1) := by decide +kernel
theorem dL_isStruck_1076 : decode cL_isStruck 1076 = .ok (.goto 4, 3) := by decide +kernel
theorem dL_isStruck_1079 : decode cL_isStruck 1079 = .ok (.iconst 0, 1) := by decide +kernel
theorem dL_isStruck_1080 : decode cL_isStruck 1080 = .ok (.isub, 1) := by decide +kernel
theorem dL_isStruck_1081 : decode cL_isStruck 1081 = .ok (.iastore, 1) := by decide +kernel
theorem dL_isStruck_1082 : decode cL_isStruck 1082 = .ok (.aload_n 0, 1) := by decide +kernel
theorem dL_isStruck_1083 : decode cL_isStruck 1083 = .ok (.bipush 14, 2) := by decide +kernel
theorem dL_isStruck_1085 : decode cL_isStruck 1085 = .ok (.iload 14, 2) := by decide +kernel
theorem dL_isStruck_1087 : decode cL_isStruck 1087 = .ok (.iload 18, 2) := by decide +kernel
theorem dL_isStruck_1089 : decode cL_isStruck 1089 = .ok (.iconst 0, 1) := by decide +kernel
theorem dL_isStruck_1090 : decode cL_isStruck 1090 = .ok (.iconst 0, 1) := by decide +kernel
theorem dL_isStruck_1091 : decode cL_isStruck 1091 = .ok (.invokestatic 161, 3) := by decide +kernel
theorem dL_isStruck_1094 : decode cL_isStruck 1094 = .ok (.iload 19, 2) := by decide +kernel
theorem dL_isStruck_1096 : decode cL_isStruck 1096 = .ok (.ifCond .ne 8, 3) := by decide +kernel
theorem dL_isStruck_1099 : decode cL_isStruck 1099 = .ok (.ldc 84, 2) := by decide +kernel
theorem dL_isStruck_1101 : decode cL_isStruck 1101 = .ok (.goto 18, 3) := by decide +kernel
theorem dL_isStruck_1104 : decode cL_isStruck 1104 = .ok (.iload 20, 2) := by decide +kernel
theorem dL_isStruck_1106 : decode cL_isStruck 1106 = .ok (.ifCond .eq 11, 3) := by decide +kernel
theorem dL_isStruck_1109 : decode cL_isStruck 1109 = .ok (.iload 17, 2) := by decide +kernel
theorem dL_isStruck_1111 : decode cL_isStruck 1111 = .ok (.iload 18, 2) := by decide +kernel
theorem dL_isStruck_1113 : decode cL_isStruck 1113 = .ok (.isub, 1) := by decide +kernel
theorem dL_isStruck_1114 : decode cL_isStruck 1114 = .ok (.goto 5, 3) := by decide +kernel
theorem dL_isStruck_1117 : decode cL_isStruck 1117 = .ok (.ldc 90, 2) := by decide +kernel
theorem dL_isStruck_1119 : decode cL_isStruck 1119 = .ok (.if_icmp .ne 7, 3) := by decide +kernel
theorem dL_isStruck_1122 : decode cL_isStruck 1122 = .ok (.iconst 1, 1) := by decide +kernel
theorem dL_isStruck_1123 : decode cL_isStruck 1123 = .ok (.goto 4, 3) := by decide +kernel
theorem dL_isStruck_1126 : decode cL_isStruck 1126 = .ok (.iconst 0, 1) := by decide +kernel
theorem dL_isStruck_1127 : decode cL_isStruck 1127 = .ok (.ireturn, 1) := by decide +kernel
theorem dL_isStruck_1128 : decode cL_isStruck 1128 = .ok (.iload 11, 2) := by decide +kernel
theorem dL_isStruck_1130 : decode cL_isStruck 1130 = .ok (.bipush 7, 2) := by decide +kernel
theorem dL_isStruck_1132 : decode cL_isStruck 1132 = .ok (.if_icmp .ne 130, 3) := by decide +kernel
theorem dL_isStruck_1135 : decode cL_isStruck 1135 = .ok (.iload 12, 2) := by decide +kernel
theorem dL_isStruck_1137 : decode cL_isStruck 1137 = .ok (.aload 10, 2) := by decide +kernel
theorem dL_isStruck_1139 : decode cL_isStruck 1139 = .ok (.iconst 0, 1) := by decide +kernel
theorem dL_isStruck_1140 : decode cL_isStruck 1140 = .ok (.iaload, 1) := by decide +kernel
theorem dL_isStruck_1141 : decode cL_isStruck 1141 = .ok (.iconst 1, 1) := by decide +kernel
theorem dL_isStruck_1142 : decode cL_isStruck 1142 = .ok (.iadd, 1) := by decide +kernel
theorem dL_isStruck_1143 : decode cL_isStruck 1143 = .ok (.irem, 1) := by decide +kernel
theorem dL_isStruck_1144 : decode cL_isStruck 1144 = .ok (.istore 19, 2) := by decide +kernel
theorem dL_isStruck_1146 : decode cL_isStruck 1146 = .ok (.iload 13, 2) := by decide +kernel
theorem dL_isStruck_1148 : decode cL_isStruck 1148 = .ok (.iconst 4, 1) := by decide +kernel
theorem dL_isStruck_1149 : decode cL_isStruck 1149 = .ok (.irem, 1) := by decide +kernel
theorem dL_isStruck_1150 : decode cL_isStruck 1150 = .ok (.istore 20, 2) := by decide +kernel
theorem dL_isStruck_1152 : decode cL_isStruck 1152 = .ok (.iload 19, 2) := by decide +kernel
theorem dL_isStruck_1154 : decode cL_isStruck 1154 = .ok (.aload 10, 2) := by decide +kernel
theorem dL_isStruck_1156 : decode cL_isStruck 1156 = .ok (.iconst 0, 1) := by decide +kernel
theorem dL_isStruck_1157 : decode cL_isStruck 1157 = .ok (.iaload, 1) := by decide +kernel
theorem dL_isStruck_1158 : decode cL_isStruck 1158 = .ok (.if_icmp .ge 16, 3) := by decide +kernel
theorem dL_isStruck_1161 : decode cL_isStruck 1161 = .ok (.iload 20, 2) := by decide +kernel
theorem dL_isStruck_1163 : decode cL_isStruck 1163 = .ok (.aload_n 1, 1) := by decide +kernel
theorem dL_isStruck_1164 : decode cL_isStruck 1164 = .ok (.iload 19, 2) := by decide +kernel
theorem dL_isStruck_1166 : decode cL_isStruck 1166 = .ok (.iaload, 1) := by decide +kernel
theorem dL_isStruck_1167 : decode cL_isStruck 1167 = .ok (.if_icmp .ge 7, 3) := by decide +kernel
theorem dL_isStruck_1170 : decode cL_isStruck 1170 = .ok (.iconst 1, 1) := by decide +kernel
theorem dL_isStruck_1171 : decode cL_isStruck 1171 = .ok (.goto 4, 3) := by decide +kernel
theorem dL_isStruck_1174 : decode cL_isStruck 1174 = .ok (.iconst 0, 1) := by decide +kernel
theorem dL_isStruck_1175 : decode cL_isStruck 1175 = .ok (.istore 21, 2) := by decide +kernel
theorem dL_isStruck_1177 : decode cL_isStruck 1177 = .ok (.iload 21, 2) := by decide +kernel
theorem dL_isStruck_1179 : decode cL_isStruck 1179 = .ok (.ifCond .eq 19, 3) := by decide +kernel
theorem dL_isStruck_1182 : decode cL_isStruck 1182 = .ok (.aload_n 2, 1) := by decide +kernel
theorem dL_isStruck_1183 : decode cL_isStruck 1183 = .ok (.iconst 3, 1) := by decide +kernel
theorem dL_isStruck_1184 : decode cL_isStruck 1184 = .ok (.iload 19, 2) := by decide +kernel
theorem dL_isStruck_1186 : decode cL_isStruck 1186 = .ok (.imul, 1) := by decide +kernel
theorem dL_isStruck_1187 : decode cL_isStruck 1187 = .ok (.iload 20, 2) := by decide +kernel
theorem dL_isStruck_1189 : decode cL_isStruck 1189 = .ok (.iadd, 1) := by decide +kernel
theorem dL_isStruck_1190 : decode cL_isStruck 1190 = .ok (.iaload, 1) := by decide +kernel
theorem dL_isStruck_1191 : decode cL_isStruck 1191 = .ok (.sipush 360, 3) := by decide +kernel
theorem dL_isStruck_1194 : decode cL_isStruck 1194 = .ok (.idiv, 1) := by decide +kernel
theorem dL_isStruck_1195 : decode cL_isStruck 1195 = .ok (.goto 4, 3) := by decide +kernel
theorem dL_isStruck_1198 : decode cL_isStruck 1198 = .ok (.iconst 0, 1) := by decide +kernel
theorem dL_isStruck_1199 : decode cL_isStruck 1199 = .ok (.istore 22, 2) := by decide +kernel
theorem dL_isStruck_1201 : decode cL_isStruck 1201 = .ok (.aload_n 2, 1) := by decide +kernel
theorem dL_isStruck_1202 : decode cL_isStruck 1202 = .ok (.iload 21, 2) := by decide +kernel
theorem dL_isStruck_1204 : decode cL_isStruck 1204 = .ok (.ifCond .eq 13, 3) := by decide +kernel
theorem dL_isStruck_1207 : decode cL_isStruck 1207 = .ok (.iconst 3, 1) := by decide +kernel
theorem dL_isStruck_1208 : decode cL_isStruck 1208 = .ok (.iload 19, 2) := by decide +kernel
theorem dL_isStruck_1210 : decode cL_isStruck 1210 = .ok (.imul, 1) := by decide +kernel
theorem dL_isStruck_1211 : decode cL_isStruck 1211 = .ok (.iload 20, 2) := by decide +kernel
theorem dL_isStruck_1213 : decode cL_isStruck 1213 = .ok (.iadd, 1) := by decide +kernel
theorem dL_isStruck_1214 : decode cL_isStruck 1214 = .ok (.goto 5, 3) := by decide +kernel
theorem dL_isStruck_1217 : decode cL_isStruck 1217 = .ok (.bipush 6, 2) := by decide +kernel
theorem dL_isStruck_1219 : decode cL_isStruck 1219 = .ok (.dup2, 1) := by decide +kernel
theorem dL_isStruck_1220 : decode cL_isStruck 1220 = .ok (.iaload, 1) := by decide +kernel
theorem dL_isStruck_1221 : decode cL_isStruck 1221 = .ok (.sipush 360, 3) := by decide +kernel
theorem dL_isStruck_1224 : decode cL_isStruck 1224 = .ok (.iload 22, 2) := by decide +kernel
theorem dL_isStruck_1226 : decode cL_isStruck 1226 = .ok (.imul, 1) := by decide +kernel
theorem dL_isStruck_1227 : decode cL_isStruck 1227 = .ok (.isub, 1) := by decide +kernel
theorem dL_isStruck_1228 : decode cL_isStruck 1228 = .ok (.iastore, 1) := by decide +kernel
theorem dL_isStruck_1229 : decode cL_isStruck 1229 = .ok (.aload_n 0, 1) := by decide +kernel
theorem dL_isStruck_1230 : decode cL_isStruck 1230 = .ok (.bipush 15, 2) := by decide +kernel
theorem dL_isStruck_1232 : decode cL_isStruck 1232 = .ok (.iload 19, 2) := by decide +kernel
theorem dL_isStruck_1234 : decode cL_isStruck 1234 = .ok (.iload 20, 2) := by decide +kernel
theorem dL_isStruck_1236 : decode cL_isStruck 1236 = .ok (.iconst 0, 1) := by decide +kernel
theorem dL_isStruck_1237 : decode cL_isStruck 1237 = .ok (.iconst 0, 1) := by decide +kernel
theorem dL_isStruck_1238 : decode cL_isStruck 1238 = .ok (.invokestatic 161, 3) := by decide +kernel
theorem dL_isStruck_1241 : decode cL_isStruck 1241 = .ok (.iload 21, 2) := by decide +kernel
theorem dL_isStruck_1243 : decode cL_isStruck 1243 = .ok (.ifCond .eq 8, 3) := by decide +kernel
theorem dL_isStruck_1246 : decode cL_isStruck 1246 = .ok (.iload 22, 2) := by decide +kernel
theorem dL_isStruck_1248 : decode cL_isStruck 1248 = .ok (.goto 5, 3) := by decide +kernel
theorem dL_isStruck_1251 : decode cL_isStruck 1251 = .ok (.ldc 84, 2) := by decide +kernel
theorem dL_isStruck_1253 : decode cL_isStruck 1253 = .ok (.if_icmp .ne 7, 3) := by decide +kernel
theorem dL_isStruck_1256 : decode cL_isStruck 1256 = .ok (.iconst 1, 1) := by decide +kernel
theorem dL_isStruck_1257 : decode cL_isStruck 1257 = .ok (.goto 4, 3) := by decide +kernel
theorem dL_isStruck_1260 : decode cL_isStruck 1260 = .ok (.iconst 0, 1) := by decide +kernel
theorem dL_isStruck_1261 : decode cL_isStruck 1261 = .ok (.ireturn, 1) := by decide +kernel
theorem dL_isStruck_1262 : decode cL_isStruck 1262 = .ok (.iload 11, 2) := by decide +kernel
theorem dL_isStruck_1264 : decode cL_isStruck 1264 = .ok (.bipush 8, 2) := by decide +kernel
theorem dL_isStruck_1266 : decode cL_isStruck 1266 = .ok (.if_icmp .ne 30, 3) := by decide +kernel
theorem dL_isStruck_1269 : decode cL_isStruck 1269 = .ok (.aload 10, 2) := by decide +kernel
theorem dL_isStruck_1271 : decode cL_isStruck 1271 = .ok (.invokestatic 132, 3) := by decide +kernel
theorem dL_isStruck_1274 : decode cL_isStruck 1274 = .ok (.istore 19, 2) := by decide +kernel
theorem dL_isStruck_1276 : decode cL_isStruck 1276 = .ok (.aload 10, 2) := by decide +kernel
theorem dL_isStruck_1278 : decode cL_isStruck 1278 = .ok (.iconst 4, 1) := by decide +kernel
theorem dL_isStruck_1279 : decode cL_isStruck 1279 = .ok (.iconst 0, 1) := by decide +kernel
theorem dL_isStruck_1280 : decode cL_isStruck 1280 = .ok (.iastore, 1) := by decide +kernel
theorem dL_isStruck_1281 : decode cL_isStruck 1281 = .ok (.aload_n 0, 1) := by decide +kernel
theorem dL_isStruck_1282 : decode cL_isStruck 1282 = .ok (.invokevirtual 175, 3) := by decide +kernel
theorem dL_isStruck_1285 : decode cL_isStruck 1285 = .ok (.iload 19, 2) := by decide +kernel
theorem dL_isStruck_1287 : decode cL_isStruck 1287 = .ok (.if_icmp .ne 7, 3) := by decide +kernel
theorem dL_isStruck_1290 : decode cL_isStruck 1290 = .ok (.iconst 1, 1) := by decide +kernel
theorem dL_isStruck_1291 : decode cL_isStruck 1291 = .ok (.goto 4, 3) := by decide +kernel
theorem dL_isStruck_1294 : decode cL_isStruck 1294 = .ok (.iconst 0, 1) := by decide +kernel
theorem dL_isStruck_1295 : decode cL_isStruck 1295 = .ok (.ireturn, 1) := by decide +kernel
theorem dL_isStruck_1296 : decode cL_isStruck 1296 = .ok (.iload 15, 2) := by decide +kernel
theorem dL_isStruck_1298 : decode cL_isStruck 1298 = .ok (.ifCond .eq 13, 3) := by decide +kernel
theorem dL_isStruck_1301 : decode cL_isStruck 1301 = .ok (.aload 10, 2) := by decide +kernel
theorem dL_isStruck_1303 : decode cL_isStruck 1303 = .ok (.iload 14, 2) := by decide +kernel
theorem dL_isStruck_1305 : decode cL_isStruck 1305 = .ok (.invokestatic 172, 3) := by decide +kernel
theorem dL_isStruck_1308 : decode cL_isStruck 1308 = .ok (.goto 4, 3) := by decide +kernel
theorem dL_isStruck_1311 : decode cL_isStruck 1311 = .ok (.iconst (-1), 1) := by decide +kernel
theorem dL_isStruck_1312 : decode cL_isStruck 1312 = .ok (.istore 19, 2) := by decide +kernel
theorem dL_isStruck_1314 : decode cL_isStruck 1314 = .ok (.iconst 1, 1) := by decide +kernel
theorem dL_isStruck_1315 : decode cL_isStruck 1315 = .ok (.istore 20, 2) := by decide +kernel
theorem dL_isStruck_1317 : decode cL_isStruck 1317 = .ok (.aload 10, 2) := by decide +kernel
theorem dL_isStruck_1319 : decode cL_isStruck 1319 = .ok (.bipush 6, 2) := by decide +kernel
theorem dL_isStruck_1321 : decode cL_isStruck 1321 = .ok (.iaload, 1) := by decide +kernel
theorem dL_isStruck_1322 : decode cL_isStruck 1322 = .ok (.istore 21, 2) := by decide +kernel
theorem dL_isStruck_1324 : decode cL_isStruck 1324 = .ok (.iload 21, 2) := by decide +kernel
theorem dL_isStruck_1326 : decode cL_isStruck 1326 = .ok (.ifCond .le 39, 3) := by decide +kernel
theorem dL_isStruck_1329 : decode cL_isStruck 1329 = .ok (.iload 11, 2) := by decide +kernel
theorem dL_isStruck_1331 : decode cL_isStruck 1331 = .ok (.bipush 9, 2) := by decide +kernel
theorem dL_isStruck_1333 : decode cL_isStruck 1333 = .ok (.if_icmp .eq 15, 3) := by decide +kernel
theorem dL_isStruck_1336 : decode cL_isStruck 1336 = .ok (.iload 21, 2) := by decide +kernel
theorem dL_isStruck_1338 : decode cL_isStruck 1338 = .ok (.bipush 10, 2) := by decide +kernel
theorem dL_isStruck_1340 : decode cL_isStruck 1340 = .ok (.irem, 1) := by decide +kernel
theorem dL_isStruck_1341 : decode cL_isStruck 1341 = .ok (.iload 14, 2) := by decide +kernel
theorem dL_isStruck_1343 : decode cL_isStruck 1343 = .ok (.iconst 1, 1) := by decide +kernel
theorem dL_isStruck_1344 : decode cL_isStruck 1344 = .ok (.iadd, 1) := by decide +kernel
theorem dL_isStruck_1345 : decode cL_isStruck 1345 = .ok (.if_icmp .eq 20, 3) := by decide +kernel
theorem dL_isStruck_1348 : decode cL_isStruck 1348 = .ok (.iload 20, 2) := by decide +kernel
theorem dL_isStruck_1350 : decode cL_isStruck 1350 = .ok (.bipush 10, 2) := by decide +kernel
theorem dL_isStruck_1352 : decode cL_isStruck 1352 = .ok (.imul, 1) := by decide +kernel
theorem dL_isStruck_1353 : decode cL_isStruck 1353 = .ok (.istore 20, 2) := by decide +kernel
theorem dL_isStruck_1355 : decode cL_isStruck 1355 = .ok (.iload 21, 2) := by decide +kernel
theorem dL_isStruck_1357 : decode cL_isStruck 1357 = .ok (.bipush 10, 2) := by decide +kernel
theorem dL_isStruck_1359 : decode cL_isStruck 1359 = .ok (.idiv, 1) := by decide +kernel
theorem dL_isStruck_1360 : decode cL_isStruck 1360 = .ok (.istore 21, 2) := by decide +kernel
theorem dL_isStruck_1362 : decode cL_isStruck 1362 = .ok (.goto (-38), 3) := by decide +kernel
theorem dL_isStruck_1365 : decode cL_isStruck 1365 = .ok (.iload 11, 2) := by decide +kernel
theorem dL_isStruck_1367 : decode cL_isStruck 1367 = .ok (.bipush 9, 2) := by decide +kernel
theorem dL_isStruck_1369 : decode cL_isStruck 1369 = .ok (.if_icmp .ne 98, 3) := by decide +kernel
theorem dL_isStruck_1372 : decode cL_isStruck 1372 = .ok (.iload 15, 2) := by decide +kernel
theorem dL_isStruck_1374 : decode cL_isStruck 1374 = .ok (.ifCond .eq 19, 3) := by decide +kernel
theorem dL_isStruck_1377 : decode cL_isStruck 1377 = .ok (.iload 17, 2) := by decide +kernel
theorem dL_isStruck_1379 : decode cL_isStruck 1379 = .ok (.iload 16, 2) := by decide +kernel
theorem dL_isStruck_1381 : decode cL_isStruck 1381 = .ok (.if_icmp .ne 12, 3) := by decide +kernel
theorem dL_isStruck_1384 : decode cL_isStruck 1384 = .ok (.iload 19, 2) := by decide +kernel
theorem dL_isStruck_1386 : decode cL_isStruck 1386 = .ok (.ifCond .ge 7, 3) := by decide +kernel
theorem dL_isStruck_1389 : decode cL_isStruck 1389 = .ok (.iconst 1, 1) := by decide +kernel
theorem dL_isStruck_1390 : decode cL_isStruck 1390 = .ok (.goto 4, 3) := by decide +kernel
theorem dL_isStruck_1393 : decode cL_isStruck 1393 = .ok (.iconst 0, 1) := by decide +kernel
theorem dL_isStruck_1394 : decode cL_isStruck 1394 = .ok (.istore 21, 2) := by decide +kernel
theorem dL_isStruck_1396 : decode cL_isStruck 1396 = .ok (.aload 10, 2) := by decide +kernel
theorem dL_isStruck_1398 : decode cL_isStruck 1398 = .ok (.bipush 6, 2) := by decide +kernel
theorem dL_isStruck_1400 : decode cL_isStruck 1400 = .ok (.dup2, 1) := by decide +kernel
theorem dL_isStruck_1401 : decode cL_isStruck 1401 = .ok (.iaload, 1) := by decide +kernel
theorem dL_isStruck_1402 : decode cL_isStruck 1402 = .ok (.iload 21, 2) := by decide +kernel
theorem dL_isStruck_1404 : decode cL_isStruck 1404 = .ok (.ifCond .eq 13, 3) := by decide +kernel
theorem dL_isStruck_1407 : decode cL_isStruck 1407 = .ok (.iload 20, 2) := by decide +kernel
theorem dL_isStruck_1409 : decode cL_isStruck 1409 = .ok (.iload 14, 2) := by decide +kernel
theorem dL_isStruck_1411 : decode cL_isStruck 1411 = .ok (.iconst 1, 1) := by decide +kernel
theorem dL_isStruck_1412 : decode cL_isStruck 1412 = .ok (.iadd, 1) := by decide +kernel
theorem dL_isStruck_1413 : decode cL_isStruck 1413 = .ok (.imul, 1) := by decide +kernel
theorem dL_isStruck_1414 : decode cL_isStruck 1414 = .ok (.goto 4, 3) := by decide +kernel
theorem dL_isStruck_1417 : decode cL_isStruck 1417 = .ok (.iconst 0, 1) := by decide +kernel
theorem dL_isStruck_1418 : decode cL_isStruck 1418 = .ok (.iadd, 1) := by decide +kernel
theorem dL_isStruck_1419 : decode cL_isStruck 1419 = .ok (.iastore, 1) := by decide +kernel
theorem dL_isStruck_1420 : decode cL_isStruck 1420 = .ok (.aload_n 0, 1) := by decide +kernel
theorem dL_isStruck_1421 : decode cL_isStruck 1421 = .ok (.bipush 16, 2) := by decide +kernel
theorem dL_isStruck_1423 : decode cL_isStruck 1423 = .ok (.iload 14, 2) := by decide +kernel
theorem dL_isStruck_1425 : decode cL_isStruck 1425 = .ok (.iconst 0, 1) := by decide +kernel
theorem dL_isStruck_1426 : decode cL_isStruck 1426 = .ok (.iconst 0, 1) := by decide +kernel
theorem dL_isStruck_1427 : decode cL_isStruck 1427 = .ok (.iconst 0, 1) := by decide +kernel
theorem dL_isStruck_1428 : decode cL_isStruck 1428 = .ok (.invokestatic 161, 3) := by decide +kernel
theorem dL_isStruck_1431 : decode cL_isStruck 1431 = .ok (.iload 15, 2) := by decide +kernel
theorem dL_isStruck_1433 : decode cL_isStruck 1433 = .ok (.ifCond .ne 8, 3) := by decide +kernel
theorem dL_isStruck_1436 : decode cL_isStruck 1436 = .ok (.ldc 84, 2) := by decide +kernel
theorem dL_isStruck_1438 : decode cL_isStruck 1438 = .ok (.goto 20, 3) := by decide +kernel
theorem dL_isStruck_1441 : decode cL_isStruck 1441 = .ok (.iload 21, 2) := by decide +kernel
theorem dL_isStruck_1443 : decode cL_isStruck 1443 = .ok (.ifCond .eq 13, 3) := by decide +kernel
theorem dL_isStruck_1446 : decode cL_isStruck 1446 = .ok (.aload 5, 2) := by decide +kernel
theorem dL_isStruck_1448 : decode cL_isStruck 1448 = .ok (.aload 10, 2) := by decide +kernel
theorem dL_isStruck_1450 : decode cL_isStruck 1450 = .ok (.invokestatic 178, 3) := by decide +kernel
theorem dL_isStruck_1453 : decode cL_isStruck 1453 = .ok (.goto 5, 3) := by decide +kernel
theorem dL_isStruck_1456 : decode cL_isStruck 1456 = .ok (.ldc 90, 2) := by decide +kernel
theorem dL_isStruck_1458 : decode cL_isStruck 1458 = .ok (.if_icmp .ne 7, 3) := by decide +kernel
theorem dL_isStruck_1461 : decode cL_isStruck 1461 = .ok (.iconst 1, 1) := by decide +kernel
theorem dL_isStruck_1462 : decode cL_isStruck 1462 = .ok (.goto 4, 3) := by decide +kernel
theorem dL_isStruck_1465 : decode cL_isStruck 1465 = .ok (.iconst 0, 1) := by decide +kernel
theorem dL_isStruck_1466 : decode cL_isStruck 1466 = .ok (.ireturn, 1) := by decide +kernel
theorem dL_isStruck_1467 : decode cL_isStruck 1467 = .ok (.aload 10, 2) := by decide +kernel
theorem dL_isStruck_1469 : decode cL_isStruck 1469 = .ok (.bipush 6, 2) := by decide +kernel
theorem dL_isStruck_1471 : decode cL_isStruck 1471 = .ok (.iload 19, 2) := by decide +kernel
theorem dL_isStruck_1473 : decode cL_isStruck 1473 = .ok (.ifCond .ge 11, 3) := by decide +kernel
theorem dL_isStruck_1476 : decode cL_isStruck 1476 = .ok (.aload 10, 2) := by decide +kernel
theorem dL_isStruck_1478 : decode cL_isStruck 1478 = .ok (.bipush 6, 2) := by decide +kernel
theorem dL_isStruck_1480 : decode cL_isStruck 1480 = .ok (.iaload, 1) := by decide +kernel
theorem dL_isStruck_1481 : decode cL_isStruck 1481 = .ok (.goto 26, 3) := by decide +kernel
theorem dL_isStruck_1484 : decode cL_isStruck 1484 = .ok (.aload 10, 2) := by decide +kernel
theorem dL_isStruck_1486 : decode cL_isStruck 1486 = .ok (.bipush 6, 2) := by decide +kernel
theorem dL_isStruck_1488 : decode cL_isStruck 1488 = .ok (.iaload, 1) := by decide +kernel
theorem dL_isStruck_1489 : decode cL_isStruck 1489 = .ok (.iload 20, 2) := by decide +kernel
theorem dL_isStruck_1491 : decode cL_isStruck 1491 = .ok (.idiv, 1) := by decide +kernel
theorem dL_isStruck_1492 : decode cL_isStruck 1492 = .ok (.bipush 10, 2) := by decide +kernel
theorem dL_isStruck_1494 : decode cL_isStruck 1494 = .ok (.idiv, 1) := by decide +kernel
theorem dL_isStruck_1495 : decode cL_isStruck 1495 = .ok (.iload 20, 2) := by decide +kernel
theorem dL_isStruck_1497 : decode cL_isStruck 1497 = .ok (.imul, 1) := by decide +kernel
theorem dL_isStruck_1498 : decode cL_isStruck 1498 = .ok (.aload 10, 2) := by decide +kernel
theorem dL_isStruck_1500 : decode cL_isStruck 1500 = .ok (.bipush 6, 2) := by decide +kernel
theorem dL_isStruck_1502 : decode cL_isStruck 1502 = .ok (.iaload, 1) := by decide +kernel
theorem dL_isStruck_1503 : decode cL_isStruck 1503 = .ok (.iload 20, 2) := by decide +kernel
theorem dL_isStruck_1505 : decode cL_isStruck 1505 = .ok (.irem, 1) := by decide +kernel
theorem dL_isStruck_1506 : decode cL_isStruck 1506 = .ok (.iadd, 1) := by decide +kernel
theorem dL_isStruck_1507 : decode cL_isStruck 1507 = .ok (.iastore, 1) := by decide +kernel
theorem dL_isStruck_1508 : decode cL_isStruck 1508 = .ok (.aload_n 0, 1) := by decide +kernel
theorem dL_isStruck_1509 : decode cL_isStruck 1509 = .ok (.bipush 17, 2) := by decide +kernel
theorem dL_isStruck_1511 : decode cL_isStruck 1511 = .ok (.iload 14, 2) := by decide +kernel
theorem dL_isStruck_1513 : decode cL_isStruck 1513 = .ok (.iconst 0, 1) := by decide +kernel
theorem dL_isStruck_1514 : decode cL_isStruck 1514 = .ok (.iconst 0, 1) := by decide +kernel
theorem dL_isStruck_1515 : decode cL_isStruck 1515 = .ok (.iconst 0, 1) := by decide +kernel
theorem dL_isStruck_1516 : decode cL_isStruck 1516 = .ok (.invokestatic 161, 3) := by decide +kernel
theorem dL_isStruck_1519 : decode cL_isStruck 1519 = .ok (.iload 15, 2) := by decide +kernel
theorem dL_isStruck_1521 : decode cL_isStruck 1521 = .ok (.ifCond .ne 8, 3) := by decide +kernel
theorem dL_isStruck_1524 : decode cL_isStruck 1524 = .ok (.ldc 84, 2) := by decide +kernel
theorem dL_isStruck_1526 : decode cL_isStruck 1526 = .ok (.goto 20, 3) := by decide +kernel
theorem dL_isStruck_1529 : decode cL_isStruck 1529 = .ok (.iload 19, 2) := by decide +kernel
theorem dL_isStruck_1531 : decode cL_isStruck 1531 = .ok (.ifCond .ge 8, 3) := by decide +kernel
theorem dL_isStruck_1534 : decode cL_isStruck 1534 = .ok (.ldc 90, 2) := by decide +kernel
theorem dL_isStruck_1536 : decode cL_isStruck 1536 = .ok (.goto 10, 3) := by decide +kernel
theorem dL_isStruck_1539 : decode cL_isStruck 1539 = .ok (.aload 5, 2) := by decide +kernel
theorem dL_isStruck_1541 : decode cL_isStruck 1541 = .ok (.aload 10, 2) := by decide +kernel
theorem dL_isStruck_1543 : decode cL_isStruck 1543 = .ok (.invokestatic 178, 3) := by decide +kernel
theorem dL_isStruck_1546 : decode cL_isStruck 1546 = .ok (.if_icmp .ne 7, 3) := by decide +kernel
theorem dL_isStruck_1549 : decode cL_isStruck 1549 = .ok (.iconst 1, 1) := by decide +kernel
theorem dL_isStruck_1550 : decode cL_isStruck 1550 = .ok (.goto 4, 3) := by decide +kernel
theorem dL_isStruck_1553 : decode cL_isStruck 1553 = .ok (.iconst 0, 1) := by decide +kernel
theorem dL_isStruck_1554 : decode cL_isStruck 1554 = .ok (.ireturn, 1) := by decide +kernel
