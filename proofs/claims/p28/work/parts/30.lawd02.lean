theorem dL_homes_598 : decode cL_homes 598 = .ok (.iconst 2, 1) := by decide +kernel
theorem dL_homes_599 : decode cL_homes 599 = .ok (.if_icmp .ne 168, 3) := by decide +kernel
theorem dL_homes_602 : decode cL_homes 602 = .ok (.aload_n 0, 1) := by decide +kernel
theorem dL_homes_603 : decode cL_homes 603 = .ok (.iconst 0, 1) := by decide +kernel
theorem dL_homes_604 : decode cL_homes 604 = .ok (.iconst 2, 1) := by decide +kernel
theorem dL_homes_605 : decode cL_homes 605 = .ok (.invokevirtual 57, 3) := by decide +kernel
theorem dL_homes_608 : decode cL_homes 608 = .ok (.bipush 104, 2) := by decide +kernel
theorem dL_homes_610 : decode cL_homes 610 = .ok (.if_icmp .ne 157, 3) := by decide +kernel
theorem dL_homes_613 : decode cL_homes 613 = .ok (.aload_n 0, 1) := by decide +kernel
theorem dL_homes_614 : decode cL_homes 614 = .ok (.iconst 0, 1) := by decide +kernel
theorem dL_homes_615 : decode cL_homes 615 = .ok (.iconst 1, 1) := by decide +kernel
theorem dL_homes_616 : decode cL_homes 616 = .ok (.invokevirtual 57, 3) := by decide +kernel
theorem dL_homes_619 : decode cL_homes 619 = .ok (.bipush (-3), 2) := by decide +kernel
theorem dL_homes_621 : decode cL_homes 621 = .ok (.if_icmp .ne 146, 3) := by decide +kernel
theorem dL_homes_624 : decode cL_homes 624 = .ok (.aload_n 0, 1) := by decide +kernel
theorem dL_homes_625 : decode cL_homes 625 = .ok (.iconst 2, 1) := by decide +kernel
theorem dL_homes_626 : decode cL_homes 626 = .ok (.iconst 1, 1) := by decide +kernel
theorem dL_homes_627 : decode cL_homes 627 = .ok (.invokevirtual 57, 3) := by decide +kernel
theorem dL_homes_630 : decode cL_homes 630 = .ok (.ifCond .ne 137, 3) := by decide +kernel
theorem dL_homes_633 : decode cL_homes 633 = .ok (.aload_n 0, 1) := by decide +kernel
theorem dL_homes_634 : decode cL_homes 634 = .ok (.iconst 1, 1) := by decide +kernel
theorem dL_homes_635 : decode cL_homes 635 = .ok (.iconst 0, 1) := by decide +kernel
theorem dL_homes_636 : decode cL_homes 636 = .ok (.invokevirtual 57, 3) := by decide +kernel
theorem dL_homes_639 : decode cL_homes 639 = .ok (.ifCond .ne 128, 3) := by decide +kernel
theorem dL_homes_642 : decode cL_homes 642 = .ok (.aload_n 0, 1) := by decide +kernel
theorem dL_homes_643 : decode cL_homes 643 = .ok (.bipush 8, 2) := by decide +kernel
theorem dL_homes_645 : decode cL_homes 645 = .ok (.invokevirtual 13, 3) := by decide +kernel
theorem dL_homes_648 : decode cL_homes 648 = .ok (.iconst 4, 1) := by decide +kernel
theorem dL_homes_649 : decode cL_homes 649 = .ok (.if_icmp .ne 118, 3) := by decide +kernel
theorem dL_homes_652 : decode cL_homes 652 = .ok (.aload_n 0, 1) := by decide +kernel
theorem dL_homes_653 : decode cL_homes 653 = .ok (.bipush 9, 2) := by decide +kernel
theorem dL_homes_655 : decode cL_homes 655 = .ok (.invokevirtual 13, 3) := by decide +kernel
theorem dL_homes_658 : decode cL_homes 658 = .ok (.iconst 2, 1) := by decide +kernel
theorem dL_homes_659 : decode cL_homes 659 = .ok (.if_icmp .ne 108, 3) := by decide +kernel
theorem dL_homes_662 : decode cL_homes 662 = .ok (.aload_n 0, 1) := by decide +kernel
theorem dL_homes_663 : decode cL_homes 663 = .ok (.iconst 1, 1) := by decide +kernel
theorem dL_homes_664 : decode cL_homes 664 = .ok (.bipush 6, 2) := by decide +kernel
theorem dL_homes_666 : decode cL_homes 666 = .ok (.invokevirtual 23, 3) := by decide +kernel
theorem dL_homes_669 : decode cL_homes 669 = .ok (.iconst 1, 1) := by decide +kernel
theorem dL_homes_670 : decode cL_homes 670 = .ok (.if_icmp .ne 97, 3) := by decide +kernel
theorem dL_homes_673 : decode cL_homes 673 = .ok (.aload_n 0, 1) := by decide +kernel
theorem dL_homes_674 : decode cL_homes 674 = .ok (.invokevirtual 93, 3) := by decide +kernel
theorem dL_homes_677 : decode cL_homes 677 = .ok (.ifCond .ne 90, 3) := by decide +kernel
theorem dL_homes_680 : decode cL_homes 680 = .ok (.aload_n 0, 1) := by decide +kernel
theorem dL_homes_681 : decode cL_homes 681 = .ok (.iconst 0, 1) := by decide +kernel
theorem dL_homes_682 : decode cL_homes 682 = .ok (.bipush 9, 2) := by decide +kernel
theorem dL_homes_684 : decode cL_homes 684 = .ok (.invokevirtual 23, 3) := by decide +kernel
theorem dL_homes_687 : decode cL_homes 687 = .ok (.iconst 2, 1) := by decide +kernel
theorem dL_homes_688 : decode cL_homes 688 = .ok (.if_icmp .ne 79, 3) := by decide +kernel
theorem dL_homes_691 : decode cL_homes 691 = .ok (.aload_n 0, 1) := by decide +kernel
theorem dL_homes_692 : decode cL_homes 692 = .ok (.iconst 3, 1) := by decide +kernel
theorem dL_homes_693 : decode cL_homes 693 = .ok (.invokevirtual 13, 3) := by decide +kernel
theorem dL_homes_696 : decode cL_homes 696 = .ok (.iconst 2, 1) := by decide +kernel
theorem dL_homes_697 : decode cL_homes 697 = .ok (.if_icmp .ne 70, 3) := by decide +kernel
theorem dL_homes_700 : decode cL_homes 700 = .ok (.aload_n 0, 1) := by decide +kernel
theorem dL_homes_701 : decode cL_homes 701 = .ok (.iconst 1, 1) := by decide +kernel
theorem dL_homes_702 : decode cL_homes 702 = .ok (.invokevirtual 54, 3) := by decide +kernel
theorem dL_homes_705 : decode cL_homes 705 = .ok (.iconst 1, 1) := by decide +kernel
theorem dL_homes_706 : decode cL_homes 706 = .ok (.if_icmp .ne 61, 3) := by decide +kernel
theorem dL_homes_709 : decode cL_homes 709 = .ok (.aload_n 0, 1) := by decide +kernel
theorem dL_homes_710 : decode cL_homes 710 = .ok (.iconst 1, 1) := by decide +kernel
theorem dL_homes_711 : decode cL_homes 711 = .ok (.iconst 3, 1) := by decide +kernel
theorem dL_homes_712 : decode cL_homes 712 = .ok (.invokevirtual 23, 3) := by decide +kernel
theorem dL_homes_715 : decode cL_homes 715 = .ok (.ifCond .ne 52, 3) := by decide +kernel
theorem dL_homes_718 : decode cL_homes 718 = .ok (.aload_n 0, 1) := by decide +kernel
theorem dL_homes_719 : decode cL_homes 719 = .ok (.iconst 1, 1) := by decide +kernel
theorem dL_homes_720 : decode cL_homes 720 = .ok (.iconst 5, 1) := by decide +kernel
theorem dL_homes_721 : decode cL_homes 721 = .ok (.invokevirtual 23, 3) := by decide +kernel
theorem dL_homes_724 : decode cL_homes 724 = .ok (.iconst 1, 1) := by decide +kernel
theorem dL_homes_725 : decode cL_homes 725 = .ok (.if_icmp .ne 42, 3) := by decide +kernel
theorem dL_homes_728 : decode cL_homes 728 = .ok (.aload_n 0, 1) := by decide +kernel
theorem dL_homes_729 : decode cL_homes 729 = .ok (.bipush 10, 2) := by decide +kernel
theorem dL_homes_731 : decode cL_homes 731 = .ok (.invokevirtual 13, 3) := by decide +kernel
theorem dL_homes_734 : decode cL_homes 734 = .ok (.iconst 1, 1) := by decide +kernel
theorem dL_homes_735 : decode cL_homes 735 = .ok (.if_icmp .ne 32, 3) := by decide +kernel
theorem dL_homes_738 : decode cL_homes 738 = .ok (.aload_n 0, 1) := by decide +kernel
theorem dL_homes_739 : decode cL_homes 739 = .ok (.invokevirtual 93, 3) := by decide +kernel
theorem dL_homes_742 : decode cL_homes 742 = .ok (.iconst 1, 1) := by decide +kernel
theorem dL_homes_743 : decode cL_homes 743 = .ok (.if_icmp .ne 24, 3) := by decide +kernel
theorem dL_homes_746 : decode cL_homes 746 = .ok (.aload_n 0, 1) := by decide +kernel
theorem dL_homes_747 : decode cL_homes 747 = .ok (.iconst 0, 1) := by decide +kernel
theorem dL_homes_748 : decode cL_homes 748 = .ok (.iconst 4, 1) := by decide +kernel
theorem dL_homes_749 : decode cL_homes 749 = .ok (.invokevirtual 23, 3) := by decide +kernel
theorem dL_homes_752 : decode cL_homes 752 = .ok (.iconst 1, 1) := by decide +kernel
theorem dL_homes_753 : decode cL_homes 753 = .ok (.if_icmp .ne 14, 3) := by decide +kernel
theorem dL_homes_756 : decode cL_homes 756 = .ok (.aload_n 0, 1) := by decide +kernel
theorem dL_homes_757 : decode cL_homes 757 = .ok (.iconst 1, 1) := by decide +kernel
theorem dL_homes_758 : decode cL_homes 758 = .ok (.bipush 9, 2) := by decide +kernel
theorem dL_homes_760 : decode cL_homes 760 = .ok (.invokevirtual 23, 3) := by decide +kernel
theorem dL_homes_763 : decode cL_homes 763 = .ok (.iconst 1, 1) := by decide +kernel
theorem dL_homes_764 : decode cL_homes 764 = .ok (.if_icmp .eq 5, 3) := by decide +kernel
theorem dL_homes_767 : decode cL_homes 767 = .ok (.iconst 0, 1) := by decide +kernel
theorem dL_homes_768 : decode cL_homes 768 = .ok (.ireturn, 1) := by decide +kernel
theorem dL_homes_769 : decode cL_homes 769 = .ok (.aload_n 0, 1) := by decide +kernel
theorem dL_homes_770 : decode cL_homes 770 = .ok (.iconst 0, 1) := by decide +kernel
theorem dL_homes_771 : decode cL_homes 771 = .ok (.bipush 8, 2) := by decide +kernel
theorem dL_homes_773 : decode cL_homes 773 = .ok (.invokevirtual 23, 3) := by decide +kernel
theorem dL_homes_776 : decode cL_homes 776 = .ok (.iconst 2, 1) := by decide +kernel
theorem dL_homes_777 : decode cL_homes 777 = .ok (.if_icmp .ne 214, 3) := by decide +kernel
theorem dL_homes_780 : decode cL_homes 780 = .ok (.aload_n 0, 1) := by decide +kernel
theorem dL_homes_781 : decode cL_homes 781 = .ok (.iconst 2, 1) := by decide +kernel
theorem dL_homes_782 : decode cL_homes 782 = .ok (.bipush 8, 2) := by decide +kernel
theorem dL_homes_784 : decode cL_homes 784 = .ok (.invokevirtual 23, 3) := by decide +kernel
theorem dL_homes_787 : decode cL_homes 787 = .ok (.bipush (-5), 2) := by decide +kernel
theorem dL_homes_789 : decode cL_homes 789 = .ok (.if_icmp .ne 202, 3) := by decide +kernel
theorem dL_homes_792 : decode cL_homes 792 = .ok (.aload_n 0, 1) := by decide +kernel
theorem dL_homes_793 : decode cL_homes 793 = .ok (.invokevirtual 96, 3) := by decide +kernel
theorem dL_homes_796 : decode cL_homes 796 = .ok (.bipush (-5), 2) := by decide +kernel
theorem dL_homes_798 : decode cL_homes 798 = .ok (.if_icmp .ne 193, 3) := by decide +kernel
theorem dL_homes_801 : decode cL_homes 801 = .ok (.aload_n 0, 1) := by decide +kernel
theorem dL_homes_802 : decode cL_homes 802 = .ok (.iconst 2, 1) := by decide +kernel
theorem dL_homes_803 : decode cL_homes 803 = .ok (.iconst 0, 1) := by decide +kernel
theorem dL_homes_804 : decode cL_homes 804 = .ok (.invokevirtual 48, 3) := by decide +kernel
theorem dL_homes_807 : decode cL_homes 807 = .ok (.ifCond .ne 184, 3) := by decide +kernel
theorem dL_homes_810 : decode cL_homes 810 = .ok (.aload_n 0, 1) := by decide +kernel
theorem dL_homes_811 : decode cL_homes 811 = .ok (.iconst 2, 1) := by decide +kernel
theorem dL_homes_812 : decode cL_homes 812 = .ok (.iconst 0, 1) := by decide +kernel
theorem dL_homes_813 : decode cL_homes 813 = .ok (.invokevirtual 48, 3) := by decide +kernel
theorem dL_homes_816 : decode cL_homes 816 = .ok (.bipush (-5), 2) := by decide +kernel
theorem dL_homes_818 : decode cL_homes 818 = .ok (.if_icmp .ne 173, 3) := by decide +kernel
theorem dL_homes_821 : decode cL_homes 821 = .ok (.aload_n 0, 1) := by decide +kernel
theorem dL_homes_822 : decode cL_homes 822 = .ok (.iconst 2, 1) := by decide +kernel
theorem dL_homes_823 : decode cL_homes 823 = .ok (.bipush 8, 2) := by decide +kernel
theorem dL_homes_825 : decode cL_homes 825 = .ok (.invokevirtual 23, 3) := by decide +kernel
theorem dL_homes_828 : decode cL_homes 828 = .ok (.bipush (-5), 2) := by decide +kernel
theorem dL_homes_830 : decode cL_homes 830 = .ok (.if_icmp .ne 161, 3) := by decide +kernel
theorem dL_homes_833 : decode cL_homes 833 = .ok (.aload_n 0, 1) := by decide +kernel
theorem dL_homes_834 : decode cL_homes 834 = .ok (.iconst 2, 1) := by decide +kernel
theorem dL_homes_835 : decode cL_homes 835 = .ok (.iconst 1, 1) := by decide +kernel
theorem dL_homes_836 : decode cL_homes 836 = .ok (.invokevirtual 45, 3) := by decide +kernel
theorem dL_homes_839 : decode cL_homes 839 = .ok (.iconst 2, 1) := by decide +kernel
theorem dL_homes_840 : decode cL_homes 840 = .ok (.if_icmp .ne 151, 3) := by decide +kernel
theorem dL_homes_843 : decode cL_homes 843 = .ok (.aload_n 0, 1) := by decide +kernel
theorem dL_homes_844 : decode cL_homes 844 = .ok (.iconst 2, 1) := by decide +kernel
theorem dL_homes_845 : decode cL_homes 845 = .ok (.iconst 1, 1) := by decide +kernel
theorem dL_homes_846 : decode cL_homes 846 = .ok (.invokevirtual 45, 3) := by decide +kernel
theorem dL_homes_849 : decode cL_homes 849 = .ok (.bipush (-4), 2) := by decide +kernel
theorem dL_homes_851 : decode cL_homes 851 = .ok (.if_icmp .ne 140, 3) := by decide +kernel
theorem dL_homes_854 : decode cL_homes 854 = .ok (.aload_n 0, 1) := by decide +kernel
theorem dL_homes_855 : decode cL_homes 855 = .ok (.iconst 2, 1) := by decide +kernel
theorem dL_homes_856 : decode cL_homes 856 = .ok (.bipush 8, 2) := by decide +kernel
theorem dL_homes_858 : decode cL_homes 858 = .ok (.invokevirtual 23, 3) := by decide +kernel
theorem dL_homes_861 : decode cL_homes 861 = .ok (.bipush (-5), 2) := by decide +kernel
theorem dL_homes_863 : decode cL_homes 863 = .ok (.if_icmp .ne 128, 3) := by decide +kernel
theorem dL_homes_866 : decode cL_homes 866 = .ok (.aload_n 0, 1) := by decide +kernel
theorem dL_homes_867 : decode cL_homes 867 = .ok (.iconst 2, 1) := by decide +kernel
theorem dL_homes_868 : decode cL_homes 868 = .ok (.iconst 1, 1) := by decide +kernel
theorem dL_homes_869 : decode cL_homes 869 = .ok (.sipush 700, 3) := by decide +kernel
theorem dL_homes_872 : decode cL_homes 872 = .ok (.invokevirtual 41, 3) := by decide +kernel
theorem dL_homes_875 : decode cL_homes 875 = .ok (.sipush 500, 3) := by decide +kernel
theorem dL_homes_878 : decode cL_homes 878 = .ok (.if_icmp .ne 113, 3) := by decide +kernel
theorem dL_homes_881 : decode cL_homes 881 = .ok (.aload_n 0, 1) := by decide +kernel
theorem dL_homes_882 : decode cL_homes 882 = .ok (.iconst 2, 1) := by decide +kernel
theorem dL_homes_883 : decode cL_homes 883 = .ok (.bipush 8, 2) := by decide +kernel
theorem dL_homes_885 : decode cL_homes 885 = .ok (.invokevirtual 23, 3) := by decide +kernel
theorem dL_homes_888 : decode cL_homes 888 = .ok (.ifCond .ne 103, 3) := by decide +kernel
theorem dL_homes_891 : decode cL_homes 891 = .ok (.aload_n 0, 1) := by decide +kernel
theorem dL_homes_892 : decode cL_homes 892 = .ok (.bipush 7, 2) := by decide +kernel
theorem dL_homes_894 : decode cL_homes 894 = .ok (.invokevirtual 13, 3) := by decide +kernel
theorem dL_homes_897 : decode cL_homes 897 = .ok (.iconst 2, 1) := by decide +kernel
theorem dL_homes_898 : decode cL_homes 898 = .ok (.if_icmp .ne 93, 3) := by decide +kernel
theorem dL_homes_901 : decode cL_homes 901 = .ok (.aload_n 0, 1) := by decide +kernel
theorem dL_homes_902 : decode cL_homes 902 = .ok (.invokevirtual 96, 3) := by decide +kernel
theorem dL_homes_905 : decode cL_homes 905 = .ok (.iconst 2, 1) := by decide +kernel
theorem dL_homes_906 : decode cL_homes 906 = .ok (.if_icmp .ne 85, 3) := by decide +kernel
theorem dL_homes_909 : decode cL_homes 909 = .ok (.aload_n 0, 1) := by decide +kernel
theorem dL_homes_910 : decode cL_homes 910 = .ok (.iconst 0, 1) := by decide +kernel
theorem dL_homes_911 : decode cL_homes 911 = .ok (.iconst 4, 1) := by decide +kernel
theorem dL_homes_912 : decode cL_homes 912 = .ok (.invokevirtual 23, 3) := by decide +kernel
theorem dL_homes_915 : decode cL_homes 915 = .ok (.ifCond .ne 76, 3) := by decide +kernel
theorem dL_homes_918 : decode cL_homes 918 = .ok (.aload_n 0, 1) := by decide +kernel
theorem dL_homes_919 : decode cL_homes 919 = .ok (.iconst 2, 1) := by decide +kernel
theorem dL_homes_920 : decode cL_homes 920 = .ok (.iconst 4, 1) := by decide +kernel
theorem dL_homes_921 : decode cL_homes 921 = .ok (.invokevirtual 23, 3) := by decide +kernel
theorem dL_homes_924 : decode cL_homes 924 = .ok (.iconst 1, 1) := by decide +kernel
theorem dL_homes_925 : decode cL_homes 925 = .ok (.if_icmp .ne 66, 3) := by decide +kernel
theorem dL_homes_928 : decode cL_homes 928 = .ok (.aload_n 0, 1) := by decide +kernel
theorem dL_homes_929 : decode cL_homes 929 = .ok (.bipush 7, 2) := by decide +kernel
theorem dL_homes_931 : decode cL_homes 931 = .ok (.invokevirtual 13, 3) := by decide +kernel
theorem dL_homes_934 : decode cL_homes 934 = .ok (.ifCond .ne 57, 3) := by decide +kernel
theorem dL_homes_937 : decode cL_homes 937 = .ok (.aload_n 0, 1) := by decide +kernel
theorem dL_homes_938 : decode cL_homes 938 = .ok (.iconst 0, 1) := by decide +kernel
theorem dL_homes_939 : decode cL_homes 939 = .ok (.invokevirtual 60, 3) := by decide +kernel
theorem dL_homes_942 : decode cL_homes 942 = .ok (.ifCond .ne 49, 3) := by decide +kernel
theorem dL_homes_945 : decode cL_homes 945 = .ok (.aload_n 0, 1) := by decide +kernel
theorem dL_homes_946 : decode cL_homes 946 = .ok (.iconst 0, 1) := by decide +kernel
theorem dL_homes_947 : decode cL_homes 947 = .ok (.invokevirtual 60, 3) := by decide +kernel
theorem dL_homes_950 : decode cL_homes 950 = .ok (.bipush (-5), 2) := by decide +kernel
theorem dL_homes_952 : decode cL_homes 952 = .ok (.if_icmp .ne 39, 3) := by decide +kernel
theorem dL_homes_955 : decode cL_homes 955 = .ok (.aload_n 0, 1) := by decide +kernel
theorem dL_homes_956 : decode cL_homes 956 = .ok (.iconst 0, 1) := by decide +kernel
theorem dL_homes_957 : decode cL_homes 957 = .ok (.invokevirtual 54, 3) := by decide +kernel
theorem dL_homes_960 : decode cL_homes 960 = .ok (.bipush (-4), 2) := by decide +kernel
theorem dL_homes_962 : decode cL_homes 962 = .ok (.if_icmp .ne 29, 3) := by decide +kernel
theorem dL_homes_965 : decode cL_homes 965 = .ok (.aload_n 0, 1) := by decide +kernel
theorem dL_homes_966 : decode cL_homes 966 = .ok (.iconst 2, 1) := by decide +kernel
theorem dL_homes_967 : decode cL_homes 967 = .ok (.invokevirtual 54, 3) := by decide +kernel
theorem dL_homes_970 : decode cL_homes 970 = .ok (.iconst 1, 1) := by decide +kernel
theorem dL_homes_971 : decode cL_homes 971 = .ok (.if_icmp .ne 20, 3) := by decide +kernel
theorem dL_homes_974 : decode cL_homes 974 = .ok (.aload_n 0, 1) := by decide +kernel
theorem dL_homes_975 : decode cL_homes 975 = .ok (.iconst 2, 1) := by decide +kernel
theorem dL_homes_976 : decode cL_homes 976 = .ok (.iconst 5, 1) := by decide +kernel
theorem dL_homes_977 : decode cL_homes 977 = .ok (.invokevirtual 23, 3) := by decide +kernel
theorem dL_homes_980 : decode cL_homes 980 = .ok (.iconst 1, 1) := by decide +kernel
theorem dL_homes_981 : decode cL_homes 981 = .ok (.if_icmp .ne 10, 3) := by decide +kernel
theorem dL_homes_984 : decode cL_homes 984 = .ok (.aload_n 0, 1) := by decide +kernel
theorem dL_homes_985 : decode cL_homes 985 = .ok (.invokestatic 112, 3) := by decide +kernel
theorem dL_homes_988 : decode cL_homes 988 = .ok (.ifCond .ne 5, 3) := by decide +kernel
theorem dL_homes_991 : decode cL_homes 991 = .ok (.iconst 0, 1) := by decide +kernel
theorem dL_homes_992 : decode cL_homes 992 = .ok (.ireturn, 1) := by decide +kernel
theorem dL_homes_993 : decode cL_homes 993 = .ok (.new 14, 3) := by decide +kernel
theorem dL_homes_996 : decode cL_homes 996 = .ok (.dup, 1) := by decide +kernel
theorem dL_homes_997 : decode cL_homes 997 = .ok (.invokespecial 86, 3) := by decide +kernel
theorem dL_homes_1000 : decode cL_homes 1000 = .ok (.astore_n 1, 1) := by decide +kernel
theorem dL_homes_1001 : decode cL_homes 1001 = .ok (.iconst 0, 1) := by decide +kernel
theorem dL_homes_1002 : decode cL_homes 1002 = .ok (.istore_n 2, 1) := by decide +kernel
theorem dL_homes_1003 : decode cL_homes 1003 = .ok (.iload_n 2, 1) := by decide +kernel
theorem dL_homes_1004 : decode cL_homes 1004 = .ok (.bipush 12, 2) := by decide +kernel
theorem dL_homes_1006 : decode cL_homes 1006 = .ok (.if_icmp .ge 46, 3) := by decide +kernel
theorem dL_homes_1009 : decode cL_homes 1009 = .ok (.aload_n 1, 1) := by decide +kernel
theorem dL_homes_1010 : decode cL_homes 1010 = .ok (.iconst 1, 1) := by decide +kernel
theorem dL_homes_1011 : decode cL_homes 1011 = .ok (.iload_n 2, 1) := by decide +kernel
theorem dL_homes_1012 : decode cL_homes 1012 = .ok (.iconst 5, 1) := by decide +kernel
theorem dL_homes_1013 : decode cL_homes 1013 = .ok (.irem, 1) := by decide +kernel
theorem dL_homes_1014 : decode cL_homes 1014 = .ok (.iadd, 1) := by decide +kernel
theorem dL_homes_1015 : decode cL_homes 1015 = .ok (.iconst 1, 1) := by decide +kernel
theorem dL_homes_1016 : decode cL_homes 1016 = .ok (.iload_n 2, 1) := by decide +kernel
theorem dL_homes_1017 : decode cL_homes 1017 = .ok (.iadd, 1) := by decide +kernel
theorem dL_homes_1018 : decode cL_homes 1018 = .ok (.invokevirtual 33, 3) := by decide +kernel
theorem dL_homes_1021 : decode cL_homes 1021 = .ok (.iload_n 2, 1) := by decide +kernel
theorem dL_homes_1022 : decode cL_homes 1022 = .ok (.if_icmp .ne 22, 3) := by decide +kernel
theorem dL_homes_1025 : decode cL_homes 1025 = .ok (.aload_n 1, 1) := by decide +kernel
theorem dL_homes_1026 : decode cL_homes 1026 = .ok (.iconst 1, 1) := by decide +kernel
theorem dL_homes_1027 : decode cL_homes 1027 = .ok (.iload_n 2, 1) := by decide +kernel
theorem dL_homes_1028 : decode cL_homes 1028 = .ok (.bipush 9, 2) := by decide +kernel
theorem dL_homes_1030 : decode cL_homes 1030 = .ok (.irem, 1) := by decide +kernel
theorem dL_homes_1031 : decode cL_homes 1031 = .ok (.iadd, 1) := by decide +kernel
theorem dL_homes_1032 : decode cL_homes 1032 = .ok (.iconst 3, 1) := by decide +kernel
theorem dL_homes_1033 : decode cL_homes 1033 = .ok (.iload_n 2, 1) := by decide +kernel
theorem dL_homes_1034 : decode cL_homes 1034 = .ok (.imul, 1) := by decide +kernel
theorem dL_homes_1035 : decode cL_homes 1035 = .ok (.iconst 3, 1) := by decide +kernel
theorem dL_homes_1036 : decode cL_homes 1036 = .ok (.iadd, 1) := by decide +kernel
theorem dL_homes_1037 : decode cL_homes 1037 = .ok (.invokevirtual 38, 3) := by decide +kernel
theorem dL_homes_1040 : decode cL_homes 1040 = .ok (.iload_n 2, 1) := by decide +kernel
theorem dL_homes_1041 : decode cL_homes 1041 = .ok (.if_icmp .eq 5, 3) := by decide +kernel
theorem dL_homes_1044 : decode cL_homes 1044 = .ok (.iconst 0, 1) := by decide +kernel
theorem dL_homes_1045 : decode cL_homes 1045 = .ok (.ireturn, 1) := by decide +kernel
theorem dL_homes_1046 : decode cL_homes 1046 = .ok (.iinc 2 1, 3) := by decide +kernel
theorem dL_homes_1049 : decode cL_homes 1049 = .ok (.goto (-46), 3) := by decide +kernel
theorem dL_homes_1052 : decode cL_homes 1052 = .ok (.iconst 0, 1) := by decide +kernel
theorem dL_homes_1053 : decode cL_homes 1053 = .ok (.istore_n 2, 1) := by decide +kernel
theorem dL_homes_1054 : decode cL_homes 1054 = .ok (.iload_n 2, 1) := by decide +kernel
theorem dL_homes_1055 : decode cL_homes 1055 = .ok (.bipush 6, 2) := by decide +kernel
theorem dL_homes_1057 : decode cL_homes 1057 = .ok (.if_icmp .ge 26, 3) := by decide +kernel
theorem dL_homes_1060 : decode cL_homes 1060 = .ok (.aload_n 1, 1) := by decide +kernel
theorem dL_homes_1061 : decode cL_homes 1061 = .ok (.bipush 11, 2) := by decide +kernel
theorem dL_homes_1063 : decode cL_homes 1063 = .ok (.iload_n 2, 1) := by decide +kernel
theorem dL_homes_1064 : decode cL_homes 1064 = .ok (.iconst 5, 1) := by decide +kernel
theorem dL_homes_1065 : decode cL_homes 1065 = .ok (.iadd, 1) := by decide +kernel
theorem dL_homes_1066 : decode cL_homes 1066 = .ok (.invokevirtual 45, 3) := by decide +kernel
theorem dL_homes_1069 : decode cL_homes 1069 = .ok (.iload_n 2, 1) := by decide +kernel
theorem dL_homes_1070 : decode cL_homes 1070 = .ok (.iconst 1, 1) := by decide +kernel
theorem dL_homes_1071 : decode cL_homes 1071 = .ok (.iadd, 1) := by decide +kernel
theorem dL_homes_1072 : decode cL_homes 1072 = .ok (.if_icmp .eq 5, 3) := by decide +kernel
theorem dL_homes_1075 : decode cL_homes 1075 = .ok (.iconst 0, 1) := by decide +kernel
theorem dL_homes_1076 : decode cL_homes 1076 = .ok (.ireturn, 1) := by decide +kernel
theorem dL_homes_1077 : decode cL_homes 1077 = .ok (.iinc 2 1, 3) := by decide +kernel
theorem dL_homes_1080 : decode cL_homes 1080 = .ok (.goto (-26), 3) := by decide +kernel
theorem dL_homes_1083 : decode cL_homes 1083 = .ok (.aload_n 1, 1) := by decide +kernel
theorem dL_homes_1084 : decode cL_homes 1084 = .ok (.iconst 1, 1) := by decide +kernel
theorem dL_homes_1085 : decode cL_homes 1085 = .ok (.iconst 1, 1) := by decide +kernel
theorem dL_homes_1086 : decode cL_homes 1086 = .ok (.invokevirtual 33, 3) := by decide +kernel
theorem dL_homes_1089 : decode cL_homes 1089 = .ok (.bipush (-3), 2) := by decide +kernel
theorem dL_homes_1091 : decode cL_homes 1091 = .ok (.if_icmp .ne 109, 3) := by decide +kernel
theorem dL_homes_1094 : decode cL_homes 1094 = .ok (.aload_n 1, 1) := by decide +kernel
theorem dL_homes_1095 : decode cL_homes 1095 = .ok (.iconst 1, 1) := by decide +kernel
theorem dL_homes_1096 : decode cL_homes 1096 = .ok (.iconst 1, 1) := by decide +kernel
theorem dL_homes_1097 : decode cL_homes 1097 = .ok (.invokevirtual 38, 3) := by decide +kernel
theorem dL_homes_1100 : decode cL_homes 1100 = .ok (.bipush (-3), 2) := by decide +kernel
theorem dL_homes_1102 : decode cL_homes 1102 = .ok (.if_icmp .ne 98, 3) := by decide +kernel
theorem dL_homes_1105 : decode cL_homes 1105 = .ok (.aload_n 1, 1) := by decide +kernel
theorem dL_homes_1106 : decode cL_homes 1106 = .ok (.iconst 0, 1) := by decide +kernel
theorem dL_homes_1107 : decode cL_homes 1107 = .ok (.iconst 1, 1) := by decide +kernel
theorem dL_homes_1108 : decode cL_homes 1108 = .ok (.invokevirtual 33, 3) := by decide +kernel
theorem dL_homes_1111 : decode cL_homes 1111 = .ok (.bipush (-2), 2) := by decide +kernel
theorem dL_homes_1113 : decode cL_homes 1113 = .ok (.if_icmp .ne 87, 3) := by decide +kernel
theorem dL_homes_1116 : decode cL_homes 1116 = .ok (.aload_n 1, 1) := by decide +kernel
theorem dL_homes_1117 : decode cL_homes 1117 = .ok (.bipush 11, 2) := by decide +kernel
theorem dL_homes_1119 : decode cL_homes 1119 = .ok (.iconst 5, 1) := by decide +kernel
theorem dL_homes_1120 : decode cL_homes 1120 = .ok (.invokevirtual 45, 3) := by decide +kernel
theorem dL_homes_1123 : decode cL_homes 1123 = .ok (.bipush (-3), 2) := by decide +kernel
theorem dL_homes_1125 : decode cL_homes 1125 = .ok (.if_icmp .ne 75, 3) := by decide +kernel
theorem dL_homes_1128 : decode cL_homes 1128 = .ok (.aload_n 1, 1) := by decide +kernel
theorem dL_homes_1129 : decode cL_homes 1129 = .ok (.bipush 11, 2) := by decide +kernel
theorem dL_homes_1131 : decode cL_homes 1131 = .ok (.iconst 0, 1) := by decide +kernel
theorem dL_homes_1132 : decode cL_homes 1132 = .ok (.invokevirtual 45, 3) := by decide +kernel
theorem dL_homes_1135 : decode cL_homes 1135 = .ok (.bipush (-3), 2) := by decide +kernel
theorem dL_homes_1137 : decode cL_homes 1137 = .ok (.if_icmp .ne 63, 3) := by decide +kernel
theorem dL_homes_1140 : decode cL_homes 1140 = .ok (.aload_n 1, 1) := by decide +kernel
theorem dL_homes_1141 : decode cL_homes 1141 = .ok (.bipush 11, 2) := by decide +kernel
theorem dL_homes_1143 : decode cL_homes 1143 = .ok (.iconst 5, 1) := by decide +kernel
theorem dL_homes_1144 : decode cL_homes 1144 = .ok (.invokevirtual 26, 3) := by decide +kernel
theorem dL_homes_1147 : decode cL_homes 1147 = .ok (.bipush 10, 2) := by decide +kernel
theorem dL_homes_1149 : decode cL_homes 1149 = .ok (.if_icmp .ne 51, 3) := by decide +kernel
theorem dL_homes_1152 : decode cL_homes 1152 = .ok (.aload_n 1, 1) := by decide +kernel
theorem dL_homes_1153 : decode cL_homes 1153 = .ok (.bipush 11, 2) := by decide +kernel
theorem dL_homes_1155 : decode cL_homes 1155 = .ok (.bipush 7, 2) := by decide +kernel
theorem dL_homes_1157 : decode cL_homes 1157 = .ok (.invokevirtual 48, 3) := by decide +kernel
theorem dL_homes_1160 : decode cL_homes 1160 = .ok (.iconst 2, 1) := by decide +kernel
theorem dL_homes_1161 : decode cL_homes 1161 = .ok (.if_icmp .ne 39, 3) := by decide +kernel
theorem dL_homes_1164 : decode cL_homes 1164 = .ok (.aload_n 1, 1) := by decide +kernel
theorem dL_homes_1165 : decode cL_homes 1165 = .ok (.bipush 11, 2) := by decide +kernel
theorem dL_homes_1167 : decode cL_homes 1167 = .ok (.iconst 2, 1) := by decide +kernel
theorem dL_homes_1168 : decode cL_homes 1168 = .ok (.invokevirtual 26, 3) := by decide +kernel
theorem dL_homes_1171 : decode cL_homes 1171 = .ok (.bipush 8, 2) := by decide +kernel
theorem dL_homes_1173 : decode cL_homes 1173 = .ok (.if_icmp .ne 27, 3) := by decide +kernel
theorem dL_homes_1176 : decode cL_homes 1176 = .ok (.aload_n 1, 1) := by decide +kernel
theorem dL_homes_1177 : decode cL_homes 1177 = .ok (.bipush 11, 2) := by decide +kernel
theorem dL_homes_1179 : decode cL_homes 1179 = .ok (.bipush 8, 2) := by decide +kernel
theorem dL_homes_1181 : decode cL_homes 1181 = .ok (.invokevirtual 45, 3) := by decide +kernel
theorem dL_homes_1184 : decode cL_homes 1184 = .ok (.bipush (-4), 2) := by decide +kernel
theorem dL_homes_1186 : decode cL_homes 1186 = .ok (.if_icmp .ne 14, 3) := by decide +kernel
theorem dL_homes_1189 : decode cL_homes 1189 = .ok (.aload_n 1, 1) := by decide +kernel
theorem dL_homes_1190 : decode cL_homes 1190 = .ok (.invokestatic 112, 3) := by decide +kernel
theorem dL_homes_1193 : decode cL_homes 1193 = .ok (.ifCond .eq 7, 3) := by decide +kernel
theorem dL_homes_1196 : decode cL_homes 1196 = .ok (.iconst 1, 1) := by decide +kernel
theorem dL_homes_1197 : decode cL_homes 1197 = .ok (.goto 4, 3) := by decide +kernel
theorem dL_homes_1200 : decode cL_homes 1200 = .ok (.iconst 0, 1) := by decide +kernel
theorem dL_homes_1201 : decode cL_homes 1201 = .ok (.ireturn, 1) := by decide +kernel
theorem dL_faultOf_0 : decode cL_faultOf 0 = .ok (.new 14, 3) := by decide +kernel
theorem dL_faultOf_3 : decode cL_faultOf 3 = .ok (.dup, 1) := by decide +kernel
theorem dL_faultOf_4 : decode cL_faultOf 4 = .ok (.invokespecial 86, 3) := by decide +kernel
theorem dL_faultOf_7 : decode cL_faultOf 7 = .ok (.astore 4, 2) := by decide +kernel
theorem dL_faultOf_9 : decode cL_faultOf 9 = .ok (.aload 4, 2) := by decide +kernel
theorem dL_faultOf_11 : decode cL_faultOf 11 = .ok (.lload_n 0, 1) := by decide +kernel
theorem dL_faultOf_12 : decode cL_faultOf 12 = .ok (.invokestatic 101, 3) := by decide +kernel
theorem dL_faultOf_15 : decode cL_faultOf 15 = .ok (.ifCond .eq 12, 3) := by decide +kernel
theorem dL_faultOf_18 : decode cL_faultOf 18 = .ok (.aload 4, 2) := by decide +kernel
theorem dL_faultOf_20 : decode cL_faultOf 20 = .ok (.lload_n 2, 1) := by decide +kernel
theorem dL_faultOf_21 : decode cL_faultOf 21 = .ok (.invokestatic 101, 3) := by decide +kernel
theorem dL_faultOf_24 : decode cL_faultOf 24 = .ok (.ifCond .ne 6, 3) := by decide +kernel
theorem dL_faultOf_27 : decode cL_faultOf 27 = .ok (.bipush (-99), 2) := by decide +kernel
theorem dL_faultOf_29 : decode cL_faultOf 29 = .ok (.ireturn, 1) := by decide +kernel
theorem dL_faultOf_30 : decode cL_faultOf 30 = .ok (.aload 4, 2) := by decide +kernel
theorem dL_faultOf_32 : decode cL_faultOf 32 = .ok (.invokevirtual 109, 3) := by decide +kernel
theorem dL_faultOf_35 : decode cL_faultOf 35 = .ok (.istore 5, 2) := by decide +kernel
theorem dL_faultOf_37 : decode cL_faultOf 37 = .ok (.iload 5, 2) := by decide +kernel
theorem dL_faultOf_39 : decode cL_faultOf 39 = .ok (.iconst (-1), 1) := by decide +kernel
theorem dL_faultOf_40 : decode cL_faultOf 40 = .ok (.if_icmp .ne 7, 3) := by decide +kernel
theorem dL_faultOf_43 : decode cL_faultOf 43 = .ok (.iconst (-1), 1) := by decide +kernel
theorem dL_faultOf_44 : decode cL_faultOf 44 = .ok (.goto 8, 3) := by decide +kernel
theorem dL_faultOf_47 : decode cL_faultOf 47 = .ok (.bipush (-100), 2) := by decide +kernel
theorem dL_faultOf_49 : decode cL_faultOf 49 = .ok (.iload 5, 2) := by decide +kernel
theorem dL_faultOf_51 : decode cL_faultOf 51 = .ok (.isub, 1) := by decide +kernel
theorem dL_faultOf_52 : decode cL_faultOf 52 = .ok (.ireturn, 1) := by decide +kernel
theorem dL_texts_0 : decode cL_texts 0 = .ok (.lconst 0, 1) := by decide +kernel
theorem dL_texts_1 : decode cL_texts 1 = .ok (.lconst 0, 1) := by decide +kernel
theorem dL_texts_2 : decode cL_texts 2 = .ok (.invokestatic 116, 3) := by decide +kernel
theorem dL_texts_5 : decode cL_texts 5 = .ok (.ifCond .ne 96, 3) := by decide +kernel
theorem dL_texts_8 : decode cL_texts 8 = .ok (.ldc2_w 120, 3) := by decide +kernel
theorem dL_texts_11 : decode cL_texts 11 = .ok (.lconst 0, 1) := by decide +kernel
theorem dL_texts_12 : decode cL_texts 12 = .ok (.invokestatic 116, 3) := by decide +kernel
theorem dL_texts_15 : decode cL_texts 15 = .ok (.iconst 1, 1) := by decide +kernel
theorem dL_texts_16 : decode cL_texts 16 = .ok (.if_icmp .ne 85, 3) := by decide +kernel
theorem dL_texts_19 : decode cL_texts 19 = .ok (.ldc2_w 122, 3) := by decide +kernel
theorem dL_texts_22 : decode cL_texts 22 = .ok (.lconst 0, 1) := by decide +kernel
theorem dL_texts_23 : decode cL_texts 23 = .ok (.invokestatic 116, 3) := by decide +kernel
theorem dL_texts_26 : decode cL_texts 26 = .ok (.iconst 1, 1) := by decide +kernel
theorem dL_texts_27 : decode cL_texts 27 = .ok (.if_icmp .ne 74, 3) := by decide +kernel
theorem dL_texts_30 : decode cL_texts 30 = .ok (.ldc2_w 124, 3) := by decide +kernel
theorem dL_texts_33 : decode cL_texts 33 = .ok (.lconst 0, 1) := by decide +kernel
theorem dL_texts_34 : decode cL_texts 34 = .ok (.invokestatic 116, 3) := by decide +kernel
theorem dL_texts_37 : decode cL_texts 37 = .ok (.iconst 2, 1) := by decide +kernel
theorem dL_texts_38 : decode cL_texts 38 = .ok (.if_icmp .ne 63, 3) := by decide +kernel
theorem dL_texts_41 : decode cL_texts 41 = .ok (.ldc2_w 126, 3) := by decide +kernel
theorem dL_texts_44 : decode cL_texts 44 = .ok (.lconst 0, 1) := by decide +kernel
theorem dL_texts_45 : decode cL_texts 45 = .ok (.invokestatic 116, 3) := by decide +kernel
theorem dL_texts_48 : decode cL_texts 48 = .ok (.iconst 5, 1) := by decide +kernel
theorem dL_texts_49 : decode cL_texts 49 = .ok (.if_icmp .ne 52, 3) := by decide +kernel
theorem dL_texts_52 : decode cL_texts 52 = .ok (.ldc2_w 128, 3) := by decide +kernel
theorem dL_texts_55 : decode cL_texts 55 = .ok (.lconst 0, 1) := by decide +kernel
theorem dL_texts_56 : decode cL_texts 56 = .ok (.invokestatic 116, 3) := by decide +kernel
theorem dL_texts_59 : decode cL_texts 59 = .ok (.iconst 1, 1) := by decide +kernel
theorem dL_texts_60 : decode cL_texts 60 = .ok (.if_icmp .ne 41, 3) := by decide +kernel
theorem dL_texts_63 : decode cL_texts 63 = .ok (.ldc2_w 130, 3) := by decide +kernel
theorem dL_texts_66 : decode cL_texts 66 = .ok (.ldc2_w 132, 3) := by decide +kernel
theorem dL_texts_69 : decode cL_texts 69 = .ok (.invokestatic 116, 3) := by decide +kernel
theorem dL_texts_72 : decode cL_texts 72 = .ok (.iconst (-1), 1) := by decide +kernel
theorem dL_texts_73 : decode cL_texts 73 = .ok (.if_icmp .ne 28, 3) := by decide +kernel
theorem dL_texts_76 : decode cL_texts 76 = .ok (.ldc2_w 130, 3) := by decide +kernel
theorem dL_texts_79 : decode cL_texts 79 = .ok (.ldc2_w 134, 3) := by decide +kernel
theorem dL_texts_82 : decode cL_texts 82 = .ok (.invokestatic 116, 3) := by decide +kernel
theorem dL_texts_85 : decode cL_texts 85 = .ok (.bipush 13, 2) := by decide +kernel
theorem dL_texts_87 : decode cL_texts 87 = .ok (.if_icmp .ne 14, 3) := by decide +kernel
theorem dL_texts_90 : decode cL_texts 90 = .ok (.ldc2_w 136, 3) := by decide +kernel
theorem dL_texts_93 : decode cL_texts 93 = .ok (.lconst 0, 1) := by decide +kernel
theorem dL_texts_94 : decode cL_texts 94 = .ok (.invokestatic 116, 3) := by decide +kernel
theorem dL_texts_97 : decode cL_texts 97 = .ok (.iconst 4, 1) := by decide +kernel
theorem dL_texts_98 : decode cL_texts 98 = .ok (.if_icmp .eq 5, 3) := by decide +kernel
theorem dL_texts_101 : decode cL_texts 101 = .ok (.iconst 0, 1) := by decide +kernel
