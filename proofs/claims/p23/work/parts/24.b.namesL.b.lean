theorem dL_act_608 : decode cL_act 608 = .ok (.getfield 54, 3) := by decide +kernel
theorem dL_act_611 : decode cL_act 611 = .ok (.if_icmp .ne 7, 3) := by decide +kernel
theorem dL_act_614 : decode cL_act 614 = .ok (.iconst 1, 1) := by decide +kernel
theorem dL_act_615 : decode cL_act 615 = .ok (.goto 4, 3) := by decide +kernel
theorem dL_act_618 : decode cL_act 618 = .ok (.iconst 0, 1) := by decide +kernel
theorem dL_act_619 : decode cL_act 619 = .ok (.ireturn, 1) := by decide +kernel
theorem dL_act_620 : decode cL_act 620 = .ok (.aload 7, 2) := by decide +kernel
theorem dL_act_622 : decode cL_act 622 = .ok (.getfield 87, 3) := by decide +kernel
theorem dL_act_625 : decode cL_act 625 = .ok (.ifCond .ne 5, 3) := by decide +kernel
theorem dL_act_628 : decode cL_act 628 = .ok (.iconst 1, 1) := by decide +kernel
theorem dL_act_629 : decode cL_act 629 = .ok (.ireturn, 1) := by decide +kernel
theorem dL_act_630 : decode cL_act 630 = .ok (.aload 7, 2) := by decide +kernel
theorem dL_act_632 : decode cL_act 632 = .ok (.iconst 0, 1) := by decide +kernel
theorem dL_act_633 : decode cL_act 633 = .ok (.putfield 87, 3) := by decide +kernel
theorem dL_act_636 : decode cL_act 636 = .ok (.aload 7, 2) := by decide +kernel
theorem dL_act_638 : decode cL_act 638 = .ok (.aload_n 1, 1) := by decide +kernel
theorem dL_act_639 : decode cL_act 639 = .ok (.getfield 74, 3) := by decide +kernel
theorem dL_act_642 : decode cL_act 642 = .ok (.invokevirtual 80, 3) := by decide +kernel
theorem dL_act_645 : decode cL_act 645 = .ok (.aload_n 0, 1) := by decide +kernel
theorem dL_act_646 : decode cL_act 646 = .ok (.iload 6, 2) := by decide +kernel
theorem dL_act_648 : decode cL_act 648 = .ok (.invokevirtual 91, 3) := by decide +kernel
theorem dL_act_651 : decode cL_act 651 = .ok (.aload 7, 2) := by decide +kernel
theorem dL_act_653 : decode cL_act 653 = .ok (.getfield 54, 3) := by decide +kernel
theorem dL_act_656 : decode cL_act 656 = .ok (.if_icmp .ne 7, 3) := by decide +kernel
theorem dL_act_659 : decode cL_act 659 = .ok (.iconst 1, 1) := by decide +kernel
theorem dL_act_660 : decode cL_act 660 = .ok (.goto 4, 3) := by decide +kernel
theorem dL_act_663 : decode cL_act 663 = .ok (.iconst 0, 1) := by decide +kernel
theorem dL_act_664 : decode cL_act 664 = .ok (.ireturn, 1) := by decide +kernel
theorem dL_act_665 : decode cL_act 665 = .ok (.aload 7, 2) := by decide +kernel
theorem dL_act_667 : decode cL_act 667 = .ok (.getfield 87, 3) := by decide +kernel
theorem dL_act_670 : decode cL_act 670 = .ok (.ifCond .ne 17, 3) := by decide +kernel
theorem dL_act_673 : decode cL_act 673 = .ok (.aload 7, 2) := by decide +kernel
theorem dL_act_675 : decode cL_act 675 = .ok (.getfield 54, 3) := by decide +kernel
theorem dL_act_678 : decode cL_act 678 = .ok (.aload_n 1, 1) := by decide +kernel
theorem dL_act_679 : decode cL_act 679 = .ok (.getfield 74, 3) := by decide +kernel
theorem dL_act_682 : decode cL_act 682 = .ok (.iconst 2, 1) := by decide +kernel
theorem dL_act_683 : decode cL_act 683 = .ok (.iadd, 1) := by decide +kernel
theorem dL_act_684 : decode cL_act 684 = .ok (.if_icmp .ge 5, 3) := by decide +kernel
theorem dL_act_687 : decode cL_act 687 = .ok (.iconst 1, 1) := by decide +kernel
theorem dL_act_688 : decode cL_act 688 = .ok (.ireturn, 1) := by decide +kernel
theorem dL_act_689 : decode cL_act 689 = .ok (.aload 7, 2) := by decide +kernel
theorem dL_act_691 : decode cL_act 691 = .ok (.iconst 1, 1) := by decide +kernel
theorem dL_act_692 : decode cL_act 692 = .ok (.putfield 87, 3) := by decide +kernel
theorem dL_act_695 : decode cL_act 695 = .ok (.aload 7, 2) := by decide +kernel
theorem dL_act_697 : decode cL_act 697 = .ok (.dup, 1) := by decide +kernel
theorem dL_act_698 : decode cL_act 698 = .ok (.getfield 54, 3) := by decide +kernel
theorem dL_act_701 : decode cL_act 701 = .ok (.aload_n 1, 1) := by decide +kernel
theorem dL_act_702 : decode cL_act 702 = .ok (.getfield 74, 3) := by decide +kernel
theorem dL_act_705 : decode cL_act 705 = .ok (.iconst 2, 1) := by decide +kernel
theorem dL_act_706 : decode cL_act 706 = .ok (.iadd, 1) := by decide +kernel
theorem dL_act_707 : decode cL_act 707 = .ok (.isub, 1) := by decide +kernel
theorem dL_act_708 : decode cL_act 708 = .ok (.putfield 54, 3) := by decide +kernel
theorem dL_act_711 : decode cL_act 711 = .ok (.aload_n 0, 1) := by decide +kernel
theorem dL_act_712 : decode cL_act 712 = .ok (.iload 6, 2) := by decide +kernel
theorem dL_act_714 : decode cL_act 714 = .ok (.invokevirtual 93, 3) := by decide +kernel
theorem dL_act_717 : decode cL_act 717 = .ok (.aload 7, 2) := by decide +kernel
theorem dL_act_719 : decode cL_act 719 = .ok (.getfield 54, 3) := by decide +kernel
theorem dL_act_722 : decode cL_act 722 = .ok (.if_icmp .ne 7, 3) := by decide +kernel
theorem dL_act_725 : decode cL_act 725 = .ok (.iconst 1, 1) := by decide +kernel
theorem dL_act_726 : decode cL_act 726 = .ok (.goto 4, 3) := by decide +kernel
theorem dL_act_729 : decode cL_act 729 = .ok (.iconst 0, 1) := by decide +kernel
theorem dL_act_730 : decode cL_act 730 = .ok (.ireturn, 1) := by decide +kernel
theorem dL_act_731 : decode cL_act 731 = .ok (.aload 7, 2) := by decide +kernel
theorem dL_act_733 : decode cL_act 733 = .ok (.getfield 96, 3) := by decide +kernel
theorem dL_act_736 : decode cL_act 736 = .ok (.ifnonnull 13, 3) := by decide +kernel
theorem dL_act_739 : decode cL_act 739 = .ok (.aload 7, 2) := by decide +kernel
theorem dL_act_741 : decode cL_act 741 = .ok (.getfield 99, 3) := by decide +kernel
theorem dL_act_744 : decode cL_act 744 = .ok (.ifCond .ne 5, 3) := by decide +kernel
theorem dL_act_747 : decode cL_act 747 = .ok (.iconst 1, 1) := by decide +kernel
theorem dL_act_748 : decode cL_act 748 = .ok (.ireturn, 1) := by decide +kernel
theorem dL_act_749 : decode cL_act 749 = .ok (.aload 7, 2) := by decide +kernel
theorem dL_act_751 : decode cL_act 751 = .ok (.getfield 96, 3) := by decide +kernel
theorem dL_act_754 : decode cL_act 754 = .ok (.ifnonnull 7, 3) := by decide +kernel
theorem dL_act_757 : decode cL_act 757 = .ok (.iconst (-1), 1) := by decide +kernel
theorem dL_act_758 : decode cL_act 758 = .ok (.goto 11, 3) := by decide +kernel
theorem dL_act_761 : decode cL_act 761 = .ok (.aload 7, 2) := by decide +kernel
theorem dL_act_763 : decode cL_act 763 = .ok (.getfield 96, 3) := by decide +kernel
theorem dL_act_766 : decode cL_act 766 = .ok (.getfield 28, 3) := by decide +kernel
theorem dL_act_769 : decode cL_act 769 = .ok (.istore 12, 2) := by decide +kernel
theorem dL_act_771 : decode cL_act 771 = .ok (.aload 7, 2) := by decide +kernel
theorem dL_act_773 : decode cL_act 773 = .ok (.invokevirtual 102, 3) := by decide +kernel
theorem dL_act_776 : decode cL_act 776 = .ok (.aload_n 0, 1) := by decide +kernel
theorem dL_act_777 : decode cL_act 777 = .ok (.iload 6, 2) := by decide +kernel
theorem dL_act_779 : decode cL_act 779 = .ok (.invokevirtual 105, 3) := by decide +kernel
theorem dL_act_782 : decode cL_act 782 = .ok (.iload 12, 2) := by decide +kernel
theorem dL_act_784 : decode cL_act 784 = .ok (.if_icmp .ne 7, 3) := by decide +kernel
theorem dL_act_787 : decode cL_act 787 = .ok (.iconst 1, 1) := by decide +kernel
theorem dL_act_788 : decode cL_act 788 = .ok (.goto 4, 3) := by decide +kernel
theorem dL_act_791 : decode cL_act 791 = .ok (.iconst 0, 1) := by decide +kernel
theorem dL_act_792 : decode cL_act 792 = .ok (.ireturn, 1) := by decide +kernel
theorem dL_act_793 : decode cL_act 793 = .ok (.aload 7, 2) := by decide +kernel
theorem dL_act_795 : decode cL_act 795 = .ok (.getfield 96, 3) := by decide +kernel
theorem dL_act_798 : decode cL_act 798 = .ok (.ifnonnull 11, 3) := by decide +kernel
theorem dL_act_801 : decode cL_act 801 = .ok (.aload 7, 2) := by decide +kernel
theorem dL_act_803 : decode cL_act 803 = .ok (.getfield 99, 3) := by decide +kernel
theorem dL_act_806 : decode cL_act 806 = .ok (.ifCond .eq 5, 3) := by decide +kernel
theorem dL_act_809 : decode cL_act 809 = .ok (.iconst 1, 1) := by decide +kernel
theorem dL_act_810 : decode cL_act 810 = .ok (.ireturn, 1) := by decide +kernel
theorem dL_act_811 : decode cL_act 811 = .ok (.aload 7, 2) := by decide +kernel
theorem dL_act_813 : decode cL_act 813 = .ok (.getfield 45, 3) := by decide +kernel
theorem dL_act_816 : decode cL_act 816 = .ok (.istore 13, 2) := by decide +kernel
theorem dL_act_818 : decode cL_act 818 = .ok (.aload 7, 2) := by decide +kernel
theorem dL_act_820 : decode cL_act 820 = .ok (.iload_n 2, 1) := by decide +kernel
theorem dL_act_821 : decode cL_act 821 = .ok (.iconst 3, 1) := by decide +kernel
theorem dL_act_822 : decode cL_act 822 = .ok (.ishr, 1) := by decide +kernel
theorem dL_act_823 : decode cL_act 823 = .ok (.iconst 3, 1) := by decide +kernel
theorem dL_act_824 : decode cL_act 824 = .ok (.invokestatic 19, 3) := by decide +kernel
theorem dL_act_827 : decode cL_act 827 = .ok (.putfield 45, 3) := by decide +kernel
theorem dL_act_830 : decode cL_act 830 = .ok (.aload_n 0, 1) := by decide +kernel
theorem dL_act_831 : decode cL_act 831 = .ok (.iload 6, 2) := by decide +kernel
theorem dL_act_833 : decode cL_act 833 = .ok (.aload 7, 2) := by decide +kernel
theorem dL_act_835 : decode cL_act 835 = .ok (.getfield 45, 3) := by decide +kernel
theorem dL_act_838 : decode cL_act 838 = .ok (.invokevirtual 108, 3) := by decide +kernel
theorem dL_act_841 : decode cL_act 841 = .ok (.iload 13, 2) := by decide +kernel
theorem dL_act_843 : decode cL_act 843 = .ok (.if_icmp .ne 7, 3) := by decide +kernel
theorem dL_act_846 : decode cL_act 846 = .ok (.iconst 1, 1) := by decide +kernel
theorem dL_act_847 : decode cL_act 847 = .ok (.goto 4, 3) := by decide +kernel
theorem dL_act_850 : decode cL_act 850 = .ok (.iconst 0, 1) := by decide +kernel
theorem dL_act_851 : decode cL_act 851 = .ok (.ireturn, 1) := by decide +kernel
theorem dL_act_852 : decode cL_act 852 = .ok (.iconst 1, 1) := by decide +kernel
theorem dL_act_853 : decode cL_act 853 = .ok (.iload_n 2, 1) := by decide +kernel
theorem dL_act_854 : decode cL_act 854 = .ok (.iconst 2, 1) := by decide +kernel
theorem dL_act_855 : decode cL_act 855 = .ok (.ishr, 1) := by decide +kernel
theorem dL_act_856 : decode cL_act 856 = .ok (.iconst 5, 1) := by decide +kernel
theorem dL_act_857 : decode cL_act 857 = .ok (.invokestatic 19, 3) := by decide +kernel
theorem dL_act_860 : decode cL_act 860 = .ok (.iadd, 1) := by decide +kernel
theorem dL_act_861 : decode cL_act 861 = .ok (.istore 14, 2) := by decide +kernel
theorem dL_act_863 : decode cL_act 863 = .ok (.aload_n 1, 1) := by decide +kernel
theorem dL_act_864 : decode cL_act 864 = .ok (.invokevirtual 111, 3) := by decide +kernel
theorem dL_act_867 : decode cL_act 867 = .ok (.iconst 3, 1) := by decide +kernel
theorem dL_act_868 : decode cL_act 868 = .ok (.iaload, 1) := by decide +kernel
theorem dL_act_869 : decode cL_act 869 = .ok (.istore 15, 2) := by decide +kernel
theorem dL_act_871 : decode cL_act 871 = .ok (.aload_n 1, 1) := by decide +kernel
theorem dL_act_872 : decode cL_act 872 = .ok (.iload 14, 2) := by decide +kernel
theorem dL_act_874 : decode cL_act 874 = .ok (.invokevirtual 115, 3) := by decide +kernel
theorem dL_act_877 : decode cL_act 877 = .ok (.pop, 1) := by decide +kernel
theorem dL_act_878 : decode cL_act 878 = .ok (.aload_n 0, 1) := by decide +kernel
theorem dL_act_879 : decode cL_act 879 = .ok (.iload 14, 2) := by decide +kernel
theorem dL_act_881 : decode cL_act 881 = .ok (.invokevirtual 119, 3) := by decide +kernel
theorem dL_act_884 : decode cL_act 884 = .ok (.aload_n 1, 1) := by decide +kernel
theorem dL_act_885 : decode cL_act 885 = .ok (.invokevirtual 111, 3) := by decide +kernel
theorem dL_act_888 : decode cL_act 888 = .ok (.iconst 3, 1) := by decide +kernel
theorem dL_act_889 : decode cL_act 889 = .ok (.iaload, 1) := by decide +kernel
theorem dL_act_890 : decode cL_act 890 = .ok (.iload 15, 2) := by decide +kernel
theorem dL_act_892 : decode cL_act 892 = .ok (.isub, 1) := by decide +kernel
theorem dL_act_893 : decode cL_act 893 = .ok (.if_icmp .ne 7, 3) := by decide +kernel
theorem dL_act_896 : decode cL_act 896 = .ok (.iconst 1, 1) := by decide +kernel
theorem dL_act_897 : decode cL_act 897 = .ok (.goto 4, 3) := by decide +kernel
theorem dL_act_900 : decode cL_act 900 = .ok (.iconst 0, 1) := by decide +kernel
theorem dL_act_901 : decode cL_act 901 = .ok (.ireturn, 1) := by decide +kernel
theorem dL_build_0 : decode cL_build 0 = .ok (.new 10, 3) := by decide +kernel
theorem dL_build_3 : decode cL_build 3 = .ok (.dup, 1) := by decide +kernel
theorem dL_build_4 : decode cL_build 4 = .ok (.invokespecial 122, 3) := by decide +kernel
theorem dL_build_7 : decode cL_build 7 = .ok (.astore_n 2, 1) := by decide +kernel
theorem dL_build_8 : decode cL_build 8 = .ok (.bipush 24, 2) := by decide +kernel
theorem dL_build_10 : decode cL_build 10 = .ok (.aload_n 1, 1) := by decide +kernel
theorem dL_build_11 : decode cL_build 11 = .ok (.iconst 0, 1) := by decide +kernel
theorem dL_build_12 : decode cL_build 12 = .ok (.invokestatic 123, 3) := by decide +kernel
theorem dL_build_15 : decode cL_build 15 = .ok (.bipush 40, 2) := by decide +kernel
theorem dL_build_17 : decode cL_build 17 = .ok (.invokestatic 19, 3) := by decide +kernel
theorem dL_build_20 : decode cL_build 20 = .ok (.iadd, 1) := by decide +kernel
theorem dL_build_21 : decode cL_build 21 = .ok (.istore_n 3, 1) := by decide +kernel
theorem dL_build_22 : decode cL_build 22 = .ok (.iconst 0, 1) := by decide +kernel
theorem dL_build_23 : decode cL_build 23 = .ok (.istore 4, 2) := by decide +kernel
theorem dL_build_25 : decode cL_build 25 = .ok (.iload 4, 2) := by decide +kernel
theorem dL_build_27 : decode cL_build 27 = .ok (.bipush 6, 2) := by decide +kernel
theorem dL_build_29 : decode cL_build 29 = .ok (.if_icmp .ge 44, 3) := by decide +kernel
theorem dL_build_32 : decode cL_build 32 = .ok (.aload_n 0, 1) := by decide +kernel
theorem dL_build_33 : decode cL_build 33 = .ok (.aload_n 2, 1) := by decide +kernel
theorem dL_build_34 : decode cL_build 34 = .ok (.aload_n 1, 1) := by decide +kernel
theorem dL_build_35 : decode cL_build 35 = .ok (.iload 4, 2) := by decide +kernel
theorem dL_build_37 : decode cL_build 37 = .ok (.invokestatic 123, 3) := by decide +kernel
theorem dL_build_40 : decode cL_build 40 = .ok (.sipush 511, 3) := by decide +kernel
theorem dL_build_43 : decode cL_build 43 = .ok (.iand, 1) := by decide +kernel
theorem dL_build_44 : decode cL_build 44 = .ok (.iload 4, 2) := by decide +kernel
theorem dL_build_46 : decode cL_build 46 = .ok (.iconst 3, 1) := by decide +kernel
theorem dL_build_47 : decode cL_build 47 = .ok (.irem, 1) := by decide +kernel
theorem dL_build_48 : decode cL_build 48 = .ok (.bipush 9, 2) := by decide +kernel
theorem dL_build_50 : decode cL_build 50 = .ok (.ishl, 1) := by decide +kernel
theorem dL_build_51 : decode cL_build 51 = .ok (.ior, 1) := by decide +kernel
theorem dL_build_52 : decode cL_build 52 = .ok (.sipush 9216, 3) := by decide +kernel
theorem dL_build_55 : decode cL_build 55 = .ok (.iload 4, 2) := by decide +kernel
theorem dL_build_57 : decode cL_build 57 = .ok (.imul, 1) := by decide +kernel
theorem dL_build_58 : decode cL_build 58 = .ok (.iadd, 1) := by decide +kernel
theorem dL_build_59 : decode cL_build 59 = .ok (.invokestatic 127, 3) := by decide +kernel
theorem dL_build_62 : decode cL_build 62 = .ok (.ifCond .ne 5, 3) := by decide +kernel
theorem dL_build_65 : decode cL_build 65 = .ok (.aconst_null, 1) := by decide +kernel
theorem dL_build_66 : decode cL_build 66 = .ok (.areturn, 1) := by decide +kernel
theorem dL_build_67 : decode cL_build 67 = .ok (.iinc 4 1, 3) := by decide +kernel
theorem dL_build_70 : decode cL_build 70 = .ok (.goto (-45), 3) := by decide +kernel
theorem dL_build_73 : decode cL_build 73 = .ok (.iconst 0, 1) := by decide +kernel
theorem dL_build_74 : decode cL_build 74 = .ok (.istore 4, 2) := by decide +kernel
theorem dL_build_76 : decode cL_build 76 = .ok (.iload 4, 2) := by decide +kernel
theorem dL_build_78 : decode cL_build 78 = .ok (.iload_n 3, 1) := by decide +kernel
theorem dL_build_79 : decode cL_build 79 = .ok (.if_icmp .ge 43, 3) := by decide +kernel
theorem dL_build_82 : decode cL_build 82 = .ok (.aload_n 0, 1) := by decide +kernel
theorem dL_build_83 : decode cL_build 83 = .ok (.aload_n 2, 1) := by decide +kernel
theorem dL_build_84 : decode cL_build 84 = .ok (.aload_n 1, 1) := by decide +kernel
theorem dL_build_85 : decode cL_build 85 = .ok (.iload 4, 2) := by decide +kernel
theorem dL_build_87 : decode cL_build 87 = .ok (.bipush 16, 2) := by decide +kernel
theorem dL_build_89 : decode cL_build 89 = .ok (.irem, 1) := by decide +kernel
theorem dL_build_90 : decode cL_build 90 = .ok (.invokestatic 123, 3) := by decide +kernel
theorem dL_build_93 : decode cL_build 93 = .ok (.iload 4, 2) := by decide +kernel
theorem dL_build_95 : decode cL_build 95 = .ok (.bipush 16, 2) := by decide +kernel
theorem dL_build_97 : decode cL_build 97 = .ok (.idiv, 1) := by decide +kernel
theorem dL_build_98 : decode cL_build 98 = .ok (.iconst 3, 1) := by decide +kernel
theorem dL_build_99 : decode cL_build 99 = .ok (.imul, 1) := by decide +kernel
theorem dL_build_100 : decode cL_build 100 = .ok (.ishr, 1) := by decide +kernel
theorem dL_build_101 : decode cL_build 101 = .ok (.sipush 479, 3) := by decide +kernel
theorem dL_build_104 : decode cL_build 104 = .ok (.iload 4, 2) := by decide +kernel
theorem dL_build_106 : decode cL_build 106 = .ok (.imul, 1) := by decide +kernel
theorem dL_build_107 : decode cL_build 107 = .ok (.iadd, 1) := by decide +kernel
theorem dL_build_108 : decode cL_build 108 = .ok (.invokestatic 127, 3) := by decide +kernel
theorem dL_build_111 : decode cL_build 111 = .ok (.ifCond .ne 5, 3) := by decide +kernel
theorem dL_build_114 : decode cL_build 114 = .ok (.aconst_null, 1) := by decide +kernel
theorem dL_build_115 : decode cL_build 115 = .ok (.areturn, 1) := by decide +kernel
theorem dL_build_116 : decode cL_build 116 = .ok (.iinc 4 1, 3) := by decide +kernel
theorem dL_build_119 : decode cL_build 119 = .ok (.goto (-43), 3) := by decide +kernel
theorem dL_build_122 : decode cL_build 122 = .ok (.aload_n 2, 1) := by decide +kernel
theorem dL_build_123 : decode cL_build 123 = .ok (.areturn, 1) := by decide +kernel
theorem dL_law_0 : decode cL_law 0 = .ok (.new 36, 3) := by decide +kernel
theorem dL_law_3 : decode cL_law 3 = .ok (.dup, 1) := by decide +kernel
theorem dL_law_4 : decode cL_law 4 = .ok (.invokespecial 131, 3) := by decide +kernel
theorem dL_law_7 : decode cL_law 7 = .ok (.astore_n 1, 1) := by decide +kernel
theorem dL_law_8 : decode cL_law 8 = .ok (.aload_n 1, 1) := by decide +kernel
theorem dL_law_9 : decode cL_law 9 = .ok (.aload_n 0, 1) := by decide +kernel
theorem dL_law_10 : decode cL_law 10 = .ok (.invokestatic 132, 3) := by decide +kernel
theorem dL_law_13 : decode cL_law 13 = .ok (.astore_n 2, 1) := by decide +kernel
theorem dL_law_14 : decode cL_law 14 = .ok (.aload_n 2, 1) := by decide +kernel
theorem dL_law_15 : decode cL_law 15 = .ok (.ifnonnull 5, 3) := by decide +kernel
theorem dL_law_18 : decode cL_law 18 = .ok (.iconst 0, 1) := by decide +kernel
theorem dL_law_19 : decode cL_law 19 = .ok (.ireturn, 1) := by decide +kernel
theorem dL_law_20 : decode cL_law 20 = .ok (.bipush 10, 2) := by decide +kernel
theorem dL_law_22 : decode cL_law 22 = .ok (.newarray .int, 2) := by decide +kernel
theorem dL_law_24 : decode cL_law 24 = .ok (.astore_n 3, 1) := by decide +kernel
theorem dL_law_25 : decode cL_law 25 = .ok (.bipush 10, 2) := by decide +kernel
theorem dL_law_27 : decode cL_law 27 = .ok (.newarray .int, 2) := by decide +kernel
theorem dL_law_29 : decode cL_law 29 = .ok (.astore 4, 2) := by decide +kernel
theorem dL_law_31 : decode cL_law 31 = .ok (.bipush 10, 2) := by decide +kernel
theorem dL_law_33 : decode cL_law 33 = .ok (.newarray .int, 2) := by decide +kernel
theorem dL_law_35 : decode cL_law 35 = .ok (.astore 5, 2) := by decide +kernel
theorem dL_law_37 : decode cL_law 37 = .ok (.iconst 0, 1) := by decide +kernel
theorem dL_law_38 : decode cL_law 38 = .ok (.istore 6, 2) := by decide +kernel
theorem dL_law_40 : decode cL_law 40 = .ok (.iload 6, 2) := by decide +kernel
theorem dL_law_42 : decode cL_law 42 = .ok (.bipush 40, 2) := by decide +kernel
theorem dL_law_44 : decode cL_law 44 = .ok (.if_icmp .ge 634, 3) := by decide +kernel
theorem dL_law_47 : decode cL_law 47 = .ok (.aload_n 0, 1) := by decide +kernel
theorem dL_law_48 : decode cL_law 48 = .ok (.iload 6, 2) := by decide +kernel
theorem dL_law_50 : decode cL_law 50 = .ok (.bipush 16, 2) := by decide +kernel
theorem dL_law_52 : decode cL_law 52 = .ok (.irem, 1) := by decide +kernel
theorem dL_law_53 : decode cL_law 53 = .ok (.invokestatic 123, 3) := by decide +kernel
theorem dL_law_56 : decode cL_law 56 = .ok (.iload 6, 2) := by decide +kernel
theorem dL_law_58 : decode cL_law 58 = .ok (.bipush 16, 2) := by decide +kernel
theorem dL_law_60 : decode cL_law 60 = .ok (.idiv, 1) := by decide +kernel
theorem dL_law_61 : decode cL_law 61 = .ok (.iconst 3, 1) := by decide +kernel
theorem dL_law_62 : decode cL_law 62 = .ok (.imul, 1) := by decide +kernel
theorem dL_law_63 : decode cL_law 63 = .ok (.ishr, 1) := by decide +kernel
theorem dL_law_64 : decode cL_law 64 = .ok (.sipush 479, 3) := by decide +kernel
theorem dL_law_67 : decode cL_law 67 = .ok (.iload 6, 2) := by decide +kernel
theorem dL_law_69 : decode cL_law 69 = .ok (.imul, 1) := by decide +kernel
theorem dL_law_70 : decode cL_law 70 = .ok (.iadd, 1) := by decide +kernel
theorem dL_law_71 : decode cL_law 71 = .ok (.istore 7, 2) := by decide +kernel
theorem dL_law_73 : decode cL_law 73 = .ok (.aload_n 1, 1) := by decide +kernel
theorem dL_law_74 : decode cL_law 74 = .ok (.aload_n 2, 1) := by decide +kernel
theorem dL_law_75 : decode cL_law 75 = .ok (.iload 7, 2) := by decide +kernel
theorem dL_law_77 : decode cL_law 77 = .ok (.invokestatic 127, 3) := by decide +kernel
theorem dL_law_80 : decode cL_law 80 = .ok (.ifCond .ne 5, 3) := by decide +kernel
theorem dL_law_83 : decode cL_law 83 = .ok (.iconst 0, 1) := by decide +kernel
theorem dL_law_84 : decode cL_law 84 = .ok (.ireturn, 1) := by decide +kernel
theorem dL_law_85 : decode cL_law 85 = .ok (.aload_n 1, 1) := by decide +kernel
theorem dL_law_86 : decode cL_law 86 = .ok (.iconst 1, 1) := by decide +kernel
theorem dL_law_87 : decode cL_law 87 = .ok (.invokevirtual 119, 3) := by decide +kernel
theorem dL_law_90 : decode cL_law 90 = .ok (.pop, 1) := by decide +kernel
theorem dL_law_91 : decode cL_law 91 = .ok (.aload_n 2, 1) := by decide +kernel
theorem dL_law_92 : decode cL_law 92 = .ok (.invokevirtual 136, 3) := by decide +kernel
theorem dL_law_95 : decode cL_law 95 = .ok (.aload_n 1, 1) := by decide +kernel
theorem dL_law_96 : decode cL_law 96 = .ok (.iconst 0, 1) := by decide +kernel
theorem dL_law_97 : decode cL_law 97 = .ok (.invokevirtual 138, 3) := by decide +kernel
theorem dL_law_100 : decode cL_law 100 = .ok (.iconst 1, 1) := by decide +kernel
theorem dL_law_101 : decode cL_law 101 = .ok (.isub, 1) := by decide +kernel
theorem dL_law_102 : decode cL_law 102 = .ok (.istore 8, 2) := by decide +kernel
theorem dL_law_104 : decode cL_law 104 = .ok (.aload_n 1, 1) := by decide +kernel
theorem dL_law_105 : decode cL_law 105 = .ok (.iconst 1, 1) := by decide +kernel
theorem dL_law_106 : decode cL_law 106 = .ok (.invokevirtual 138, 3) := by decide +kernel
theorem dL_law_109 : decode cL_law 109 = .ok (.istore 9, 2) := by decide +kernel
theorem dL_law_111 : decode cL_law 111 = .ok (.aload_n 1, 1) := by decide +kernel
theorem dL_law_112 : decode cL_law 112 = .ok (.iconst 2, 1) := by decide +kernel
theorem dL_law_113 : decode cL_law 113 = .ok (.invokevirtual 138, 3) := by decide +kernel
theorem dL_law_116 : decode cL_law 116 = .ok (.istore 10, 2) := by decide +kernel
theorem dL_law_118 : decode cL_law 118 = .ok (.iconst 0, 1) := by decide +kernel
theorem dL_law_119 : decode cL_law 119 = .ok (.istore 11, 2) := by decide +kernel
theorem dL_law_121 : decode cL_law 121 = .ok (.iconst 0, 1) := by decide +kernel
theorem dL_law_122 : decode cL_law 122 = .ok (.istore 12, 2) := by decide +kernel
theorem dL_law_124 : decode cL_law 124 = .ok (.iconst 0, 1) := by decide +kernel
theorem dL_law_125 : decode cL_law 125 = .ok (.istore 13, 2) := by decide +kernel
theorem dL_law_127 : decode cL_law 127 = .ok (.iconst 0, 1) := by decide +kernel
theorem dL_law_128 : decode cL_law 128 = .ok (.istore 14, 2) := by decide +kernel
theorem dL_law_130 : decode cL_law 130 = .ok (.iconst 0, 1) := by decide +kernel
theorem dL_law_131 : decode cL_law 131 = .ok (.istore 15, 2) := by decide +kernel
theorem dL_law_133 : decode cL_law 133 = .ok (.iload 15, 2) := by decide +kernel
theorem dL_law_135 : decode cL_law 135 = .ok (.iload 9, 2) := by decide +kernel
theorem dL_law_137 : decode cL_law 137 = .ok (.if_icmp .ge 136, 3) := by decide +kernel
theorem dL_law_140 : decode cL_law 140 = .ok (.aload_n 1, 1) := by decide +kernel
theorem dL_law_141 : decode cL_law 141 = .ok (.iload 15, 2) := by decide +kernel
theorem dL_law_143 : decode cL_law 143 = .ok (.iconst 4, 1) := by decide +kernel
theorem dL_law_144 : decode cL_law 144 = .ok (.invokevirtual 141, 3) := by decide +kernel
theorem dL_law_147 : decode cL_law 147 = .ok (.istore 16, 2) := by decide +kernel
theorem dL_law_149 : decode cL_law 149 = .ok (.aload_n 1, 1) := by decide +kernel
theorem dL_law_150 : decode cL_law 150 = .ok (.iload 15, 2) := by decide +kernel
theorem dL_law_152 : decode cL_law 152 = .ok (.iconst 1, 1) := by decide +kernel
theorem dL_law_153 : decode cL_law 153 = .ok (.invokevirtual 141, 3) := by decide +kernel
theorem dL_law_156 : decode cL_law 156 = .ok (.ifCond .lt 94, 3) := by decide +kernel
theorem dL_law_159 : decode cL_law 159 = .ok (.aload_n 1, 1) := by decide +kernel
theorem dL_law_160 : decode cL_law 160 = .ok (.iload 15, 2) := by decide +kernel
theorem dL_law_162 : decode cL_law 162 = .ok (.iconst 1, 1) := by decide +kernel
theorem dL_law_163 : decode cL_law 163 = .ok (.invokevirtual 141, 3) := by decide +kernel
theorem dL_law_166 : decode cL_law 166 = .ok (.bipush 8, 2) := by decide +kernel
theorem dL_law_168 : decode cL_law 168 = .ok (.if_icmp .gt 82, 3) := by decide +kernel
theorem dL_law_171 : decode cL_law 171 = .ok (.aload_n 1, 1) := by decide +kernel
theorem dL_law_172 : decode cL_law 172 = .ok (.iload 15, 2) := by decide +kernel
