theorem dL_act_545 : decode cL_act 545 = .ok (.iconst 3, 1) := by decide +kernel
theorem dL_act_546 : decode cL_act 546 = .ok (.ishr, 1) := by decide +kernel
theorem dL_act_547 : decode cL_act 547 = .ok (.bipush 20, 2) := by decide +kernel
theorem dL_act_549 : decode cL_act 549 = .ok (.invokestatic 19, 3) := by decide +kernel
theorem dL_act_552 : decode cL_act 552 = .ok (.iadd, 1) := by decide +kernel
theorem dL_act_553 : decode cL_act 553 = .ok (.putfield 74, 3) := by decide +kernel
theorem dL_act_556 : decode cL_act 556 = .ok (.aload_n 0, 1) := by decide +kernel
theorem dL_act_557 : decode cL_act 557 = .ok (.aload_n 1, 1) := by decide +kernel
theorem dL_act_558 : decode cL_act 558 = .ok (.getfield 74, 3) := by decide +kernel
theorem dL_act_561 : decode cL_act 561 = .ok (.invokevirtual 77, 3) := by decide +kernel
theorem dL_act_564 : decode cL_act 564 = .ok (.iload 11, 2) := by decide +kernel
theorem dL_act_566 : decode cL_act 566 = .ok (.if_icmp .ne 7, 3) := by decide +kernel
theorem dL_act_569 : decode cL_act 569 = .ok (.iconst 1, 1) := by decide +kernel
theorem dL_act_570 : decode cL_act 570 = .ok (.goto 4, 3) := by decide +kernel
theorem dL_act_573 : decode cL_act 573 = .ok (.iconst 0, 1) := by decide +kernel
theorem dL_act_574 : decode cL_act 574 = .ok (.ireturn, 1) := by decide +kernel
theorem dL_act_575 : decode cL_act 575 = .ok (.aload 7, 2) := by decide +kernel
theorem dL_act_577 : decode cL_act 577 = .ok (.iconst 1, 1) := by decide +kernel
theorem dL_act_578 : decode cL_act 578 = .ok (.iload_n 2, 1) := by decide +kernel
theorem dL_act_579 : decode cL_act 579 = .ok (.iconst 3, 1) := by decide +kernel
theorem dL_act_580 : decode cL_act 580 = .ok (.ishr, 1) := by decide +kernel
theorem dL_act_581 : decode cL_act 581 = .ok (.bipush 99, 2) := by decide +kernel
theorem dL_act_583 : decode cL_act 583 = .ok (.invokestatic 19, 3) := by decide +kernel
theorem dL_act_586 : decode cL_act 586 = .ok (.iadd, 1) := by decide +kernel
theorem dL_act_587 : decode cL_act 587 = .ok (.invokevirtual 80, 3) := by decide +kernel
theorem dL_act_590 : decode cL_act 590 = .ok (.aload_n 0, 1) := by decide +kernel
theorem dL_act_591 : decode cL_act 591 = .ok (.iload 6, 2) := by decide +kernel
theorem dL_act_593 : decode cL_act 593 = .ok (.iconst 1, 1) := by decide +kernel
theorem dL_act_594 : decode cL_act 594 = .ok (.iload_n 2, 1) := by decide +kernel
theorem dL_act_595 : decode cL_act 595 = .ok (.iconst 3, 1) := by decide +kernel
theorem dL_act_596 : decode cL_act 596 = .ok (.ishr, 1) := by decide +kernel
theorem dL_act_597 : decode cL_act 597 = .ok (.bipush 99, 2) := by decide +kernel
theorem dL_act_599 : decode cL_act 599 = .ok (.invokestatic 19, 3) := by decide +kernel
theorem dL_act_602 : decode cL_act 602 = .ok (.iadd, 1) := by decide +kernel
theorem dL_act_603 : decode cL_act 603 = .ok (.invokevirtual 84, 3) := by decide +kernel
theorem dL_act_606 : decode cL_act 606 = .ok (.aload 7, 2) := by decide +kernel
theorem dL_act_608 : decode cL_act 608 = .ok (.getfield 54, 3) := by decide +kernel
theorem dL_act_611 : decode cL_act 611 = .ok (.if_icmp .ne 7, 3) := by decide +kernel
theorem dL_act_614 : decode cL_act 614 = .ok (.iconst 1, 1) := by decide +kernel
theorem dL_act_615 : decode cL_act 615 = .ok (.goto 4, 3) := by decide +kernel
theorem dL_act_618 : decode cL_act 618 = .ok (.iconst 0, 1) := by decide +kernel
theorem dL_act_619 : decode cL_act 619 = .ok (.ireturn, 1) := by decide +kernel
theorem dL_act_620 : decode cL_act 620 = .ok (.aload 7, 2) := by decide +kernel
theorem dL_act_622 : decode cL_act 622 = .ok (.getfield 87, 3) := by decide +kernel
theorem dL_act_625 : decode cL_act 625 = .ok (.ifCond .ne 5, 3) := by decide +kernel
theorem dL_act_628 : decode cL_act 628 = .ok (.iconst 1, 1) := by decide +kernel
theorem dL_act_629 : decode cL_act 629 = .ok (.ireturn, 1) := by decide +kernel
theorem dL_act_630 : decode cL_act 630 = .ok (.aload 7, 2) := by decide +kernel
theorem dL_act_632 : decode cL_act 632 = .ok (.iconst 0, 1) := by decide +kernel
theorem dL_act_633 : decode cL_act 633 = .ok (.putfield 87, 3) := by decide +kernel
theorem dL_act_636 : decode cL_act 636 = .ok (.aload 7, 2) := by decide +kernel
theorem dL_act_638 : decode cL_act 638 = .ok (.aload_n 1, 1) := by decide +kernel
theorem dL_act_639 : decode cL_act 639 = .ok (.getfield 74, 3) := by decide +kernel
theorem dL_act_642 : decode cL_act 642 = .ok (.invokevirtual 80, 3) := by decide +kernel
theorem dL_act_645 : decode cL_act 645 = .ok (.aload_n 0, 1) := by decide +kernel
theorem dL_act_646 : decode cL_act 646 = .ok (.iload 6, 2) := by decide +kernel
theorem dL_act_648 : decode cL_act 648 = .ok (.invokevirtual 91, 3) := by decide +kernel
theorem dL_act_651 : decode cL_act 651 = .ok (.aload 7, 2) := by decide +kernel
theorem dL_act_653 : decode cL_act 653 = .ok (.getfield 54, 3) := by decide +kernel
theorem dL_act_656 : decode cL_act 656 = .ok (.if_icmp .ne 7, 3) := by decide +kernel
theorem dL_act_659 : decode cL_act 659 = .ok (.iconst 1, 1) := by decide +kernel
theorem dL_act_660 : decode cL_act 660 = .ok (.goto 4, 3) := by decide +kernel
theorem dL_act_663 : decode cL_act 663 = .ok (.iconst 0, 1) := by decide +kernel
theorem dL_act_664 : decode cL_act 664 = .ok (.ireturn, 1) := by decide +kernel
theorem dL_act_665 : decode cL_act 665 = .ok (.aload 7, 2) := by decide +kernel
theorem dL_act_667 : decode cL_act 667 = .ok (.getfield 87, 3) := by decide +kernel
theorem dL_act_670 : decode cL_act 670 = .ok (.ifCond .ne 17, 3) := by decide +kernel
theorem dL_act_673 : decode cL_act 673 = .ok (.aload 7, 2) := by decide +kernel
theorem dL_act_675 : decode cL_act 675 = .ok (.getfield 54, 3) := by decide +kernel
theorem dL_act_678 : decode cL_act 678 = .ok (.aload_n 1, 1) := by decide +kernel
theorem dL_act_679 : decode cL_act 679 = .ok (.getfield 74, 3) := by decide +kernel
theorem dL_act_682 : decode cL_act 682 = .ok (.iconst 2, 1) := by decide +kernel
theorem dL_act_683 : decode cL_act 683 = .ok (.iadd, 1) := by decide +kernel
theorem dL_act_684 : decode cL_act 684 = .ok (.if_icmp .ge 5, 3) := by decide +kernel
theorem dL_act_687 : decode cL_act 687 = .ok (.iconst 1, 1) := by decide +kernel
theorem dL_act_688 : decode cL_act 688 = .ok (.ireturn, 1) := by decide +kernel
theorem dL_act_689 : decode cL_act 689 = .ok (.aload 7, 2) := by decide +kernel
theorem dL_act_691 : decode cL_act 691 = .ok (.iconst 1, 1) := by decide +kernel
theorem dL_act_692 : decode cL_act 692 = .ok (.putfield 87, 3) := by decide +kernel
theorem dL_act_695 : decode cL_act 695 = .ok (.aload 7, 2) := by decide +kernel
theorem dL_act_697 : decode cL_act 697 = .ok (.dup, 1) := by decide +kernel
theorem dL_act_698 : decode cL_act 698 = .ok (.getfield 54, 3) := by decide +kernel
theorem dL_act_701 : decode cL_act 701 = .ok (.aload_n 1, 1) := by decide +kernel
theorem dL_act_702 : decode cL_act 702 = .ok (.getfield 74, 3) := by decide +kernel
theorem dL_act_705 : decode cL_act 705 = .ok (.iconst 2, 1) := by decide +kernel
theorem dL_act_706 : decode cL_act 706 = .ok (.iadd, 1) := by decide +kernel
theorem dL_act_707 : decode cL_act 707 = .ok (.isub, 1) := by decide +kernel
theorem dL_act_708 : decode cL_act 708 = .ok (.putfield 54, 3) := by decide +kernel
theorem dL_act_711 : decode cL_act 711 = .ok (.aload_n 0, 1) := by decide +kernel
theorem dL_act_712 : decode cL_act 712 = .ok (.iload 6, 2) := by decide +kernel
theorem dL_act_714 : decode cL_act 714 = .ok (.invokevirtual 93, 3) := by decide +kernel
theorem dL_act_717 : decode cL_act 717 = .ok (.aload 7, 2) := by decide +kernel
theorem dL_act_719 : decode cL_act 719 = .ok (.getfield 54, 3) := by decide +kernel
theorem dL_act_722 : decode cL_act 722 = .ok (.if_icmp .ne 7, 3) := by decide +kernel
theorem dL_act_725 : decode cL_act 725 = .ok (.iconst 1, 1) := by decide +kernel
theorem dL_act_726 : decode cL_act 726 = .ok (.goto 4, 3) := by decide +kernel
theorem dL_act_729 : decode cL_act 729 = .ok (.iconst 0, 1) := by decide +kernel
theorem dL_act_730 : decode cL_act 730 = .ok (.ireturn, 1) := by decide +kernel
theorem dL_act_731 : decode cL_act 731 = .ok (.aload 7, 2) := by decide +kernel
theorem dL_act_733 : decode cL_act 733 = .ok (.getfield 96, 3) := by decide +kernel
theorem dL_act_736 : decode cL_act 736 = .ok (.ifnonnull 13, 3) := by decide +kernel
theorem dL_act_739 : decode cL_act 739 = .ok (.aload 7, 2) := by decide +kernel
theorem dL_act_741 : decode cL_act 741 = .ok (.getfield 99, 3) := by decide +kernel
theorem dL_act_744 : decode cL_act 744 = .ok (.ifCond .ne 5, 3) := by decide +kernel
theorem dL_act_747 : decode cL_act 747 = .ok (.iconst 1, 1) := by decide +kernel
theorem dL_act_748 : decode cL_act 748 = .ok (.ireturn, 1) := by decide +kernel
theorem dL_act_749 : decode cL_act 749 = .ok (.aload 7, 2) := by decide +kernel
theorem dL_act_751 : decode cL_act 751 = .ok (.getfield 96, 3) := by decide +kernel
theorem dL_act_754 : decode cL_act 754 = .ok (.ifnonnull 7, 3) := by decide +kernel
theorem dL_act_757 : decode cL_act 757 = .ok (.iconst (-1), 1) := by decide +kernel
theorem dL_act_758 : decode cL_act 758 = .ok (.goto 11, 3) := by decide +kernel
theorem dL_act_761 : decode cL_act 761 = .ok (.aload 7, 2) := by decide +kernel
theorem dL_act_763 : decode cL_act 763 = .ok (.getfield 96, 3) := by decide +kernel
theorem dL_act_766 : decode cL_act 766 = .ok (.getfield 28, 3) := by decide +kernel
theorem dL_act_769 : decode cL_act 769 = .ok (.istore 12, 2) := by decide +kernel
theorem dL_act_771 : decode cL_act 771 = .ok (.aload 7, 2) := by decide +kernel
theorem dL_act_773 : decode cL_act 773 = .ok (.invokevirtual 102, 3) := by decide +kernel
theorem dL_act_776 : decode cL_act 776 = .ok (.aload_n 0, 1) := by decide +kernel
theorem dL_act_777 : decode cL_act 777 = .ok (.iload 6, 2) := by decide +kernel
theorem dL_act_779 : decode cL_act 779 = .ok (.invokevirtual 105, 3) := by decide +kernel
theorem dL_act_782 : decode cL_act 782 = .ok (.iload 12, 2) := by decide +kernel
theorem dL_act_784 : decode cL_act 784 = .ok (.if_icmp .ne 7, 3) := by decide +kernel
theorem dL_act_787 : decode cL_act 787 = .ok (.iconst 1, 1) := by decide +kernel
theorem dL_act_788 : decode cL_act 788 = .ok (.goto 4, 3) := by decide +kernel
theorem dL_act_791 : decode cL_act 791 = .ok (.iconst 0, 1) := by decide +kernel
theorem dL_act_792 : decode cL_act 792 = .ok (.ireturn, 1) := by decide +kernel
theorem dL_act_793 : decode cL_act 793 = .ok (.aload 7, 2) := by decide +kernel
theorem dL_act_795 : decode cL_act 795 = .ok (.getfield 96, 3) := by decide +kernel
theorem dL_act_798 : decode cL_act 798 = .ok (.ifnonnull 11, 3) := by decide +kernel
theorem dL_act_801 : decode cL_act 801 = .ok (.aload 7, 2) := by decide +kernel
theorem dL_act_803 : decode cL_act 803 = .ok (.getfield 99, 3) := by decide +kernel
theorem dL_act_806 : decode cL_act 806 = .ok (.ifCond .eq 5, 3) := by decide +kernel
theorem dL_act_809 : decode cL_act 809 = .ok (.iconst 1, 1) := by decide +kernel
theorem dL_act_810 : decode cL_act 810 = .ok (.ireturn, 1) := by decide +kernel
theorem dL_act_811 : decode cL_act 811 = .ok (.aload 7, 2) := by decide +kernel
theorem dL_act_813 : decode cL_act 813 = .ok (.getfield 45, 3) := by decide +kernel
theorem dL_act_816 : decode cL_act 816 = .ok (.istore 13, 2) := by decide +kernel
theorem dL_act_818 : decode cL_act 818 = .ok (.aload 7, 2) := by decide +kernel
theorem dL_act_820 : decode cL_act 820 = .ok (.iload_n 2, 1) := by decide +kernel
theorem dL_act_821 : decode cL_act 821 = .ok (.iconst 3, 1) := by decide +kernel
theorem dL_act_822 : decode cL_act 822 = .ok (.ishr, 1) := by decide +kernel
theorem dL_act_823 : decode cL_act 823 = .ok (.iconst 3, 1) := by decide +kernel
theorem dL_act_824 : decode cL_act 824 = .ok (.invokestatic 19, 3) := by decide +kernel
theorem dL_act_827 : decode cL_act 827 = .ok (.putfield 45, 3) := by decide +kernel
theorem dL_act_830 : decode cL_act 830 = .ok (.aload_n 0, 1) := by decide +kernel
theorem dL_act_831 : decode cL_act 831 = .ok (.iload 6, 2) := by decide +kernel
theorem dL_act_833 : decode cL_act 833 = .ok (.aload 7, 2) := by decide +kernel
theorem dL_act_835 : decode cL_act 835 = .ok (.getfield 45, 3) := by decide +kernel
theorem dL_act_838 : decode cL_act 838 = .ok (.invokevirtual 108, 3) := by decide +kernel
theorem dL_act_841 : decode cL_act 841 = .ok (.iload 13, 2) := by decide +kernel
theorem dL_act_843 : decode cL_act 843 = .ok (.if_icmp .ne 7, 3) := by decide +kernel
theorem dL_act_846 : decode cL_act 846 = .ok (.iconst 1, 1) := by decide +kernel
theorem dL_act_847 : decode cL_act 847 = .ok (.goto 4, 3) := by decide +kernel
theorem dL_act_850 : decode cL_act 850 = .ok (.iconst 0, 1) := by decide +kernel
theorem dL_act_851 : decode cL_act 851 = .ok (.ireturn, 1) := by decide +kernel
theorem dL_act_852 : decode cL_act 852 = .ok (.iconst 1, 1) := by decide +kernel
theorem dL_act_853 : decode cL_act 853 = .ok (.iload_n 2, 1) := by decide +kernel
theorem dL_act_854 : decode cL_act 854 = .ok (.iconst 2, 1) := by decide +kernel
theorem dL_act_855 : decode cL_act 855 = .ok (.ishr, 1) := by decide +kernel
theorem dL_act_856 : decode cL_act 856 = .ok (.iconst 5, 1) := by decide +kernel
theorem dL_act_857 : decode cL_act 857 = .ok (.invokestatic 19, 3) := by decide +kernel
theorem dL_act_860 : decode cL_act 860 = .ok (.iadd, 1) := by decide +kernel
theorem dL_act_861 : decode cL_act 861 = .ok (.istore 14, 2) := by decide +kernel
theorem dL_act_863 : decode cL_act 863 = .ok (.aload_n 1, 1) := by decide +kernel
theorem dL_act_864 : decode cL_act 864 = .ok (.invokevirtual 111, 3) := by decide +kernel
theorem dL_act_867 : decode cL_act 867 = .ok (.iconst 3, 1) := by decide +kernel
theorem dL_act_868 : decode cL_act 868 = .ok (.iaload, 1) := by decide +kernel
theorem dL_act_869 : decode cL_act 869 = .ok (.istore 15, 2) := by decide +kernel
theorem dL_act_871 : decode cL_act 871 = .ok (.aload_n 1, 1) := by decide +kernel
theorem dL_act_872 : decode cL_act 872 = .ok (.iload 14, 2) := by decide +kernel
theorem dL_act_874 : decode cL_act 874 = .ok (.invokevirtual 115, 3) := by decide +kernel
theorem dL_act_877 : decode cL_act 877 = .ok (.pop, 1) := by decide +kernel
theorem dL_act_878 : decode cL_act 878 = .ok (.aload_n 0, 1) := by decide +kernel
theorem dL_act_879 : decode cL_act 879 = .ok (.iload 14, 2) := by decide +kernel
theorem dL_act_881 : decode cL_act 881 = .ok (.invokevirtual 119, 3) := by decide +kernel
theorem dL_act_884 : decode cL_act 884 = .ok (.aload_n 1, 1) := by decide +kernel
theorem dL_act_885 : decode cL_act 885 = .ok (.invokevirtual 111, 3) := by decide +kernel
theorem dL_act_888 : decode cL_act 888 = .ok (.iconst 3, 1) := by decide +kernel
theorem dL_act_889 : decode cL_act 889 = .ok (.iaload, 1) := by decide +kernel
theorem dL_act_890 : decode cL_act 890 = .ok (.iload 15, 2) := by decide +kernel
theorem dL_act_892 : decode cL_act 892 = .ok (.isub, 1) := by decide +kernel
theorem dL_act_893 : decode cL_act 893 = .ok (.if_icmp .ne 7, 3) := by decide +kernel
theorem dL_act_896 : decode cL_act 896 = .ok (.iconst 1, 1) := by decide +kernel
theorem dL_act_897 : decode cL_act 897 = .ok (.goto 4, 3) := by decide +kernel
theorem dL_act_900 : decode cL_act 900 = .ok (.iconst 0, 1) := by decide +kernel
theorem dL_act_901 : decode cL_act 901 = .ok (.ireturn, 1) := by decide +kernel
set_option maxRecDepth 20000 in
theorem ggL_build_X6_init : GoodIn wsL_build wsX6_init := goodIn_r _ [5, 6, 7, 8, 9, 10, 11, 12, 13, 14, 359, 360, 361, 362, 363] (by decide +kernel) (by decide +kernel)
set_option maxRecDepth 20000 in
theorem gL_build_X6_init_n122 : GoodIn wsL_build (wsX6_init) := ggL_build_X6_init
set_option maxRecDepth 20000 in
theorem ggL_build_L_cell : GoodIn wsL_build wsL_cell := goodIn_r _ [18, 19] (by decide +kernel) (by decide +kernel)
set_option maxRecDepth 20000 in
theorem gL_build_L_cell : GoodIn wsL_build (va_wsS RL 123 yL_cell wsL_cell) := goodIn_app (goodIn_of _ (by decide +kernel)) ggL_build_L_cell
set_option maxRecDepth 20000 in
theorem ggL_build_L_below : GoodIn wsL_build wsL_below := goodIn_r _ [22, 23] (by decide +kernel) (by decide +kernel)
set_option maxRecDepth 20000 in
theorem gL_build_L_below : GoodIn wsL_build (va_wsS RL 19 yL_below wsL_below) := goodIn_app (goodIn_of _ (by decide +kernel)) ggL_build_L_below
set_option maxRecDepth 20000 in
theorem ggL_build_L_act : GoodIn wsL_build wsL_act := goodIn_ca (goodIn_ca (goodIn_ca (goodIn_ca (goodIn_ca (goodIn_r _ [26, 27, 28, 29, 30, 31, 32, 33, 34, 35, 36, 37, 38, 39, 40, 41, 42, 43, 44, 45, 46, 47, 20, 21, 17, 22, 23, 48, 49, 50, 7, 8, 51, 52, 53, 54, 55, 56, 57, 58, 59, 60, 61, 62, 63, 64, 65, 66, 67, 68, 69, 70, 71, 72, 73, 74, 75, 76, 77, 78, 79, 80, 81, 82, 83, 84, 85, 86, 87, 88, 89, 90, 91, 92, 93, 94, 95, 96, 97, 98, 99, 100, 101, 102, 103, 104, 105, 106, 107, 108, 109, 110, 111, 112, 113, 114, 115, 116, 117, 118, 119, 120, 121, 122, 123, 124, 125, 126, 127, 128, 129, 130, 131, 132, 133, 134, 135, 136, 137, 138, 139, 140, 141, 142, 143, 144, 145, 146, 147, 148, 149, 150, 151, 152, 153, 154, 155, 156, 157, 158, 159, 160, 161, 162, 163, 164, 165, 166, 167, 168, 169, 170, 171, 172, 173, 174, 175, 176, 177, 178, 179, 180, 181, 182, 183, 184, 185, 186, 187, 188, 189, 190, 191, 192, 193, 194, 195, 196, 197, 198, 199, 200, 201, 202, 203, 204, 205, 206, 207, 208, 209, 210, 211, 212, 213, 3, 214, 215, 14, 216, 217, 218, 219, 220, 221, 222, 223, 224, 225, 226, 227, 228, 229, 9, 230, 231, 232, 233, 234, 10, 235, 236, 237, 238, 239, 240, 12, 241, 242, 243, 244, 245, 246, 247, 248, 249, 250, 251, 252, 253, 254, 255, 256, 257, 258, 259, 260, 261, 262, 263, 264, 265, 266, 267, 268, 269, 270, 271, 272, 273, 274, 275, 276, 277, 278, 279, 280, 281, 282, 283, 284, 285, 286, 287, 288, 289, 290, 291, 292, 293, 294, 295, 296, 297, 298, 299, 300, 301, 302, 303, 304, 305, 306, 307, 308, 309, 310, 311, 312, 313, 314, 315, 316, 317, 318, 319, 320, 321, 322, 323, 324, 325, 326, 327, 328, 329, 330, 331, 332, 333, 334, 335, 336, 337, 338, 339, 340, 341, 342, 343, 344, 345, 346, 347, 348, 349, 350, 351, 352, 353, 354, 355, 356, 357, 358, 359, 360, 361, 362, 363, 364, 365, 366, 367, 368, 369, 370, 371, 372, 373, 374, 375, 376, 377, 378, 379, 380, 381, 382, 383, 384, 385, 386, 387, 388, 389, 390, 391, 392, 393, 394, 395, 396, 397, 398, 399, 400, 401, 402, 403, 404, 405, 406, 407, 408] (by decide +kernel) (by decide +kernel)) (goodIn_sub (fun _ h => List.mem_cons_of_mem _ (List.mem_append_left _ (List.mem_append_left _ (List.mem_append_left _ (List.mem_append_left _ (List.mem_append_right _ h)))))) (by decide +kernel))) (goodIn_sub (fun _ h => List.mem_cons_of_mem _ (List.mem_append_left _ (List.mem_append_left _ (List.mem_append_left _ (List.mem_append_right _ h))))) (by decide +kernel))) (goodIn_sub (fun _ h => List.mem_cons_of_mem _ (List.mem_append_left _ (List.mem_append_left _ (List.mem_append_right _ h)))) (by decide +kernel))) (goodIn_sub (fun _ h => List.mem_cons_of_mem _ (List.mem_append_left _ (List.mem_append_right _ h))) (by decide +kernel))) (goodIn_sub (fun _ h => List.mem_cons_of_mem _ (List.mem_append_right _ h)) (by decide +kernel))
set_option maxRecDepth 20000 in
theorem gL_build_L_act : GoodIn wsL_build (va_wsS RL 127 yL_act wsL_act) := goodIn_app (goodIn_of _ (by decide +kernel)) ggL_build_L_act
theorem dL_build_0 : decode cL_build 0 = .ok (.new 10, 3) := by decide +kernel
theorem dL_build_3 : decode cL_build 3 = .ok (.dup, 1) := by decide +kernel
theorem dL_build_4 : decode cL_build 4 = .ok (.invokespecial 122, 3) := by decide +kernel
theorem dL_build_7 : decode cL_build 7 = .ok (.astore_n 2, 1) := by decide +kernel
theorem dL_build_8 : decode cL_build 8 = .ok (.bipush 24, 2) := by decide +kernel
theorem dL_build_10 : decode cL_build 10 = .ok (.aload_n 1, 1) := by decide +kernel
theorem dL_build_11 : decode cL_build 11 = .ok (.iconst 0, 1) := by decide +kernel
theorem dL_build_12 : decode cL_build 12 = .ok (.invokestatic 123, 3) := by decide +kernel
theorem dL_build_15 : decode cL_build 15 = .ok (.bipush 40, 2) := by decide +kernel
theorem dL_build_17 : decode cL_build 17 = .ok (.invokestatic 19, 3) := by decide +kernel
theorem dL_build_20 : decode cL_build 20 = .ok (.iadd, 1) := by decide +kernel
theorem dL_build_21 : decode cL_build 21 = .ok (.istore_n 3, 1) := by decide +kernel
theorem dL_build_22 : decode cL_build 22 = .ok (.iconst 0, 1) := by decide +kernel
theorem dL_build_23 : decode cL_build 23 = .ok (.istore 4, 2) := by decide +kernel
theorem dL_build_25 : decode cL_build 25 = .ok (.iload 4, 2) := by decide +kernel
theorem dL_build_27 : decode cL_build 27 = .ok (.bipush 6, 2) := by decide +kernel
theorem dL_build_29 : decode cL_build 29 = .ok (.if_icmp .ge 44, 3) := by decide +kernel
theorem dL_build_32 : decode cL_build 32 = .ok (.aload_n 0, 1) := by decide +kernel
theorem dL_build_33 : decode cL_build 33 = .ok (.aload_n 2, 1) := by decide +kernel
theorem dL_build_34 : decode cL_build 34 = .ok (.aload_n 1, 1) := by decide +kernel
theorem dL_build_35 : decode cL_build 35 = .ok (.iload 4, 2) := by decide +kernel
theorem dL_build_37 : decode cL_build 37 = .ok (.invokestatic 123, 3) := by decide +kernel
theorem dL_build_40 : decode cL_build 40 = .ok (.sipush 511, 3) := by decide +kernel
theorem dL_build_43 : decode cL_build 43 = .ok (.iand, 1) := by decide +kernel
theorem dL_build_44 : decode cL_build 44 = .ok (.iload 4, 2) := by decide +kernel
theorem dL_build_46 : decode cL_build 46 = .ok (.iconst 3, 1) := by decide +kernel
theorem dL_build_47 : decode cL_build 47 = .ok (.irem, 1) := by decide +kernel
theorem dL_build_48 : decode cL_build 48 = .ok (.bipush 9, 2) := by decide +kernel
theorem dL_build_50 : decode cL_build 50 = .ok (.ishl, 1) := by decide +kernel
theorem dL_build_51 : decode cL_build 51 = .ok (.ior, 1) := by decide +kernel
theorem dL_build_52 : decode cL_build 52 = .ok (.sipush 9216, 3) := by decide +kernel
theorem dL_build_55 : decode cL_build 55 = .ok (.iload 4, 2) := by decide +kernel
theorem dL_build_57 : decode cL_build 57 = .ok (.imul, 1) := by decide +kernel
theorem dL_build_58 : decode cL_build 58 = .ok (.iadd, 1) := by decide +kernel
theorem dL_build_59 : decode cL_build 59 = .ok (.invokestatic 127, 3) := by decide +kernel
theorem dL_build_62 : decode cL_build 62 = .ok (.ifCond .ne 5, 3) := by decide +kernel
theorem dL_build_65 : decode cL_build 65 = .ok (.aconst_null, 1) := by decide +kernel
theorem dL_build_66 : decode cL_build 66 = .ok (.areturn, 1) := by decide +kernel
theorem dL_build_67 : decode cL_build 67 = .ok (.iinc 4 1, 3) := by decide +kernel
theorem dL_build_70 : decode cL_build 70 = .ok (.goto (-45), 3) := by decide +kernel
theorem dL_build_73 : decode cL_build 73 = .ok (.iconst 0, 1) := by decide +kernel
theorem dL_build_74 : decode cL_build 74 = .ok (.istore 4, 2) := by decide +kernel
theorem dL_build_76 : decode cL_build 76 = .ok (.iload 4, 2) := by decide +kernel
theorem dL_build_78 : decode cL_build 78 = .ok (.iload_n 3, 1) := by decide +kernel
theorem dL_build_79 : decode cL_build 79 = .ok (.if_icmp .ge 43, 3) := by decide +kernel
theorem dL_build_82 : decode cL_build 82 = .ok (.aload_n 0, 1) := by decide +kernel
theorem dL_build_83 : decode cL_build 83 = .ok (.aload_n 2, 1) := by decide +kernel
theorem dL_build_84 : decode cL_build 84 = .ok (.aload_n 1, 1) := by decide +kernel
theorem dL_build_85 : decode cL_build 85 = .ok (.iload 4, 2) := by decide +kernel
theorem dL_build_87 : decode cL_build 87 = .ok (.bipush 16, 2) := by decide +kernel
theorem dL_build_89 : decode cL_build 89 = .ok (.irem, 1) := by decide +kernel
theorem dL_build_90 : decode cL_build 90 = .ok (.invokestatic 123, 3) := by decide +kernel
theorem dL_build_93 : decode cL_build 93 = .ok (.iload 4, 2) := by decide +kernel
theorem dL_build_95 : decode cL_build 95 = .ok (.bipush 16, 2) := by decide +kernel
theorem dL_build_97 : decode cL_build 97 = .ok (.idiv, 1) := by decide +kernel
theorem dL_build_98 : decode cL_build 98 = .ok (.iconst 3, 1) := by decide +kernel
theorem dL_build_99 : decode cL_build 99 = .ok (.imul, 1) := by decide +kernel
theorem dL_build_100 : decode cL_build 100 = .ok (.ishr, 1) := by decide +kernel
theorem dL_build_101 : decode cL_build 101 = .ok (.sipush 479, 3) := by decide +kernel
theorem dL_build_104 : decode cL_build 104 = .ok (.iload 4, 2) := by decide +kernel
theorem dL_build_106 : decode cL_build 106 = .ok (.imul, 1) := by decide +kernel
theorem dL_build_107 : decode cL_build 107 = .ok (.iadd, 1) := by decide +kernel
theorem dL_build_108 : decode cL_build 108 = .ok (.invokestatic 127, 3) := by decide +kernel
theorem dL_build_111 : decode cL_build 111 = .ok (.ifCond .ne 5, 3) := by decide +kernel
theorem dL_build_114 : decode cL_build 114 = .ok (.aconst_null, 1) := by decide +kernel
theorem dL_build_115 : decode cL_build 115 = .ok (.areturn, 1) := by decide +kernel
theorem dL_build_116 : decode cL_build 116 = .ok (.iinc 4 1, 3) := by decide +kernel
theorem dL_build_119 : decode cL_build 119 = .ok (.goto (-43), 3) := by decide +kernel
theorem dL_build_122 : decode cL_build 122 = .ok (.aload_n 2, 1) := by decide +kernel
theorem dL_build_123 : decode cL_build 123 = .ok (.areturn, 1) := by decide +kernel
set_option maxRecDepth 20000 in
theorem ggL_law_X3_init : GoodIn wsL_law wsX3_init := goodIn_r _ [6, 7, 8, 9, 10, 11, 12, 13, 14, 15, 16, 17, 18, 19, 20, 21, 22, 23, 24, 25, 26, 27, 28, 29, 30, 31, 32, 3, 33, 34, 35, 36, 37, 38, 39, 40, 41, 42, 43, 44, 45, 46, 47, 48, 49, 50, 51, 52, 53, 442, 443, 444, 445, 446, 440, 441, 447, 448, 449, 450, 451, 452, 453, 454, 455, 456, 457, 458, 459, 460, 461, 462, 463, 464, 465] (by decide +kernel) (by decide +kernel)
set_option maxRecDepth 20000 in
theorem gL_law_X3_init : GoodIn wsL_law (wsX3_init) := ggL_law_X3_init
set_option maxRecDepth 20000 in
theorem ggL_law_L_build : GoodIn wsL_law wsL_build := goodIn_ca (goodIn_ca (goodIn_ca (goodIn_ca (goodIn_ca (goodIn_r _ [57, 58, 59, 60, 61, 62, 63, 8, 9, 64, 65, 66, 67, 68, 69, 70, 71, 56, 72, 73, 74, 75, 76, 77, 78, 79, 80, 81, 82, 83, 84, 85, 86, 87, 88, 89, 90, 91, 92, 93, 94, 95, 96, 97, 98, 99, 100, 101, 102, 103, 104, 105, 106, 107, 2, 108, 109, 110, 13, 111, 112, 113, 114, 23, 115, 116, 117, 32, 33, 37, 118, 119, 120, 121, 122, 123, 124, 125, 126, 127, 128, 129, 130, 131, 132, 133, 134, 27, 135, 136, 41, 42, 43, 44, 45, 46, 47, 48, 49, 137, 138, 139, 140, 141, 142, 143, 144, 145, 146, 147, 148, 149, 150, 151, 152, 153, 154, 155, 156, 157, 158, 159, 160, 161, 162, 163, 164, 165, 166, 167, 168, 169, 170, 171, 172, 173, 174, 175, 176, 177, 178, 179, 180, 181, 182, 183, 184, 185, 186, 187, 188, 189, 190, 191, 192, 193, 194, 12, 195, 28, 196, 20, 197, 198, 199, 200, 201, 202, 203, 204, 205, 206, 207, 208, 209, 210, 211, 212, 213, 214, 215, 216, 217, 218, 219, 220, 221, 222, 223, 224, 225, 226, 227, 228, 229, 230, 231, 232, 24, 233, 234, 235, 236, 237, 238, 239, 240, 241, 242, 243, 244, 245, 246, 247, 248, 3, 249, 250, 251, 252, 253, 254, 255, 256, 257, 258, 259, 260, 261, 262, 263, 264, 265, 266, 267, 268, 269, 270, 271, 272, 273, 274, 275, 276, 277, 278, 279, 280, 281, 282, 283, 284, 285, 286, 287, 288, 289, 290, 291, 53, 292, 293, 294, 295, 296, 297, 298, 299, 300, 301, 18, 302, 303, 304, 305, 19, 306, 307, 308, 309, 310, 311, 312, 313, 314, 315, 316, 317, 318, 319, 320, 321, 322, 323, 324, 325, 51, 52, 326, 327, 328, 329, 330, 331, 332, 333, 334, 335, 336, 337, 338, 339, 340, 341, 342, 343, 344, 345, 346, 347, 348, 349, 350, 351, 352, 353, 354, 355, 356, 357, 358, 359, 360, 361, 362, 363, 364, 365, 366, 367, 368, 369, 370, 371, 372, 373, 374, 375, 376, 377, 378, 379, 34, 380, 381, 382, 383, 384, 385, 466, 467, 468, 469, 470, 471, 472, 473, 474, 475, 476, 477, 478, 479, 480, 481, 482, 483, 484, 485, 486, 487, 488, 489, 440, 441, 442, 443, 444, 445, 446, 447, 448, 449, 450, 451, 452, 453, 454, 455, 456, 457, 458, 459, 460, 461, 462, 463, 464, 465] (by decide +kernel) (by decide +kernel)) (goodIn_sub (fun _ h => List.mem_append_left _ (List.mem_append_left _ (List.mem_append_left _ (List.mem_append_left _ (List.mem_append_right _ h))))) (by decide +kernel))) (goodIn_sub (fun _ h => List.mem_append_left _ (List.mem_append_left _ (List.mem_append_left _ (List.mem_append_right _ h)))) (by decide +kernel))) (goodIn_sub (fun _ h => List.mem_append_left _ (List.mem_append_left _ (List.mem_append_right _ h))) (by decide +kernel))) (goodIn_sub (fun _ h => List.mem_append_left _ (List.mem_append_right _ h)) (by decide +kernel))) (goodIn_sub (fun _ h => List.mem_append_right _ h) (by decide +kernel))
set_option maxRecDepth 20000 in
theorem gL_law_L_build : GoodIn wsL_law (va_wsS RL 132 yL_build wsL_build) := goodIn_app (goodIn_of _ (by decide +kernel)) ggL_law_L_build
set_option maxRecDepth 20000 in
theorem ggL_law_L_cell : GoodIn wsL_law wsL_cell := goodIn_r _ [72, 73] (by decide +kernel) (by decide +kernel)
set_option maxRecDepth 20000 in
theorem gL_law_L_cell : GoodIn wsL_law (va_wsS RL 123 yL_cell wsL_cell) := goodIn_app (goodIn_of _ (by decide +kernel)) ggL_law_L_cell
set_option maxRecDepth 20000 in
theorem ggL_law_L_act : GoodIn wsL_law wsL_act := goodIn_ca (goodIn_ca (goodIn_ca (goodIn_ca (goodIn_ca (goodIn_r _ [80, 81, 82, 83, 84, 85, 86, 87, 88, 89, 90, 91, 92, 93, 94, 95, 96, 97, 98, 99, 100, 101, 74, 75, 56, 76, 77, 102, 103, 104, 8, 9, 105, 106, 107, 2, 108, 109, 110, 13, 111, 112, 113, 114, 23, 115, 116, 117, 32, 33, 37, 118, 119, 120, 121, 122, 123, 124, 125, 126, 127, 128, 129, 130, 131, 132, 133, 134, 27, 135, 136, 41, 42, 43, 44, 45, 46, 47, 48, 49, 137, 138, 139, 140, 141, 142, 143, 144, 145, 146, 147, 148, 149, 150, 151, 152, 153, 154, 155, 156, 157, 158, 159, 160, 161, 162, 163, 164, 165, 166, 167, 168, 169, 170, 171, 172, 173, 174, 175, 176, 177, 178, 179, 180, 181, 182, 183, 184, 185, 186, 187, 188, 189, 190, 191, 192, 193, 194, 12, 195, 28, 196, 20, 197, 198, 199, 200, 201, 202, 203, 204, 205, 206, 207, 208, 209, 210, 211, 212, 213, 214, 215, 216, 217, 218, 219, 220, 221, 222, 223, 224, 225, 226, 227, 228, 229, 230, 231, 232, 24, 233, 234, 235, 236, 237, 238, 239, 240, 241, 242, 243, 244, 245, 246, 247, 60, 248, 3, 69, 249, 250, 251, 252, 253, 254, 255, 256, 257, 258, 259, 260, 261, 262, 64, 263, 264, 265, 266, 267, 65, 268, 269, 270, 271, 272, 273, 67, 274, 275, 276, 277, 278, 279, 280, 281, 282, 283, 284, 285, 286, 287, 288, 289, 290, 291, 53, 292, 293, 294, 295, 296, 297, 298, 299, 300, 301, 18, 302, 303, 304, 305, 19, 306, 307, 308, 309, 310, 311, 312, 313, 314, 315, 316, 317, 318, 319, 320, 321, 322, 323, 324, 325, 51, 52, 326, 327, 328, 329, 330, 331, 332, 333, 334, 335, 336, 337, 338, 339, 340, 341, 342, 343, 344, 345, 346, 347, 348, 349, 350, 351, 352, 353, 354, 355, 356, 357, 358, 359, 360, 361, 362, 363, 364, 365, 366, 367, 368, 369, 370, 371, 372, 373, 374, 375, 376, 377, 378, 379, 34, 380, 381, 382, 383, 384, 385, 466, 467, 468, 469, 470, 471, 472, 473, 474, 475, 476, 477, 478, 479, 480, 481, 482, 483, 484, 485, 486, 487, 488, 489, 440, 441, 442, 443, 444, 445, 446, 447, 448, 449, 450, 451, 452, 453, 454, 455, 456, 457, 458, 459, 460, 461, 462, 463, 464, 465] (by decide +kernel) (by decide +kernel)) (goodIn_sub (fun _ h => List.mem_append_left _ (List.mem_append_left _ (List.mem_append_left _ (List.mem_append_left _ (List.mem_append_right _ h))))) (by decide +kernel))) (goodIn_sub (fun _ h => List.mem_append_left _ (List.mem_append_left _ (List.mem_append_left _ (List.mem_append_right _ h)))) (by decide +kernel))) (goodIn_sub (fun _ h => List.mem_append_left _ (List.mem_append_left _ (List.mem_append_right _ h))) (by decide +kernel))) (goodIn_sub (fun _ h => List.mem_append_left _ (List.mem_append_right _ h)) (by decide +kernel))) (goodIn_sub (fun _ h => List.mem_append_right _ h) (by decide +kernel))
set_option maxRecDepth 20000 in
theorem gL_law_L_act : GoodIn wsL_law (va_wsS RL 127 yL_act wsL_act) := goodIn_app (goodIn_of _ (by decide +kernel)) ggL_law_L_act
set_option maxRecDepth 20000 in
theorem ggL_law_X3_pass : GoodIn wsL_law wsX3_pass := goodIn_ca (goodIn_r _ [284, 13, 126, 285, 286, 2, 287, 109, 110, 288, 289, 290, 27, 291, 53, 292, 293, 294, 295, 41, 296, 297, 298, 12, 299, 28, 300, 301, 24, 18, 302, 303, 304, 305, 19, 306, 307, 225, 226, 227, 48, 308, 309, 310, 311, 312, 313, 314, 315, 316, 317, 318, 319, 320, 321, 229, 230, 231, 232, 233, 234, 235, 152, 153, 23, 154, 32, 322, 323, 324, 325, 51, 52, 326, 327, 328, 329, 330, 331, 332, 333, 44, 334, 335, 181, 336, 337, 189, 190, 191, 46, 338, 176, 177, 178, 45, 179, 180, 182, 339, 203, 204, 205, 206, 20, 207, 340, 209, 210, 211, 196, 341, 342, 343, 344, 345, 346, 347, 348, 349, 37, 350, 351, 352, 353, 354, 33, 355, 356, 357, 358, 359, 360, 361, 193, 194, 195, 197, 362, 363, 364, 365, 366, 367, 368, 369, 370, 371, 372, 373, 374, 375, 376, 377, 378, 379, 34, 380, 381, 382, 383, 384, 385, 440, 441, 442, 443, 444, 445, 446, 453, 454, 455, 456, 457, 458, 459, 460, 461, 462, 463, 464, 465, 447, 448, 449, 450, 451, 452] (by decide +kernel) (by decide +kernel)) (goodIn_sub (fun _ h => List.mem_append_left _ (List.mem_append_left _ (List.mem_append_left _ (List.mem_append_left _ (List.mem_append_right _ h))))) (by decide +kernel))
set_option maxRecDepth 20000 in
theorem gL_law_X3_pass : GoodIn wsL_law (wsV RL 119 RX3 yX3_pass wsX3_pass) := goodIn_app (goodIn_of _ (by decide +kernel)) ggL_law_X3_pass
set_option maxRecDepth 20000 in
theorem ggL_law_X6_pass : GoodIn wsL_law wsX6_pass := goodIn_r _ [260, 261, 69, 249, 250, 262, 64, 263, 251, 264, 265, 266, 267, 65, 268, 252, 269, 270, 271, 272, 273, 67, 274, 213, 214, 90, 215, 216, 217, 218, 275, 166, 167, 168, 169, 276, 277, 278, 60, 279, 280, 466, 467, 468, 469, 470, 477, 478, 479, 480, 481, 482, 483, 484, 485, 486, 487, 488, 489, 471, 472, 473, 474, 475, 476] (by decide +kernel) (by decide +kernel)
set_option maxRecDepth 20000 in
theorem gL_law_X6_pass : GoodIn wsL_law (wsV RL 136 RX6 yX6_pass wsX6_pass) := goodIn_app (goodIn_of _ (by decide +kernel)) ggL_law_X6_pass
set_option maxRecDepth 20000 in
theorem ggL_law_X3_count : GoodIn wsL_law wsX3_count := goodIn_ca (goodIn_r _ [390, 130, 131, 13, 391, 111, 392, 126, 146, 159, 164, 393, 314, 315, 12, 316, 18, 394, 395, 396, 27, 397, 41, 48, 398, 399, 400, 401, 51, 292, 293, 294, 295, 288, 289, 290, 291, 53, 440, 441, 442, 443, 444, 445, 446, 447, 448, 449, 450, 451, 452, 453, 454, 455, 456, 457, 458, 459, 460, 461, 462, 463, 464, 465] (by decide +kernel) (by decide +kernel)) (goodIn_sub (fun _ h => List.mem_append_left _ (List.mem_append_left _ (List.mem_append_right _ h))) (by decide +kernel))
set_option maxRecDepth 20000 in
theorem gL_law_X3_count : GoodIn wsL_law (wsV RL 138 RX3 yX3_count wsX3_count) := goodIn_app (goodIn_of _ (by decide +kernel)) ggL_law_X3_count
set_option maxRecDepth 20000 in
theorem ggL_law_X3_about : GoodIn wsL_law wsX3_about := goodIn_ca (goodIn_r _ [405, 130, 131, 13, 111, 406, 407, 408, 409, 410, 147, 148, 149, 2, 150, 151, 152, 153, 23, 154, 32, 440, 441, 442, 443, 444, 445, 446, 447, 448, 449, 450, 451, 452] (by decide +kernel) (by decide +kernel)) (goodIn_sub (fun _ h => List.mem_append_left _ (List.mem_append_left _ (List.mem_append_right _ h))) (by decide +kernel))
set_option maxRecDepth 20000 in
theorem gL_law_X3_about : GoodIn wsL_law (wsV RL 141 RX3 yX3_about wsX3_about) := goodIn_app (goodIn_of _ (by decide +kernel)) ggL_law_X3_about
set_option maxRecDepth 20000 in
theorem ggL_law_X3_told : GoodIn wsL_law wsX3_told := goodIn_ca (goodIn_r _ [414, 130, 131, 13, 126, 240, 415, 416, 174, 417, 141, 418, 223, 419, 420, 421, 142, 143, 144, 2, 145, 146, 440, 441, 442, 443, 444, 445, 446, 453, 454, 455, 456, 457, 458, 459, 460, 461, 462, 463, 464, 465] (by decide +kernel) (by decide +kernel)) (goodIn_sub (fun _ h => List.mem_append_left _ (List.mem_append_left _ (List.mem_append_right _ h))) (by decide +kernel))
set_option maxRecDepth 20000 in
theorem gL_law_X3_told : GoodIn wsL_law (wsV RL 144 RX3 yX3_told wsX3_told) := goodIn_app (goodIn_of _ (by decide +kernel)) ggL_law_X3_told
set_option maxRecDepth 20000 in
theorem ggL_law_X6_isSame : GoodIn wsL_law wsX6_isSame := goodIn_ca (goodIn_r _ [425, 3, 261, 67, 69, 64, 65, 268, 273, 270, 269, 271, 426, 262, 263, 266, 267, 265, 280, 427, 249, 250, 272, 251, 252, 428, 246, 247, 60, 248, 429, 388, 389, 2, 390, 130, 131, 13, 391, 111, 392, 126, 146, 159, 164, 393, 314, 315, 12, 316, 18, 394, 395, 396, 27, 397, 41, 48, 398, 399, 400, 401, 51, 292, 293, 294, 295, 288, 289, 290, 291, 53, 430, 403, 404, 405, 406, 407, 408, 409, 410, 147, 148, 149, 150, 151, 152, 153, 23, 154, 32, 431, 412, 413, 414, 240, 415, 416, 174, 417, 141, 418, 223, 419, 420, 421, 142, 143, 144, 145, 432, 433, 434, 435, 436, 437, 438, 439, 50, 466, 467, 468, 469, 470, 471, 472, 473, 474, 475, 476, 477, 478, 479, 480, 481, 482, 483, 484, 485, 486, 487, 488, 489, 440, 441, 442, 443, 444, 445, 446, 447, 448, 449, 450, 451, 452, 453, 454, 455, 456, 457, 458, 459, 460, 461, 462, 463, 464, 465] (by decide +kernel) (by decide +kernel)) (goodIn_sub (fun _ h => List.mem_append_left _ (List.mem_append_left _ (List.mem_append_right _ h))) (by decide +kernel))
set_option maxRecDepth 20000 in
theorem gL_law_X6_isSame : GoodIn wsL_law (wsV RL 147 RX6 yX6_isSame wsX6_isSame) := goodIn_app (goodIn_of _ (by decide +kernel)) ggL_law_X6_isSame
theorem dL_law_0 : decode cL_law 0 = .ok (.new 36, 3) := by decide +kernel
theorem dL_law_3 : decode cL_law 3 = .ok (.dup, 1) := by decide +kernel
theorem dL_law_4 : decode cL_law 4 = .ok (.invokespecial 131, 3) := by decide +kernel
theorem dL_law_7 : decode cL_law 7 = .ok (.astore_n 1, 1) := by decide +kernel
theorem dL_law_8 : decode cL_law 8 = .ok (.aload_n 1, 1) := by decide +kernel
theorem dL_law_9 : decode cL_law 9 = .ok (.aload_n 0, 1) := by decide +kernel
theorem dL_law_10 : decode cL_law 10 = .ok (.invokestatic 132, 3) := by decide +kernel
theorem dL_law_13 : decode cL_law 13 = .ok (.astore_n 2, 1) := by decide +kernel
theorem dL_law_14 : decode cL_law 14 = .ok (.aload_n 2, 1) := by decide +kernel
theorem dL_law_15 : decode cL_law 15 = .ok (.ifnonnull 5, 3) := by decide +kernel
theorem dL_law_18 : decode cL_law 18 = .ok (.iconst 0, 1) := by decide +kernel
theorem dL_law_19 : decode cL_law 19 = .ok (.ireturn, 1) := by decide +kernel
theorem dL_law_20 : decode cL_law 20 = .ok (.bipush 10, 2) := by decide +kernel
theorem dL_law_22 : decode cL_law 22 = .ok (.newarray .int, 2) := by decide +kernel
theorem dL_law_24 : decode cL_law 24 = .ok (.astore_n 3, 1) := by decide +kernel
theorem dL_law_25 : decode cL_law 25 = .ok (.bipush 10, 2) := by decide +kernel
theorem dL_law_27 : decode cL_law 27 = .ok (.newarray .int, 2) := by decide +kernel
theorem dL_law_29 : decode cL_law 29 = .ok (.astore 4, 2) := by decide +kernel
theorem dL_law_31 : decode cL_law 31 = .ok (.bipush 10, 2) := by decide +kernel
theorem dL_law_33 : decode cL_law 33 = .ok (.newarray .int, 2) := by decide +kernel
theorem dL_law_35 : decode cL_law 35 = .ok (.astore 5, 2) := by decide +kernel
theorem dL_law_37 : decode cL_law 37 = .ok (.iconst 0, 1) := by decide +kernel
theorem dL_law_38 : decode cL_law 38 = .ok (.istore 6, 2) := by decide +kernel
theorem dL_law_40 : decode cL_law 40 = .ok (.iload 6, 2) := by decide +kernel
theorem dL_law_42 : decode cL_law 42 = .ok (.bipush 40, 2) := by decide +kernel
theorem dL_law_44 : decode cL_law 44 = .ok (.if_icmp .ge 634, 3) := by decide +kernel
theorem dL_law_47 : decode cL_law 47 = .ok (.aload_n 0, 1) := by decide +kernel
theorem dL_law_48 : decode cL_law 48 = .ok (.iload 6, 2) := by decide +kernel
theorem dL_law_50 : decode cL_law 50 = .ok (.bipush 16, 2) := by decide +kernel
theorem dL_law_52 : decode cL_law 52 = .ok (.irem, 1) := by decide +kernel
theorem dL_law_53 : decode cL_law 53 = .ok (.invokestatic 123, 3) := by decide +kernel
theorem dL_law_56 : decode cL_law 56 = .ok (.iload 6, 2) := by decide +kernel
theorem dL_law_58 : decode cL_law 58 = .ok (.bipush 16, 2) := by decide +kernel
theorem dL_law_60 : decode cL_law 60 = .ok (.idiv, 1) := by decide +kernel
theorem dL_law_61 : decode cL_law 61 = .ok (.iconst 3, 1) := by decide +kernel
theorem dL_law_62 : decode cL_law 62 = .ok (.imul, 1) := by decide +kernel
