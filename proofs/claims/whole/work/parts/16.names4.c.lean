theorem dX4_sailorTold_34 : decode cX4_sailorTold 34 = .ok (.ireturn, 1) := by decide +kernel
theorem dX4_sailorTold_35 : decode cX4_sailorTold 35 = .ok (.aload_n 0, 1) := by decide +kernel
theorem dX4_sailorTold_36 : decode cX4_sailorTold 36 = .ok (.getfield 13, 3) := by decide +kernel
theorem dX4_sailorTold_39 : decode cX4_sailorTold 39 = .ok (.iload_n 1, 1) := by decide +kernel
theorem dX4_sailorTold_40 : decode cX4_sailorTold 40 = .ok (.iaload, 1) := by decide +kernel
theorem dX4_sailorTold_41 : decode cX4_sailorTold 41 = .ok (.ireturn, 1) := by decide +kernel
theorem dX4_sailorTold_42 : decode cX4_sailorTold 42 = .ok (.aload_n 0, 1) := by decide +kernel
theorem dX4_sailorTold_43 : decode cX4_sailorTold 43 = .ok (.getfield 16, 3) := by decide +kernel
theorem dX4_sailorTold_46 : decode cX4_sailorTold 46 = .ok (.iload_n 1, 1) := by decide +kernel
theorem dX4_sailorTold_47 : decode cX4_sailorTold 47 = .ok (.iaload, 1) := by decide +kernel
theorem dX4_sailorTold_48 : decode cX4_sailorTold 48 = .ok (.ireturn, 1) := by decide +kernel
theorem dX4_sailorTold_49 : decode cX4_sailorTold 49 = .ok (.aload_n 0, 1) := by decide +kernel
theorem dX4_sailorTold_50 : decode cX4_sailorTold 50 = .ok (.iload_n 1, 1) := by decide +kernel
theorem dX4_sailorTold_51 : decode cX4_sailorTold 51 = .ok (.iload_n 2, 1) := by decide +kernel
theorem dX4_sailorTold_52 : decode cX4_sailorTold 52 = .ok (.iconst 2, 1) := by decide +kernel
theorem dX4_sailorTold_53 : decode cX4_sailorTold 53 = .ok (.isub, 1) := by decide +kernel
theorem dX4_sailorTold_54 : decode cX4_sailorTold 54 = .ok (.invokevirtual 63, 3) := by decide +kernel
theorem dX4_sailorTold_57 : decode cX4_sailorTold 57 = .ok (.ireturn, 1) := by decide +kernel
set_option maxRecDepth 20000 in
theorem ggX4_told_X4_isSailor : GoodIn wsX4_told wsX4_isSailor := goodIn_r _ [6, 7, 8, 9, 5, 10, 26, 27, 28, 29, 30, 31, 32, 33] (by decide +kernel) (by decide +kernel)
set_option maxRecDepth 20000 in
theorem gX4_told_X4_isSailor : GoodIn wsX4_told (wsV RX4 56 RX4 yX4_isSailor wsX4_isSailor) := goodIn_app (goodIn_of _ (by decide +kernel)) ggX4_told_X4_isSailor
set_option maxRecDepth 20000 in
theorem ggX4_told_X4_isIn : GoodIn wsX4_told wsX4_isIn := goodIn_r _ [10] (by decide +kernel) (by decide +kernel)
set_option maxRecDepth 20000 in
theorem gX4_told_X4_isIn : GoodIn wsX4_told (va_wsS RX4 32 yX4_isIn wsX4_isIn) := goodIn_app (goodIn_of _ (by decide +kernel)) ggX4_told_X4_isIn
set_option maxRecDepth 20000 in
theorem ggX4_told_X4_sailorTold : GoodIn wsX4_told wsX4_sailorTold := goodIn_r _ [14, 15, 16, 17, 18, 19, 5, 20, 21, 26, 27, 28, 29, 30, 31, 32, 33] (by decide +kernel) (by decide +kernel)
set_option maxRecDepth 20000 in
theorem gX4_told_X4_sailorTold : GoodIn wsX4_told (wsV RX4 129 RX4 yX4_sailorTold wsX4_sailorTold) := goodIn_app (goodIn_of _ (by decide +kernel)) ggX4_told_X4_sailorTold
set_option maxRecDepth 20000 in
theorem ggX4_told_X4_fail : GoodIn wsX4_told wsX4_fail := goodIn_r _ [25, 1, 26, 27, 28, 29, 30, 31, 32, 33] (by decide +kernel) (by decide +kernel)
set_option maxRecDepth 20000 in
theorem gX4_told_X4_fail : GoodIn wsX4_told (wsV RX4 45 RX4 yX4_fail wsX4_fail) := goodIn_app (goodIn_of _ (by decide +kernel)) ggX4_told_X4_fail
theorem dX4_told_0 : decode cX4_told 0 = .ok (.aload_n 0, 1) := by decide +kernel
theorem dX4_told_1 : decode cX4_told 1 = .ok (.iconst 0, 1) := by decide +kernel
theorem dX4_told_2 : decode cX4_told 2 = .ok (.putfield 25, 3) := by decide +kernel
theorem dX4_told_5 : decode cX4_told 5 = .ok (.aload_n 0, 1) := by decide +kernel
theorem dX4_told_6 : decode cX4_told 6 = .ok (.iload_n 1, 1) := by decide +kernel
theorem dX4_told_7 : decode cX4_told 7 = .ok (.invokevirtual 56, 3) := by decide +kernel
theorem dX4_told_10 : decode cX4_told 10 = .ok (.ifCond .eq 22, 3) := by decide +kernel
theorem dX4_told_13 : decode cX4_told 13 = .ok (.iload_n 2, 1) := by decide +kernel
theorem dX4_told_14 : decode cX4_told 14 = .ok (.iconst 0, 1) := by decide +kernel
theorem dX4_told_15 : decode cX4_told 15 = .ok (.bipush 10, 2) := by decide +kernel
theorem dX4_told_17 : decode cX4_told 17 = .ok (.invokestatic 32, 3) := by decide +kernel
theorem dX4_told_20 : decode cX4_told 20 = .ok (.ifCond .eq 12, 3) := by decide +kernel
theorem dX4_told_23 : decode cX4_told 23 = .ok (.aload_n 0, 1) := by decide +kernel
theorem dX4_told_24 : decode cX4_told 24 = .ok (.iload_n 1, 1) := by decide +kernel
theorem dX4_told_25 : decode cX4_told 25 = .ok (.iload_n 2, 1) := by decide +kernel
theorem dX4_told_26 : decode cX4_told 26 = .ok (.invokevirtual 129, 3) := by decide +kernel
theorem dX4_told_29 : decode cX4_told 29 = .ok (.goto 8, 3) := by decide +kernel
theorem dX4_told_32 : decode cX4_told 32 = .ok (.aload_n 0, 1) := by decide +kernel
theorem dX4_told_33 : decode cX4_told 33 = .ok (.iconst 1, 1) := by decide +kernel
theorem dX4_told_34 : decode cX4_told 34 = .ok (.invokevirtual 45, 3) := by decide +kernel
theorem dX4_told_37 : decode cX4_told 37 = .ok (.ireturn, 1) := by decide +kernel
set_option maxRecDepth 20000 in
theorem ggX4_bedTold_X4_be : GoodIn wsX4_bedTold wsX4_be := goodIn_r _ [6, 7, 8, 9, 10, 11, 12, 13, 14, 15] (by decide +kernel) (by decide +kernel)
set_option maxRecDepth 20000 in
theorem gX4_bedTold_X4_be : GoodIn wsX4_bedTold (wsV RX4 102 RX4 yX4_be wsX4_be) := goodIn_app (goodIn_of _ (by decide +kernel)) ggX4_bedTold_X4_be
theorem dX4_bedTold_0 : decode cX4_bedTold 0 = .ok (.iload_n 2, 1) := by decide +kernel
theorem dX4_bedTold_1 : decode cX4_bedTold 1 = .ok (.ifCond .ne 12, 3) := by decide +kernel
theorem dX4_bedTold_4 : decode cX4_bedTold 4 = .ok (.aload_n 0, 1) := by decide +kernel
theorem dX4_bedTold_5 : decode cX4_bedTold 5 = .ok (.getfield 9, 3) := by decide +kernel
theorem dX4_bedTold_8 : decode cX4_bedTold 8 = .ok (.iload_n 1, 1) := by decide +kernel
theorem dX4_bedTold_9 : decode cX4_bedTold 9 = .ok (.iaload, 1) := by decide +kernel
theorem dX4_bedTold_10 : decode cX4_bedTold 10 = .ok (.goto 11, 3) := by decide +kernel
theorem dX4_bedTold_13 : decode cX4_bedTold 13 = .ok (.aload_n 0, 1) := by decide +kernel
theorem dX4_bedTold_14 : decode cX4_bedTold 14 = .ok (.iload_n 1, 1) := by decide +kernel
theorem dX4_bedTold_15 : decode cX4_bedTold 15 = .ok (.iload_n 2, 1) := by decide +kernel
theorem dX4_bedTold_16 : decode cX4_bedTold 16 = .ok (.iconst 1, 1) := by decide +kernel
theorem dX4_bedTold_17 : decode cX4_bedTold 17 = .ok (.isub, 1) := by decide +kernel
theorem dX4_bedTold_18 : decode cX4_bedTold 18 = .ok (.invokevirtual 102, 3) := by decide +kernel
theorem dX4_bedTold_21 : decode cX4_bedTold 21 = .ok (.ireturn, 1) := by decide +kernel
set_option maxRecDepth 20000 in
theorem ggX4_about_X4_isBed : GoodIn wsX4_about wsX4_isBed := goodIn_r _ [6, 7, 8, 9, 5, 10, 25, 26, 27, 28, 29, 30, 31, 32] (by decide +kernel) (by decide +kernel)
set_option maxRecDepth 20000 in
theorem gX4_about_X4_isBed : GoodIn wsX4_about (wsV RX4 60 RX4 yX4_isBed wsX4_isBed) := goodIn_app (goodIn_of _ (by decide +kernel)) ggX4_about_X4_isBed
set_option maxRecDepth 20000 in
theorem ggX4_about_X4_isIn : GoodIn wsX4_about wsX4_isIn := goodIn_r _ [10] (by decide +kernel) (by decide +kernel)
set_option maxRecDepth 20000 in
theorem gX4_about_X4_isIn : GoodIn wsX4_about (va_wsS RX4 32 yX4_isIn wsX4_isIn) := goodIn_app (goodIn_of _ (by decide +kernel)) ggX4_about_X4_isIn
set_option maxRecDepth 20000 in
theorem ggX4_about_X4_bedTold : GoodIn wsX4_about wsX4_bedTold := goodIn_r _ [14, 15, 16, 17, 18, 5, 19, 20, 25, 26, 27, 28, 29, 30, 31, 32] (by decide +kernel) (by decide +kernel)
set_option maxRecDepth 20000 in
theorem gX4_about_X4_bedTold : GoodIn wsX4_about (wsV RX4 132 RX4 yX4_bedTold wsX4_bedTold) := goodIn_app (goodIn_of _ (by decide +kernel)) ggX4_about_X4_bedTold
set_option maxRecDepth 20000 in
theorem ggX4_about_X4_fail : GoodIn wsX4_about wsX4_fail := goodIn_r _ [24, 1, 25, 26, 27, 28, 29, 30, 31, 32] (by decide +kernel) (by decide +kernel)
set_option maxRecDepth 20000 in
theorem gX4_about_X4_fail : GoodIn wsX4_about (wsV RX4 45 RX4 yX4_fail wsX4_fail) := goodIn_app (goodIn_of _ (by decide +kernel)) ggX4_about_X4_fail
theorem dX4_about_0 : decode cX4_about 0 = .ok (.aload_n 0, 1) := by decide +kernel
theorem dX4_about_1 : decode cX4_about 1 = .ok (.iconst 0, 1) := by decide +kernel
theorem dX4_about_2 : decode cX4_about 2 = .ok (.putfield 25, 3) := by decide +kernel
theorem dX4_about_5 : decode cX4_about 5 = .ok (.aload_n 0, 1) := by decide +kernel
theorem dX4_about_6 : decode cX4_about 6 = .ok (.iload_n 1, 1) := by decide +kernel
theorem dX4_about_7 : decode cX4_about 7 = .ok (.invokevirtual 60, 3) := by decide +kernel
theorem dX4_about_10 : decode cX4_about 10 = .ok (.ifCond .eq 21, 3) := by decide +kernel
theorem dX4_about_13 : decode cX4_about 13 = .ok (.iload_n 2, 1) := by decide +kernel
theorem dX4_about_14 : decode cX4_about 14 = .ok (.iconst 0, 1) := by decide +kernel
theorem dX4_about_15 : decode cX4_about 15 = .ok (.iconst 4, 1) := by decide +kernel
theorem dX4_about_16 : decode cX4_about 16 = .ok (.invokestatic 32, 3) := by decide +kernel
theorem dX4_about_19 : decode cX4_about 19 = .ok (.ifCond .eq 12, 3) := by decide +kernel
theorem dX4_about_22 : decode cX4_about 22 = .ok (.aload_n 0, 1) := by decide +kernel
theorem dX4_about_23 : decode cX4_about 23 = .ok (.iload_n 1, 1) := by decide +kernel
theorem dX4_about_24 : decode cX4_about 24 = .ok (.iload_n 2, 1) := by decide +kernel
theorem dX4_about_25 : decode cX4_about 25 = .ok (.invokevirtual 132, 3) := by decide +kernel
theorem dX4_about_28 : decode cX4_about 28 = .ok (.goto 8, 3) := by decide +kernel
theorem dX4_about_31 : decode cX4_about 31 = .ok (.aload_n 0, 1) := by decide +kernel
theorem dX4_about_32 : decode cX4_about 32 = .ok (.iconst 1, 1) := by decide +kernel
theorem dX4_about_33 : decode cX4_about 33 = .ok (.invokevirtual 45, 3) := by decide +kernel
theorem dX4_about_36 : decode cX4_about 36 = .ok (.ireturn, 1) := by decide +kernel
set_option maxRecDepth 20000 in
theorem ggX4_many_X4_sa : GoodIn wsX4_many wsX4_sa := goodIn_r _ [6, 7, 8, 9, 10, 11, 12, 13, 14, 15] (by decide +kernel) (by decide +kernel)
set_option maxRecDepth 20000 in
theorem gX4_many_X4_sa : GoodIn wsX4_many (wsV RX4 63 RX4 yX4_sa wsX4_sa) := goodIn_app (goodIn_of _ (by decide +kernel)) ggX4_many_X4_sa
theorem dX4_many_0 : decode cX4_many 0 = .ok (.iconst 0, 1) := by decide +kernel
theorem dX4_many_1 : decode cX4_many 1 = .ok (.istore_n 2, 1) := by decide +kernel
theorem dX4_many_2 : decode cX4_many 2 = .ok (.iconst 0, 1) := by decide +kernel
theorem dX4_many_3 : decode cX4_many 3 = .ok (.istore_n 3, 1) := by decide +kernel
theorem dX4_many_4 : decode cX4_many 4 = .ok (.iload_n 3, 1) := by decide +kernel
theorem dX4_many_5 : decode cX4_many 5 = .ok (.aload_n 0, 1) := by decide +kernel
theorem dX4_many_6 : decode cX4_many 6 = .ok (.getfield 36, 3) := by decide +kernel
theorem dX4_many_9 : decode cX4_many 9 = .ok (.if_icmp .ge 27, 3) := by decide +kernel
theorem dX4_many_12 : decode cX4_many 12 = .ok (.iload_n 2, 1) := by decide +kernel
theorem dX4_many_13 : decode cX4_many 13 = .ok (.aload_n 0, 1) := by decide +kernel
theorem dX4_many_14 : decode cX4_many 14 = .ok (.iload_n 3, 1) := by decide +kernel
theorem dX4_many_15 : decode cX4_many 15 = .ok (.iconst 4, 1) := by decide +kernel
theorem dX4_many_16 : decode cX4_many 16 = .ok (.invokevirtual 63, 3) := by decide +kernel
theorem dX4_many_19 : decode cX4_many 19 = .ok (.iload_n 1, 1) := by decide +kernel
theorem dX4_many_20 : decode cX4_many 20 = .ok (.if_icmp .ne 7, 3) := by decide +kernel
theorem dX4_many_23 : decode cX4_many 23 = .ok (.iconst 1, 1) := by decide +kernel
theorem dX4_many_24 : decode cX4_many 24 = .ok (.goto 4, 3) := by decide +kernel
theorem dX4_many_27 : decode cX4_many 27 = .ok (.iconst 0, 1) := by decide +kernel
theorem dX4_many_28 : decode cX4_many 28 = .ok (.iadd, 1) := by decide +kernel
theorem dX4_many_29 : decode cX4_many 29 = .ok (.istore_n 2, 1) := by decide +kernel
theorem dX4_many_30 : decode cX4_many 30 = .ok (.iinc 3 1, 3) := by decide +kernel
theorem dX4_many_33 : decode cX4_many 33 = .ok (.goto (-29), 3) := by decide +kernel
theorem dX4_many_36 : decode cX4_many 36 = .ok (.iload_n 2, 1) := by decide +kernel
theorem dX4_many_37 : decode cX4_many 37 = .ok (.ireturn, 1) := by decide +kernel
set_option maxRecDepth 20000 in
theorem ggX4_counted_X4_watch : GoodIn wsX4_counted wsX4_watch := goodIn_r _ [8, 1, 21, 22, 23, 24, 25, 26, 27, 28] (by decide +kernel) (by decide +kernel)
set_option maxRecDepth 20000 in
theorem gX4_counted_X4_watch : GoodIn wsX4_counted (wsV RX4 95 RX4 yX4_watch wsX4_watch) := goodIn_app (goodIn_of _ (by decide +kernel)) ggX4_counted_X4_watch
set_option maxRecDepth 20000 in
theorem ggX4_counted_X4_many : GoodIn wsX4_counted wsX4_many := goodIn_r _ [12, 3, 13, 14, 15, 7, 16, 1, 21, 22, 23, 24, 25, 26, 27, 28] (by decide +kernel) (by decide +kernel)
set_option maxRecDepth 20000 in
theorem gX4_counted_X4_many : GoodIn wsX4_counted (wsV RX4 135 RX4 yX4_many wsX4_many) := goodIn_app (goodIn_of _ (by decide +kernel)) ggX4_counted_X4_many
set_option maxRecDepth 20000 in
theorem ggX4_counted_X4_sum : GoodIn wsX4_counted wsX4_sum := goodIn_r _ [20, 3, 13, 14, 15, 7, 16, 1, 21, 22, 23, 24, 25, 26, 27, 28] (by decide +kernel) (by decide +kernel)
set_option maxRecDepth 20000 in
theorem gX4_counted_X4_sum : GoodIn wsX4_counted (wsV RX4 123 RX4 yX4_sum wsX4_sum) := goodIn_app (goodIn_of _ (by decide +kernel)) ggX4_counted_X4_sum
theorem dX4_counted_0 : decode cX4_counted 0 = .ok (.iload_n 1, 1) := by decide +kernel
theorem dX4_counted_1 : decode cX4_counted 1 = .ok (.tableswitch 106 0 8 #[51, 58, 63, 68, 73, 79, 85, 92, 99], 51) := by decide +kernel
theorem dX4_counted_52 : decode cX4_counted 52 = .ok (.aload_n 0, 1) := by decide +kernel
theorem dX4_counted_53 : decode cX4_counted 53 = .ok (.getfield 19, 3) := by decide +kernel
theorem dX4_counted_56 : decode cX4_counted 56 = .ok (.iconst 0, 1) := by decide +kernel
theorem dX4_counted_57 : decode cX4_counted 57 = .ok (.iaload, 1) := by decide +kernel
theorem dX4_counted_58 : decode cX4_counted 58 = .ok (.ireturn, 1) := by decide +kernel
theorem dX4_counted_59 : decode cX4_counted 59 = .ok (.aload_n 0, 1) := by decide +kernel
theorem dX4_counted_60 : decode cX4_counted 60 = .ok (.getfield 29, 3) := by decide +kernel
theorem dX4_counted_63 : decode cX4_counted 63 = .ok (.ireturn, 1) := by decide +kernel
theorem dX4_counted_64 : decode cX4_counted 64 = .ok (.aload_n 0, 1) := by decide +kernel
theorem dX4_counted_65 : decode cX4_counted 65 = .ok (.getfield 36, 3) := by decide +kernel
theorem dX4_counted_68 : decode cX4_counted 68 = .ok (.ireturn, 1) := by decide +kernel
theorem dX4_counted_69 : decode cX4_counted 69 = .ok (.aload_n 0, 1) := by decide +kernel
theorem dX4_counted_70 : decode cX4_counted 70 = .ok (.invokevirtual 95, 3) := by decide +kernel
theorem dX4_counted_73 : decode cX4_counted 73 = .ok (.ireturn, 1) := by decide +kernel
theorem dX4_counted_74 : decode cX4_counted 74 = .ok (.aload_n 0, 1) := by decide +kernel
theorem dX4_counted_75 : decode cX4_counted 75 = .ok (.iconst 1, 1) := by decide +kernel
theorem dX4_counted_76 : decode cX4_counted 76 = .ok (.invokevirtual 135, 3) := by decide +kernel
theorem dX4_counted_79 : decode cX4_counted 79 = .ok (.ireturn, 1) := by decide +kernel
theorem dX4_counted_80 : decode cX4_counted 80 = .ok (.aload_n 0, 1) := by decide +kernel
theorem dX4_counted_81 : decode cX4_counted 81 = .ok (.iconst 2, 1) := by decide +kernel
theorem dX4_counted_82 : decode cX4_counted 82 = .ok (.invokevirtual 135, 3) := by decide +kernel
theorem dX4_counted_85 : decode cX4_counted 85 = .ok (.ireturn, 1) := by decide +kernel
theorem dX4_counted_86 : decode cX4_counted 86 = .ok (.aload_n 0, 1) := by decide +kernel
theorem dX4_counted_87 : decode cX4_counted 87 = .ok (.bipush 7, 2) := by decide +kernel
theorem dX4_counted_89 : decode cX4_counted 89 = .ok (.invokevirtual 123, 3) := by decide +kernel
theorem dX4_counted_92 : decode cX4_counted 92 = .ok (.ireturn, 1) := by decide +kernel
theorem dX4_counted_93 : decode cX4_counted 93 = .ok (.aload_n 0, 1) := by decide +kernel
theorem dX4_counted_94 : decode cX4_counted 94 = .ok (.bipush 8, 2) := by decide +kernel
theorem dX4_counted_96 : decode cX4_counted 96 = .ok (.invokevirtual 123, 3) := by decide +kernel
theorem dX4_counted_99 : decode cX4_counted 99 = .ok (.ireturn, 1) := by decide +kernel
theorem dX4_counted_100 : decode cX4_counted 100 = .ok (.aload_n 0, 1) := by decide +kernel
theorem dX4_counted_101 : decode cX4_counted 101 = .ok (.getfield 19, 3) := by decide +kernel
theorem dX4_counted_104 : decode cX4_counted 104 = .ok (.iconst 1, 1) := by decide +kernel
theorem dX4_counted_105 : decode cX4_counted 105 = .ok (.iaload, 1) := by decide +kernel
theorem dX4_counted_106 : decode cX4_counted 106 = .ok (.ireturn, 1) := by decide +kernel
theorem dX4_counted_107 : decode cX4_counted 107 = .ok (.aload_n 0, 1) := by decide +kernel
theorem dX4_counted_108 : decode cX4_counted 108 = .ok (.getfield 19, 3) := by decide +kernel
theorem dX4_counted_111 : decode cX4_counted 111 = .ok (.iconst 2, 1) := by decide +kernel
theorem dX4_counted_112 : decode cX4_counted 112 = .ok (.iaload, 1) := by decide +kernel
theorem dX4_counted_113 : decode cX4_counted 113 = .ok (.ireturn, 1) := by decide +kernel
set_option maxRecDepth 20000 in
theorem ggX4_count_X4_isIn : GoodIn wsX4_count wsX4_isIn := goodIn_r _ [5] (by decide +kernel) (by decide +kernel)
set_option maxRecDepth 20000 in
theorem gX4_count_X4_isIn : GoodIn wsX4_count (va_wsS RX4 32 yX4_isIn wsX4_isIn) := goodIn_app (goodIn_of _ (by decide +kernel)) ggX4_count_X4_isIn
set_option maxRecDepth 20000 in
theorem ggX4_count_X4_counted : GoodIn wsX4_count wsX4_counted := goodIn_r _ [9, 10, 11, 12, 13, 14, 15, 4, 16, 17, 18, 19, 20, 21, 22, 23, 24, 25, 26, 27, 28, 33, 34, 35, 36, 37, 38, 39, 40] (by decide +kernel) (by decide +kernel)
set_option maxRecDepth 20000 in
theorem gX4_count_X4_counted : GoodIn wsX4_count (wsV RX4 138 RX4 yX4_counted wsX4_counted) := goodIn_app (goodIn_of _ (by decide +kernel)) ggX4_count_X4_counted
set_option maxRecDepth 20000 in
theorem ggX4_count_X4_fail : GoodIn wsX4_count wsX4_fail := goodIn_r _ [32, 1, 33, 34, 35, 36, 37, 38, 39, 40] (by decide +kernel) (by decide +kernel)
set_option maxRecDepth 20000 in
theorem gX4_count_X4_fail : GoodIn wsX4_count (wsV RX4 45 RX4 yX4_fail wsX4_fail) := goodIn_app (goodIn_of _ (by decide +kernel)) ggX4_count_X4_fail
theorem dX4_count_0 : decode cX4_count 0 = .ok (.aload_n 0, 1) := by decide +kernel
theorem dX4_count_1 : decode cX4_count 1 = .ok (.iconst 0, 1) := by decide +kernel
theorem dX4_count_2 : decode cX4_count 2 = .ok (.putfield 25, 3) := by decide +kernel
theorem dX4_count_5 : decode cX4_count 5 = .ok (.iload_n 1, 1) := by decide +kernel
theorem dX4_count_6 : decode cX4_count 6 = .ok (.iconst 0, 1) := by decide +kernel
theorem dX4_count_7 : decode cX4_count 7 = .ok (.bipush 9, 2) := by decide +kernel
theorem dX4_count_9 : decode cX4_count 9 = .ok (.invokestatic 32, 3) := by decide +kernel
theorem dX4_count_12 : decode cX4_count 12 = .ok (.ifCond .eq 11, 3) := by decide +kernel
theorem dX4_count_15 : decode cX4_count 15 = .ok (.aload_n 0, 1) := by decide +kernel
theorem dX4_count_16 : decode cX4_count 16 = .ok (.iload_n 1, 1) := by decide +kernel
theorem dX4_count_17 : decode cX4_count 17 = .ok (.invokevirtual 138, 3) := by decide +kernel
theorem dX4_count_20 : decode cX4_count 20 = .ok (.goto 8, 3) := by decide +kernel
theorem dX4_count_23 : decode cX4_count 23 = .ok (.aload_n 0, 1) := by decide +kernel
theorem dX4_count_24 : decode cX4_count 24 = .ok (.iconst 1, 1) := by decide +kernel
theorem dX4_count_25 : decode cX4_count 25 = .ok (.invokevirtual 45, 3) := by decide +kernel
theorem dX4_count_28 : decode cX4_count 28 = .ok (.ireturn, 1) := by decide +kernel
set_option maxRecDepth 20000 in
theorem ggX4_would_X4_isSailor : GoodIn wsX4_would wsX4_isSailor := goodIn_r _ [6, 7, 8, 9, 5, 10, 112, 113, 114, 115, 116, 117, 118, 119] (by decide +kernel) (by decide +kernel)
set_option maxRecDepth 20000 in
theorem gX4_would_X4_isSailor : GoodIn wsX4_would (wsV RX4 56 RX4 yX4_isSailor wsX4_isSailor) := goodIn_app (goodIn_of _ (by decide +kernel)) ggX4_would_X4_isSailor
set_option maxRecDepth 20000 in
theorem ggX4_would_X4_fail : GoodIn wsX4_would wsX4_fail := goodIn_r _ [14, 1, 112, 113, 114, 115, 116, 117, 118, 119] (by decide +kernel) (by decide +kernel)
set_option maxRecDepth 20000 in
theorem gX4_would_X4_fail : GoodIn wsX4_would (wsV RX4 45 RX4 yX4_fail wsX4_fail) := goodIn_app (goodIn_of _ (by decide +kernel)) ggX4_would_X4_fail
set_option maxRecDepth 20000 in
theorem ggX4_would_X4_isIn : GoodIn wsX4_would wsX4_isIn := goodIn_r _ [10] (by decide +kernel) (by decide +kernel)
set_option maxRecDepth 20000 in
theorem gX4_would_X4_isIn : GoodIn wsX4_would (va_wsS RX4 32 yX4_isIn wsX4_isIn) := goodIn_app (goodIn_of _ (by decide +kernel)) ggX4_would_X4_isIn
set_option maxRecDepth 20000 in
theorem ggX4_would_X4_keep : GoodIn wsX4_would wsX4_keep := goodIn_r _ [18, 19, 20, 21, 22, 23, 24, 112, 113, 114, 115, 116, 117, 118, 119] (by decide +kernel) (by decide +kernel)
set_option maxRecDepth 20000 in
theorem gX4_would_X4_keep : GoodIn wsX4_would (wsV RX4 141 RX4 yX4_keep wsX4_keep) := goodIn_app (goodIn_of _ (by decide +kernel)) ggX4_would_X4_keep
set_option maxRecDepth 20000 in
theorem ggX4_would_X4_sa : GoodIn wsX4_would wsX4_sa := goodIn_r _ [28, 19, 112, 113, 114, 115, 116, 117, 118, 119] (by decide +kernel) (by decide +kernel)
set_option maxRecDepth 20000 in
theorem gX4_would_X4_sa : GoodIn wsX4_would (wsV RX4 63 RX4 yX4_sa wsX4_sa) := goodIn_app (goodIn_of _ (by decide +kernel)) ggX4_would_X4_sa
set_option maxRecDepth 20000 in
theorem ggX4_would_X4_hoursOn : GoodIn wsX4_would wsX4_hoursOn := goodIn_r _ [32, 33, 34, 35, 5, 36, 7, 19, 37, 38, 39, 40, 41, 42, 43, 44, 25, 26, 27, 28, 45, 46, 47, 48, 49, 50, 51, 52, 53, 54, 55, 56, 57, 58, 59, 60, 61, 62, 63, 64, 65, 66, 67, 68, 69, 70, 71, 72, 73, 74, 75, 76, 77, 78, 79, 80, 81, 82, 83, 84, 85, 86, 87, 88, 89, 90, 91, 92, 93, 94, 95, 96, 97, 98, 99, 100, 101, 102, 103, 104, 105, 106, 107, 112, 113, 114, 115, 116, 117, 118, 119] (by decide +kernel) (by decide +kernel)
set_option maxRecDepth 20000 in
theorem gX4_would_X4_hoursOn : GoodIn wsX4_would (wsV RX4 126 RX4 yX4_hoursOn wsX4_hoursOn) := goodIn_app (goodIn_of _ (by decide +kernel)) ggX4_would_X4_hoursOn
set_option maxRecDepth 20000 in
theorem ggX4_would_X4_bringBack : GoodIn wsX4_would wsX4_bringBack := goodIn_r _ [111, 20, 19, 21, 22, 23, 24, 112, 113, 114, 115, 116, 117, 118, 119] (by decide +kernel) (by decide +kernel)
set_option maxRecDepth 20000 in
theorem gX4_would_X4_bringBack : GoodIn wsX4_would (wsV RX4 144 RX4 yX4_bringBack wsX4_bringBack) := goodIn_app (goodIn_of _ (by decide +kernel)) ggX4_would_X4_bringBack
theorem dX4_would_0 : decode cX4_would 0 = .ok (.aload_n 0, 1) := by decide +kernel
theorem dX4_would_1 : decode cX4_would 1 = .ok (.iconst 0, 1) := by decide +kernel
theorem dX4_would_2 : decode cX4_would 2 = .ok (.putfield 25, 3) := by decide +kernel
theorem dX4_would_5 : decode cX4_would 5 = .ok (.aload_n 0, 1) := by decide +kernel
theorem dX4_would_6 : decode cX4_would 6 = .ok (.iload_n 1, 1) := by decide +kernel
theorem dX4_would_7 : decode cX4_would 7 = .ok (.invokevirtual 56, 3) := by decide +kernel
theorem dX4_would_10 : decode cX4_would 10 = .ok (.ifCond .ne 9, 3) := by decide +kernel
theorem dX4_would_13 : decode cX4_would 13 = .ok (.aload_n 0, 1) := by decide +kernel
theorem dX4_would_14 : decode cX4_would 14 = .ok (.iconst 1, 1) := by decide +kernel
theorem dX4_would_15 : decode cX4_would 15 = .ok (.invokevirtual 45, 3) := by decide +kernel
theorem dX4_would_18 : decode cX4_would 18 = .ok (.ireturn, 1) := by decide +kernel
theorem dX4_would_19 : decode cX4_would 19 = .ok (.iload_n 2, 1) := by decide +kernel
theorem dX4_would_20 : decode cX4_would 20 = .ok (.iconst 1, 1) := by decide +kernel
theorem dX4_would_21 : decode cX4_would 21 = .ok (.bipush 72, 2) := by decide +kernel
theorem dX4_would_23 : decode cX4_would 23 = .ok (.invokestatic 32, 3) := by decide +kernel
theorem dX4_would_26 : decode cX4_would 26 = .ok (.ifCond .ne 9, 3) := by decide +kernel
theorem dX4_would_29 : decode cX4_would 29 = .ok (.aload_n 0, 1) := by decide +kernel
theorem dX4_would_30 : decode cX4_would 30 = .ok (.iconst 2, 1) := by decide +kernel
theorem dX4_would_31 : decode cX4_would 31 = .ok (.invokevirtual 45, 3) := by decide +kernel
theorem dX4_would_34 : decode cX4_would 34 = .ok (.ireturn, 1) := by decide +kernel
theorem dX4_would_35 : decode cX4_would 35 = .ok (.aload_n 0, 1) := by decide +kernel
theorem dX4_would_36 : decode cX4_would 36 = .ok (.invokevirtual 141, 3) := by decide +kernel
theorem dX4_would_39 : decode cX4_would 39 = .ok (.aload_n 0, 1) := by decide +kernel
theorem dX4_would_40 : decode cX4_would 40 = .ok (.iload_n 1, 1) := by decide +kernel
theorem dX4_would_41 : decode cX4_would 41 = .ok (.bipush 6, 2) := by decide +kernel
theorem dX4_would_43 : decode cX4_would 43 = .ok (.invokevirtual 63, 3) := by decide +kernel
theorem dX4_would_46 : decode cX4_would 46 = .ok (.istore_n 3, 1) := by decide +kernel
theorem dX4_would_47 : decode cX4_would 47 = .ok (.aload_n 0, 1) := by decide +kernel
theorem dX4_would_48 : decode cX4_would 48 = .ok (.iload_n 2, 1) := by decide +kernel
theorem dX4_would_49 : decode cX4_would 49 = .ok (.invokevirtual 126, 3) := by decide +kernel
theorem dX4_would_52 : decode cX4_would 52 = .ok (.aload_n 0, 1) := by decide +kernel
theorem dX4_would_53 : decode cX4_would 53 = .ok (.iload_n 1, 1) := by decide +kernel
theorem dX4_would_54 : decode cX4_would 54 = .ok (.bipush 6, 2) := by decide +kernel
theorem dX4_would_56 : decode cX4_would 56 = .ok (.invokevirtual 63, 3) := by decide +kernel
theorem dX4_would_59 : decode cX4_would 59 = .ok (.iload_n 3, 1) := by decide +kernel
theorem dX4_would_60 : decode cX4_would 60 = .ok (.isub, 1) := by decide +kernel
theorem dX4_would_61 : decode cX4_would 61 = .ok (.istore 4, 2) := by decide +kernel
theorem dX4_would_63 : decode cX4_would 63 = .ok (.aload_n 0, 1) := by decide +kernel
theorem dX4_would_64 : decode cX4_would 64 = .ok (.invokevirtual 144, 3) := by decide +kernel
theorem dX4_would_67 : decode cX4_would 67 = .ok (.iload 4, 2) := by decide +kernel
theorem dX4_would_69 : decode cX4_would 69 = .ok (.ireturn, 1) := by decide +kernel
set_option maxRecDepth 20000 in
theorem ggX4_until_X4_isSailor : GoodIn wsX4_until wsX4_isSailor := goodIn_r _ [6, 7, 8, 9, 5, 10, 108, 109, 110, 111, 112, 113, 114, 115] (by decide +kernel) (by decide +kernel)
set_option maxRecDepth 20000 in
theorem gX4_until_X4_isSailor : GoodIn wsX4_until (wsV RX4 56 RX4 yX4_isSailor wsX4_isSailor) := goodIn_app (goodIn_of _ (by decide +kernel)) ggX4_until_X4_isSailor
set_option maxRecDepth 20000 in
theorem ggX4_until_X4_fail : GoodIn wsX4_until wsX4_fail := goodIn_r _ [14, 1, 108, 109, 110, 111, 112, 113, 114, 115] (by decide +kernel) (by decide +kernel)
set_option maxRecDepth 20000 in
theorem gX4_until_X4_fail : GoodIn wsX4_until (wsV RX4 45 RX4 yX4_fail wsX4_fail) := goodIn_app (goodIn_of _ (by decide +kernel)) ggX4_until_X4_fail
set_option maxRecDepth 20000 in
theorem ggX4_until_X4_keep : GoodIn wsX4_until wsX4_keep := goodIn_r _ [18, 19, 20, 21, 22, 23, 24, 108, 109, 110, 111, 112, 113, 114, 115] (by decide +kernel) (by decide +kernel)
set_option maxRecDepth 20000 in
theorem gX4_until_X4_keep : GoodIn wsX4_until (wsV RX4 141 RX4 yX4_keep wsX4_keep) := goodIn_app (goodIn_of _ (by decide +kernel)) ggX4_until_X4_keep
set_option maxRecDepth 20000 in
theorem ggX4_until_X4_sa : GoodIn wsX4_until wsX4_sa := goodIn_r _ [28, 19, 108, 109, 110, 111, 112, 113, 114, 115] (by decide +kernel) (by decide +kernel)
set_option maxRecDepth 20000 in
theorem gX4_until_X4_sa : GoodIn wsX4_until (wsV RX4 63 RX4 yX4_sa wsX4_sa) := goodIn_app (goodIn_of _ (by decide +kernel)) ggX4_until_X4_sa
set_option maxRecDepth 20000 in
theorem ggX4_until_X4_hourOn : GoodIn wsX4_until wsX4_hourOn := goodIn_r _ [32, 7, 19, 33, 34, 35, 36, 37, 38, 39, 40, 25, 26, 27, 5, 28, 41, 42, 43, 44, 45, 46, 47, 48, 49, 50, 51, 52, 53, 54, 55, 56, 57, 58, 59, 60, 61, 62, 63, 64, 65, 66, 67, 68, 69, 70, 71, 72, 73, 74, 75, 76, 77, 78, 79, 80, 81, 82, 83, 84, 85, 86, 87, 88, 89, 90, 91, 92, 93, 94, 95, 96, 97, 98, 99, 100, 101, 102, 103, 108, 109, 110, 111, 112, 113, 114, 115] (by decide +kernel) (by decide +kernel)
set_option maxRecDepth 20000 in
theorem gX4_until_X4_hourOn : GoodIn wsX4_until (wsV RX4 120 RX4 yX4_hourOn wsX4_hourOn) := goodIn_app (goodIn_of _ (by decide +kernel)) ggX4_until_X4_hourOn
set_option maxRecDepth 20000 in
theorem ggX4_until_X4_bringBack : GoodIn wsX4_until wsX4_bringBack := goodIn_r _ [107, 20, 19, 21, 22, 23, 24, 108, 109, 110, 111, 112, 113, 114, 115] (by decide +kernel) (by decide +kernel)
set_option maxRecDepth 20000 in
theorem gX4_until_X4_bringBack : GoodIn wsX4_until (wsV RX4 144 RX4 yX4_bringBack wsX4_bringBack) := goodIn_app (goodIn_of _ (by decide +kernel)) ggX4_until_X4_bringBack
theorem dX4_until_0 : decode cX4_until 0 = .ok (.aload_n 0, 1) := by decide +kernel
theorem dX4_until_1 : decode cX4_until 1 = .ok (.iconst 0, 1) := by decide +kernel
theorem dX4_until_2 : decode cX4_until 2 = .ok (.putfield 25, 3) := by decide +kernel
theorem dX4_until_5 : decode cX4_until 5 = .ok (.aload_n 0, 1) := by decide +kernel
theorem dX4_until_6 : decode cX4_until 6 = .ok (.iload_n 1, 1) := by decide +kernel
theorem dX4_until_7 : decode cX4_until 7 = .ok (.invokevirtual 56, 3) := by decide +kernel
theorem dX4_until_10 : decode cX4_until 10 = .ok (.ifCond .ne 9, 3) := by decide +kernel
theorem dX4_until_13 : decode cX4_until 13 = .ok (.aload_n 0, 1) := by decide +kernel
theorem dX4_until_14 : decode cX4_until 14 = .ok (.iconst 1, 1) := by decide +kernel
theorem dX4_until_15 : decode cX4_until 15 = .ok (.invokevirtual 45, 3) := by decide +kernel
theorem dX4_until_18 : decode cX4_until 18 = .ok (.ireturn, 1) := by decide +kernel
theorem dX4_until_19 : decode cX4_until 19 = .ok (.aload_n 0, 1) := by decide +kernel
theorem dX4_until_20 : decode cX4_until 20 = .ok (.invokevirtual 141, 3) := by decide +kernel
theorem dX4_until_23 : decode cX4_until 23 = .ok (.iconst 0, 1) := by decide +kernel
theorem dX4_until_24 : decode cX4_until 24 = .ok (.istore_n 2, 1) := by decide +kernel
theorem dX4_until_25 : decode cX4_until 25 = .ok (.iload_n 2, 1) := by decide +kernel
theorem dX4_until_26 : decode cX4_until 26 = .ok (.bipush 48, 2) := by decide +kernel
theorem dX4_until_28 : decode cX4_until 28 = .ok (.if_icmp .gt 23, 3) := by decide +kernel
theorem dX4_until_31 : decode cX4_until 31 = .ok (.aload_n 0, 1) := by decide +kernel
theorem dX4_until_32 : decode cX4_until 32 = .ok (.iload_n 1, 1) := by decide +kernel
theorem dX4_until_33 : decode cX4_until 33 = .ok (.iconst 4, 1) := by decide +kernel
theorem dX4_until_34 : decode cX4_until 34 = .ok (.invokevirtual 63, 3) := by decide +kernel
theorem dX4_until_37 : decode cX4_until 37 = .ok (.iconst 1, 1) := by decide +kernel
theorem dX4_until_38 : decode cX4_until 38 = .ok (.if_icmp .eq 13, 3) := by decide +kernel
theorem dX4_until_41 : decode cX4_until 41 = .ok (.aload_n 0, 1) := by decide +kernel
theorem dX4_until_42 : decode cX4_until 42 = .ok (.invokevirtual 120, 3) := by decide +kernel
theorem dX4_until_45 : decode cX4_until 45 = .ok (.iinc 2 1, 3) := by decide +kernel
theorem dX4_until_48 : decode cX4_until 48 = .ok (.goto (-23), 3) := by decide +kernel
theorem dX4_until_51 : decode cX4_until 51 = .ok (.aload_n 0, 1) := by decide +kernel
theorem dX4_until_52 : decode cX4_until 52 = .ok (.invokevirtual 144, 3) := by decide +kernel
theorem dX4_until_55 : decode cX4_until 55 = .ok (.iload_n 2, 1) := by decide +kernel
theorem dX4_until_56 : decode cX4_until 56 = .ok (.bipush 48, 2) := by decide +kernel
theorem dX4_until_58 : decode cX4_until 58 = .ok (.if_icmp .le 7, 3) := by decide +kernel
theorem dX4_until_61 : decode cX4_until 61 = .ok (.iconst (-1), 1) := by decide +kernel
theorem dX4_until_62 : decode cX4_until 62 = .ok (.goto 4, 3) := by decide +kernel
theorem dX4_until_65 : decode cX4_until 65 = .ok (.iload_n 2, 1) := by decide +kernel
theorem dX4_until_66 : decode cX4_until 66 = .ok (.ireturn, 1) := by decide +kernel
set_option maxRecDepth 20000 in
theorem ggX4_quiet_X4_keep : GoodIn wsX4_quiet wsX4_keep := goodIn_r _ [7, 2, 8, 9, 10, 11, 12, 105, 106, 107, 108, 109, 110, 111, 112] (by decide +kernel) (by decide +kernel)
set_option maxRecDepth 20000 in
theorem gX4_quiet_X4_keep : GoodIn wsX4_quiet (wsV RX4 141 RX4 yX4_keep wsX4_keep) := goodIn_app (goodIn_of _ (by decide +kernel)) ggX4_quiet_X4_keep
set_option maxRecDepth 20000 in
theorem ggX4_quiet_X4_sum : GoodIn wsX4_quiet wsX4_sum := goodIn_r _ [16, 17, 18, 19, 20, 6, 21, 2, 105, 106, 107, 108, 109, 110, 111, 112] (by decide +kernel) (by decide +kernel)
set_option maxRecDepth 20000 in
theorem gX4_quiet_X4_sum : GoodIn wsX4_quiet (wsV RX4 123 RX4 yX4_sum wsX4_sum) := goodIn_app (goodIn_of _ (by decide +kernel)) ggX4_quiet_X4_sum
set_option maxRecDepth 20000 in
theorem ggX4_quiet_X4_hoursOn : GoodIn wsX4_quiet wsX4_hoursOn := goodIn_r _ [25, 26, 27, 28, 6, 29, 17, 2, 30, 31, 32, 33, 34, 35, 36, 37, 18, 19, 20, 21, 38, 39, 40, 41, 42, 43, 44, 45, 46, 47, 48, 49, 50, 51, 52, 53, 54, 55, 56, 57, 58, 59, 60, 61, 62, 63, 64, 65, 66, 67, 68, 69, 70, 71, 72, 73, 74, 75, 76, 77, 78, 79, 80, 81, 82, 83, 84, 85, 86, 87, 88, 89, 90, 91, 92, 93, 94, 95, 96, 97, 98, 99, 100, 105, 106, 107, 108, 109, 110, 111, 112] (by decide +kernel) (by decide +kernel)
set_option maxRecDepth 20000 in
theorem gX4_quiet_X4_hoursOn : GoodIn wsX4_quiet (wsV RX4 126 RX4 yX4_hoursOn wsX4_hoursOn) := goodIn_app (goodIn_of _ (by decide +kernel)) ggX4_quiet_X4_hoursOn
set_option maxRecDepth 20000 in
theorem ggX4_quiet_X4_bringBack : GoodIn wsX4_quiet wsX4_bringBack := goodIn_r _ [104, 8, 2, 9, 10, 11, 12, 105, 106, 107, 108, 109, 110, 111, 112] (by decide +kernel) (by decide +kernel)
set_option maxRecDepth 20000 in
theorem gX4_quiet_X4_bringBack : GoodIn wsX4_quiet (wsV RX4 144 RX4 yX4_bringBack wsX4_bringBack) := goodIn_app (goodIn_of _ (by decide +kernel)) ggX4_quiet_X4_bringBack
theorem dX4_quiet_0 : decode cX4_quiet 0 = .ok (.aload_n 0, 1) := by decide +kernel
theorem dX4_quiet_1 : decode cX4_quiet 1 = .ok (.iconst 0, 1) := by decide +kernel
theorem dX4_quiet_2 : decode cX4_quiet 2 = .ok (.putfield 25, 3) := by decide +kernel
theorem dX4_quiet_5 : decode cX4_quiet 5 = .ok (.aload_n 0, 1) := by decide +kernel
theorem dX4_quiet_6 : decode cX4_quiet 6 = .ok (.invokevirtual 141, 3) := by decide +kernel
theorem dX4_quiet_9 : decode cX4_quiet 9 = .ok (.aload_n 0, 1) := by decide +kernel
theorem dX4_quiet_10 : decode cX4_quiet 10 = .ok (.bipush 7, 2) := by decide +kernel
theorem dX4_quiet_12 : decode cX4_quiet 12 = .ok (.invokevirtual 123, 3) := by decide +kernel
theorem dX4_quiet_15 : decode cX4_quiet 15 = .ok (.istore_n 1, 1) := by decide +kernel
theorem dX4_quiet_16 : decode cX4_quiet 16 = .ok (.iconst (-1), 1) := by decide +kernel
theorem dX4_quiet_17 : decode cX4_quiet 17 = .ok (.istore_n 2, 1) := by decide +kernel
theorem dX4_quiet_18 : decode cX4_quiet 18 = .ok (.iconst 0, 1) := by decide +kernel
theorem dX4_quiet_19 : decode cX4_quiet 19 = .ok (.istore_n 3, 1) := by decide +kernel
theorem dX4_quiet_20 : decode cX4_quiet 20 = .ok (.iload_n 3, 1) := by decide +kernel
theorem dX4_quiet_21 : decode cX4_quiet 21 = .ok (.bipush 10, 2) := by decide +kernel
theorem dX4_quiet_23 : decode cX4_quiet 23 = .ok (.if_icmp .ge 43, 3) := by decide +kernel
theorem dX4_quiet_26 : decode cX4_quiet 26 = .ok (.iload_n 2, 1) := by decide +kernel
theorem dX4_quiet_27 : decode cX4_quiet 27 = .ok (.iconst (-1), 1) := by decide +kernel
theorem dX4_quiet_28 : decode cX4_quiet 28 = .ok (.if_icmp .ne 38, 3) := by decide +kernel
theorem dX4_quiet_31 : decode cX4_quiet 31 = .ok (.aload_n 0, 1) := by decide +kernel
theorem dX4_quiet_32 : decode cX4_quiet 32 = .ok (.getfield 19, 3) := by decide +kernel
theorem dX4_quiet_35 : decode cX4_quiet 35 = .ok (.iconst 1, 1) := by decide +kernel
theorem dX4_quiet_36 : decode cX4_quiet 36 = .ok (.iload_n 3, 1) := by decide +kernel
theorem dX4_quiet_37 : decode cX4_quiet 37 = .ok (.iastore, 1) := by decide +kernel
theorem dX4_quiet_38 : decode cX4_quiet 38 = .ok (.aload_n 0, 1) := by decide +kernel
theorem dX4_quiet_39 : decode cX4_quiet 39 = .ok (.bipush 48, 2) := by decide +kernel
theorem dX4_quiet_41 : decode cX4_quiet 41 = .ok (.invokevirtual 126, 3) := by decide +kernel
theorem dX4_quiet_44 : decode cX4_quiet 44 = .ok (.aload_n 0, 1) := by decide +kernel
theorem dX4_quiet_45 : decode cX4_quiet 45 = .ok (.bipush 7, 2) := by decide +kernel
theorem dX4_quiet_47 : decode cX4_quiet 47 = .ok (.invokevirtual 123, 3) := by decide +kernel
theorem dX4_quiet_50 : decode cX4_quiet 50 = .ok (.iload_n 1, 1) := by decide +kernel
theorem dX4_quiet_51 : decode cX4_quiet 51 = .ok (.if_icmp .ne 5, 3) := by decide +kernel
theorem dX4_quiet_54 : decode cX4_quiet 54 = .ok (.iload_n 3, 1) := by decide +kernel
theorem dX4_quiet_55 : decode cX4_quiet 55 = .ok (.istore_n 2, 1) := by decide +kernel
theorem dX4_quiet_56 : decode cX4_quiet 56 = .ok (.aload_n 0, 1) := by decide +kernel
theorem dX4_quiet_57 : decode cX4_quiet 57 = .ok (.invokevirtual 144, 3) := by decide +kernel
theorem dX4_quiet_60 : decode cX4_quiet 60 = .ok (.iinc 3 1, 3) := by decide +kernel
theorem dX4_quiet_63 : decode cX4_quiet 63 = .ok (.goto (-43), 3) := by decide +kernel
theorem dX4_quiet_66 : decode cX4_quiet 66 = .ok (.iload_n 2, 1) := by decide +kernel
theorem dX4_quiet_67 : decode cX4_quiet 67 = .ok (.ireturn, 1) := by decide +kernel
set_option maxRecDepth 20000 in
theorem ggX4_advise_X4_isSailor : GoodIn wsX4_advise wsX4_isSailor := goodIn_r _ [6, 7, 8, 9, 5, 10, 112, 113, 114, 115, 116, 117, 118, 119] (by decide +kernel) (by decide +kernel)
set_option maxRecDepth 20000 in
theorem gX4_advise_X4_isSailor : GoodIn wsX4_advise (wsV RX4 56 RX4 yX4_isSailor wsX4_isSailor) := goodIn_app (goodIn_of _ (by decide +kernel)) ggX4_advise_X4_isSailor
set_option maxRecDepth 20000 in
theorem ggX4_advise_X4_fail : GoodIn wsX4_advise wsX4_fail := goodIn_r _ [14, 1, 112, 113, 114, 115, 116, 117, 118, 119] (by decide +kernel) (by decide +kernel)
set_option maxRecDepth 20000 in
theorem gX4_advise_X4_fail : GoodIn wsX4_advise (wsV RX4 45 RX4 yX4_fail wsX4_fail) := goodIn_app (goodIn_of _ (by decide +kernel)) ggX4_advise_X4_fail
set_option maxRecDepth 20000 in
theorem ggX4_advise_X4_sa : GoodIn wsX4_advise wsX4_sa := goodIn_r _ [18, 19, 112, 113, 114, 115, 116, 117, 118, 119] (by decide +kernel) (by decide +kernel)
set_option maxRecDepth 20000 in
theorem gX4_advise_X4_sa : GoodIn wsX4_advise (wsV RX4 63 RX4 yX4_sa wsX4_sa) := goodIn_app (goodIn_of _ (by decide +kernel)) ggX4_advise_X4_sa
set_option maxRecDepth 20000 in
theorem ggX4_advise_X4_keep : GoodIn wsX4_advise wsX4_keep := goodIn_r _ [23, 19, 24, 25, 26, 27, 28, 112, 113, 114, 115, 116, 117, 118, 119] (by decide +kernel) (by decide +kernel)
set_option maxRecDepth 20000 in
theorem gX4_advise_X4_keep : GoodIn wsX4_advise (wsV RX4 141 RX4 yX4_keep wsX4_keep) := goodIn_app (goodIn_of _ (by decide +kernel)) ggX4_advise_X4_keep
set_option maxRecDepth 20000 in
theorem ggX4_advise_X4_let : GoodIn wsX4_advise wsX4_let := goodIn_r _ [32, 19, 112, 113, 114, 115, 116, 117, 118, 119] (by decide +kernel) (by decide +kernel)
set_option maxRecDepth 20000 in
theorem gX4_advise_X4_let : GoodIn wsX4_advise (wsV RX4 53 RX4 yX4_let wsX4_let) := goodIn_app (goodIn_of _ (by decide +kernel)) ggX4_advise_X4_let
set_option maxRecDepth 20000 in
theorem ggX4_advise_X4_hoursOn : GoodIn wsX4_advise wsX4_hoursOn := goodIn_r _ [36, 37, 38, 39, 5, 40, 7, 19, 41, 42, 43, 44, 45, 46, 47, 48, 15, 16, 17, 18, 49, 50, 51, 52, 53, 54, 55, 56, 57, 58, 59, 60, 61, 62, 63, 64, 65, 29, 30, 31, 32, 66, 67, 68, 69, 70, 71, 72, 73, 74, 75, 76, 77, 78, 79, 80, 81, 82, 83, 84, 85, 86, 87, 88, 89, 90, 91, 92, 93, 94, 95, 96, 97, 98, 99, 100, 101, 102, 103, 104, 105, 106, 107, 112, 113, 114, 115, 116, 117, 118, 119] (by decide +kernel) (by decide +kernel)
set_option maxRecDepth 20000 in
theorem gX4_advise_X4_hoursOn : GoodIn wsX4_advise (wsV RX4 126 RX4 yX4_hoursOn wsX4_hoursOn) := goodIn_app (goodIn_of _ (by decide +kernel)) ggX4_advise_X4_hoursOn
set_option maxRecDepth 20000 in
theorem ggX4_advise_X4_bringBack : GoodIn wsX4_advise wsX4_bringBack := goodIn_r _ [111, 24, 19, 25, 26, 27, 28, 112, 113, 114, 115, 116, 117, 118, 119] (by decide +kernel) (by decide +kernel)
set_option maxRecDepth 20000 in
theorem gX4_advise_X4_bringBack : GoodIn wsX4_advise (wsV RX4 144 RX4 yX4_bringBack wsX4_bringBack) := goodIn_app (goodIn_of _ (by decide +kernel)) ggX4_advise_X4_bringBack
theorem dX4_advise_0 : decode cX4_advise 0 = .ok (.aload_n 0, 1) := by decide +kernel
theorem dX4_advise_1 : decode cX4_advise 1 = .ok (.iconst 0, 1) := by decide +kernel
theorem dX4_advise_2 : decode cX4_advise 2 = .ok (.putfield 25, 3) := by decide +kernel
theorem dX4_advise_5 : decode cX4_advise 5 = .ok (.aload_n 0, 1) := by decide +kernel
theorem dX4_advise_6 : decode cX4_advise 6 = .ok (.iload_n 1, 1) := by decide +kernel
theorem dX4_advise_7 : decode cX4_advise 7 = .ok (.invokevirtual 56, 3) := by decide +kernel
theorem dX4_advise_10 : decode cX4_advise 10 = .ok (.ifCond .ne 9, 3) := by decide +kernel
theorem dX4_advise_13 : decode cX4_advise 13 = .ok (.aload_n 0, 1) := by decide +kernel
theorem dX4_advise_14 : decode cX4_advise 14 = .ok (.iconst 1, 1) := by decide +kernel
theorem dX4_advise_15 : decode cX4_advise 15 = .ok (.invokevirtual 45, 3) := by decide +kernel
theorem dX4_advise_18 : decode cX4_advise 18 = .ok (.ireturn, 1) := by decide +kernel
theorem dX4_advise_19 : decode cX4_advise 19 = .ok (.aload_n 0, 1) := by decide +kernel
theorem dX4_advise_20 : decode cX4_advise 20 = .ok (.iload_n 1, 1) := by decide +kernel
theorem dX4_advise_21 : decode cX4_advise 21 = .ok (.iconst 4, 1) := by decide +kernel
theorem dX4_advise_22 : decode cX4_advise 22 = .ok (.invokevirtual 63, 3) := by decide +kernel
theorem dX4_advise_25 : decode cX4_advise 25 = .ok (.ifCond .eq 9, 3) := by decide +kernel
theorem dX4_advise_28 : decode cX4_advise 28 = .ok (.aload_n 0, 1) := by decide +kernel
theorem dX4_advise_29 : decode cX4_advise 29 = .ok (.iconst 2, 1) := by decide +kernel
theorem dX4_advise_30 : decode cX4_advise 30 = .ok (.invokevirtual 45, 3) := by decide +kernel
theorem dX4_advise_33 : decode cX4_advise 33 = .ok (.ireturn, 1) := by decide +kernel
theorem dX4_advise_34 : decode cX4_advise 34 = .ok (.aload_n 0, 1) := by decide +kernel
theorem dX4_advise_35 : decode cX4_advise 35 = .ok (.invokevirtual 141, 3) := by decide +kernel
theorem dX4_advise_38 : decode cX4_advise 38 = .ok (.iconst (-1), 1) := by decide +kernel
theorem dX4_advise_39 : decode cX4_advise 39 = .ok (.istore_n 2, 1) := by decide +kernel
theorem dX4_advise_40 : decode cX4_advise 40 = .ok (.iconst (-1), 1) := by decide +kernel
theorem dX4_advise_41 : decode cX4_advise 41 = .ok (.istore_n 3, 1) := by decide +kernel
theorem dX4_advise_42 : decode cX4_advise 42 = .ok (.iconst 0, 1) := by decide +kernel
theorem dX4_advise_43 : decode cX4_advise 43 = .ok (.istore 4, 2) := by decide +kernel
theorem dX4_advise_45 : decode cX4_advise 45 = .ok (.iload 4, 2) := by decide +kernel
theorem dX4_advise_47 : decode cX4_advise 47 = .ok (.iconst 3, 1) := by decide +kernel
theorem dX4_advise_48 : decode cX4_advise 48 = .ok (.if_icmp .ge 51, 3) := by decide +kernel
theorem dX4_advise_51 : decode cX4_advise 51 = .ok (.aload_n 0, 1) := by decide +kernel
theorem dX4_advise_52 : decode cX4_advise 52 = .ok (.iload_n 1, 1) := by decide +kernel
theorem dX4_advise_53 : decode cX4_advise 53 = .ok (.iconst 0, 1) := by decide +kernel
theorem dX4_advise_54 : decode cX4_advise 54 = .ok (.iload 4, 2) := by decide +kernel
theorem dX4_advise_56 : decode cX4_advise 56 = .ok (.invokevirtual 53, 3) := by decide +kernel
theorem dX4_advise_59 : decode cX4_advise 59 = .ok (.aload_n 0, 1) := by decide +kernel
theorem dX4_advise_60 : decode cX4_advise 60 = .ok (.bipush 48, 2) := by decide +kernel
theorem dX4_advise_62 : decode cX4_advise 62 = .ok (.invokevirtual 126, 3) := by decide +kernel
theorem dX4_advise_65 : decode cX4_advise 65 = .ok (.aload_n 0, 1) := by decide +kernel
theorem dX4_advise_66 : decode cX4_advise 66 = .ok (.iload_n 1, 1) := by decide +kernel
theorem dX4_advise_67 : decode cX4_advise 67 = .ok (.bipush 6, 2) := by decide +kernel
theorem dX4_advise_69 : decode cX4_advise 69 = .ok (.invokevirtual 63, 3) := by decide +kernel
theorem dX4_advise_72 : decode cX4_advise 72 = .ok (.istore 5, 2) := by decide +kernel
theorem dX4_advise_74 : decode cX4_advise 74 = .ok (.aload_n 0, 1) := by decide +kernel
theorem dX4_advise_75 : decode cX4_advise 75 = .ok (.invokevirtual 144, 3) := by decide +kernel
theorem dX4_advise_78 : decode cX4_advise 78 = .ok (.iload 5, 2) := by decide +kernel
theorem dX4_advise_80 : decode cX4_advise 80 = .ok (.iload_n 3, 1) := by decide +kernel
theorem dX4_advise_81 : decode cX4_advise 81 = .ok (.if_icmp .gt 6, 3) := by decide +kernel
theorem dX4_advise_84 : decode cX4_advise 84 = .ok (.goto 9, 3) := by decide +kernel
theorem dX4_advise_87 : decode cX4_advise 87 = .ok (.iload 4, 2) := by decide +kernel
theorem dX4_advise_89 : decode cX4_advise 89 = .ok (.istore_n 2, 1) := by decide +kernel
theorem dX4_advise_90 : decode cX4_advise 90 = .ok (.iload 5, 2) := by decide +kernel
theorem dX4_advise_92 : decode cX4_advise 92 = .ok (.istore_n 3, 1) := by decide +kernel
theorem dX4_advise_93 : decode cX4_advise 93 = .ok (.iinc 4 1, 3) := by decide +kernel
theorem dX4_advise_96 : decode cX4_advise 96 = .ok (.goto (-51), 3) := by decide +kernel
theorem dX4_advise_99 : decode cX4_advise 99 = .ok (.iload_n 2, 1) := by decide +kernel
theorem dX4_advise_100 : decode cX4_advise 100 = .ok (.ireturn, 1) := by decide +kernel
set_option maxRecDepth 20000 in
theorem ggX4_mean_X4_sum : GoodIn wsX4_mean wsX4_sum := goodIn_r _ [7, 2, 8, 9, 10, 6, 11, 12, 13, 14, 15, 16, 17, 18, 19, 20] (by decide +kernel) (by decide +kernel)
set_option maxRecDepth 20000 in
theorem gX4_mean_X4_sum : GoodIn wsX4_mean (wsV RX4 123 RX4 yX4_sum wsX4_sum) := goodIn_app (goodIn_of _ (by decide +kernel)) ggX4_mean_X4_sum
theorem dX4_mean_0 : decode cX4_mean 0 = .ok (.aload_n 0, 1) := by decide +kernel
theorem dX4_mean_1 : decode cX4_mean 1 = .ok (.iconst 0, 1) := by decide +kernel
theorem dX4_mean_2 : decode cX4_mean 2 = .ok (.putfield 25, 3) := by decide +kernel
theorem dX4_mean_5 : decode cX4_mean 5 = .ok (.aload_n 0, 1) := by decide +kernel
theorem dX4_mean_6 : decode cX4_mean 6 = .ok (.getfield 36, 3) := by decide +kernel
theorem dX4_mean_9 : decode cX4_mean 9 = .ok (.ifCond .ne 7, 3) := by decide +kernel
theorem dX4_mean_12 : decode cX4_mean 12 = .ok (.dconst 0, 1) := by decide +kernel
theorem dX4_mean_13 : decode cX4_mean 13 = .ok (.goto 16, 3) := by decide +kernel
theorem dX4_mean_16 : decode cX4_mean 16 = .ok (.aload_n 0, 1) := by decide +kernel
theorem dX4_mean_17 : decode cX4_mean 17 = .ok (.bipush 6, 2) := by decide +kernel
theorem dX4_mean_19 : decode cX4_mean 19 = .ok (.invokevirtual 123, 3) := by decide +kernel
theorem dX4_mean_22 : decode cX4_mean 22 = .ok (.i2d, 1) := by decide +kernel
theorem dX4_mean_23 : decode cX4_mean 23 = .ok (.aload_n 0, 1) := by decide +kernel
theorem dX4_mean_24 : decode cX4_mean 24 = .ok (.getfield 36, 3) := by decide +kernel
theorem dX4_mean_27 : decode cX4_mean 27 = .ok (.i2d, 1) := by decide +kernel
theorem dX4_mean_28 : decode cX4_mean 28 = .ok (.ddiv, 1) := by decide +kernel
theorem dX4_mean_29 : decode cX4_mean 29 = .ok (.dreturn, 1) := by decide +kernel
set_option maxRecDepth 20000 in
theorem ggX4_digest_X4_counted : GoodIn wsX4_digest wsX4_counted := goodIn_r _ [10, 11, 4, 5, 12, 13, 14, 9, 15, 16, 17, 18, 19, 20, 21, 22, 23, 24, 25, 26, 27, 43, 44, 45, 46, 47, 48, 49, 50] (by decide +kernel) (by decide +kernel)
set_option maxRecDepth 20000 in
theorem gX4_digest_X4_counted : GoodIn wsX4_digest (wsV RX4 138 RX4 yX4_counted wsX4_counted) := goodIn_app (goodIn_of _ (by decide +kernel)) ggX4_digest_X4_counted
set_option maxRecDepth 20000 in
theorem ggX4_digest_X4_bedTold : GoodIn wsX4_digest wsX4_bedTold := goodIn_r _ [31, 32, 33, 34, 35, 9, 36, 11, 43, 44, 45, 46, 47, 48, 49, 50] (by decide +kernel) (by decide +kernel)
set_option maxRecDepth 20000 in
theorem gX4_digest_X4_bedTold : GoodIn wsX4_digest (wsV RX4 132 RX4 yX4_bedTold wsX4_bedTold) := goodIn_app (goodIn_of _ (by decide +kernel)) ggX4_digest_X4_bedTold
set_option maxRecDepth 20000 in
theorem ggX4_digest_X4_sailorTold : GoodIn wsX4_digest wsX4_sailorTold := goodIn_r _ [40, 41, 42, 20, 21, 22, 9, 23, 11, 43, 44, 45, 46, 47, 48, 49, 50] (by decide +kernel) (by decide +kernel)
set_option maxRecDepth 20000 in
theorem gX4_digest_X4_sailorTold : GoodIn wsX4_digest (wsV RX4 129 RX4 yX4_sailorTold wsX4_sailorTold) := goodIn_app (goodIn_of _ (by decide +kernel)) ggX4_digest_X4_sailorTold
theorem dX4_digest_0 : decode cX4_digest 0 = .ok (.aload_n 0, 1) := by decide +kernel
theorem dX4_digest_1 : decode cX4_digest 1 = .ok (.iconst 0, 1) := by decide +kernel
theorem dX4_digest_2 : decode cX4_digest 2 = .ok (.putfield 25, 3) := by decide +kernel
theorem dX4_digest_5 : decode cX4_digest 5 = .ok (.ldc2_w 147, 3) := by decide +kernel
theorem dX4_digest_8 : decode cX4_digest 8 = .ok (.lstore_n 1, 1) := by decide +kernel
theorem dX4_digest_9 : decode cX4_digest 9 = .ok (.iconst 0, 1) := by decide +kernel
theorem dX4_digest_10 : decode cX4_digest 10 = .ok (.istore_n 3, 1) := by decide +kernel
theorem dX4_digest_11 : decode cX4_digest 11 = .ok (.iload_n 3, 1) := by decide +kernel
theorem dX4_digest_12 : decode cX4_digest 12 = .ok (.bipush 10, 2) := by decide +kernel
theorem dX4_digest_14 : decode cX4_digest 14 = .ok (.if_icmp .ge 22, 3) := by decide +kernel
theorem dX4_digest_17 : decode cX4_digest 17 = .ok (.lload_n 1, 1) := by decide +kernel
theorem dX4_digest_18 : decode cX4_digest 18 = .ok (.ldc2_w 149, 3) := by decide +kernel
theorem dX4_digest_21 : decode cX4_digest 21 = .ok (.lmul, 1) := by decide +kernel
theorem dX4_digest_22 : decode cX4_digest 22 = .ok (.aload_n 0, 1) := by decide +kernel
theorem dX4_digest_23 : decode cX4_digest 23 = .ok (.iload_n 3, 1) := by decide +kernel
theorem dX4_digest_24 : decode cX4_digest 24 = .ok (.invokevirtual 138, 3) := by decide +kernel
theorem dX4_digest_27 : decode cX4_digest 27 = .ok (.i2l, 1) := by decide +kernel
theorem dX4_digest_28 : decode cX4_digest 28 = .ok (.ladd, 1) := by decide +kernel
theorem dX4_digest_29 : decode cX4_digest 29 = .ok (.lstore_n 1, 1) := by decide +kernel
theorem dX4_digest_30 : decode cX4_digest 30 = .ok (.iinc 3 1, 3) := by decide +kernel
theorem dX4_digest_33 : decode cX4_digest 33 = .ok (.goto (-22), 3) := by decide +kernel
theorem dX4_digest_36 : decode cX4_digest 36 = .ok (.iconst 0, 1) := by decide +kernel
theorem dX4_digest_37 : decode cX4_digest 37 = .ok (.istore_n 3, 1) := by decide +kernel
theorem dX4_digest_38 : decode cX4_digest 38 = .ok (.iload_n 3, 1) := by decide +kernel
theorem dX4_digest_39 : decode cX4_digest 39 = .ok (.aload_n 0, 1) := by decide +kernel
theorem dX4_digest_40 : decode cX4_digest 40 = .ok (.getfield 29, 3) := by decide +kernel
theorem dX4_digest_43 : decode cX4_digest 43 = .ok (.if_icmp .ge 39, 3) := by decide +kernel
theorem dX4_digest_46 : decode cX4_digest 46 = .ok (.iconst 0, 1) := by decide +kernel
theorem dX4_digest_47 : decode cX4_digest 47 = .ok (.istore 4, 2) := by decide +kernel
theorem dX4_digest_49 : decode cX4_digest 49 = .ok (.iload 4, 2) := by decide +kernel
theorem dX4_digest_51 : decode cX4_digest 51 = .ok (.iconst 5, 1) := by decide +kernel
theorem dX4_digest_52 : decode cX4_digest 52 = .ok (.if_icmp .ge 24, 3) := by decide +kernel
theorem dX4_digest_55 : decode cX4_digest 55 = .ok (.lload_n 1, 1) := by decide +kernel
theorem dX4_digest_56 : decode cX4_digest 56 = .ok (.ldc2_w 149, 3) := by decide +kernel
theorem dX4_digest_59 : decode cX4_digest 59 = .ok (.lmul, 1) := by decide +kernel
theorem dX4_digest_60 : decode cX4_digest 60 = .ok (.aload_n 0, 1) := by decide +kernel
theorem dX4_digest_61 : decode cX4_digest 61 = .ok (.iload_n 3, 1) := by decide +kernel
theorem dX4_digest_62 : decode cX4_digest 62 = .ok (.iload 4, 2) := by decide +kernel
theorem dX4_digest_64 : decode cX4_digest 64 = .ok (.invokevirtual 132, 3) := by decide +kernel
theorem dX4_digest_67 : decode cX4_digest 67 = .ok (.i2l, 1) := by decide +kernel
theorem dX4_digest_68 : decode cX4_digest 68 = .ok (.ladd, 1) := by decide +kernel
theorem dX4_digest_69 : decode cX4_digest 69 = .ok (.lstore_n 1, 1) := by decide +kernel
theorem dX4_digest_70 : decode cX4_digest 70 = .ok (.iinc 4 1, 3) := by decide +kernel
theorem dX4_digest_73 : decode cX4_digest 73 = .ok (.goto (-24), 3) := by decide +kernel
theorem dX4_digest_76 : decode cX4_digest 76 = .ok (.iinc 3 1, 3) := by decide +kernel
theorem dX4_digest_79 : decode cX4_digest 79 = .ok (.goto (-41), 3) := by decide +kernel
theorem dX4_digest_82 : decode cX4_digest 82 = .ok (.iconst 0, 1) := by decide +kernel
theorem dX4_digest_83 : decode cX4_digest 83 = .ok (.istore_n 3, 1) := by decide +kernel
theorem dX4_digest_84 : decode cX4_digest 84 = .ok (.iload_n 3, 1) := by decide +kernel
theorem dX4_digest_85 : decode cX4_digest 85 = .ok (.aload_n 0, 1) := by decide +kernel
theorem dX4_digest_86 : decode cX4_digest 86 = .ok (.getfield 36, 3) := by decide +kernel
theorem dX4_digest_89 : decode cX4_digest 89 = .ok (.if_icmp .ge 40, 3) := by decide +kernel
theorem dX4_digest_92 : decode cX4_digest 92 = .ok (.iconst 0, 1) := by decide +kernel
theorem dX4_digest_93 : decode cX4_digest 93 = .ok (.istore 4, 2) := by decide +kernel
theorem dX4_digest_95 : decode cX4_digest 95 = .ok (.iload 4, 2) := by decide +kernel
theorem dX4_digest_97 : decode cX4_digest 97 = .ok (.bipush 11, 2) := by decide +kernel
theorem dX4_digest_99 : decode cX4_digest 99 = .ok (.if_icmp .ge 24, 3) := by decide +kernel
theorem dX4_digest_102 : decode cX4_digest 102 = .ok (.lload_n 1, 1) := by decide +kernel
theorem dX4_digest_103 : decode cX4_digest 103 = .ok (.ldc2_w 149, 3) := by decide +kernel
theorem dX4_digest_106 : decode cX4_digest 106 = .ok (.lmul, 1) := by decide +kernel
theorem dX4_digest_107 : decode cX4_digest 107 = .ok (.aload_n 0, 1) := by decide +kernel
theorem dX4_digest_108 : decode cX4_digest 108 = .ok (.iload_n 3, 1) := by decide +kernel
theorem dX4_digest_109 : decode cX4_digest 109 = .ok (.iload 4, 2) := by decide +kernel
theorem dX4_digest_111 : decode cX4_digest 111 = .ok (.invokevirtual 129, 3) := by decide +kernel
theorem dX4_digest_114 : decode cX4_digest 114 = .ok (.i2l, 1) := by decide +kernel
theorem dX4_digest_115 : decode cX4_digest 115 = .ok (.ladd, 1) := by decide +kernel
theorem dX4_digest_116 : decode cX4_digest 116 = .ok (.lstore_n 1, 1) := by decide +kernel
theorem dX4_digest_117 : decode cX4_digest 117 = .ok (.iinc 4 1, 3) := by decide +kernel
theorem dX4_digest_120 : decode cX4_digest 120 = .ok (.goto (-25), 3) := by decide +kernel
theorem dX4_digest_123 : decode cX4_digest 123 = .ok (.iinc 3 1, 3) := by decide +kernel
theorem dX4_digest_126 : decode cX4_digest 126 = .ok (.goto (-42), 3) := by decide +kernel
theorem dX4_digest_129 : decode cX4_digest 129 = .ok (.lload_n 1, 1) := by decide +kernel
theorem dX4_digest_130 : decode cX4_digest 130 = .ok (.lreturn, 1) := by decide +kernel
