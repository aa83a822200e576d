theorem dX0_init_0 : decode cX0_init 0 = .ok (.aload_n 0, 1) := by decide +kernel
theorem dX0_init_1 : decode cX0_init 1 = .ok (.invokespecial 1, 3) := by decide +kernel
theorem dX0_init_4 : decode cX0_init 4 = .ok (.aload_n 0, 1) := by decide +kernel
theorem dX0_init_5 : decode cX0_init 5 = .ok (.iconst 0, 1) := by decide +kernel
theorem dX0_init_6 : decode cX0_init 6 = .ok (.putfield 7, 3) := by decide +kernel
theorem dX0_init_9 : decode cX0_init 9 = .ok (.aload_n 0, 1) := by decide +kernel
theorem dX0_init_10 : decode cX0_init 10 = .ok (.bipush 6, 2) := by decide +kernel
theorem dX0_init_12 : decode cX0_init 12 = .ok (.newarray .int, 2) := by decide +kernel
theorem dX0_init_14 : decode cX0_init 14 = .ok (.putfield 13, 3) := by decide +kernel
theorem dX0_init_17 : decode cX0_init 17 = .ok (.aload_n 0, 1) := by decide +kernel
theorem dX0_init_18 : decode cX0_init 18 = .ok (.bipush 6, 2) := by decide +kernel
theorem dX0_init_20 : decode cX0_init 20 = .ok (.newarray .int, 2) := by decide +kernel
theorem dX0_init_22 : decode cX0_init 22 = .ok (.putfield 17, 3) := by decide +kernel
theorem dX0_init_25 : decode cX0_init 25 = .ok (.aload_n 0, 1) := by decide +kernel
theorem dX0_init_26 : decode cX0_init 26 = .ok (.bipush 6, 2) := by decide +kernel
theorem dX0_init_28 : decode cX0_init 28 = .ok (.newarray .int, 2) := by decide +kernel
theorem dX0_init_30 : decode cX0_init 30 = .ok (.putfield 20, 3) := by decide +kernel
theorem dX0_init_33 : decode cX0_init 33 = .ok (.aload_n 0, 1) := by decide +kernel
theorem dX0_init_34 : decode cX0_init 34 = .ok (.bipush 6, 2) := by decide +kernel
theorem dX0_init_36 : decode cX0_init 36 = .ok (.newarray .int, 2) := by decide +kernel
theorem dX0_init_38 : decode cX0_init 38 = .ok (.putfield 23, 3) := by decide +kernel
theorem dX0_init_41 : decode cX0_init 41 = .ok (.aload_n 0, 1) := by decide +kernel
theorem dX0_init_42 : decode cX0_init 42 = .ok (.bipush 6, 2) := by decide +kernel
theorem dX0_init_44 : decode cX0_init 44 = .ok (.newarray .int, 2) := by decide +kernel
theorem dX0_init_46 : decode cX0_init 46 = .ok (.putfield 26, 3) := by decide +kernel
theorem dX0_init_49 : decode cX0_init 49 = .ok (.return_, 1) := by decide +kernel
theorem dX0_add_0 : decode cX0_add 0 = .ok (.aload_n 0, 1) := by decide +kernel
theorem dX0_add_1 : decode cX0_add 1 = .ok (.getfield 7, 3) := by decide +kernel
theorem dX0_add_4 : decode cX0_add 4 = .ok (.bipush 6, 2) := by decide +kernel
theorem dX0_add_6 : decode cX0_add 6 = .ok (.if_icmp .lt 13, 3) := by decide +kernel
theorem dX0_add_9 : decode cX0_add 9 = .ok (.new 29, 3) := by decide +kernel
theorem dX0_add_12 : decode cX0_add 12 = .ok (.dup, 1) := by decide +kernel
theorem dX0_add_13 : decode cX0_add 13 = .ok (.ldc 31, 2) := by decide +kernel
theorem dX0_add_15 : decode cX0_add 15 = .ok (.invokespecial 33, 3) := by decide +kernel
theorem dX0_add_18 : decode cX0_add 18 = .ok (.athrow, 1) := by decide +kernel
theorem dX0_add_19 : decode cX0_add 19 = .ok (.aload_n 0, 1) := by decide +kernel
theorem dX0_add_20 : decode cX0_add 20 = .ok (.getfield 7, 3) := by decide +kernel
theorem dX0_add_23 : decode cX0_add 23 = .ok (.istore_n 2, 1) := by decide +kernel
theorem dX0_add_24 : decode cX0_add 24 = .ok (.aload_n 0, 1) := by decide +kernel
theorem dX0_add_25 : decode cX0_add 25 = .ok (.getfield 13, 3) := by decide +kernel
theorem dX0_add_28 : decode cX0_add 28 = .ok (.iload_n 2, 1) := by decide +kernel
theorem dX0_add_29 : decode cX0_add 29 = .ok (.iload_n 1, 1) := by decide +kernel
theorem dX0_add_30 : decode cX0_add 30 = .ok (.iastore, 1) := by decide +kernel
theorem dX0_add_31 : decode cX0_add 31 = .ok (.aload_n 0, 1) := by decide +kernel
theorem dX0_add_32 : decode cX0_add 32 = .ok (.getfield 26, 3) := by decide +kernel
theorem dX0_add_35 : decode cX0_add 35 = .ok (.iload_n 2, 1) := by decide +kernel
theorem dX0_add_36 : decode cX0_add 36 = .ok (.iconst (-1), 1) := by decide +kernel
theorem dX0_add_37 : decode cX0_add 37 = .ok (.iastore, 1) := by decide +kernel
theorem dX0_add_38 : decode cX0_add 38 = .ok (.aload_n 0, 1) := by decide +kernel
theorem dX0_add_39 : decode cX0_add 39 = .ok (.iload_n 2, 1) := by decide +kernel
theorem dX0_add_40 : decode cX0_add 40 = .ok (.iconst 1, 1) := by decide +kernel
theorem dX0_add_41 : decode cX0_add 41 = .ok (.iadd, 1) := by decide +kernel
theorem dX0_add_42 : decode cX0_add 42 = .ok (.putfield 7, 3) := by decide +kernel
theorem dX0_add_45 : decode cX0_add 45 = .ok (.iload_n 2, 1) := by decide +kernel
theorem dX0_add_46 : decode cX0_add 46 = .ok (.ireturn, 1) := by decide +kernel
theorem dX0_has_0 : decode cX0_has 0 = .ok (.iload_n 1, 1) := by decide +kernel
theorem dX0_has_1 : decode cX0_has 1 = .ok (.ifCond .lt 15, 3) := by decide +kernel
theorem dX0_has_4 : decode cX0_has 4 = .ok (.iload_n 1, 1) := by decide +kernel
theorem dX0_has_5 : decode cX0_has 5 = .ok (.aload_n 0, 1) := by decide +kernel
theorem dX0_has_6 : decode cX0_has 6 = .ok (.getfield 7, 3) := by decide +kernel
theorem dX0_has_9 : decode cX0_has 9 = .ok (.if_icmp .ge 7, 3) := by decide +kernel
theorem dX0_has_12 : decode cX0_has 12 = .ok (.iconst 1, 1) := by decide +kernel
theorem dX0_has_13 : decode cX0_has 13 = .ok (.goto 4, 3) := by decide +kernel
theorem dX0_has_16 : decode cX0_has 16 = .ok (.iconst 0, 1) := by decide +kernel
theorem dX0_has_17 : decode cX0_has 17 = .ok (.ireturn, 1) := by decide +kernel
set_option maxRecDepth 20000 in
theorem ggX0_isFree_X0_has : GoodIn wsX0_isFree wsX0_has := goodIn_r _ [6, 7, 8, 9, 10, 11, 12, 13] (by decide +kernel) (by decide +kernel)
set_option maxRecDepth 20000 in
theorem gX0_isFree_X0_has : GoodIn wsX0_isFree (wsV RX0 42 RX0 yX0_has wsX0_has) := goodIn_app (goodIn_of _ (by decide +kernel)) ggX0_isFree_X0_has
theorem dX0_isFree_0 : decode cX0_isFree 0 = .ok (.aload_n 0, 1) := by decide +kernel
theorem dX0_isFree_1 : decode cX0_isFree 1 = .ok (.iload_n 1, 1) := by decide +kernel
theorem dX0_isFree_2 : decode cX0_isFree 2 = .ok (.invokevirtual 42, 3) := by decide +kernel
theorem dX0_isFree_5 : decode cX0_isFree 5 = .ok (.ifCond .eq 17, 3) := by decide +kernel
theorem dX0_isFree_8 : decode cX0_isFree 8 = .ok (.aload_n 0, 1) := by decide +kernel
theorem dX0_isFree_9 : decode cX0_isFree 9 = .ok (.getfield 26, 3) := by decide +kernel
theorem dX0_isFree_12 : decode cX0_isFree 12 = .ok (.iload_n 1, 1) := by decide +kernel
theorem dX0_isFree_13 : decode cX0_isFree 13 = .ok (.iaload, 1) := by decide +kernel
theorem dX0_isFree_14 : decode cX0_isFree 14 = .ok (.iconst (-1), 1) := by decide +kernel
theorem dX0_isFree_15 : decode cX0_isFree 15 = .ok (.if_icmp .ne 7, 3) := by decide +kernel
theorem dX0_isFree_18 : decode cX0_isFree 18 = .ok (.iconst 1, 1) := by decide +kernel
theorem dX0_isFree_19 : decode cX0_isFree 19 = .ok (.goto 4, 3) := by decide +kernel
theorem dX0_isFree_22 : decode cX0_isFree 22 = .ok (.iconst 0, 1) := by decide +kernel
theorem dX0_isFree_23 : decode cX0_isFree 23 = .ok (.ireturn, 1) := by decide +kernel
set_option maxRecDepth 20000 in
theorem ggX0_isWarm_X0_has : GoodIn wsX0_isWarm wsX0_has := goodIn_r _ [6, 7, 8, 9, 10, 11, 12, 13] (by decide +kernel) (by decide +kernel)
set_option maxRecDepth 20000 in
theorem gX0_isWarm_X0_has : GoodIn wsX0_isWarm (wsV RX0 42 RX0 yX0_has wsX0_has) := goodIn_app (goodIn_of _ (by decide +kernel)) ggX0_isWarm_X0_has
theorem dX0_isWarm_0 : decode cX0_isWarm 0 = .ok (.aload_n 0, 1) := by decide +kernel
theorem dX0_isWarm_1 : decode cX0_isWarm 1 = .ok (.iload_n 1, 1) := by decide +kernel
theorem dX0_isWarm_2 : decode cX0_isWarm 2 = .ok (.invokevirtual 42, 3) := by decide +kernel
theorem dX0_isWarm_5 : decode cX0_isWarm 5 = .ok (.ifCond .eq 17, 3) := by decide +kernel
theorem dX0_isWarm_8 : decode cX0_isWarm 8 = .ok (.aload_n 0, 1) := by decide +kernel
theorem dX0_isWarm_9 : decode cX0_isWarm 9 = .ok (.getfield 17, 3) := by decide +kernel
theorem dX0_isWarm_12 : decode cX0_isWarm 12 = .ok (.iload_n 1, 1) := by decide +kernel
theorem dX0_isWarm_13 : decode cX0_isWarm 13 = .ok (.iaload, 1) := by decide +kernel
theorem dX0_isWarm_14 : decode cX0_isWarm 14 = .ok (.iconst 4, 1) := by decide +kernel
theorem dX0_isWarm_15 : decode cX0_isWarm 15 = .ok (.if_icmp .lt 7, 3) := by decide +kernel
theorem dX0_isWarm_18 : decode cX0_isWarm 18 = .ok (.iconst 1, 1) := by decide +kernel
theorem dX0_isWarm_19 : decode cX0_isWarm 19 = .ok (.goto 4, 3) := by decide +kernel
theorem dX0_isWarm_22 : decode cX0_isWarm 22 = .ok (.iconst 0, 1) := by decide +kernel
theorem dX0_isWarm_23 : decode cX0_isWarm 23 = .ok (.ireturn, 1) := by decide +kernel
set_option maxRecDepth 20000 in
theorem ggX0_cheapestFree_X0_isFree : GoodIn wsX0_cheapestFree wsX0_isFree := goodIn_r _ [7, 8, 9, 10, 11, 6, 12, 1, 13, 14, 15, 16, 17, 18] (by decide +kernel) (by decide +kernel)
set_option maxRecDepth 20000 in
theorem gX0_cheapestFree_X0_isFree : GoodIn wsX0_cheapestFree (wsV RX0 46 RX0 yX0_isFree wsX0_isFree) := goodIn_app (goodIn_of _ (by decide +kernel)) ggX0_cheapestFree_X0_isFree
theorem dX0_cheapestFree_0 : decode cX0_cheapestFree 0 = .ok (.iconst (-1), 1) := by decide +kernel
theorem dX0_cheapestFree_1 : decode cX0_cheapestFree 1 = .ok (.istore_n 1, 1) := by decide +kernel
theorem dX0_cheapestFree_2 : decode cX0_cheapestFree 2 = .ok (.iconst 0, 1) := by decide +kernel
theorem dX0_cheapestFree_3 : decode cX0_cheapestFree 3 = .ok (.istore_n 2, 1) := by decide +kernel
theorem dX0_cheapestFree_4 : decode cX0_cheapestFree 4 = .ok (.iload_n 2, 1) := by decide +kernel
theorem dX0_cheapestFree_5 : decode cX0_cheapestFree 5 = .ok (.aload_n 0, 1) := by decide +kernel
theorem dX0_cheapestFree_6 : decode cX0_cheapestFree 6 = .ok (.getfield 7, 3) := by decide +kernel
theorem dX0_cheapestFree_9 : decode cX0_cheapestFree 9 = .ok (.if_icmp .ge 39, 3) := by decide +kernel
theorem dX0_cheapestFree_12 : decode cX0_cheapestFree 12 = .ok (.aload_n 0, 1) := by decide +kernel
theorem dX0_cheapestFree_13 : decode cX0_cheapestFree 13 = .ok (.iload_n 2, 1) := by decide +kernel
theorem dX0_cheapestFree_14 : decode cX0_cheapestFree 14 = .ok (.invokevirtual 46, 3) := by decide +kernel
theorem dX0_cheapestFree_17 : decode cX0_cheapestFree 17 = .ok (.ifCond .eq 25, 3) := by decide +kernel
theorem dX0_cheapestFree_20 : decode cX0_cheapestFree 20 = .ok (.iload_n 1, 1) := by decide +kernel
theorem dX0_cheapestFree_21 : decode cX0_cheapestFree 21 = .ok (.iconst (-1), 1) := by decide +kernel
theorem dX0_cheapestFree_22 : decode cX0_cheapestFree 22 = .ok (.if_icmp .eq 18, 3) := by decide +kernel
theorem dX0_cheapestFree_25 : decode cX0_cheapestFree 25 = .ok (.aload_n 0, 1) := by decide +kernel
theorem dX0_cheapestFree_26 : decode cX0_cheapestFree 26 = .ok (.getfield 13, 3) := by decide +kernel
theorem dX0_cheapestFree_29 : decode cX0_cheapestFree 29 = .ok (.iload_n 2, 1) := by decide +kernel
theorem dX0_cheapestFree_30 : decode cX0_cheapestFree 30 = .ok (.iaload, 1) := by decide +kernel
theorem dX0_cheapestFree_31 : decode cX0_cheapestFree 31 = .ok (.aload_n 0, 1) := by decide +kernel
theorem dX0_cheapestFree_32 : decode cX0_cheapestFree 32 = .ok (.getfield 13, 3) := by decide +kernel
theorem dX0_cheapestFree_35 : decode cX0_cheapestFree 35 = .ok (.iload_n 1, 1) := by decide +kernel
theorem dX0_cheapestFree_36 : decode cX0_cheapestFree 36 = .ok (.iaload, 1) := by decide +kernel
theorem dX0_cheapestFree_37 : decode cX0_cheapestFree 37 = .ok (.if_icmp .ge 5, 3) := by decide +kernel
theorem dX0_cheapestFree_40 : decode cX0_cheapestFree 40 = .ok (.iload_n 2, 1) := by decide +kernel
theorem dX0_cheapestFree_41 : decode cX0_cheapestFree 41 = .ok (.istore_n 1, 1) := by decide +kernel
theorem dX0_cheapestFree_42 : decode cX0_cheapestFree 42 = .ok (.iinc 2 1, 3) := by decide +kernel
theorem dX0_cheapestFree_45 : decode cX0_cheapestFree 45 = .ok (.goto (-41), 3) := by decide +kernel
theorem dX0_cheapestFree_48 : decode cX0_cheapestFree 48 = .ok (.iload_n 1, 1) := by decide +kernel
theorem dX0_cheapestFree_49 : decode cX0_cheapestFree 49 = .ok (.ireturn, 1) := by decide +kernel
theorem dX0_changeWarmth_0 : decode cX0_changeWarmth 0 = .ok (.iconst 0, 1) := by decide +kernel
theorem dX0_changeWarmth_1 : decode cX0_changeWarmth 1 = .ok (.istore_n 1, 1) := by decide +kernel
theorem dX0_changeWarmth_2 : decode cX0_changeWarmth 2 = .ok (.iload_n 1, 1) := by decide +kernel
theorem dX0_changeWarmth_3 : decode cX0_changeWarmth 3 = .ok (.aload_n 0, 1) := by decide +kernel
theorem dX0_changeWarmth_4 : decode cX0_changeWarmth 4 = .ok (.getfield 7, 3) := by decide +kernel
theorem dX0_changeWarmth_7 : decode cX0_changeWarmth 7 = .ok (.if_icmp .ge 59, 3) := by decide +kernel
theorem dX0_changeWarmth_10 : decode cX0_changeWarmth 10 = .ok (.aload_n 0, 1) := by decide +kernel
theorem dX0_changeWarmth_11 : decode cX0_changeWarmth 11 = .ok (.getfield 26, 3) := by decide +kernel
theorem dX0_changeWarmth_14 : decode cX0_changeWarmth 14 = .ok (.iload_n 1, 1) := by decide +kernel
theorem dX0_changeWarmth_15 : decode cX0_changeWarmth 15 = .ok (.iaload, 1) := by decide +kernel
theorem dX0_changeWarmth_16 : decode cX0_changeWarmth 16 = .ok (.iconst (-1), 1) := by decide +kernel
theorem dX0_changeWarmth_17 : decode cX0_changeWarmth 17 = .ok (.if_icmp .ne 24, 3) := by decide +kernel
theorem dX0_changeWarmth_20 : decode cX0_changeWarmth 20 = .ok (.aload_n 0, 1) := by decide +kernel
theorem dX0_changeWarmth_21 : decode cX0_changeWarmth 21 = .ok (.getfield 17, 3) := by decide +kernel
theorem dX0_changeWarmth_24 : decode cX0_changeWarmth 24 = .ok (.iload_n 1, 1) := by decide +kernel
theorem dX0_changeWarmth_25 : decode cX0_changeWarmth 25 = .ok (.iconst 0, 1) := by decide +kernel
theorem dX0_changeWarmth_26 : decode cX0_changeWarmth 26 = .ok (.aload_n 0, 1) := by decide +kernel
theorem dX0_changeWarmth_27 : decode cX0_changeWarmth 27 = .ok (.getfield 17, 3) := by decide +kernel
theorem dX0_changeWarmth_30 : decode cX0_changeWarmth 30 = .ok (.iload_n 1, 1) := by decide +kernel
theorem dX0_changeWarmth_31 : decode cX0_changeWarmth 31 = .ok (.iaload, 1) := by decide +kernel
theorem dX0_changeWarmth_32 : decode cX0_changeWarmth 32 = .ok (.iconst 1, 1) := by decide +kernel
theorem dX0_changeWarmth_33 : decode cX0_changeWarmth 33 = .ok (.isub, 1) := by decide +kernel
theorem dX0_changeWarmth_34 : decode cX0_changeWarmth 34 = .ok (.invokestatic 49, 3) := by decide +kernel
theorem dX0_changeWarmth_37 : decode cX0_changeWarmth 37 = .ok (.iastore, 1) := by decide +kernel
theorem dX0_changeWarmth_38 : decode cX0_changeWarmth 38 = .ok (.goto 22, 3) := by decide +kernel
theorem dX0_changeWarmth_41 : decode cX0_changeWarmth 41 = .ok (.aload_n 0, 1) := by decide +kernel
theorem dX0_changeWarmth_42 : decode cX0_changeWarmth 42 = .ok (.getfield 17, 3) := by decide +kernel
theorem dX0_changeWarmth_45 : decode cX0_changeWarmth 45 = .ok (.iload_n 1, 1) := by decide +kernel
theorem dX0_changeWarmth_46 : decode cX0_changeWarmth 46 = .ok (.bipush 8, 2) := by decide +kernel
theorem dX0_changeWarmth_48 : decode cX0_changeWarmth 48 = .ok (.aload_n 0, 1) := by decide +kernel
theorem dX0_changeWarmth_49 : decode cX0_changeWarmth 49 = .ok (.getfield 17, 3) := by decide +kernel
theorem dX0_changeWarmth_52 : decode cX0_changeWarmth 52 = .ok (.iload_n 1, 1) := by decide +kernel
theorem dX0_changeWarmth_53 : decode cX0_changeWarmth 53 = .ok (.iaload, 1) := by decide +kernel
theorem dX0_changeWarmth_54 : decode cX0_changeWarmth 54 = .ok (.iconst 2, 1) := by decide +kernel
theorem dX0_changeWarmth_55 : decode cX0_changeWarmth 55 = .ok (.iadd, 1) := by decide +kernel
theorem dX0_changeWarmth_56 : decode cX0_changeWarmth 56 = .ok (.invokestatic 55, 3) := by decide +kernel
theorem dX0_changeWarmth_59 : decode cX0_changeWarmth 59 = .ok (.iastore, 1) := by decide +kernel
theorem dX0_changeWarmth_60 : decode cX0_changeWarmth 60 = .ok (.iinc 1 1, 3) := by decide +kernel
theorem dX0_changeWarmth_63 : decode cX0_changeWarmth 63 = .ok (.goto (-61), 3) := by decide +kernel
theorem dX0_changeWarmth_66 : decode cX0_changeWarmth 66 = .ok (.return_, 1) := by decide +kernel
set_option maxRecDepth 20000 in
theorem ggX1_init_X0_init : GoodIn wsX1_init wsX0_init := goodIn_r _ [16, 17, 2, 3, 18, 19, 20, 21, 22, 23, 24, 46, 47, 48, 49, 50, 51] (by decide +kernel) (by decide +kernel)
set_option maxRecDepth 20000 in
theorem gX1_init_X0_init_n21 : GoodIn wsX1_init (wsX0_init) := ggX1_init_X0_init
set_option maxRecDepth 20000 in
theorem ggX1_init_X2_init : GoodIn wsX1_init wsX2_init := goodIn_r _ [26, 27, 2, 3, 28, 19, 29, 30, 31, 32, 33, 34, 35, 36, 37, 38, 39, 40, 52, 53, 54, 55, 56, 57, 58, 59, 60, 61, 62, 63, 64] (by decide +kernel) (by decide +kernel)
set_option maxRecDepth 20000 in
theorem gX1_init_X2_init_n28 : GoodIn wsX1_init (wsX2_init) := ggX1_init_X2_init
theorem dX1_init_0 : decode cX1_init 0 = .ok (.aload_n 0, 1) := by decide +kernel
theorem dX1_init_1 : decode cX1_init 1 = .ok (.invokespecial 1, 3) := by decide +kernel
theorem dX1_init_4 : decode cX1_init 4 = .ok (.aload_n 0, 1) := by decide +kernel
theorem dX1_init_5 : decode cX1_init 5 = .ok (.iconst 0, 1) := by decide +kernel
theorem dX1_init_6 : decode cX1_init 6 = .ok (.putfield 7, 3) := by decide +kernel
theorem dX1_init_9 : decode cX1_init 9 = .ok (.aload_n 0, 1) := by decide +kernel
theorem dX1_init_10 : decode cX1_init 10 = .ok (.iconst 5, 1) := by decide +kernel
theorem dX1_init_11 : decode cX1_init 11 = .ok (.putfield 13, 3) := by decide +kernel
theorem dX1_init_14 : decode cX1_init 14 = .ok (.aload_n 0, 1) := by decide +kernel
theorem dX1_init_15 : decode cX1_init 15 = .ok (.bipush 6, 2) := by decide +kernel
theorem dX1_init_17 : decode cX1_init 17 = .ok (.putfield 16, 3) := by decide +kernel
theorem dX1_init_20 : decode cX1_init 20 = .ok (.aload_n 0, 1) := by decide +kernel
theorem dX1_init_21 : decode cX1_init 21 = .ok (.new 19, 3) := by decide +kernel
theorem dX1_init_24 : decode cX1_init 24 = .ok (.dup, 1) := by decide +kernel
theorem dX1_init_25 : decode cX1_init 25 = .ok (.invokespecial 21, 3) := by decide +kernel
theorem dX1_init_28 : decode cX1_init 28 = .ok (.putfield 22, 3) := by decide +kernel
theorem dX1_init_31 : decode cX1_init 31 = .ok (.aload_n 0, 1) := by decide +kernel
theorem dX1_init_32 : decode cX1_init 32 = .ok (.new 26, 3) := by decide +kernel
theorem dX1_init_35 : decode cX1_init 35 = .ok (.dup, 1) := by decide +kernel
theorem dX1_init_36 : decode cX1_init 36 = .ok (.invokespecial 28, 3) := by decide +kernel
theorem dX1_init_39 : decode cX1_init 39 = .ok (.putfield 29, 3) := by decide +kernel
theorem dX1_init_42 : decode cX1_init 42 = .ok (.return_, 1) := by decide +kernel
theorem dX1_watchNow_0 : decode cX1_watchNow 0 = .ok (.aload_n 0, 1) := by decide +kernel
theorem dX1_watchNow_1 : decode cX1_watchNow 1 = .ok (.getfield 7, 3) := by decide +kernel
theorem dX1_watchNow_4 : decode cX1_watchNow 4 = .ok (.bipush 24, 2) := by decide +kernel
theorem dX1_watchNow_6 : decode cX1_watchNow 6 = .ok (.irem, 1) := by decide +kernel
theorem dX1_watchNow_7 : decode cX1_watchNow 7 = .ok (.bipush 8, 2) := by decide +kernel
theorem dX1_watchNow_9 : decode cX1_watchNow 9 = .ok (.idiv, 1) := by decide +kernel
theorem dX1_watchNow_10 : decode cX1_watchNow 10 = .ok (.ireturn, 1) := by decide +kernel
set_option maxRecDepth 20000 in
theorem ggX1_goOn_X1_ringBell : GoodIn wsX1_goOn wsX1_ringBell := goodIn_r _ [10, 1, 11, 12, 13, 14, 15, 16, 17, 18, 19, 20, 21, 9, 22, 23, 24, 25, 26, 27, 5, 28, 29, 30, 31, 32, 33, 34, 35, 36, 4, 37, 38, 39, 40, 41, 42, 43, 44, 45, 46, 47, 48, 49, 50, 142, 143, 144, 145, 146, 147, 148, 149, 150, 151, 152, 153, 154, 155, 156, 157, 158, 159, 160, 161, 162, 163, 164, 165] (by decide +kernel) (by decide +kernel)
set_option maxRecDepth 20000 in
theorem gX1_goOn_X1_ringBell : GoodIn wsX1_goOn (wsV RX1 43 RX1 yX1_ringBell wsX1_ringBell) := goodIn_app (goodIn_of _ (by decide +kernel)) ggX1_goOn_X1_ringBell
set_option maxRecDepth 20000 in
theorem ggX1_goOn_X1_serve : GoodIn wsX1_goOn wsX1_serve := goodIn_r _ [54, 5, 1, 19, 20, 21, 9, 22, 23, 24, 25, 26, 27, 55, 56, 57, 16, 58, 59, 50, 60, 61, 62, 63, 64, 65, 66, 67, 68, 69, 70, 71, 72, 73, 74, 75, 76, 77, 78, 79, 80, 81, 82, 83, 84, 85, 86, 87, 88, 13, 14, 15, 17, 18, 89, 90, 91, 92, 93, 4, 94, 95, 96, 42, 97, 98, 99, 40, 41, 43, 44, 100, 101, 102, 103, 104, 105, 39, 106, 107, 108, 109, 110, 111, 112, 113, 114, 115, 116, 117, 118, 119, 38, 36, 120, 121, 37, 122, 123, 124, 125, 126, 142, 143, 144, 145, 146, 147, 148, 149, 150, 151, 152, 153, 154, 155, 156, 157, 158, 159, 160, 161, 162, 163, 164, 165] (by decide +kernel) (by decide +kernel)
set_option maxRecDepth 20000 in
theorem gX1_goOn_X1_serve : GoodIn wsX1_goOn (wsV RX1 47 RX1 yX1_serve wsX1_serve) := goodIn_app (goodIn_of _ (by decide +kernel)) ggX1_goOn_X1_serve
set_option maxRecDepth 20000 in
theorem ggX1_goOn_X1_restOfHour : GoodIn wsX1_goOn wsX1_restOfHour := goodIn_r _ [130, 1, 38, 4, 36, 5, 131, 132, 133, 42, 134, 135, 99, 40, 41, 43, 44, 142, 143, 144, 145, 146, 147, 148, 149, 150, 151, 152, 153, 154, 155, 156, 157, 158, 159, 160, 161, 162, 163, 164, 165] (by decide +kernel) (by decide +kernel)
set_option maxRecDepth 20000 in
theorem gX1_goOn_X1_restOfHour : GoodIn wsX1_goOn (wsV RX1 54 RX1 yX1_restOfHour wsX1_restOfHour) := goodIn_app (goodIn_of _ (by decide +kernel)) ggX1_goOn_X1_restOfHour
set_option maxRecDepth 20000 in
theorem ggX1_goOn_X0_changeWarmth : GoodIn wsX1_goOn wsX0_changeWarmth := goodIn_r _ [139, 44, 98, 135, 140, 61, 62, 63, 141, 75, 76, 160, 161, 162, 163, 164, 165] (by decide +kernel) (by decide +kernel)
set_option maxRecDepth 20000 in
theorem gX1_goOn_X0_changeWarmth : GoodIn wsX1_goOn (wsV RX1 58 RX0 yX0_changeWarmth wsX0_changeWarmth) := goodIn_app (goodIn_of _ (by decide +kernel)) ggX1_goOn_X0_changeWarmth
theorem dX1_goOn_0 : decode cX1_goOn 0 = .ok (.iconst 0, 1) := by decide +kernel
theorem dX1_goOn_1 : decode cX1_goOn 1 = .ok (.istore_n 2, 1) := by decide +kernel
theorem dX1_goOn_2 : decode cX1_goOn 2 = .ok (.iload_n 2, 1) := by decide +kernel
theorem dX1_goOn_3 : decode cX1_goOn 3 = .ok (.iload_n 1, 1) := by decide +kernel
theorem dX1_goOn_4 : decode cX1_goOn 4 = .ok (.if_icmp .ge 110, 3) := by decide +kernel
theorem dX1_goOn_7 : decode cX1_goOn 7 = .ok (.iconst 0, 1) := by decide +kernel
theorem dX1_goOn_8 : decode cX1_goOn 8 = .ok (.istore_n 3, 1) := by decide +kernel
theorem dX1_goOn_9 : decode cX1_goOn 9 = .ok (.iload_n 3, 1) := by decide +kernel
theorem dX1_goOn_10 : decode cX1_goOn 10 = .ok (.aload_n 0, 1) := by decide +kernel
theorem dX1_goOn_11 : decode cX1_goOn 11 = .ok (.getfield 29, 3) := by decide +kernel
theorem dX1_goOn_14 : decode cX1_goOn 14 = .ok (.getfield 40, 3) := by decide +kernel
theorem dX1_goOn_17 : decode cX1_goOn 17 = .ok (.if_icmp .ge 14, 3) := by decide +kernel
theorem dX1_goOn_20 : decode cX1_goOn 20 = .ok (.aload_n 0, 1) := by decide +kernel
theorem dX1_goOn_21 : decode cX1_goOn 21 = .ok (.iload_n 3, 1) := by decide +kernel
theorem dX1_goOn_22 : decode cX1_goOn 22 = .ok (.invokevirtual 43, 3) := by decide +kernel
theorem dX1_goOn_25 : decode cX1_goOn 25 = .ok (.iinc 3 1, 3) := by decide +kernel
theorem dX1_goOn_28 : decode cX1_goOn 28 = .ok (.goto (-19), 3) := by decide +kernel
theorem dX1_goOn_31 : decode cX1_goOn 31 = .ok (.iconst 0, 1) := by decide +kernel
theorem dX1_goOn_32 : decode cX1_goOn 32 = .ok (.istore_n 3, 1) := by decide +kernel
theorem dX1_goOn_33 : decode cX1_goOn 33 = .ok (.iload_n 3, 1) := by decide +kernel
theorem dX1_goOn_34 : decode cX1_goOn 34 = .ok (.aload_n 0, 1) := by decide +kernel
theorem dX1_goOn_35 : decode cX1_goOn 35 = .ok (.getfield 29, 3) := by decide +kernel
theorem dX1_goOn_38 : decode cX1_goOn 38 = .ok (.getfield 40, 3) := by decide +kernel
theorem dX1_goOn_41 : decode cX1_goOn 41 = .ok (.if_icmp .ge 14, 3) := by decide +kernel
theorem dX1_goOn_44 : decode cX1_goOn 44 = .ok (.aload_n 0, 1) := by decide +kernel
theorem dX1_goOn_45 : decode cX1_goOn 45 = .ok (.iload_n 3, 1) := by decide +kernel
theorem dX1_goOn_46 : decode cX1_goOn 46 = .ok (.invokevirtual 47, 3) := by decide +kernel
theorem dX1_goOn_49 : decode cX1_goOn 49 = .ok (.iinc 3 1, 3) := by decide +kernel
theorem dX1_goOn_52 : decode cX1_goOn 52 = .ok (.goto (-19), 3) := by decide +kernel
theorem dX1_goOn_55 : decode cX1_goOn 55 = .ok (.iconst 0, 1) := by decide +kernel
theorem dX1_goOn_56 : decode cX1_goOn 56 = .ok (.istore_n 3, 1) := by decide +kernel
theorem dX1_goOn_57 : decode cX1_goOn 57 = .ok (.iload_n 3, 1) := by decide +kernel
theorem dX1_goOn_58 : decode cX1_goOn 58 = .ok (.aload_n 0, 1) := by decide +kernel
theorem dX1_goOn_59 : decode cX1_goOn 59 = .ok (.getfield 29, 3) := by decide +kernel
theorem dX1_goOn_62 : decode cX1_goOn 62 = .ok (.getfield 40, 3) := by decide +kernel
theorem dX1_goOn_65 : decode cX1_goOn 65 = .ok (.if_icmp .ge 26, 3) := by decide +kernel
theorem dX1_goOn_68 : decode cX1_goOn 68 = .ok (.aload_n 0, 1) := by decide +kernel
theorem dX1_goOn_69 : decode cX1_goOn 69 = .ok (.getfield 29, 3) := by decide +kernel
theorem dX1_goOn_72 : decode cX1_goOn 72 = .ok (.getfield 50, 3) := by decide +kernel
theorem dX1_goOn_75 : decode cX1_goOn 75 = .ok (.iload_n 3, 1) := by decide +kernel
theorem dX1_goOn_76 : decode cX1_goOn 76 = .ok (.dup2, 1) := by decide +kernel
theorem dX1_goOn_77 : decode cX1_goOn 77 = .ok (.iaload, 1) := by decide +kernel
theorem dX1_goOn_78 : decode cX1_goOn 78 = .ok (.aload_n 0, 1) := by decide +kernel
theorem dX1_goOn_79 : decode cX1_goOn 79 = .ok (.iload_n 3, 1) := by decide +kernel
theorem dX1_goOn_80 : decode cX1_goOn 80 = .ok (.invokevirtual 54, 3) := by decide +kernel
theorem dX1_goOn_83 : decode cX1_goOn 83 = .ok (.iadd, 1) := by decide +kernel
theorem dX1_goOn_84 : decode cX1_goOn 84 = .ok (.iastore, 1) := by decide +kernel
theorem dX1_goOn_85 : decode cX1_goOn 85 = .ok (.iinc 3 1, 3) := by decide +kernel
theorem dX1_goOn_88 : decode cX1_goOn 88 = .ok (.goto (-31), 3) := by decide +kernel
theorem dX1_goOn_91 : decode cX1_goOn 91 = .ok (.aload_n 0, 1) := by decide +kernel
theorem dX1_goOn_92 : decode cX1_goOn 92 = .ok (.getfield 22, 3) := by decide +kernel
theorem dX1_goOn_95 : decode cX1_goOn 95 = .ok (.invokevirtual 58, 3) := by decide +kernel
theorem dX1_goOn_98 : decode cX1_goOn 98 = .ok (.aload_n 0, 1) := by decide +kernel
theorem dX1_goOn_99 : decode cX1_goOn 99 = .ok (.dup, 1) := by decide +kernel
theorem dX1_goOn_100 : decode cX1_goOn 100 = .ok (.getfield 7, 3) := by decide +kernel
theorem dX1_goOn_103 : decode cX1_goOn 103 = .ok (.iconst 1, 1) := by decide +kernel
theorem dX1_goOn_104 : decode cX1_goOn 104 = .ok (.iadd, 1) := by decide +kernel
theorem dX1_goOn_105 : decode cX1_goOn 105 = .ok (.putfield 7, 3) := by decide +kernel
theorem dX1_goOn_108 : decode cX1_goOn 108 = .ok (.iinc 2 1, 3) := by decide +kernel
theorem dX1_goOn_111 : decode cX1_goOn 111 = .ok (.goto (-109), 3) := by decide +kernel
theorem dX1_goOn_114 : decode cX1_goOn 114 = .ok (.return_, 1) := by decide +kernel
set_option maxRecDepth 20000 in
theorem ggX1_getUp_X0_has : GoodIn wsX1_getUp wsX0_has := goodIn_r _ [10, 11, 30, 31, 32, 33, 34, 35] (by decide +kernel) (by decide +kernel)
set_option maxRecDepth 20000 in
theorem gX1_getUp_X0_has : GoodIn wsX1_getUp (wsV RX1 64 RX0 yX0_has wsX0_has) := goodIn_app (goodIn_of _ (by decide +kernel)) ggX1_getUp_X0_has
theorem dX1_getUp_0 : decode cX1_getUp 0 = .ok (.aload_n 0, 1) := by decide +kernel
theorem dX1_getUp_1 : decode cX1_getUp 1 = .ok (.getfield 29, 3) := by decide +kernel
theorem dX1_getUp_4 : decode cX1_getUp 4 = .ok (.getfield 61, 3) := by decide +kernel
theorem dX1_getUp_7 : decode cX1_getUp 7 = .ok (.iload_n 1, 1) := by decide +kernel
theorem dX1_getUp_8 : decode cX1_getUp 8 = .ok (.iaload, 1) := by decide +kernel
theorem dX1_getUp_9 : decode cX1_getUp 9 = .ok (.istore_n 2, 1) := by decide +kernel
theorem dX1_getUp_10 : decode cX1_getUp 10 = .ok (.aload_n 0, 1) := by decide +kernel
theorem dX1_getUp_11 : decode cX1_getUp 11 = .ok (.getfield 22, 3) := by decide +kernel
theorem dX1_getUp_14 : decode cX1_getUp 14 = .ok (.iload_n 2, 1) := by decide +kernel
theorem dX1_getUp_15 : decode cX1_getUp 15 = .ok (.invokevirtual 64, 3) := by decide +kernel
theorem dX1_getUp_18 : decode cX1_getUp 18 = .ok (.ifCond .eq 13, 3) := by decide +kernel
theorem dX1_getUp_21 : decode cX1_getUp 21 = .ok (.aload_n 0, 1) := by decide +kernel
theorem dX1_getUp_22 : decode cX1_getUp 22 = .ok (.getfield 22, 3) := by decide +kernel
theorem dX1_getUp_25 : decode cX1_getUp 25 = .ok (.getfield 68, 3) := by decide +kernel
theorem dX1_getUp_28 : decode cX1_getUp 28 = .ok (.iload_n 2, 1) := by decide +kernel
theorem dX1_getUp_29 : decode cX1_getUp 29 = .ok (.iconst (-1), 1) := by decide +kernel
theorem dX1_getUp_30 : decode cX1_getUp 30 = .ok (.iastore, 1) := by decide +kernel
theorem dX1_getUp_31 : decode cX1_getUp 31 = .ok (.aload_n 0, 1) := by decide +kernel
theorem dX1_getUp_32 : decode cX1_getUp 32 = .ok (.getfield 29, 3) := by decide +kernel
theorem dX1_getUp_35 : decode cX1_getUp 35 = .ok (.getfield 61, 3) := by decide +kernel
theorem dX1_getUp_38 : decode cX1_getUp 38 = .ok (.iload_n 1, 1) := by decide +kernel
theorem dX1_getUp_39 : decode cX1_getUp 39 = .ok (.iconst (-1), 1) := by decide +kernel
theorem dX1_getUp_40 : decode cX1_getUp 40 = .ok (.iastore, 1) := by decide +kernel
theorem dX1_getUp_41 : decode cX1_getUp 41 = .ok (.aload_n 0, 1) := by decide +kernel
theorem dX1_getUp_42 : decode cX1_getUp 42 = .ok (.getfield 29, 3) := by decide +kernel
theorem dX1_getUp_45 : decode cX1_getUp 45 = .ok (.getfield 71, 3) := by decide +kernel
theorem dX1_getUp_48 : decode cX1_getUp 48 = .ok (.iload_n 1, 1) := by decide +kernel
theorem dX1_getUp_49 : decode cX1_getUp 49 = .ok (.iconst 0, 1) := by decide +kernel
theorem dX1_getUp_50 : decode cX1_getUp 50 = .ok (.iastore, 1) := by decide +kernel
theorem dX1_getUp_51 : decode cX1_getUp 51 = .ok (.return_, 1) := by decide +kernel
set_option maxRecDepth 20000 in
theorem ggX1_pawnBoots_X2_earn : GoodIn wsX1_pawnBoots wsX2_earn := goodIn_r _ [8, 9, 10, 11, 12, 13, 19, 20, 21, 22, 23, 24, 25, 26, 27, 28, 29, 30, 31] (by decide +kernel) (by decide +kernel)
set_option maxRecDepth 20000 in
theorem gX1_pawnBoots_X2_earn : GoodIn wsX1_pawnBoots (wsV RX1 77 RX2 yX2_earn wsX2_earn) := goodIn_app (goodIn_of _ (by decide +kernel)) ggX1_pawnBoots_X2_earn
theorem dX1_pawnBoots_0 : decode cX1_pawnBoots 0 = .ok (.aload_n 0, 1) := by decide +kernel
theorem dX1_pawnBoots_1 : decode cX1_pawnBoots 1 = .ok (.getfield 29, 3) := by decide +kernel
theorem dX1_pawnBoots_4 : decode cX1_pawnBoots 4 = .ok (.getfield 74, 3) := by decide +kernel
theorem dX1_pawnBoots_7 : decode cX1_pawnBoots 7 = .ok (.iload_n 1, 1) := by decide +kernel
theorem dX1_pawnBoots_8 : decode cX1_pawnBoots 8 = .ok (.iconst 0, 1) := by decide +kernel
theorem dX1_pawnBoots_9 : decode cX1_pawnBoots 9 = .ok (.iastore, 1) := by decide +kernel
theorem dX1_pawnBoots_10 : decode cX1_pawnBoots 10 = .ok (.aload_n 0, 1) := by decide +kernel
theorem dX1_pawnBoots_11 : decode cX1_pawnBoots 11 = .ok (.getfield 29, 3) := by decide +kernel
theorem dX1_pawnBoots_14 : decode cX1_pawnBoots 14 = .ok (.iload_n 1, 1) := by decide +kernel
theorem dX1_pawnBoots_15 : decode cX1_pawnBoots 15 = .ok (.aload_n 0, 1) := by decide +kernel
theorem dX1_pawnBoots_16 : decode cX1_pawnBoots 16 = .ok (.getfield 16, 3) := by decide +kernel
theorem dX1_pawnBoots_19 : decode cX1_pawnBoots 19 = .ok (.invokevirtual 77, 3) := by decide +kernel
theorem dX1_pawnBoots_22 : decode cX1_pawnBoots 22 = .ok (.return_, 1) := by decide +kernel
set_option maxRecDepth 20000 in
theorem ggX1_canRedeemBoots_X2_hasBoots : GoodIn wsX1_canRedeemBoots wsX2_hasBoots := goodIn_r _ [8, 9, 15, 16, 17, 18, 19, 20, 21, 22, 23, 24, 25, 26, 27] (by decide +kernel) (by decide +kernel)
set_option maxRecDepth 20000 in
theorem gX1_canRedeemBoots_X2_hasBoots : GoodIn wsX1_canRedeemBoots (wsV RX1 81 RX2 yX2_hasBoots wsX2_hasBoots) := goodIn_app (goodIn_of _ (by decide +kernel)) ggX1_canRedeemBoots_X2_hasBoots
theorem dX1_canRedeemBoots_0 : decode cX1_canRedeemBoots 0 = .ok (.aload_n 0, 1) := by decide +kernel
theorem dX1_canRedeemBoots_1 : decode cX1_canRedeemBoots 1 = .ok (.getfield 29, 3) := by decide +kernel
theorem dX1_canRedeemBoots_4 : decode cX1_canRedeemBoots 4 = .ok (.iload_n 1, 1) := by decide +kernel
theorem dX1_canRedeemBoots_5 : decode cX1_canRedeemBoots 5 = .ok (.invokevirtual 81, 3) := by decide +kernel
theorem dX1_canRedeemBoots_8 : decode cX1_canRedeemBoots 8 = .ok (.ifCond .ne 25, 3) := by decide +kernel
theorem dX1_canRedeemBoots_11 : decode cX1_canRedeemBoots 11 = .ok (.aload_n 0, 1) := by decide +kernel
theorem dX1_canRedeemBoots_12 : decode cX1_canRedeemBoots 12 = .ok (.getfield 29, 3) := by decide +kernel
theorem dX1_canRedeemBoots_15 : decode cX1_canRedeemBoots 15 = .ok (.getfield 84, 3) := by decide +kernel
theorem dX1_canRedeemBoots_18 : decode cX1_canRedeemBoots 18 = .ok (.iload_n 1, 1) := by decide +kernel
theorem dX1_canRedeemBoots_19 : decode cX1_canRedeemBoots 19 = .ok (.iaload, 1) := by decide +kernel
theorem dX1_canRedeemBoots_20 : decode cX1_canRedeemBoots 20 = .ok (.aload_n 0, 1) := by decide +kernel
theorem dX1_canRedeemBoots_21 : decode cX1_canRedeemBoots 21 = .ok (.getfield 16, 3) := by decide +kernel
theorem dX1_canRedeemBoots_24 : decode cX1_canRedeemBoots 24 = .ok (.iconst 2, 1) := by decide +kernel
theorem dX1_canRedeemBoots_25 : decode cX1_canRedeemBoots 25 = .ok (.iadd, 1) := by decide +kernel
theorem dX1_canRedeemBoots_26 : decode cX1_canRedeemBoots 26 = .ok (.if_icmp .lt 7, 3) := by decide +kernel
theorem dX1_canRedeemBoots_29 : decode cX1_canRedeemBoots 29 = .ok (.iconst 1, 1) := by decide +kernel
theorem dX1_canRedeemBoots_30 : decode cX1_canRedeemBoots 30 = .ok (.goto 4, 3) := by decide +kernel
theorem dX1_canRedeemBoots_33 : decode cX1_canRedeemBoots 33 = .ok (.iconst 0, 1) := by decide +kernel
theorem dX1_canRedeemBoots_34 : decode cX1_canRedeemBoots 34 = .ok (.ireturn, 1) := by decide +kernel
theorem dX1_redeemBoots_0 : decode cX1_redeemBoots 0 = .ok (.aload_n 0, 1) := by decide +kernel
theorem dX1_redeemBoots_1 : decode cX1_redeemBoots 1 = .ok (.getfield 29, 3) := by decide +kernel
theorem dX1_redeemBoots_4 : decode cX1_redeemBoots 4 = .ok (.getfield 84, 3) := by decide +kernel
theorem dX1_redeemBoots_7 : decode cX1_redeemBoots 7 = .ok (.iload_n 1, 1) := by decide +kernel
theorem dX1_redeemBoots_8 : decode cX1_redeemBoots 8 = .ok (.dup2, 1) := by decide +kernel
theorem dX1_redeemBoots_9 : decode cX1_redeemBoots 9 = .ok (.iaload, 1) := by decide +kernel
theorem dX1_redeemBoots_10 : decode cX1_redeemBoots 10 = .ok (.aload_n 0, 1) := by decide +kernel
theorem dX1_redeemBoots_11 : decode cX1_redeemBoots 11 = .ok (.getfield 16, 3) := by decide +kernel
theorem dX1_redeemBoots_14 : decode cX1_redeemBoots 14 = .ok (.iconst 2, 1) := by decide +kernel
theorem dX1_redeemBoots_15 : decode cX1_redeemBoots 15 = .ok (.iadd, 1) := by decide +kernel
theorem dX1_redeemBoots_16 : decode cX1_redeemBoots 16 = .ok (.isub, 1) := by decide +kernel
theorem dX1_redeemBoots_17 : decode cX1_redeemBoots 17 = .ok (.iastore, 1) := by decide +kernel
theorem dX1_redeemBoots_18 : decode cX1_redeemBoots 18 = .ok (.aload_n 0, 1) := by decide +kernel
theorem dX1_redeemBoots_19 : decode cX1_redeemBoots 19 = .ok (.getfield 29, 3) := by decide +kernel
theorem dX1_redeemBoots_22 : decode cX1_redeemBoots 22 = .ok (.getfield 74, 3) := by decide +kernel
theorem dX1_redeemBoots_25 : decode cX1_redeemBoots 25 = .ok (.iload_n 1, 1) := by decide +kernel
theorem dX1_redeemBoots_26 : decode cX1_redeemBoots 26 = .ok (.iconst 1, 1) := by decide +kernel
theorem dX1_redeemBoots_27 : decode cX1_redeemBoots 27 = .ok (.iastore, 1) := by decide +kernel
theorem dX1_redeemBoots_28 : decode cX1_redeemBoots 28 = .ok (.return_, 1) := by decide +kernel
set_option maxRecDepth 20000 in
theorem ggX1_ringBell_X2_isUp : GoodIn wsX1_ringBell wsX2_isUp := goodIn_r _ [8, 9, 50, 51, 52, 53, 54, 55, 56, 57, 58, 59, 60, 61, 62] (by decide +kernel) (by decide +kernel)
set_option maxRecDepth 20000 in
theorem gX1_ringBell_X2_isUp : GoodIn wsX1_ringBell (wsV RX1 87 RX2 yX2_isUp wsX2_isUp) := goodIn_app (goodIn_of _ (by decide +kernel)) ggX1_ringBell_X2_isUp
set_option maxRecDepth 20000 in
theorem ggX1_ringBell_X1_isInWatch : GoodIn wsX1_ringBell wsX1_isInWatch := goodIn_r _ [14, 1, 15, 16, 17, 18, 13, 19, 20, 45, 46, 47, 48, 49, 50, 51, 52, 53, 54, 55, 56, 57, 58, 59, 60, 61, 62] (by decide +kernel) (by decide +kernel)
set_option maxRecDepth 20000 in
theorem gX1_ringBell_X1_isInWatch : GoodIn wsX1_ringBell (wsV RX1 90 RX1 yX1_isInWatch wsX1_isInWatch) := goodIn_app (goodIn_of _ (by decide +kernel)) ggX1_ringBell_X1_isInWatch
set_option maxRecDepth 20000 in
theorem ggX1_ringBell_X1_hoursSinceWatch : GoodIn wsX1_ringBell wsX1_hoursSinceWatch := goodIn_r _ [24, 1, 15, 20, 45, 46, 47, 48, 49, 50, 51, 52, 53, 54, 55, 56, 57, 58, 59, 60, 61, 62] (by decide +kernel) (by decide +kernel)
set_option maxRecDepth 20000 in
theorem gX1_ringBell_X1_hoursSinceWatch : GoodIn wsX1_ringBell (wsV RX1 93 RX1 yX1_hoursSinceWatch wsX1_hoursSinceWatch) := goodIn_app (goodIn_of _ (by decide +kernel)) ggX1_ringBell_X1_hoursSinceWatch
set_option maxRecDepth 20000 in
theorem ggX1_ringBell_X1_getUp : GoodIn wsX1_ringBell wsX1_getUp := goodIn_r _ [28, 1, 29, 30, 31, 32, 33, 34, 35, 36, 37, 38, 45, 46, 47, 48, 49, 50, 51, 52, 53, 54, 55, 56, 57, 58, 59, 60, 61, 62, 63, 64, 65, 66, 67, 68] (by decide +kernel) (by decide +kernel)
set_option maxRecDepth 20000 in
theorem gX1_ringBell_X1_getUp : GoodIn wsX1_ringBell (wsV RX1 99 RX1 yX1_getUp wsX1_getUp) := goodIn_app (goodIn_of _ (by decide +kernel)) ggX1_ringBell_X1_getUp
set_option maxRecDepth 20000 in
theorem ggX1_ringBell_X2_beLate : GoodIn wsX1_ringBell wsX2_beLate := goodIn_r _ [42, 43, 44, 50, 51, 52, 53, 54, 55, 56, 57, 58, 59, 60, 61, 62] (by decide +kernel) (by decide +kernel)
set_option maxRecDepth 20000 in
theorem gX1_ringBell_X2_beLate : GoodIn wsX1_ringBell (wsV RX1 102 RX2 yX2_beLate wsX2_beLate) := goodIn_app (goodIn_of _ (by decide +kernel)) ggX1_ringBell_X2_beLate
theorem dX1_ringBell_0 : decode cX1_ringBell 0 = .ok (.aload_n 0, 1) := by decide +kernel
theorem dX1_ringBell_1 : decode cX1_ringBell 1 = .ok (.getfield 29, 3) := by decide +kernel
theorem dX1_ringBell_4 : decode cX1_ringBell 4 = .ok (.iload_n 1, 1) := by decide +kernel
theorem dX1_ringBell_5 : decode cX1_ringBell 5 = .ok (.invokevirtual 87, 3) := by decide +kernel
theorem dX1_ringBell_8 : decode cX1_ringBell 8 = .ok (.ifCond .ne 11, 3) := by decide +kernel
theorem dX1_ringBell_11 : decode cX1_ringBell 11 = .ok (.aload_n 0, 1) := by decide +kernel
theorem dX1_ringBell_12 : decode cX1_ringBell 12 = .ok (.iload_n 1, 1) := by decide +kernel
theorem dX1_ringBell_13 : decode cX1_ringBell 13 = .ok (.invokevirtual 90, 3) := by decide +kernel
theorem dX1_ringBell_16 : decode cX1_ringBell 16 = .ok (.ifCond .eq 4, 3) := by decide +kernel
theorem dX1_ringBell_19 : decode cX1_ringBell 19 = .ok (.return_, 1) := by decide +kernel
theorem dX1_ringBell_20 : decode cX1_ringBell 20 = .ok (.aload_n 0, 1) := by decide +kernel
theorem dX1_ringBell_21 : decode cX1_ringBell 21 = .ok (.getfield 13, 3) := by decide +kernel
theorem dX1_ringBell_24 : decode cX1_ringBell 24 = .ok (.iconst 2, 1) := by decide +kernel
theorem dX1_ringBell_25 : decode cX1_ringBell 25 = .ok (.aload_n 0, 1) := by decide +kernel
theorem dX1_ringBell_26 : decode cX1_ringBell 26 = .ok (.iload_n 1, 1) := by decide +kernel
theorem dX1_ringBell_27 : decode cX1_ringBell 27 = .ok (.invokevirtual 93, 3) := by decide +kernel
theorem dX1_ringBell_30 : decode cX1_ringBell 30 = .ok (.imul, 1) := by decide +kernel
theorem dX1_ringBell_31 : decode cX1_ringBell 31 = .ok (.iadd, 1) := by decide +kernel
theorem dX1_ringBell_32 : decode cX1_ringBell 32 = .ok (.istore_n 2, 1) := by decide +kernel
theorem dX1_ringBell_33 : decode cX1_ringBell 33 = .ok (.iload_n 2, 1) := by decide +kernel
theorem dX1_ringBell_34 : decode cX1_ringBell 34 = .ok (.aload_n 0, 1) := by decide +kernel
theorem dX1_ringBell_35 : decode cX1_ringBell 35 = .ok (.getfield 29, 3) := by decide +kernel
theorem dX1_ringBell_38 : decode cX1_ringBell 38 = .ok (.getfield 96, 3) := by decide +kernel
theorem dX1_ringBell_41 : decode cX1_ringBell 41 = .ok (.iload_n 1, 1) := by decide +kernel
theorem dX1_ringBell_42 : decode cX1_ringBell 42 = .ok (.iaload, 1) := by decide +kernel
theorem dX1_ringBell_43 : decode cX1_ringBell 43 = .ok (.if_icmp .lt 11, 3) := by decide +kernel
theorem dX1_ringBell_46 : decode cX1_ringBell 46 = .ok (.aload_n 0, 1) := by decide +kernel
theorem dX1_ringBell_47 : decode cX1_ringBell 47 = .ok (.iload_n 1, 1) := by decide +kernel
theorem dX1_ringBell_48 : decode cX1_ringBell 48 = .ok (.invokevirtual 99, 3) := by decide +kernel
theorem dX1_ringBell_51 : decode cX1_ringBell 51 = .ok (.goto 11, 3) := by decide +kernel
theorem dX1_ringBell_54 : decode cX1_ringBell 54 = .ok (.aload_n 0, 1) := by decide +kernel
theorem dX1_ringBell_55 : decode cX1_ringBell 55 = .ok (.getfield 29, 3) := by decide +kernel
theorem dX1_ringBell_58 : decode cX1_ringBell 58 = .ok (.iload_n 1, 1) := by decide +kernel
theorem dX1_ringBell_59 : decode cX1_ringBell 59 = .ok (.invokevirtual 102, 3) := by decide +kernel
theorem dX1_ringBell_62 : decode cX1_ringBell 62 = .ok (.return_, 1) := by decide +kernel
set_option maxRecDepth 20000 in
theorem ggX1_isInWatch_X1_watchNow : GoodIn wsX1_isInWatch wsX1_watchNow := goodIn_r _ [7, 8, 9, 10, 11, 12, 13] (by decide +kernel) (by decide +kernel)
set_option maxRecDepth 20000 in
theorem gX1_isInWatch_X1_watchNow : GoodIn wsX1_isInWatch (wsV RX1 108 RX1 yX1_watchNow wsX1_watchNow) := goodIn_app (goodIn_of _ (by decide +kernel)) ggX1_isInWatch_X1_watchNow
theorem dX1_isInWatch_0 : decode cX1_isInWatch 0 = .ok (.aload_n 0, 1) := by decide +kernel
theorem dX1_isInWatch_1 : decode cX1_isInWatch 1 = .ok (.getfield 29, 3) := by decide +kernel
theorem dX1_isInWatch_4 : decode cX1_isInWatch 4 = .ok (.getfield 105, 3) := by decide +kernel
theorem dX1_isInWatch_7 : decode cX1_isInWatch 7 = .ok (.iload_n 1, 1) := by decide +kernel
theorem dX1_isInWatch_8 : decode cX1_isInWatch 8 = .ok (.iaload, 1) := by decide +kernel
theorem dX1_isInWatch_9 : decode cX1_isInWatch 9 = .ok (.aload_n 0, 1) := by decide +kernel
theorem dX1_isInWatch_10 : decode cX1_isInWatch 10 = .ok (.invokevirtual 108, 3) := by decide +kernel
theorem dX1_isInWatch_13 : decode cX1_isInWatch 13 = .ok (.if_icmp .ne 7, 3) := by decide +kernel
theorem dX1_isInWatch_16 : decode cX1_isInWatch 16 = .ok (.iconst 1, 1) := by decide +kernel
theorem dX1_isInWatch_17 : decode cX1_isInWatch 17 = .ok (.goto 4, 3) := by decide +kernel
theorem dX1_isInWatch_20 : decode cX1_isInWatch 20 = .ok (.iconst 0, 1) := by decide +kernel
theorem dX1_isInWatch_21 : decode cX1_isInWatch 21 = .ok (.ireturn, 1) := by decide +kernel
theorem dX1_hoursSinceWatch_0 : decode cX1_hoursSinceWatch 0 = .ok (.aload_n 0, 1) := by decide +kernel
theorem dX1_hoursSinceWatch_1 : decode cX1_hoursSinceWatch 1 = .ok (.getfield 29, 3) := by decide +kernel
theorem dX1_hoursSinceWatch_4 : decode cX1_hoursSinceWatch 4 = .ok (.getfield 105, 3) := by decide +kernel
theorem dX1_hoursSinceWatch_7 : decode cX1_hoursSinceWatch 7 = .ok (.iload_n 1, 1) := by decide +kernel
theorem dX1_hoursSinceWatch_8 : decode cX1_hoursSinceWatch 8 = .ok (.iaload, 1) := by decide +kernel
theorem dX1_hoursSinceWatch_9 : decode cX1_hoursSinceWatch 9 = .ok (.iconst 1, 1) := by decide +kernel
theorem dX1_hoursSinceWatch_10 : decode cX1_hoursSinceWatch 10 = .ok (.iadd, 1) := by decide +kernel
theorem dX1_hoursSinceWatch_11 : decode cX1_hoursSinceWatch 11 = .ok (.bipush 8, 2) := by decide +kernel
theorem dX1_hoursSinceWatch_13 : decode cX1_hoursSinceWatch 13 = .ok (.imul, 1) := by decide +kernel
theorem dX1_hoursSinceWatch_14 : decode cX1_hoursSinceWatch 14 = .ok (.istore_n 2, 1) := by decide +kernel
theorem dX1_hoursSinceWatch_15 : decode cX1_hoursSinceWatch 15 = .ok (.aload_n 0, 1) := by decide +kernel
theorem dX1_hoursSinceWatch_16 : decode cX1_hoursSinceWatch 16 = .ok (.getfield 7, 3) := by decide +kernel
theorem dX1_hoursSinceWatch_19 : decode cX1_hoursSinceWatch 19 = .ok (.bipush 24, 2) := by decide +kernel
theorem dX1_hoursSinceWatch_21 : decode cX1_hoursSinceWatch 21 = .ok (.irem, 1) := by decide +kernel
theorem dX1_hoursSinceWatch_22 : decode cX1_hoursSinceWatch 22 = .ok (.bipush 24, 2) := by decide +kernel
theorem dX1_hoursSinceWatch_24 : decode cX1_hoursSinceWatch 24 = .ok (.iadd, 1) := by decide +kernel
theorem dX1_hoursSinceWatch_25 : decode cX1_hoursSinceWatch 25 = .ok (.iload_n 2, 1) := by decide +kernel
theorem dX1_hoursSinceWatch_26 : decode cX1_hoursSinceWatch 26 = .ok (.isub, 1) := by decide +kernel
theorem dX1_hoursSinceWatch_27 : decode cX1_hoursSinceWatch 27 = .ok (.bipush 24, 2) := by decide +kernel
theorem dX1_hoursSinceWatch_29 : decode cX1_hoursSinceWatch 29 = .ok (.irem, 1) := by decide +kernel
theorem dX1_hoursSinceWatch_30 : decode cX1_hoursSinceWatch 30 = .ok (.ireturn, 1) := by decide +kernel
set_option maxRecDepth 20000 in
theorem ggX1_serve_X1_isInWatch : GoodIn wsX1_serve wsX1_isInWatch := goodIn_r _ [7, 2, 8, 9, 10, 11, 6, 12, 1, 102, 103, 104, 105, 106, 107, 108, 109, 110, 111, 112, 113, 114, 115, 116, 117, 118, 119] (by decide +kernel) (by decide +kernel)
set_option maxRecDepth 20000 in
theorem gX1_serve_X1_isInWatch : GoodIn wsX1_serve (wsV RX1 90 RX1 yX1_isInWatch wsX1_isInWatch) := goodIn_app (goodIn_of _ (by decide +kernel)) ggX1_serve_X1_isInWatch
set_option maxRecDepth 20000 in
theorem ggX1_serve_X2_payWage : GoodIn wsX1_serve wsX2_payWage := goodIn_r _ [17, 18, 19, 20, 21, 22, 23, 24, 25, 26, 16, 27, 28, 29, 30, 31, 32, 33, 34, 35, 36, 107, 108, 109, 110, 111, 112, 113, 114, 115, 116, 117, 118, 119] (by decide +kernel) (by decide +kernel)
set_option maxRecDepth 20000 in
theorem gX1_serve_X2_payWage : GoodIn wsX1_serve (wsV RX1 112 RX2 yX2_payWage wsX2_payWage) := goodIn_app (goodIn_of _ (by decide +kernel)) ggX1_serve_X2_payWage
set_option maxRecDepth 20000 in
theorem ggX1_serve_X1_canRedeemBoots : GoodIn wsX1_serve wsX1_canRedeemBoots := goodIn_r _ [40, 2, 41, 42, 43, 25, 26, 16, 27, 28, 102, 103, 104, 105, 106, 107, 108, 109, 110, 111, 112, 113, 114, 115, 116, 117, 118, 119] (by decide +kernel) (by decide +kernel)
set_option maxRecDepth 20000 in
theorem gX1_serve_X1_canRedeemBoots : GoodIn wsX1_serve (wsV RX1 115 RX1 yX1_canRedeemBoots wsX1_canRedeemBoots) := goodIn_app (goodIn_of _ (by decide +kernel)) ggX1_serve_X1_canRedeemBoots
set_option maxRecDepth 20000 in
theorem ggX1_serve_X1_redeemBoots : GoodIn wsX1_serve wsX1_redeemBoots := goodIn_r _ [47, 2, 41, 42, 48, 102, 103, 104, 105, 106, 107, 108, 109, 110, 111, 112, 113, 114, 115, 116, 117, 118, 119] (by decide +kernel) (by decide +kernel)
set_option maxRecDepth 20000 in
theorem gX1_serve_X1_redeemBoots : GoodIn wsX1_serve (wsV RX1 118 RX1 yX1_redeemBoots wsX1_redeemBoots) := goodIn_app (goodIn_of _ (by decide +kernel)) ggX1_serve_X1_redeemBoots
set_option maxRecDepth 20000 in
theorem ggX1_serve_X2_isUp : GoodIn wsX1_serve wsX2_isUp := goodIn_r _ [52, 53, 107, 108, 109, 110, 111, 112, 113, 114, 115, 116, 117, 118, 119] (by decide +kernel) (by decide +kernel)
set_option maxRecDepth 20000 in
theorem gX1_serve_X2_isUp : GoodIn wsX1_serve (wsV RX1 87 RX2 yX2_isUp wsX2_isUp) := goodIn_app (goodIn_of _ (by decide +kernel)) ggX1_serve_X2_isUp
set_option maxRecDepth 20000 in
theorem ggX1_serve_X1_lookForBed : GoodIn wsX1_serve wsX1_lookForBed := goodIn_r _ [57, 2, 58, 59, 1, 60, 61, 62, 63, 64, 65, 66, 67, 68, 69, 70, 71, 72, 73, 74, 75, 76, 77, 78, 79, 80, 6, 81, 82, 41, 42, 43, 25, 26, 16, 27, 28, 83, 84, 85, 86, 48, 87, 30, 31, 32, 33, 34, 35, 22, 36, 88, 89, 90, 91, 92, 93, 94, 95, 96, 97, 98, 99, 100, 53, 101, 102, 103, 104, 105, 106, 107, 108, 109, 110, 111, 112, 113, 114, 115, 116, 117, 118, 119, 120, 121, 122, 123, 124, 125] (by decide +kernel) (by decide +kernel)
set_option maxRecDepth 20000 in
theorem gX1_serve_X1_lookForBed : GoodIn wsX1_serve (wsV RX1 121 RX1 yX1_lookForBed wsX1_lookForBed) := goodIn_app (goodIn_of _ (by decide +kernel)) ggX1_serve_X1_lookForBed
theorem dX1_serve_0 : decode cX1_serve 0 = .ok (.aload_n 0, 1) := by decide +kernel
theorem dX1_serve_1 : decode cX1_serve 1 = .ok (.iload_n 1, 1) := by decide +kernel
theorem dX1_serve_2 : decode cX1_serve 2 = .ok (.invokevirtual 90, 3) := by decide +kernel
theorem dX1_serve_5 : decode cX1_serve 5 = .ok (.ifCond .ne 4, 3) := by decide +kernel
theorem dX1_serve_8 : decode cX1_serve 8 = .ok (.return_, 1) := by decide +kernel
theorem dX1_serve_9 : decode cX1_serve 9 = .ok (.aload_n 0, 1) := by decide +kernel
theorem dX1_serve_10 : decode cX1_serve 10 = .ok (.getfield 7, 3) := by decide +kernel
theorem dX1_serve_13 : decode cX1_serve 13 = .ok (.bipush 8, 2) := by decide +kernel
theorem dX1_serve_15 : decode cX1_serve 15 = .ok (.irem, 1) := by decide +kernel
theorem dX1_serve_16 : decode cX1_serve 16 = .ok (.ifCond .ne 24, 3) := by decide +kernel
theorem dX1_serve_19 : decode cX1_serve 19 = .ok (.aload_n 0, 1) := by decide +kernel
theorem dX1_serve_20 : decode cX1_serve 20 = .ok (.getfield 29, 3) := by decide +kernel
theorem dX1_serve_23 : decode cX1_serve 23 = .ok (.iload_n 1, 1) := by decide +kernel
theorem dX1_serve_24 : decode cX1_serve 24 = .ok (.invokevirtual 112, 3) := by decide +kernel
theorem dX1_serve_27 : decode cX1_serve 27 = .ok (.aload_n 0, 1) := by decide +kernel
theorem dX1_serve_28 : decode cX1_serve 28 = .ok (.iload_n 1, 1) := by decide +kernel
theorem dX1_serve_29 : decode cX1_serve 29 = .ok (.invokevirtual 115, 3) := by decide +kernel
theorem dX1_serve_32 : decode cX1_serve 32 = .ok (.ifCond .eq 8, 3) := by decide +kernel
theorem dX1_serve_35 : decode cX1_serve 35 = .ok (.aload_n 0, 1) := by decide +kernel
theorem dX1_serve_36 : decode cX1_serve 36 = .ok (.iload_n 1, 1) := by decide +kernel
theorem dX1_serve_37 : decode cX1_serve 37 = .ok (.invokevirtual 118, 3) := by decide +kernel
theorem dX1_serve_40 : decode cX1_serve 40 = .ok (.aload_n 0, 1) := by decide +kernel
theorem dX1_serve_41 : decode cX1_serve 41 = .ok (.getfield 29, 3) := by decide +kernel
theorem dX1_serve_44 : decode cX1_serve 44 = .ok (.iload_n 1, 1) := by decide +kernel
theorem dX1_serve_45 : decode cX1_serve 45 = .ok (.invokevirtual 87, 3) := by decide +kernel
theorem dX1_serve_48 : decode cX1_serve 48 = .ok (.ifCond .eq 8, 3) := by decide +kernel
theorem dX1_serve_51 : decode cX1_serve 51 = .ok (.aload_n 0, 1) := by decide +kernel
theorem dX1_serve_52 : decode cX1_serve 52 = .ok (.iload_n 1, 1) := by decide +kernel
theorem dX1_serve_53 : decode cX1_serve 53 = .ok (.invokevirtual 121, 3) := by decide +kernel
theorem dX1_serve_56 : decode cX1_serve 56 = .ok (.return_, 1) := by decide +kernel
set_option maxRecDepth 20000 in
theorem ggX1_lookForBed_X0_isFree : GoodIn wsX1_lookForBed wsX0_isFree := goodIn_r _ [9, 10, 11, 12, 13, 8, 14, 15, 84, 85, 86, 87, 88, 89] (by decide +kernel) (by decide +kernel)
set_option maxRecDepth 20000 in
theorem gX1_lookForBed_X0_isFree : GoodIn wsX1_lookForBed (wsV RX1 127 RX0 yX0_isFree wsX0_isFree) := goodIn_app (goodIn_of _ (by decide +kernel)) ggX1_lookForBed_X0_isFree
set_option maxRecDepth 20000 in
theorem ggX1_lookForBed_X0_cheapestFree : GoodIn wsX1_lookForBed wsX0_cheapestFree := goodIn_r _ [19, 15, 20, 21, 6, 7, 8, 9, 10, 11, 12, 13, 14, 84, 85, 86, 87, 88, 89] (by decide +kernel) (by decide +kernel)
set_option maxRecDepth 20000 in
theorem gX1_lookForBed_X0_cheapestFree : GoodIn wsX1_lookForBed (wsV RX1 130 RX0 yX0_cheapestFree wsX0_cheapestFree) := goodIn_app (goodIn_of _ (by decide +kernel)) ggX1_lookForBed_X0_cheapestFree
set_option maxRecDepth 20000 in
theorem ggX1_lookForBed_X0_has : GoodIn wsX1_lookForBed wsX0_has := goodIn_r _ [14, 15, 84, 85, 86, 87, 88, 89] (by decide +kernel) (by decide +kernel)
set_option maxRecDepth 20000 in
theorem gX1_lookForBed_X0_has : GoodIn wsX1_lookForBed (wsV RX1 64 RX0 yX0_has wsX0_has) := goodIn_app (goodIn_of _ (by decide +kernel)) ggX1_lookForBed_X0_has
set_option maxRecDepth 20000 in
theorem ggX1_lookForBed_X1_tryBed : GoodIn wsX1_lookForBed wsX1_tryBed := goodIn_r _ [27, 3, 28, 1, 29, 30, 31, 32, 33, 34, 35, 36, 37, 38, 39, 26, 40, 41, 42, 43, 44, 45, 46, 47, 48, 49, 50, 51, 52, 53, 54, 55, 56, 57, 58, 59, 60, 61, 62, 63, 64, 65, 66, 67, 68, 69, 70, 84, 85, 86, 87, 88, 89, 71, 72, 73, 74, 75, 76, 77, 78, 79, 80, 81, 82, 83] (by decide +kernel) (by decide +kernel)
set_option maxRecDepth 20000 in
theorem gX1_lookForBed_X1_tryBed : GoodIn wsX1_lookForBed (wsV RX1 133 RX1 yX1_tryBed wsX1_tryBed) := goodIn_app (goodIn_of _ (by decide +kernel)) ggX1_lookForBed_X1_tryBed
set_option maxRecDepth 20000 in
theorem ggX1_lookForBed_X2_lieOnFloor : GoodIn wsX1_lookForBed wsX2_lieOnFloor := goodIn_r _ [63, 64, 65, 71, 72, 73, 74, 75, 76, 77, 78, 79, 80, 81, 82, 83] (by decide +kernel) (by decide +kernel)
set_option maxRecDepth 20000 in
theorem gX1_lookForBed_X2_lieOnFloor : GoodIn wsX1_lookForBed (wsV RX1 136 RX2 yX2_lieOnFloor wsX2_lieOnFloor) := goodIn_app (goodIn_of _ (by decide +kernel)) ggX1_lookForBed_X2_lieOnFloor
theorem dX1_lookForBed_0 : decode cX1_lookForBed 0 = .ok (.aload_n 0, 1) := by decide +kernel
theorem dX1_lookForBed_1 : decode cX1_lookForBed 1 = .ok (.getfield 29, 3) := by decide +kernel
theorem dX1_lookForBed_4 : decode cX1_lookForBed 4 = .ok (.getfield 124, 3) := by decide +kernel
theorem dX1_lookForBed_7 : decode cX1_lookForBed 7 = .ok (.iload_n 1, 1) := by decide +kernel
theorem dX1_lookForBed_8 : decode cX1_lookForBed 8 = .ok (.iaload, 1) := by decide +kernel
theorem dX1_lookForBed_9 : decode cX1_lookForBed 9 = .ok (.istore_n 2, 1) := by decide +kernel
theorem dX1_lookForBed_10 : decode cX1_lookForBed 10 = .ok (.aload_n 0, 1) := by decide +kernel
theorem dX1_lookForBed_11 : decode cX1_lookForBed 11 = .ok (.getfield 22, 3) := by decide +kernel
theorem dX1_lookForBed_14 : decode cX1_lookForBed 14 = .ok (.iload_n 2, 1) := by decide +kernel
theorem dX1_lookForBed_15 : decode cX1_lookForBed 15 = .ok (.invokevirtual 127, 3) := by decide +kernel
theorem dX1_lookForBed_18 : decode cX1_lookForBed 18 = .ok (.ifCond .eq 7, 3) := by decide +kernel
theorem dX1_lookForBed_21 : decode cX1_lookForBed 21 = .ok (.iload_n 2, 1) := by decide +kernel
theorem dX1_lookForBed_22 : decode cX1_lookForBed 22 = .ok (.goto 10, 3) := by decide +kernel
theorem dX1_lookForBed_25 : decode cX1_lookForBed 25 = .ok (.aload_n 0, 1) := by decide +kernel
theorem dX1_lookForBed_26 : decode cX1_lookForBed 26 = .ok (.getfield 22, 3) := by decide +kernel
theorem dX1_lookForBed_29 : decode cX1_lookForBed 29 = .ok (.invokevirtual 130, 3) := by decide +kernel
theorem dX1_lookForBed_32 : decode cX1_lookForBed 32 = .ok (.istore_n 3, 1) := by decide +kernel
theorem dX1_lookForBed_33 : decode cX1_lookForBed 33 = .ok (.aload_n 0, 1) := by decide +kernel
theorem dX1_lookForBed_34 : decode cX1_lookForBed 34 = .ok (.getfield 22, 3) := by decide +kernel
theorem dX1_lookForBed_37 : decode cX1_lookForBed 37 = .ok (.iload_n 3, 1) := by decide +kernel
theorem dX1_lookForBed_38 : decode cX1_lookForBed 38 = .ok (.invokevirtual 64, 3) := by decide +kernel
theorem dX1_lookForBed_41 : decode cX1_lookForBed 41 = .ok (.ifCond .eq 12, 3) := by decide +kernel
theorem dX1_lookForBed_44 : decode cX1_lookForBed 44 = .ok (.aload_n 0, 1) := by decide +kernel
theorem dX1_lookForBed_45 : decode cX1_lookForBed 45 = .ok (.iload_n 1, 1) := by decide +kernel
theorem dX1_lookForBed_46 : decode cX1_lookForBed 46 = .ok (.iload_n 3, 1) := by decide +kernel
theorem dX1_lookForBed_47 : decode cX1_lookForBed 47 = .ok (.invokevirtual 133, 3) := by decide +kernel
theorem dX1_lookForBed_50 : decode cX1_lookForBed 50 = .ok (.goto 22, 3) := by decide +kernel
theorem dX1_lookForBed_53 : decode cX1_lookForBed 53 = .ok (.aload_n 0, 1) := by decide +kernel
theorem dX1_lookForBed_54 : decode cX1_lookForBed 54 = .ok (.getfield 7, 3) := by decide +kernel
theorem dX1_lookForBed_57 : decode cX1_lookForBed 57 = .ok (.bipush 8, 2) := by decide +kernel
theorem dX1_lookForBed_59 : decode cX1_lookForBed 59 = .ok (.irem, 1) := by decide +kernel
theorem dX1_lookForBed_60 : decode cX1_lookForBed 60 = .ok (.iconst 4, 1) := by decide +kernel
theorem dX1_lookForBed_61 : decode cX1_lookForBed 61 = .ok (.if_icmp .lt 11, 3) := by decide +kernel
theorem dX1_lookForBed_64 : decode cX1_lookForBed 64 = .ok (.aload_n 0, 1) := by decide +kernel
theorem dX1_lookForBed_65 : decode cX1_lookForBed 65 = .ok (.getfield 29, 3) := by decide +kernel
theorem dX1_lookForBed_68 : decode cX1_lookForBed 68 = .ok (.iload_n 1, 1) := by decide +kernel
theorem dX1_lookForBed_69 : decode cX1_lookForBed 69 = .ok (.invokevirtual 136, 3) := by decide +kernel
theorem dX1_lookForBed_72 : decode cX1_lookForBed 72 = .ok (.return_, 1) := by decide +kernel
set_option maxRecDepth 20000 in
theorem ggX1_tryBed_X2_hasBoots : GoodIn wsX1_tryBed wsX2_hasBoots := goodIn_r _ [10, 11, 53, 54, 55, 56, 57, 58, 59, 60, 61, 62, 63, 64, 65] (by decide +kernel) (by decide +kernel)
set_option maxRecDepth 20000 in
theorem gX1_tryBed_X2_hasBoots : GoodIn wsX1_tryBed (wsV RX1 81 RX2 yX2_hasBoots wsX2_hasBoots) := goodIn_app (goodIn_of _ (by decide +kernel)) ggX1_tryBed_X2_hasBoots
set_option maxRecDepth 20000 in
theorem ggX1_tryBed_X1_pawnBoots : GoodIn wsX1_tryBed wsX1_pawnBoots := goodIn_r _ [16, 3, 17, 5, 18, 19, 20, 9, 21, 22, 23, 24, 25, 26, 42, 43, 44, 45, 46, 53, 54, 55, 56, 57, 58, 59, 60, 61, 62, 63, 64, 65] (by decide +kernel) (by decide +kernel)
set_option maxRecDepth 20000 in
theorem gX1_tryBed_X1_pawnBoots : GoodIn wsX1_tryBed (wsV RX1 142 RX1 yX1_pawnBoots wsX1_pawnBoots) := goodIn_app (goodIn_of _ (by decide +kernel)) ggX1_tryBed_X1_pawnBoots
set_option maxRecDepth 20000 in
theorem ggX1_tryBed_X1_getInto : GoodIn wsX1_tryBed wsX1_getInto := goodIn_r _ [30, 1, 2, 3, 4, 31, 32, 33, 34, 35, 42, 43, 44, 45, 46, 47, 48, 49, 50, 51, 52, 53, 54, 55, 56, 57, 58, 59, 60, 61, 62, 63, 64, 65] (by decide +kernel) (by decide +kernel)
set_option maxRecDepth 20000 in
theorem gX1_tryBed_X1_getInto : GoodIn wsX1_tryBed (wsV RX1 145 RX1 yX1_getInto wsX1_getInto) := goodIn_app (goodIn_of _ (by decide +kernel)) ggX1_tryBed_X1_getInto
set_option maxRecDepth 20000 in
theorem ggX1_tryBed_X2_lieOnFloor : GoodIn wsX1_tryBed wsX2_lieOnFloor := goodIn_r _ [39, 40, 41, 53, 54, 55, 56, 57, 58, 59, 60, 61, 62, 63, 64, 65] (by decide +kernel) (by decide +kernel)
set_option maxRecDepth 20000 in
theorem gX1_tryBed_X2_lieOnFloor : GoodIn wsX1_tryBed (wsV RX1 136 RX2 yX2_lieOnFloor wsX2_lieOnFloor) := goodIn_app (goodIn_of _ (by decide +kernel)) ggX1_tryBed_X2_lieOnFloor
theorem dX1_tryBed_0 : decode cX1_tryBed 0 = .ok (.aload_n 0, 1) := by decide +kernel
theorem dX1_tryBed_1 : decode cX1_tryBed 1 = .ok (.getfield 22, 3) := by decide +kernel
theorem dX1_tryBed_4 : decode cX1_tryBed 4 = .ok (.getfield 139, 3) := by decide +kernel
theorem dX1_tryBed_7 : decode cX1_tryBed 7 = .ok (.iload_n 2, 1) := by decide +kernel
theorem dX1_tryBed_8 : decode cX1_tryBed 8 = .ok (.iaload, 1) := by decide +kernel
theorem dX1_tryBed_9 : decode cX1_tryBed 9 = .ok (.istore_n 3, 1) := by decide +kernel
theorem dX1_tryBed_10 : decode cX1_tryBed 10 = .ok (.aload_n 0, 1) := by decide +kernel
theorem dX1_tryBed_11 : decode cX1_tryBed 11 = .ok (.getfield 29, 3) := by decide +kernel
theorem dX1_tryBed_14 : decode cX1_tryBed 14 = .ok (.getfield 84, 3) := by decide +kernel
theorem dX1_tryBed_17 : decode cX1_tryBed 17 = .ok (.iload_n 1, 1) := by decide +kernel
theorem dX1_tryBed_18 : decode cX1_tryBed 18 = .ok (.iaload, 1) := by decide +kernel
theorem dX1_tryBed_19 : decode cX1_tryBed 19 = .ok (.istore 4, 2) := by decide +kernel
theorem dX1_tryBed_21 : decode cX1_tryBed 21 = .ok (.iload 4, 2) := by decide +kernel
theorem dX1_tryBed_23 : decode cX1_tryBed 23 = .ok (.iload_n 3, 1) := by decide +kernel
theorem dX1_tryBed_24 : decode cX1_tryBed 24 = .ok (.if_icmp .ge 30, 3) := by decide +kernel
theorem dX1_tryBed_27 : decode cX1_tryBed 27 = .ok (.iload 4, 2) := by decide +kernel
theorem dX1_tryBed_29 : decode cX1_tryBed 29 = .ok (.aload_n 0, 1) := by decide +kernel
theorem dX1_tryBed_30 : decode cX1_tryBed 30 = .ok (.getfield 16, 3) := by decide +kernel
theorem dX1_tryBed_33 : decode cX1_tryBed 33 = .ok (.iadd, 1) := by decide +kernel
theorem dX1_tryBed_34 : decode cX1_tryBed 34 = .ok (.iload_n 3, 1) := by decide +kernel
theorem dX1_tryBed_35 : decode cX1_tryBed 35 = .ok (.if_icmp .lt 19, 3) := by decide +kernel
theorem dX1_tryBed_38 : decode cX1_tryBed 38 = .ok (.aload_n 0, 1) := by decide +kernel
theorem dX1_tryBed_39 : decode cX1_tryBed 39 = .ok (.getfield 29, 3) := by decide +kernel
theorem dX1_tryBed_42 : decode cX1_tryBed 42 = .ok (.iload_n 1, 1) := by decide +kernel
theorem dX1_tryBed_43 : decode cX1_tryBed 43 = .ok (.invokevirtual 81, 3) := by decide +kernel
theorem dX1_tryBed_46 : decode cX1_tryBed 46 = .ok (.ifCond .eq 8, 3) := by decide +kernel
theorem dX1_tryBed_49 : decode cX1_tryBed 49 = .ok (.aload_n 0, 1) := by decide +kernel
theorem dX1_tryBed_50 : decode cX1_tryBed 50 = .ok (.iload_n 1, 1) := by decide +kernel
theorem dX1_tryBed_51 : decode cX1_tryBed 51 = .ok (.invokevirtual 142, 3) := by decide +kernel
theorem dX1_tryBed_54 : decode cX1_tryBed 54 = .ok (.aload_n 0, 1) := by decide +kernel
theorem dX1_tryBed_55 : decode cX1_tryBed 55 = .ok (.getfield 29, 3) := by decide +kernel
theorem dX1_tryBed_58 : decode cX1_tryBed 58 = .ok (.getfield 84, 3) := by decide +kernel
theorem dX1_tryBed_61 : decode cX1_tryBed 61 = .ok (.iload_n 1, 1) := by decide +kernel
theorem dX1_tryBed_62 : decode cX1_tryBed 62 = .ok (.iaload, 1) := by decide +kernel
theorem dX1_tryBed_63 : decode cX1_tryBed 63 = .ok (.iload_n 3, 1) := by decide +kernel
theorem dX1_tryBed_64 : decode cX1_tryBed 64 = .ok (.if_icmp .lt 12, 3) := by decide +kernel
theorem dX1_tryBed_67 : decode cX1_tryBed 67 = .ok (.aload_n 0, 1) := by decide +kernel
theorem dX1_tryBed_68 : decode cX1_tryBed 68 = .ok (.iload_n 1, 1) := by decide +kernel
theorem dX1_tryBed_69 : decode cX1_tryBed 69 = .ok (.iload_n 2, 1) := by decide +kernel
theorem dX1_tryBed_70 : decode cX1_tryBed 70 = .ok (.invokevirtual 145, 3) := by decide +kernel
theorem dX1_tryBed_73 : decode cX1_tryBed 73 = .ok (.goto 11, 3) := by decide +kernel
theorem dX1_tryBed_76 : decode cX1_tryBed 76 = .ok (.aload_n 0, 1) := by decide +kernel
theorem dX1_tryBed_77 : decode cX1_tryBed 77 = .ok (.getfield 29, 3) := by decide +kernel
theorem dX1_tryBed_80 : decode cX1_tryBed 80 = .ok (.iload_n 1, 1) := by decide +kernel
theorem dX1_tryBed_81 : decode cX1_tryBed 81 = .ok (.invokevirtual 136, 3) := by decide +kernel
theorem dX1_tryBed_84 : decode cX1_tryBed 84 = .ok (.return_, 1) := by decide +kernel
theorem dX1_getInto_0 : decode cX1_getInto 0 = .ok (.aload_n 0, 1) := by decide +kernel
theorem dX1_getInto_1 : decode cX1_getInto 1 = .ok (.getfield 22, 3) := by decide +kernel
theorem dX1_getInto_4 : decode cX1_getInto 4 = .ok (.getfield 139, 3) := by decide +kernel
theorem dX1_getInto_7 : decode cX1_getInto 7 = .ok (.iload_n 2, 1) := by decide +kernel
theorem dX1_getInto_8 : decode cX1_getInto 8 = .ok (.iaload, 1) := by decide +kernel
theorem dX1_getInto_9 : decode cX1_getInto 9 = .ok (.istore_n 3, 1) := by decide +kernel
theorem dX1_getInto_10 : decode cX1_getInto 10 = .ok (.aload_n 0, 1) := by decide +kernel
theorem dX1_getInto_11 : decode cX1_getInto 11 = .ok (.getfield 29, 3) := by decide +kernel
theorem dX1_getInto_14 : decode cX1_getInto 14 = .ok (.getfield 84, 3) := by decide +kernel
theorem dX1_getInto_17 : decode cX1_getInto 17 = .ok (.iload_n 1, 1) := by decide +kernel
theorem dX1_getInto_18 : decode cX1_getInto 18 = .ok (.dup2, 1) := by decide +kernel
theorem dX1_getInto_19 : decode cX1_getInto 19 = .ok (.iaload, 1) := by decide +kernel
theorem dX1_getInto_20 : decode cX1_getInto 20 = .ok (.iload_n 3, 1) := by decide +kernel
theorem dX1_getInto_21 : decode cX1_getInto 21 = .ok (.isub, 1) := by decide +kernel
theorem dX1_getInto_22 : decode cX1_getInto 22 = .ok (.iastore, 1) := by decide +kernel
theorem dX1_getInto_23 : decode cX1_getInto 23 = .ok (.aload_n 0, 1) := by decide +kernel
theorem dX1_getInto_24 : decode cX1_getInto 24 = .ok (.getfield 29, 3) := by decide +kernel
theorem dX1_getInto_27 : decode cX1_getInto 27 = .ok (.getfield 71, 3) := by decide +kernel
theorem dX1_getInto_30 : decode cX1_getInto 30 = .ok (.iload_n 1, 1) := by decide +kernel
theorem dX1_getInto_31 : decode cX1_getInto 31 = .ok (.iconst 1, 1) := by decide +kernel
theorem dX1_getInto_32 : decode cX1_getInto 32 = .ok (.iastore, 1) := by decide +kernel
theorem dX1_getInto_33 : decode cX1_getInto 33 = .ok (.aload_n 0, 1) := by decide +kernel
theorem dX1_getInto_34 : decode cX1_getInto 34 = .ok (.getfield 29, 3) := by decide +kernel
theorem dX1_getInto_37 : decode cX1_getInto 37 = .ok (.getfield 61, 3) := by decide +kernel
theorem dX1_getInto_40 : decode cX1_getInto 40 = .ok (.iload_n 1, 1) := by decide +kernel
theorem dX1_getInto_41 : decode cX1_getInto 41 = .ok (.iload_n 2, 1) := by decide +kernel
theorem dX1_getInto_42 : decode cX1_getInto 42 = .ok (.iastore, 1) := by decide +kernel
theorem dX1_getInto_43 : decode cX1_getInto 43 = .ok (.aload_n 0, 1) := by decide +kernel
theorem dX1_getInto_44 : decode cX1_getInto 44 = .ok (.getfield 22, 3) := by decide +kernel
theorem dX1_getInto_47 : decode cX1_getInto 47 = .ok (.getfield 148, 3) := by decide +kernel
theorem dX1_getInto_50 : decode cX1_getInto 50 = .ok (.iload_n 2, 1) := by decide +kernel
theorem dX1_getInto_51 : decode cX1_getInto 51 = .ok (.dup2, 1) := by decide +kernel
theorem dX1_getInto_52 : decode cX1_getInto 52 = .ok (.iaload, 1) := by decide +kernel
theorem dX1_getInto_53 : decode cX1_getInto 53 = .ok (.iload_n 3, 1) := by decide +kernel
theorem dX1_getInto_54 : decode cX1_getInto 54 = .ok (.iadd, 1) := by decide +kernel
theorem dX1_getInto_55 : decode cX1_getInto 55 = .ok (.iastore, 1) := by decide +kernel
theorem dX1_getInto_56 : decode cX1_getInto 56 = .ok (.aload_n 0, 1) := by decide +kernel
theorem dX1_getInto_57 : decode cX1_getInto 57 = .ok (.getfield 22, 3) := by decide +kernel
theorem dX1_getInto_60 : decode cX1_getInto 60 = .ok (.getfield 151, 3) := by decide +kernel
theorem dX1_getInto_63 : decode cX1_getInto 63 = .ok (.iload_n 2, 1) := by decide +kernel
theorem dX1_getInto_64 : decode cX1_getInto 64 = .ok (.dup2, 1) := by decide +kernel
theorem dX1_getInto_65 : decode cX1_getInto 65 = .ok (.iaload, 1) := by decide +kernel
theorem dX1_getInto_66 : decode cX1_getInto 66 = .ok (.iconst 1, 1) := by decide +kernel
theorem dX1_getInto_67 : decode cX1_getInto 67 = .ok (.iadd, 1) := by decide +kernel
theorem dX1_getInto_68 : decode cX1_getInto 68 = .ok (.iastore, 1) := by decide +kernel
theorem dX1_getInto_69 : decode cX1_getInto 69 = .ok (.aload_n 0, 1) := by decide +kernel
theorem dX1_getInto_70 : decode cX1_getInto 70 = .ok (.getfield 22, 3) := by decide +kernel
theorem dX1_getInto_73 : decode cX1_getInto 73 = .ok (.getfield 68, 3) := by decide +kernel
theorem dX1_getInto_76 : decode cX1_getInto 76 = .ok (.iload_n 2, 1) := by decide +kernel
theorem dX1_getInto_77 : decode cX1_getInto 77 = .ok (.iload_n 1, 1) := by decide +kernel
theorem dX1_getInto_78 : decode cX1_getInto 78 = .ok (.iastore, 1) := by decide +kernel
theorem dX1_getInto_79 : decode cX1_getInto 79 = .ok (.return_, 1) := by decide +kernel
set_option maxRecDepth 20000 in
theorem ggX1_restOfHour_X0_isWarm : GoodIn wsX1_restOfHour wsX0_isWarm := goodIn_r _ [10, 11, 12, 13, 14, 9, 15, 16, 35, 36, 37, 38, 39, 40] (by decide +kernel) (by decide +kernel)
set_option maxRecDepth 20000 in
theorem gX1_restOfHour_X0_isWarm : GoodIn wsX1_restOfHour (wsV RX1 154 RX0 yX0_isWarm wsX0_isWarm) := goodIn_app (goodIn_of _ (by decide +kernel)) ggX1_restOfHour_X0_isWarm
theorem dX1_restOfHour_0 : decode cX1_restOfHour 0 = .ok (.aload_n 0, 1) := by decide +kernel
theorem dX1_restOfHour_1 : decode cX1_restOfHour 1 = .ok (.getfield 29, 3) := by decide +kernel
theorem dX1_restOfHour_4 : decode cX1_restOfHour 4 = .ok (.getfield 71, 3) := by decide +kernel
theorem dX1_restOfHour_7 : decode cX1_restOfHour 7 = .ok (.iload_n 1, 1) := by decide +kernel
theorem dX1_restOfHour_8 : decode cX1_restOfHour 8 = .ok (.iaload, 1) := by decide +kernel
theorem dX1_restOfHour_9 : decode cX1_restOfHour 9 = .ok (.lookupswitch 67 #[(1, 27), (2, 52)], 27) := by decide +kernel
theorem dX1_restOfHour_36 : decode cX1_restOfHour 36 = .ok (.aload_n 0, 1) := by decide +kernel
theorem dX1_restOfHour_37 : decode cX1_restOfHour 37 = .ok (.getfield 22, 3) := by decide +kernel
theorem dX1_restOfHour_40 : decode cX1_restOfHour 40 = .ok (.aload_n 0, 1) := by decide +kernel
theorem dX1_restOfHour_41 : decode cX1_restOfHour 41 = .ok (.getfield 29, 3) := by decide +kernel
theorem dX1_restOfHour_44 : decode cX1_restOfHour 44 = .ok (.getfield 61, 3) := by decide +kernel
theorem dX1_restOfHour_47 : decode cX1_restOfHour 47 = .ok (.iload_n 1, 1) := by decide +kernel
theorem dX1_restOfHour_48 : decode cX1_restOfHour 48 = .ok (.iaload, 1) := by decide +kernel
theorem dX1_restOfHour_49 : decode cX1_restOfHour 49 = .ok (.invokevirtual 154, 3) := by decide +kernel
theorem dX1_restOfHour_52 : decode cX1_restOfHour 52 = .ok (.ifCond .eq 7, 3) := by decide +kernel
theorem dX1_restOfHour_55 : decode cX1_restOfHour 55 = .ok (.iconst 2, 1) := by decide +kernel
theorem dX1_restOfHour_56 : decode cX1_restOfHour 56 = .ok (.goto 4, 3) := by decide +kernel
theorem dX1_restOfHour_59 : decode cX1_restOfHour 59 = .ok (.iconst 1, 1) := by decide +kernel
theorem dX1_restOfHour_60 : decode cX1_restOfHour 60 = .ok (.ireturn, 1) := by decide +kernel
theorem dX1_restOfHour_61 : decode cX1_restOfHour 61 = .ok (.aload_n 0, 1) := by decide +kernel
theorem dX1_restOfHour_62 : decode cX1_restOfHour 62 = .ok (.getfield 7, 3) := by decide +kernel
theorem dX1_restOfHour_65 : decode cX1_restOfHour 65 = .ok (.iconst 2, 1) := by decide +kernel
theorem dX1_restOfHour_66 : decode cX1_restOfHour 66 = .ok (.irem, 1) := by decide +kernel
theorem dX1_restOfHour_67 : decode cX1_restOfHour 67 = .ok (.ifCond .ne 7, 3) := by decide +kernel
theorem dX1_restOfHour_70 : decode cX1_restOfHour 70 = .ok (.iconst 0, 1) := by decide +kernel
theorem dX1_restOfHour_71 : decode cX1_restOfHour 71 = .ok (.goto 4, 3) := by decide +kernel
theorem dX1_restOfHour_74 : decode cX1_restOfHour 74 = .ok (.iconst 1, 1) := by decide +kernel
theorem dX1_restOfHour_75 : decode cX1_restOfHour 75 = .ok (.ireturn, 1) := by decide +kernel
theorem dX1_restOfHour_76 : decode cX1_restOfHour 76 = .ok (.iconst 0, 1) := by decide +kernel
theorem dX1_restOfHour_77 : decode cX1_restOfHour 77 = .ok (.ireturn, 1) := by decide +kernel
theorem dX2_init_0 : decode cX2_init 0 = .ok (.aload_n 0, 1) := by decide +kernel
theorem dX2_init_1 : decode cX2_init 1 = .ok (.invokespecial 1, 3) := by decide +kernel
theorem dX2_init_4 : decode cX2_init 4 = .ok (.aload_n 0, 1) := by decide +kernel
theorem dX2_init_5 : decode cX2_init 5 = .ok (.iconst 0, 1) := by decide +kernel
theorem dX2_init_6 : decode cX2_init 6 = .ok (.putfield 7, 3) := by decide +kernel
theorem dX2_init_9 : decode cX2_init 9 = .ok (.aload_n 0, 1) := by decide +kernel
theorem dX2_init_10 : decode cX2_init 10 = .ok (.bipush 10, 2) := by decide +kernel
theorem dX2_init_12 : decode cX2_init 12 = .ok (.newarray .int, 2) := by decide +kernel
theorem dX2_init_14 : decode cX2_init 14 = .ok (.putfield 13, 3) := by decide +kernel
theorem dX2_init_17 : decode cX2_init 17 = .ok (.aload_n 0, 1) := by decide +kernel
theorem dX2_init_18 : decode cX2_init 18 = .ok (.bipush 10, 2) := by decide +kernel
theorem dX2_init_20 : decode cX2_init 20 = .ok (.newarray .int, 2) := by decide +kernel
theorem dX2_init_22 : decode cX2_init 22 = .ok (.putfield 17, 3) := by decide +kernel
theorem dX2_init_25 : decode cX2_init 25 = .ok (.aload_n 0, 1) := by decide +kernel
theorem dX2_init_26 : decode cX2_init 26 = .ok (.bipush 10, 2) := by decide +kernel
theorem dX2_init_28 : decode cX2_init 28 = .ok (.newarray .int, 2) := by decide +kernel
theorem dX2_init_30 : decode cX2_init 30 = .ok (.putfield 20, 3) := by decide +kernel
theorem dX2_init_33 : decode cX2_init 33 = .ok (.aload_n 0, 1) := by decide +kernel
theorem dX2_init_34 : decode cX2_init 34 = .ok (.bipush 10, 2) := by decide +kernel
theorem dX2_init_36 : decode cX2_init 36 = .ok (.newarray .int, 2) := by decide +kernel
theorem dX2_init_38 : decode cX2_init 38 = .ok (.putfield 23, 3) := by decide +kernel
theorem dX2_init_41 : decode cX2_init 41 = .ok (.aload_n 0, 1) := by decide +kernel
theorem dX2_init_42 : decode cX2_init 42 = .ok (.bipush 10, 2) := by decide +kernel
theorem dX2_init_44 : decode cX2_init 44 = .ok (.newarray .int, 2) := by decide +kernel
theorem dX2_init_46 : decode cX2_init 46 = .ok (.putfield 26, 3) := by decide +kernel
theorem dX2_init_49 : decode cX2_init 49 = .ok (.aload_n 0, 1) := by decide +kernel
theorem dX2_init_50 : decode cX2_init 50 = .ok (.bipush 10, 2) := by decide +kernel
theorem dX2_init_52 : decode cX2_init 52 = .ok (.newarray .int, 2) := by decide +kernel
theorem dX2_init_54 : decode cX2_init 54 = .ok (.putfield 29, 3) := by decide +kernel
theorem dX2_init_57 : decode cX2_init 57 = .ok (.aload_n 0, 1) := by decide +kernel
theorem dX2_init_58 : decode cX2_init 58 = .ok (.bipush 10, 2) := by decide +kernel
theorem dX2_init_60 : decode cX2_init 60 = .ok (.newarray .int, 2) := by decide +kernel
theorem dX2_init_62 : decode cX2_init 62 = .ok (.putfield 32, 3) := by decide +kernel
theorem dX2_init_65 : decode cX2_init 65 = .ok (.aload_n 0, 1) := by decide +kernel
theorem dX2_init_66 : decode cX2_init 66 = .ok (.bipush 10, 2) := by decide +kernel
theorem dX2_init_68 : decode cX2_init 68 = .ok (.newarray .int, 2) := by decide +kernel
theorem dX2_init_70 : decode cX2_init 70 = .ok (.putfield 35, 3) := by decide +kernel
theorem dX2_init_73 : decode cX2_init 73 = .ok (.aload_n 0, 1) := by decide +kernel
theorem dX2_init_74 : decode cX2_init 74 = .ok (.bipush 10, 2) := by decide +kernel
theorem dX2_init_76 : decode cX2_init 76 = .ok (.newarray .int, 2) := by decide +kernel
theorem dX2_init_78 : decode cX2_init 78 = .ok (.putfield 38, 3) := by decide +kernel
theorem dX2_init_81 : decode cX2_init 81 = .ok (.aload_n 0, 1) := by decide +kernel
theorem dX2_init_82 : decode cX2_init 82 = .ok (.bipush 10, 2) := by decide +kernel
theorem dX2_init_84 : decode cX2_init 84 = .ok (.newarray .int, 2) := by decide +kernel
theorem dX2_init_86 : decode cX2_init 86 = .ok (.putfield 41, 3) := by decide +kernel
theorem dX2_init_89 : decode cX2_init 89 = .ok (.aload_n 0, 1) := by decide +kernel
theorem dX2_init_90 : decode cX2_init 90 = .ok (.bipush 10, 2) := by decide +kernel
theorem dX2_init_92 : decode cX2_init 92 = .ok (.newarray .int, 2) := by decide +kernel
theorem dX2_init_94 : decode cX2_init 94 = .ok (.putfield 44, 3) := by decide +kernel
theorem dX2_init_97 : decode cX2_init 97 = .ok (.aload_n 0, 1) := by decide +kernel
theorem dX2_init_98 : decode cX2_init 98 = .ok (.bipush 10, 2) := by decide +kernel
theorem dX2_init_100 : decode cX2_init 100 = .ok (.newarray .int, 2) := by decide +kernel
theorem dX2_init_102 : decode cX2_init 102 = .ok (.putfield 47, 3) := by decide +kernel
theorem dX2_init_105 : decode cX2_init 105 = .ok (.return_, 1) := by decide +kernel
theorem dX2_add_0 : decode cX2_add 0 = .ok (.aload_n 0, 1) := by decide +kernel
theorem dX2_add_1 : decode cX2_add 1 = .ok (.getfield 7, 3) := by decide +kernel
theorem dX2_add_4 : decode cX2_add 4 = .ok (.bipush 10, 2) := by decide +kernel
theorem dX2_add_6 : decode cX2_add 6 = .ok (.if_icmp .lt 13, 3) := by decide +kernel
theorem dX2_add_9 : decode cX2_add 9 = .ok (.new 50, 3) := by decide +kernel
theorem dX2_add_12 : decode cX2_add 12 = .ok (.dup, 1) := by decide +kernel
theorem dX2_add_13 : decode cX2_add 13 = .ok (.ldc 52, 2) := by decide +kernel
theorem dX2_add_15 : decode cX2_add 15 = .ok (.invokespecial 54, 3) := by decide +kernel
theorem dX2_add_18 : decode cX2_add 18 = .ok (.athrow, 1) := by decide +kernel
theorem dX2_add_19 : decode cX2_add 19 = .ok (.aload_n 0, 1) := by decide +kernel
theorem dX2_add_20 : decode cX2_add 20 = .ok (.getfield 7, 3) := by decide +kernel
theorem dX2_add_23 : decode cX2_add 23 = .ok (.istore 5, 2) := by decide +kernel
theorem dX2_add_25 : decode cX2_add 25 = .ok (.aload_n 0, 1) := by decide +kernel
theorem dX2_add_26 : decode cX2_add 26 = .ok (.getfield 13, 3) := by decide +kernel
theorem dX2_add_29 : decode cX2_add 29 = .ok (.iload 5, 2) := by decide +kernel
theorem dX2_add_31 : decode cX2_add 31 = .ok (.iload_n 1, 1) := by decide +kernel
theorem dX2_add_32 : decode cX2_add 32 = .ok (.iastore, 1) := by decide +kernel
theorem dX2_add_33 : decode cX2_add 33 = .ok (.aload_n 0, 1) := by decide +kernel
theorem dX2_add_34 : decode cX2_add 34 = .ok (.getfield 17, 3) := by decide +kernel
theorem dX2_add_37 : decode cX2_add 37 = .ok (.iload 5, 2) := by decide +kernel
theorem dX2_add_39 : decode cX2_add 39 = .ok (.iload_n 2, 1) := by decide +kernel
theorem dX2_add_40 : decode cX2_add 40 = .ok (.iastore, 1) := by decide +kernel
theorem dX2_add_41 : decode cX2_add 41 = .ok (.aload_n 0, 1) := by decide +kernel
theorem dX2_add_42 : decode cX2_add 42 = .ok (.getfield 20, 3) := by decide +kernel
theorem dX2_add_45 : decode cX2_add 45 = .ok (.iload 5, 2) := by decide +kernel
theorem dX2_add_47 : decode cX2_add 47 = .ok (.iload_n 3, 1) := by decide +kernel
theorem dX2_add_48 : decode cX2_add 48 = .ok (.iastore, 1) := by decide +kernel
theorem dX2_add_49 : decode cX2_add 49 = .ok (.aload_n 0, 1) := by decide +kernel
theorem dX2_add_50 : decode cX2_add 50 = .ok (.getfield 23, 3) := by decide +kernel
theorem dX2_add_53 : decode cX2_add 53 = .ok (.iload 5, 2) := by decide +kernel
theorem dX2_add_55 : decode cX2_add 55 = .ok (.iload 4, 2) := by decide +kernel
theorem dX2_add_57 : decode cX2_add 57 = .ok (.iastore, 1) := by decide +kernel
theorem dX2_add_58 : decode cX2_add 58 = .ok (.aload_n 0, 1) := by decide +kernel
theorem dX2_add_59 : decode cX2_add 59 = .ok (.getfield 26, 3) := by decide +kernel
theorem dX2_add_62 : decode cX2_add 62 = .ok (.iload 5, 2) := by decide +kernel
theorem dX2_add_64 : decode cX2_add 64 = .ok (.iconst 1, 1) := by decide +kernel
theorem dX2_add_65 : decode cX2_add 65 = .ok (.iastore, 1) := by decide +kernel
theorem dX2_add_66 : decode cX2_add 66 = .ok (.aload_n 0, 1) := by decide +kernel
theorem dX2_add_67 : decode cX2_add 67 = .ok (.getfield 29, 3) := by decide +kernel
theorem dX2_add_70 : decode cX2_add 70 = .ok (.iload 5, 2) := by decide +kernel
theorem dX2_add_72 : decode cX2_add 72 = .ok (.iconst (-1), 1) := by decide +kernel
theorem dX2_add_73 : decode cX2_add 73 = .ok (.iastore, 1) := by decide +kernel
theorem dX2_add_74 : decode cX2_add 74 = .ok (.aload_n 0, 1) := by decide +kernel
theorem dX2_add_75 : decode cX2_add 75 = .ok (.getfield 32, 3) := by decide +kernel
theorem dX2_add_78 : decode cX2_add 78 = .ok (.iload 5, 2) := by decide +kernel
theorem dX2_add_80 : decode cX2_add 80 = .ok (.iconst 0, 1) := by decide +kernel
theorem dX2_add_81 : decode cX2_add 81 = .ok (.iastore, 1) := by decide +kernel
theorem dX2_add_82 : decode cX2_add 82 = .ok (.aload_n 0, 1) := by decide +kernel
theorem dX2_add_83 : decode cX2_add 83 = .ok (.getfield 35, 3) := by decide +kernel
theorem dX2_add_86 : decode cX2_add 86 = .ok (.iload 5, 2) := by decide +kernel
theorem dX2_add_88 : decode cX2_add 88 = .ok (.iconst (-1), 1) := by decide +kernel
theorem dX2_add_89 : decode cX2_add 89 = .ok (.iastore, 1) := by decide +kernel
theorem dX2_add_90 : decode cX2_add 90 = .ok (.aload_n 0, 1) := by decide +kernel
theorem dX2_add_91 : decode cX2_add 91 = .ok (.iload 5, 2) := by decide +kernel
theorem dX2_add_93 : decode cX2_add 93 = .ok (.iconst 1, 1) := by decide +kernel
theorem dX2_add_94 : decode cX2_add 94 = .ok (.iadd, 1) := by decide +kernel
theorem dX2_add_95 : decode cX2_add 95 = .ok (.putfield 7, 3) := by decide +kernel
theorem dX2_add_98 : decode cX2_add 98 = .ok (.iload 5, 2) := by decide +kernel
theorem dX2_add_100 : decode cX2_add 100 = .ok (.ireturn, 1) := by decide +kernel
theorem dX2_isUp_0 : decode cX2_isUp 0 = .ok (.aload_n 0, 1) := by decide +kernel
theorem dX2_isUp_1 : decode cX2_isUp 1 = .ok (.getfield 32, 3) := by decide +kernel
theorem dX2_isUp_4 : decode cX2_isUp 4 = .ok (.iload_n 1, 1) := by decide +kernel
theorem dX2_isUp_5 : decode cX2_isUp 5 = .ok (.iaload, 1) := by decide +kernel
theorem dX2_isUp_6 : decode cX2_isUp 6 = .ok (.ifCond .ne 7, 3) := by decide +kernel
theorem dX2_isUp_9 : decode cX2_isUp 9 = .ok (.iconst 1, 1) := by decide +kernel
theorem dX2_isUp_10 : decode cX2_isUp 10 = .ok (.goto 4, 3) := by decide +kernel
theorem dX2_isUp_13 : decode cX2_isUp 13 = .ok (.iconst 0, 1) := by decide +kernel
theorem dX2_isUp_14 : decode cX2_isUp 14 = .ok (.ireturn, 1) := by decide +kernel
theorem dX2_hasBoots_0 : decode cX2_hasBoots 0 = .ok (.aload_n 0, 1) := by decide +kernel
theorem dX2_hasBoots_1 : decode cX2_hasBoots 1 = .ok (.getfield 26, 3) := by decide +kernel
theorem dX2_hasBoots_4 : decode cX2_hasBoots 4 = .ok (.iload_n 1, 1) := by decide +kernel
theorem dX2_hasBoots_5 : decode cX2_hasBoots 5 = .ok (.iaload, 1) := by decide +kernel
theorem dX2_hasBoots_6 : decode cX2_hasBoots 6 = .ok (.iconst 1, 1) := by decide +kernel
theorem dX2_hasBoots_7 : decode cX2_hasBoots 7 = .ok (.if_icmp .ne 7, 3) := by decide +kernel
theorem dX2_hasBoots_10 : decode cX2_hasBoots 10 = .ok (.iconst 1, 1) := by decide +kernel
theorem dX2_hasBoots_11 : decode cX2_hasBoots 11 = .ok (.goto 4, 3) := by decide +kernel
theorem dX2_hasBoots_14 : decode cX2_hasBoots 14 = .ok (.iconst 0, 1) := by decide +kernel
theorem dX2_hasBoots_15 : decode cX2_hasBoots 15 = .ok (.ireturn, 1) := by decide +kernel
theorem dX2_earn_0 : decode cX2_earn 0 = .ok (.aload_n 0, 1) := by decide +kernel
theorem dX2_earn_1 : decode cX2_earn 1 = .ok (.getfield 23, 3) := by decide +kernel
theorem dX2_earn_4 : decode cX2_earn 4 = .ok (.iload_n 1, 1) := by decide +kernel
theorem dX2_earn_5 : decode cX2_earn 5 = .ok (.bipush 99, 2) := by decide +kernel
theorem dX2_earn_7 : decode cX2_earn 7 = .ok (.aload_n 0, 1) := by decide +kernel
theorem dX2_earn_8 : decode cX2_earn 8 = .ok (.getfield 23, 3) := by decide +kernel
theorem dX2_earn_11 : decode cX2_earn 11 = .ok (.iload_n 1, 1) := by decide +kernel
theorem dX2_earn_12 : decode cX2_earn 12 = .ok (.iaload, 1) := by decide +kernel
theorem dX2_earn_13 : decode cX2_earn 13 = .ok (.iload_n 2, 1) := by decide +kernel
theorem dX2_earn_14 : decode cX2_earn 14 = .ok (.iadd, 1) := by decide +kernel
theorem dX2_earn_15 : decode cX2_earn 15 = .ok (.invokestatic 65, 3) := by decide +kernel
theorem dX2_earn_18 : decode cX2_earn 18 = .ok (.iastore, 1) := by decide +kernel
theorem dX2_earn_19 : decode cX2_earn 19 = .ok (.return_, 1) := by decide +kernel
theorem dX2_beLate_0 : decode cX2_beLate 0 = .ok (.aload_n 0, 1) := by decide +kernel
theorem dX2_beLate_1 : decode cX2_beLate 1 = .ok (.getfield 41, 3) := by decide +kernel
theorem dX2_beLate_4 : decode cX2_beLate 4 = .ok (.iload_n 1, 1) := by decide +kernel
theorem dX2_beLate_5 : decode cX2_beLate 5 = .ok (.dup2, 1) := by decide +kernel
theorem dX2_beLate_6 : decode cX2_beLate 6 = .ok (.iaload, 1) := by decide +kernel
theorem dX2_beLate_7 : decode cX2_beLate 7 = .ok (.iconst 1, 1) := by decide +kernel
theorem dX2_beLate_8 : decode cX2_beLate 8 = .ok (.iadd, 1) := by decide +kernel
theorem dX2_beLate_9 : decode cX2_beLate 9 = .ok (.iastore, 1) := by decide +kernel
theorem dX2_beLate_10 : decode cX2_beLate 10 = .ok (.aload_n 0, 1) := by decide +kernel
theorem dX2_beLate_11 : decode cX2_beLate 11 = .ok (.getfield 44, 3) := by decide +kernel
theorem dX2_beLate_14 : decode cX2_beLate 14 = .ok (.iload_n 1, 1) := by decide +kernel
theorem dX2_beLate_15 : decode cX2_beLate 15 = .ok (.dup2, 1) := by decide +kernel
theorem dX2_beLate_16 : decode cX2_beLate 16 = .ok (.iaload, 1) := by decide +kernel
theorem dX2_beLate_17 : decode cX2_beLate 17 = .ok (.iconst 1, 1) := by decide +kernel
theorem dX2_beLate_18 : decode cX2_beLate 18 = .ok (.iadd, 1) := by decide +kernel
theorem dX2_beLate_19 : decode cX2_beLate 19 = .ok (.iastore, 1) := by decide +kernel
theorem dX2_beLate_20 : decode cX2_beLate 20 = .ok (.return_, 1) := by decide +kernel
theorem dX2_lieOnFloor_0 : decode cX2_lieOnFloor 0 = .ok (.aload_n 0, 1) := by decide +kernel
theorem dX2_lieOnFloor_1 : decode cX2_lieOnFloor 1 = .ok (.getfield 32, 3) := by decide +kernel
theorem dX2_lieOnFloor_4 : decode cX2_lieOnFloor 4 = .ok (.iload_n 1, 1) := by decide +kernel
theorem dX2_lieOnFloor_5 : decode cX2_lieOnFloor 5 = .ok (.iconst 2, 1) := by decide +kernel
theorem dX2_lieOnFloor_6 : decode cX2_lieOnFloor 6 = .ok (.iastore, 1) := by decide +kernel
theorem dX2_lieOnFloor_7 : decode cX2_lieOnFloor 7 = .ok (.aload_n 0, 1) := by decide +kernel
theorem dX2_lieOnFloor_8 : decode cX2_lieOnFloor 8 = .ok (.getfield 47, 3) := by decide +kernel
theorem dX2_lieOnFloor_11 : decode cX2_lieOnFloor 11 = .ok (.iload_n 1, 1) := by decide +kernel
theorem dX2_lieOnFloor_12 : decode cX2_lieOnFloor 12 = .ok (.dup2, 1) := by decide +kernel
theorem dX2_lieOnFloor_13 : decode cX2_lieOnFloor 13 = .ok (.iaload, 1) := by decide +kernel
theorem dX2_lieOnFloor_14 : decode cX2_lieOnFloor 14 = .ok (.iconst 1, 1) := by decide +kernel
theorem dX2_lieOnFloor_15 : decode cX2_lieOnFloor 15 = .ok (.iadd, 1) := by decide +kernel
theorem dX2_lieOnFloor_16 : decode cX2_lieOnFloor 16 = .ok (.iastore, 1) := by decide +kernel
theorem dX2_lieOnFloor_17 : decode cX2_lieOnFloor 17 = .ok (.return_, 1) := by decide +kernel
set_option maxRecDepth 20000 in
theorem ggX2_payWage_X2_hasBoots : GoodIn wsX2_payWage wsX2_hasBoots := goodIn_r _ [11, 12, 21, 22, 23, 24, 25, 26, 27, 28, 29, 30, 31, 32, 33] (by decide +kernel) (by decide +kernel)
set_option maxRecDepth 20000 in
theorem gX2_payWage_X2_hasBoots : GoodIn wsX2_payWage (wsV RX2 71 RX2 yX2_hasBoots wsX2_hasBoots) := goodIn_app (goodIn_of _ (by decide +kernel)) ggX2_payWage_X2_hasBoots
set_option maxRecDepth 20000 in
theorem ggX2_payWage_X2_earn : GoodIn wsX2_payWage wsX2_earn := goodIn_r _ [16, 17, 18, 19, 5, 20, 21, 22, 23, 24, 25, 26, 27, 28, 29, 30, 31, 32, 33] (by decide +kernel) (by decide +kernel)
set_option maxRecDepth 20000 in
theorem gX2_payWage_X2_earn : GoodIn wsX2_payWage (wsV RX2 78 RX2 yX2_earn wsX2_earn) := goodIn_app (goodIn_of _ (by decide +kernel)) ggX2_payWage_X2_earn
theorem dX2_payWage_0 : decode cX2_payWage 0 = .ok (.aload_n 0, 1) := by decide +kernel
theorem dX2_payWage_1 : decode cX2_payWage 1 = .ok (.iload_n 1, 1) := by decide +kernel
theorem dX2_payWage_2 : decode cX2_payWage 2 = .ok (.invokevirtual 71, 3) := by decide +kernel
theorem dX2_payWage_5 : decode cX2_payWage 5 = .ok (.ifCond .eq 12, 3) := by decide +kernel
theorem dX2_payWage_8 : decode cX2_payWage 8 = .ok (.aload_n 0, 1) := by decide +kernel
theorem dX2_payWage_9 : decode cX2_payWage 9 = .ok (.getfield 20, 3) := by decide +kernel
theorem dX2_payWage_12 : decode cX2_payWage 12 = .ok (.iload_n 1, 1) := by decide +kernel
theorem dX2_payWage_13 : decode cX2_payWage 13 = .ok (.iaload, 1) := by decide +kernel
theorem dX2_payWage_14 : decode cX2_payWage 14 = .ok (.goto 11, 3) := by decide +kernel
theorem dX2_payWage_17 : decode cX2_payWage 17 = .ok (.aload_n 0, 1) := by decide +kernel
theorem dX2_payWage_18 : decode cX2_payWage 18 = .ok (.getfield 20, 3) := by decide +kernel
theorem dX2_payWage_21 : decode cX2_payWage 21 = .ok (.iload_n 1, 1) := by decide +kernel
theorem dX2_payWage_22 : decode cX2_payWage 22 = .ok (.iaload, 1) := by decide +kernel
theorem dX2_payWage_23 : decode cX2_payWage 23 = .ok (.iconst 2, 1) := by decide +kernel
theorem dX2_payWage_24 : decode cX2_payWage 24 = .ok (.idiv, 1) := by decide +kernel
theorem dX2_payWage_25 : decode cX2_payWage 25 = .ok (.istore_n 2, 1) := by decide +kernel
theorem dX2_payWage_26 : decode cX2_payWage 26 = .ok (.aload_n 0, 1) := by decide +kernel
theorem dX2_payWage_27 : decode cX2_payWage 27 = .ok (.iload_n 1, 1) := by decide +kernel
theorem dX2_payWage_28 : decode cX2_payWage 28 = .ok (.iconst 0, 1) := by decide +kernel
theorem dX2_payWage_29 : decode cX2_payWage 29 = .ok (.iload_n 2, 1) := by decide +kernel
theorem dX2_payWage_30 : decode cX2_payWage 30 = .ok (.aload_n 0, 1) := by decide +kernel
theorem dX2_payWage_31 : decode cX2_payWage 31 = .ok (.getfield 44, 3) := by decide +kernel
theorem dX2_payWage_34 : decode cX2_payWage 34 = .ok (.iload_n 1, 1) := by decide +kernel
theorem dX2_payWage_35 : decode cX2_payWage 35 = .ok (.iaload, 1) := by decide +kernel
theorem dX2_payWage_36 : decode cX2_payWage 36 = .ok (.isub, 1) := by decide +kernel
theorem dX2_payWage_37 : decode cX2_payWage 37 = .ok (.invokestatic 75, 3) := by decide +kernel
theorem dX2_payWage_40 : decode cX2_payWage 40 = .ok (.invokevirtual 78, 3) := by decide +kernel
theorem dX2_payWage_43 : decode cX2_payWage 43 = .ok (.aload_n 0, 1) := by decide +kernel
theorem dX2_payWage_44 : decode cX2_payWage 44 = .ok (.getfield 44, 3) := by decide +kernel
theorem dX2_payWage_47 : decode cX2_payWage 47 = .ok (.iload_n 1, 1) := by decide +kernel
theorem dX2_payWage_48 : decode cX2_payWage 48 = .ok (.iconst 0, 1) := by decide +kernel
theorem dX2_payWage_49 : decode cX2_payWage 49 = .ok (.iastore, 1) := by decide +kernel
theorem dX2_payWage_50 : decode cX2_payWage 50 = .ok (.return_, 1) := by decide +kernel
theorem dX2_howManyAt_0 : decode cX2_howManyAt 0 = .ok (.iconst 0, 1) := by decide +kernel
theorem dX2_howManyAt_1 : decode cX2_howManyAt 1 = .ok (.istore_n 2, 1) := by decide +kernel
theorem dX2_howManyAt_2 : decode cX2_howManyAt 2 = .ok (.iconst 0, 1) := by decide +kernel
theorem dX2_howManyAt_3 : decode cX2_howManyAt 3 = .ok (.istore_n 3, 1) := by decide +kernel
theorem dX2_howManyAt_4 : decode cX2_howManyAt 4 = .ok (.iload_n 3, 1) := by decide +kernel
theorem dX2_howManyAt_5 : decode cX2_howManyAt 5 = .ok (.aload_n 0, 1) := by decide +kernel
theorem dX2_howManyAt_6 : decode cX2_howManyAt 6 = .ok (.getfield 7, 3) := by decide +kernel
theorem dX2_howManyAt_9 : decode cX2_howManyAt 9 = .ok (.if_icmp .ge 22, 3) := by decide +kernel
theorem dX2_howManyAt_12 : decode cX2_howManyAt 12 = .ok (.aload_n 0, 1) := by decide +kernel
theorem dX2_howManyAt_13 : decode cX2_howManyAt 13 = .ok (.getfield 32, 3) := by decide +kernel
theorem dX2_howManyAt_16 : decode cX2_howManyAt 16 = .ok (.iload_n 3, 1) := by decide +kernel
theorem dX2_howManyAt_17 : decode cX2_howManyAt 17 = .ok (.iaload, 1) := by decide +kernel
theorem dX2_howManyAt_18 : decode cX2_howManyAt 18 = .ok (.iload_n 1, 1) := by decide +kernel
theorem dX2_howManyAt_19 : decode cX2_howManyAt 19 = .ok (.if_icmp .ne 6, 3) := by decide +kernel
theorem dX2_howManyAt_22 : decode cX2_howManyAt 22 = .ok (.iinc 2 1, 3) := by decide +kernel
theorem dX2_howManyAt_25 : decode cX2_howManyAt 25 = .ok (.iinc 3 1, 3) := by decide +kernel
theorem dX2_howManyAt_28 : decode cX2_howManyAt 28 = .ok (.goto (-24), 3) := by decide +kernel
theorem dX2_howManyAt_31 : decode cX2_howManyAt 31 = .ok (.iload_n 2, 1) := by decide +kernel
theorem dX2_howManyAt_32 : decode cX2_howManyAt 32 = .ok (.ireturn, 1) := by decide +kernel
set_option maxRecDepth 20000 in
theorem ggX2_allRest_X2_sum : GoodIn wsX2_allRest wsX2_sum := goodIn_r _ [6, 7, 8, 9, 10, 11, 12, 13, 14, 15, 16, 17, 18, 19, 20] (by decide +kernel) (by decide +kernel)
set_option maxRecDepth 20000 in
theorem gX2_allRest_X2_sum : GoodIn wsX2_allRest (wsV RX2 82 RX2 yX2_sum wsX2_sum) := goodIn_app (goodIn_of _ (by decide +kernel)) ggX2_allRest_X2_sum
theorem dX2_allRest_0 : decode cX2_allRest 0 = .ok (.aload_n 0, 1) := by decide +kernel
theorem dX2_allRest_1 : decode cX2_allRest 1 = .ok (.aload_n 0, 1) := by decide +kernel
theorem dX2_allRest_2 : decode cX2_allRest 2 = .ok (.getfield 38, 3) := by decide +kernel
theorem dX2_allRest_5 : decode cX2_allRest 5 = .ok (.invokevirtual 82, 3) := by decide +kernel
theorem dX2_allRest_8 : decode cX2_allRest 8 = .ok (.ireturn, 1) := by decide +kernel
set_option maxRecDepth 20000 in
theorem ggX2_allLate_X2_sum : GoodIn wsX2_allLate wsX2_sum := goodIn_r _ [6, 7, 8, 9, 10, 11, 12, 13, 14, 15, 16, 17, 18, 19, 20] (by decide +kernel) (by decide +kernel)
set_option maxRecDepth 20000 in
theorem gX2_allLate_X2_sum : GoodIn wsX2_allLate (wsV RX2 82 RX2 yX2_sum wsX2_sum) := goodIn_app (goodIn_of _ (by decide +kernel)) ggX2_allLate_X2_sum
theorem dX2_allLate_0 : decode cX2_allLate 0 = .ok (.aload_n 0, 1) := by decide +kernel
theorem dX2_allLate_1 : decode cX2_allLate 1 = .ok (.aload_n 0, 1) := by decide +kernel
theorem dX2_allLate_2 : decode cX2_allLate 2 = .ok (.getfield 41, 3) := by decide +kernel
theorem dX2_allLate_5 : decode cX2_allLate 5 = .ok (.invokevirtual 82, 3) := by decide +kernel
theorem dX2_allLate_8 : decode cX2_allLate 8 = .ok (.ireturn, 1) := by decide +kernel
set_option maxRecDepth 20000 in
theorem ggX2_allFloors_X2_sum : GoodIn wsX2_allFloors wsX2_sum := goodIn_r _ [6, 7, 8, 9, 10, 11, 12, 13, 14, 15, 16, 17, 18, 19, 20] (by decide +kernel) (by decide +kernel)
set_option maxRecDepth 20000 in
theorem gX2_allFloors_X2_sum : GoodIn wsX2_allFloors (wsV RX2 82 RX2 yX2_sum wsX2_sum) := goodIn_app (goodIn_of _ (by decide +kernel)) ggX2_allFloors_X2_sum
theorem dX2_allFloors_0 : decode cX2_allFloors 0 = .ok (.aload_n 0, 1) := by decide +kernel
theorem dX2_allFloors_1 : decode cX2_allFloors 1 = .ok (.aload_n 0, 1) := by decide +kernel
theorem dX2_allFloors_2 : decode cX2_allFloors 2 = .ok (.getfield 47, 3) := by decide +kernel
theorem dX2_allFloors_5 : decode cX2_allFloors 5 = .ok (.invokevirtual 82, 3) := by decide +kernel
theorem dX2_allFloors_8 : decode cX2_allFloors 8 = .ok (.ireturn, 1) := by decide +kernel
theorem dX2_sum_0 : decode cX2_sum 0 = .ok (.iconst 0, 1) := by decide +kernel
theorem dX2_sum_1 : decode cX2_sum 1 = .ok (.istore_n 2, 1) := by decide +kernel
theorem dX2_sum_2 : decode cX2_sum 2 = .ok (.iconst 0, 1) := by decide +kernel
theorem dX2_sum_3 : decode cX2_sum 3 = .ok (.istore_n 3, 1) := by decide +kernel
theorem dX2_sum_4 : decode cX2_sum 4 = .ok (.iload_n 3, 1) := by decide +kernel
theorem dX2_sum_5 : decode cX2_sum 5 = .ok (.aload_n 0, 1) := by decide +kernel
theorem dX2_sum_6 : decode cX2_sum 6 = .ok (.getfield 7, 3) := by decide +kernel
theorem dX2_sum_9 : decode cX2_sum 9 = .ok (.if_icmp .ge 21, 3) := by decide +kernel
theorem dX2_sum_12 : decode cX2_sum 12 = .ok (.iload_n 3, 1) := by decide +kernel
theorem dX2_sum_13 : decode cX2_sum 13 = .ok (.aload_n 1, 1) := by decide +kernel
theorem dX2_sum_14 : decode cX2_sum 14 = .ok (.arraylength, 1) := by decide +kernel
theorem dX2_sum_15 : decode cX2_sum 15 = .ok (.if_icmp .ge 15, 3) := by decide +kernel
theorem dX2_sum_18 : decode cX2_sum 18 = .ok (.iload_n 2, 1) := by decide +kernel
theorem dX2_sum_19 : decode cX2_sum 19 = .ok (.aload_n 1, 1) := by decide +kernel
theorem dX2_sum_20 : decode cX2_sum 20 = .ok (.iload_n 3, 1) := by decide +kernel
theorem dX2_sum_21 : decode cX2_sum 21 = .ok (.iaload, 1) := by decide +kernel
theorem dX2_sum_22 : decode cX2_sum 22 = .ok (.iadd, 1) := by decide +kernel
theorem dX2_sum_23 : decode cX2_sum 23 = .ok (.istore_n 2, 1) := by decide +kernel
theorem dX2_sum_24 : decode cX2_sum 24 = .ok (.iinc 3 1, 3) := by decide +kernel
theorem dX2_sum_27 : decode cX2_sum 27 = .ok (.goto (-23), 3) := by decide +kernel
theorem dX2_sum_30 : decode cX2_sum 30 = .ok (.iload_n 2, 1) := by decide +kernel
theorem dX2_sum_31 : decode cX2_sum 31 = .ok (.ireturn, 1) := by decide +kernel
theorem dJ9_max_7cf53_0 : decode cJ9_max_7cf53 0 = .ok (.iload_n 0, 1) := by decide +kernel
theorem dJ9_max_7cf53_1 : decode cJ9_max_7cf53 1 = .ok (.iload_n 1, 1) := by decide +kernel
theorem dJ9_max_7cf53_2 : decode cJ9_max_7cf53 2 = .ok (.if_icmp .lt 7, 3) := by decide +kernel
theorem dJ9_max_7cf53_5 : decode cJ9_max_7cf53 5 = .ok (.iload_n 0, 1) := by decide +kernel
theorem dJ9_max_7cf53_6 : decode cJ9_max_7cf53 6 = .ok (.goto 4, 3) := by decide +kernel
theorem dJ9_max_7cf53_9 : decode cJ9_max_7cf53 9 = .ok (.iload_n 1, 1) := by decide +kernel
theorem dJ9_max_7cf53_10 : decode cJ9_max_7cf53 10 = .ok (.ireturn, 1) := by decide +kernel
theorem dJ9_min_7cf53_0 : decode cJ9_min_7cf53 0 = .ok (.iload_n 0, 1) := by decide +kernel
theorem dJ9_min_7cf53_1 : decode cJ9_min_7cf53 1 = .ok (.iload_n 1, 1) := by decide +kernel
theorem dJ9_min_7cf53_2 : decode cJ9_min_7cf53 2 = .ok (.if_icmp .gt 7, 3) := by decide +kernel
theorem dJ9_min_7cf53_5 : decode cJ9_min_7cf53 5 = .ok (.iload_n 0, 1) := by decide +kernel
theorem dJ9_min_7cf53_6 : decode cJ9_min_7cf53 6 = .ok (.goto 4, 3) := by decide +kernel
theorem dJ9_min_7cf53_9 : decode cJ9_min_7cf53 9 = .ok (.iload_n 1, 1) := by decide +kernel
theorem dJ9_min_7cf53_10 : decode cJ9_min_7cf53 10 = .ok (.ireturn, 1) := by decide +kernel
