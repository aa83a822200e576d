theorem dX4_init_0 : decode cX4_init 0 = .ok (.aload_n 0, 1) := by decide +kernel
theorem dX4_init_1 : decode cX4_init 1 = .ok (.invokespecial 1, 3) := by decide +kernel
theorem dX4_init_4 : decode cX4_init 4 = .ok (.aload_n 0, 1) := by decide +kernel
theorem dX4_init_5 : decode cX4_init 5 = .ok (.bipush 6, 2) := by decide +kernel
theorem dX4_init_7 : decode cX4_init 7 = .ok (.newarray .int, 2) := by decide +kernel
theorem dX4_init_9 : decode cX4_init 9 = .ok (.putfield 9, 3) := by decide +kernel
theorem dX4_init_12 : decode cX4_init 12 = .ok (.aload_n 0, 1) := by decide +kernel
theorem dX4_init_13 : decode cX4_init 13 = .ok (.bipush 10, 2) := by decide +kernel
theorem dX4_init_15 : decode cX4_init 15 = .ok (.newarray .int, 2) := by decide +kernel
theorem dX4_init_17 : decode cX4_init 17 = .ok (.putfield 13, 3) := by decide +kernel
theorem dX4_init_20 : decode cX4_init 20 = .ok (.aload_n 0, 1) := by decide +kernel
theorem dX4_init_21 : decode cX4_init 21 = .ok (.bipush 10, 2) := by decide +kernel
theorem dX4_init_23 : decode cX4_init 23 = .ok (.newarray .int, 2) := by decide +kernel
theorem dX4_init_25 : decode cX4_init 25 = .ok (.putfield 16, 3) := by decide +kernel
theorem dX4_init_28 : decode cX4_init 28 = .ok (.aload_n 0, 1) := by decide +kernel
theorem dX4_init_29 : decode cX4_init 29 = .ok (.sipush 138, 3) := by decide +kernel
theorem dX4_init_32 : decode cX4_init 32 = .ok (.newarray .int, 2) := by decide +kernel
theorem dX4_init_34 : decode cX4_init 34 = .ok (.putfield 19, 3) := by decide +kernel
theorem dX4_init_37 : decode cX4_init 37 = .ok (.aload_n 0, 1) := by decide +kernel
theorem dX4_init_38 : decode cX4_init 38 = .ok (.sipush 138, 3) := by decide +kernel
theorem dX4_init_41 : decode cX4_init 41 = .ok (.newarray .int, 2) := by decide +kernel
theorem dX4_init_43 : decode cX4_init 43 = .ok (.putfield 22, 3) := by decide +kernel
theorem dX4_init_46 : decode cX4_init 46 = .ok (.aload_n 0, 1) := by decide +kernel
theorem dX4_init_47 : decode cX4_init 47 = .ok (.getfield 19, 3) := by decide +kernel
theorem dX4_init_50 : decode cX4_init 50 = .ok (.iconst 1, 1) := by decide +kernel
theorem dX4_init_51 : decode cX4_init 51 = .ok (.iconst 5, 1) := by decide +kernel
theorem dX4_init_52 : decode cX4_init 52 = .ok (.iastore, 1) := by decide +kernel
theorem dX4_init_53 : decode cX4_init 53 = .ok (.aload_n 0, 1) := by decide +kernel
theorem dX4_init_54 : decode cX4_init 54 = .ok (.getfield 19, 3) := by decide +kernel
theorem dX4_init_57 : decode cX4_init 57 = .ok (.iconst 2, 1) := by decide +kernel
theorem dX4_init_58 : decode cX4_init 58 = .ok (.bipush 6, 2) := by decide +kernel
theorem dX4_init_60 : decode cX4_init 60 = .ok (.iastore, 1) := by decide +kernel
theorem dX4_init_61 : decode cX4_init 61 = .ok (.return_, 1) := by decide +kernel
theorem dX4_thrown_0 : decode cX4_thrown 0 = .ok (.aload_n 0, 1) := by decide +kernel
theorem dX4_thrown_1 : decode cX4_thrown 1 = .ok (.getfield 25, 3) := by decide +kernel
theorem dX4_thrown_4 : decode cX4_thrown 4 = .ok (.ireturn, 1) := by decide +kernel
theorem dX4_fail_0 : decode cX4_fail 0 = .ok (.aload_n 0, 1) := by decide +kernel
theorem dX4_fail_1 : decode cX4_fail 1 = .ok (.iload_n 1, 1) := by decide +kernel
theorem dX4_fail_2 : decode cX4_fail 2 = .ok (.putfield 25, 3) := by decide +kernel
theorem dX4_fail_5 : decode cX4_fail 5 = .ok (.iconst 0, 1) := by decide +kernel
theorem dX4_fail_6 : decode cX4_fail 6 = .ok (.ireturn, 1) := by decide +kernel
theorem dX4_isIn_0 : decode cX4_isIn 0 = .ok (.iload_n 0, 1) := by decide +kernel
theorem dX4_isIn_1 : decode cX4_isIn 1 = .ok (.iload_n 1, 1) := by decide +kernel
theorem dX4_isIn_2 : decode cX4_isIn 2 = .ok (.if_icmp .lt 12, 3) := by decide +kernel
theorem dX4_isIn_5 : decode cX4_isIn 5 = .ok (.iload_n 0, 1) := by decide +kernel
theorem dX4_isIn_6 : decode cX4_isIn 6 = .ok (.iload_n 2, 1) := by decide +kernel
theorem dX4_isIn_7 : decode cX4_isIn 7 = .ok (.if_icmp .gt 7, 3) := by decide +kernel
theorem dX4_isIn_10 : decode cX4_isIn 10 = .ok (.iconst 1, 1) := by decide +kernel
theorem dX4_isIn_11 : decode cX4_isIn 11 = .ok (.goto 4, 3) := by decide +kernel
theorem dX4_isIn_14 : decode cX4_isIn 14 = .ok (.iconst 0, 1) := by decide +kernel
theorem dX4_isIn_15 : decode cX4_isIn 15 = .ok (.ireturn, 1) := by decide +kernel
set_option maxRecDepth 20000 in
theorem ggX4_isBed_X4_isIn : GoodIn wsX4_isBed wsX4_isIn := goodIn_r _ [5] (by decide +kernel) (by decide +kernel)
set_option maxRecDepth 20000 in
theorem gX4_isBed_X4_isIn : GoodIn wsX4_isBed (va_wsS RX4 32 yX4_isIn wsX4_isIn) := goodIn_app (goodIn_of _ (by decide +kernel)) ggX4_isBed_X4_isIn
theorem dX4_isBed_0 : decode cX4_isBed 0 = .ok (.iload_n 1, 1) := by decide +kernel
theorem dX4_isBed_1 : decode cX4_isBed 1 = .ok (.iconst 0, 1) := by decide +kernel
theorem dX4_isBed_2 : decode cX4_isBed 2 = .ok (.aload_n 0, 1) := by decide +kernel
theorem dX4_isBed_3 : decode cX4_isBed 3 = .ok (.getfield 29, 3) := by decide +kernel
theorem dX4_isBed_6 : decode cX4_isBed 6 = .ok (.iconst 1, 1) := by decide +kernel
theorem dX4_isBed_7 : decode cX4_isBed 7 = .ok (.isub, 1) := by decide +kernel
theorem dX4_isBed_8 : decode cX4_isBed 8 = .ok (.invokestatic 32, 3) := by decide +kernel
theorem dX4_isBed_11 : decode cX4_isBed 11 = .ok (.ireturn, 1) := by decide +kernel
set_option maxRecDepth 20000 in
theorem ggX4_isSailor_X4_isIn : GoodIn wsX4_isSailor wsX4_isIn := goodIn_r _ [5] (by decide +kernel) (by decide +kernel)
set_option maxRecDepth 20000 in
theorem gX4_isSailor_X4_isIn : GoodIn wsX4_isSailor (va_wsS RX4 32 yX4_isIn wsX4_isIn) := goodIn_app (goodIn_of _ (by decide +kernel)) ggX4_isSailor_X4_isIn
theorem dX4_isSailor_0 : decode cX4_isSailor 0 = .ok (.iload_n 1, 1) := by decide +kernel
theorem dX4_isSailor_1 : decode cX4_isSailor 1 = .ok (.iconst 0, 1) := by decide +kernel
theorem dX4_isSailor_2 : decode cX4_isSailor 2 = .ok (.aload_n 0, 1) := by decide +kernel
theorem dX4_isSailor_3 : decode cX4_isSailor 3 = .ok (.getfield 36, 3) := by decide +kernel
theorem dX4_isSailor_6 : decode cX4_isSailor 6 = .ok (.iconst 1, 1) := by decide +kernel
theorem dX4_isSailor_7 : decode cX4_isSailor 7 = .ok (.isub, 1) := by decide +kernel
theorem dX4_isSailor_8 : decode cX4_isSailor 8 = .ok (.invokestatic 32, 3) := by decide +kernel
theorem dX4_isSailor_11 : decode cX4_isSailor 11 = .ok (.ireturn, 1) := by decide +kernel
theorem dX4_be_0 : decode cX4_be 0 = .ok (.aload_n 0, 1) := by decide +kernel
theorem dX4_be_1 : decode cX4_be 1 = .ok (.getfield 19, 3) := by decide +kernel
theorem dX4_be_4 : decode cX4_be 4 = .ok (.iconst 4, 1) := by decide +kernel
theorem dX4_be_5 : decode cX4_be 5 = .ok (.iconst 4, 1) := by decide +kernel
theorem dX4_be_6 : decode cX4_be 6 = .ok (.iload_n 1, 1) := by decide +kernel
theorem dX4_be_7 : decode cX4_be 7 = .ok (.imul, 1) := by decide +kernel
theorem dX4_be_8 : decode cX4_be 8 = .ok (.iadd, 1) := by decide +kernel
theorem dX4_be_9 : decode cX4_be 9 = .ok (.iload_n 2, 1) := by decide +kernel
theorem dX4_be_10 : decode cX4_be 10 = .ok (.iadd, 1) := by decide +kernel
theorem dX4_be_11 : decode cX4_be 11 = .ok (.iaload, 1) := by decide +kernel
theorem dX4_be_12 : decode cX4_be 12 = .ok (.ireturn, 1) := by decide +kernel
theorem dX4_letBed_0 : decode cX4_letBed 0 = .ok (.aload_n 0, 1) := by decide +kernel
theorem dX4_letBed_1 : decode cX4_letBed 1 = .ok (.getfield 19, 3) := by decide +kernel
theorem dX4_letBed_4 : decode cX4_letBed 4 = .ok (.iconst 4, 1) := by decide +kernel
theorem dX4_letBed_5 : decode cX4_letBed 5 = .ok (.iconst 4, 1) := by decide +kernel
theorem dX4_letBed_6 : decode cX4_letBed 6 = .ok (.iload_n 1, 1) := by decide +kernel
theorem dX4_letBed_7 : decode cX4_letBed 7 = .ok (.imul, 1) := by decide +kernel
theorem dX4_letBed_8 : decode cX4_letBed 8 = .ok (.iadd, 1) := by decide +kernel
theorem dX4_letBed_9 : decode cX4_letBed 9 = .ok (.iload_n 2, 1) := by decide +kernel
theorem dX4_letBed_10 : decode cX4_letBed 10 = .ok (.iadd, 1) := by decide +kernel
theorem dX4_letBed_11 : decode cX4_letBed 11 = .ok (.iload_n 3, 1) := by decide +kernel
theorem dX4_letBed_12 : decode cX4_letBed 12 = .ok (.iastore, 1) := by decide +kernel
theorem dX4_letBed_13 : decode cX4_letBed 13 = .ok (.return_, 1) := by decide +kernel
theorem dX4_sa_0 : decode cX4_sa 0 = .ok (.aload_n 0, 1) := by decide +kernel
theorem dX4_sa_1 : decode cX4_sa 1 = .ok (.getfield 19, 3) := by decide +kernel
theorem dX4_sa_4 : decode cX4_sa 4 = .ok (.bipush 28, 2) := by decide +kernel
theorem dX4_sa_6 : decode cX4_sa 6 = .ok (.bipush 11, 2) := by decide +kernel
theorem dX4_sa_8 : decode cX4_sa 8 = .ok (.iload_n 1, 1) := by decide +kernel
theorem dX4_sa_9 : decode cX4_sa 9 = .ok (.imul, 1) := by decide +kernel
theorem dX4_sa_10 : decode cX4_sa 10 = .ok (.iadd, 1) := by decide +kernel
theorem dX4_sa_11 : decode cX4_sa 11 = .ok (.iload_n 2, 1) := by decide +kernel
theorem dX4_sa_12 : decode cX4_sa 12 = .ok (.iadd, 1) := by decide +kernel
theorem dX4_sa_13 : decode cX4_sa 13 = .ok (.iaload, 1) := by decide +kernel
theorem dX4_sa_14 : decode cX4_sa 14 = .ok (.ireturn, 1) := by decide +kernel
theorem dX4_let_0 : decode cX4_let 0 = .ok (.aload_n 0, 1) := by decide +kernel
theorem dX4_let_1 : decode cX4_let 1 = .ok (.getfield 19, 3) := by decide +kernel
theorem dX4_let_4 : decode cX4_let 4 = .ok (.bipush 28, 2) := by decide +kernel
theorem dX4_let_6 : decode cX4_let 6 = .ok (.bipush 11, 2) := by decide +kernel
theorem dX4_let_8 : decode cX4_let 8 = .ok (.iload_n 1, 1) := by decide +kernel
theorem dX4_let_9 : decode cX4_let 9 = .ok (.imul, 1) := by decide +kernel
theorem dX4_let_10 : decode cX4_let 10 = .ok (.iadd, 1) := by decide +kernel
theorem dX4_let_11 : decode cX4_let 11 = .ok (.iload_n 2, 1) := by decide +kernel
theorem dX4_let_12 : decode cX4_let 12 = .ok (.iadd, 1) := by decide +kernel
theorem dX4_let_13 : decode cX4_let 13 = .ok (.iload_n 3, 1) := by decide +kernel
theorem dX4_let_14 : decode cX4_let 14 = .ok (.iastore, 1) := by decide +kernel
theorem dX4_let_15 : decode cX4_let 15 = .ok (.return_, 1) := by decide +kernel
theorem dX4_more_0 : decode cX4_more 0 = .ok (.aload_n 0, 1) := by decide +kernel
theorem dX4_more_1 : decode cX4_more 1 = .ok (.getfield 19, 3) := by decide +kernel
theorem dX4_more_4 : decode cX4_more 4 = .ok (.bipush 28, 2) := by decide +kernel
theorem dX4_more_6 : decode cX4_more 6 = .ok (.bipush 11, 2) := by decide +kernel
theorem dX4_more_8 : decode cX4_more 8 = .ok (.iload_n 1, 1) := by decide +kernel
theorem dX4_more_9 : decode cX4_more 9 = .ok (.imul, 1) := by decide +kernel
theorem dX4_more_10 : decode cX4_more 10 = .ok (.iadd, 1) := by decide +kernel
theorem dX4_more_11 : decode cX4_more 11 = .ok (.iload_n 2, 1) := by decide +kernel
theorem dX4_more_12 : decode cX4_more 12 = .ok (.iadd, 1) := by decide +kernel
theorem dX4_more_13 : decode cX4_more 13 = .ok (.dup2, 1) := by decide +kernel
theorem dX4_more_14 : decode cX4_more 14 = .ok (.iaload, 1) := by decide +kernel
theorem dX4_more_15 : decode cX4_more 15 = .ok (.iload_n 3, 1) := by decide +kernel
theorem dX4_more_16 : decode cX4_more 16 = .ok (.iadd, 1) := by decide +kernel
theorem dX4_more_17 : decode cX4_more 17 = .ok (.iastore, 1) := by decide +kernel
theorem dX4_more_18 : decode cX4_more 18 = .ok (.return_, 1) := by decide +kernel
theorem dX4_keep_0 : decode cX4_keep 0 = .ok (.aload_n 0, 1) := by decide +kernel
theorem dX4_keep_1 : decode cX4_keep 1 = .ok (.getfield 19, 3) := by decide +kernel
theorem dX4_keep_4 : decode cX4_keep 4 = .ok (.iconst 0, 1) := by decide +kernel
theorem dX4_keep_5 : decode cX4_keep 5 = .ok (.aload_n 0, 1) := by decide +kernel
theorem dX4_keep_6 : decode cX4_keep 6 = .ok (.getfield 22, 3) := by decide +kernel
theorem dX4_keep_9 : decode cX4_keep 9 = .ok (.iconst 0, 1) := by decide +kernel
theorem dX4_keep_10 : decode cX4_keep 10 = .ok (.sipush 138, 3) := by decide +kernel
theorem dX4_keep_13 : decode cX4_keep 13 = .ok (.invokestatic 39, 3) := by decide +kernel
theorem dX4_keep_16 : decode cX4_keep 16 = .ok (.return_, 1) := by decide +kernel
theorem dX4_bringBack_0 : decode cX4_bringBack 0 = .ok (.aload_n 0, 1) := by decide +kernel
theorem dX4_bringBack_1 : decode cX4_bringBack 1 = .ok (.getfield 22, 3) := by decide +kernel
theorem dX4_bringBack_4 : decode cX4_bringBack 4 = .ok (.iconst 0, 1) := by decide +kernel
theorem dX4_bringBack_5 : decode cX4_bringBack 5 = .ok (.aload_n 0, 1) := by decide +kernel
theorem dX4_bringBack_6 : decode cX4_bringBack 6 = .ok (.getfield 19, 3) := by decide +kernel
theorem dX4_bringBack_9 : decode cX4_bringBack 9 = .ok (.iconst 0, 1) := by decide +kernel
theorem dX4_bringBack_10 : decode cX4_bringBack 10 = .ok (.sipush 138, 3) := by decide +kernel
theorem dX4_bringBack_13 : decode cX4_bringBack 13 = .ok (.invokestatic 39, 3) := by decide +kernel
theorem dX4_bringBack_16 : decode cX4_bringBack 16 = .ok (.return_, 1) := by decide +kernel
theorem dX4_watch_0 : decode cX4_watch 0 = .ok (.aload_n 0, 1) := by decide +kernel
theorem dX4_watch_1 : decode cX4_watch 1 = .ok (.getfield 19, 3) := by decide +kernel
theorem dX4_watch_4 : decode cX4_watch 4 = .ok (.iconst 0, 1) := by decide +kernel
theorem dX4_watch_5 : decode cX4_watch 5 = .ok (.iaload, 1) := by decide +kernel
theorem dX4_watch_6 : decode cX4_watch 6 = .ok (.bipush 8, 2) := by decide +kernel
theorem dX4_watch_8 : decode cX4_watch 8 = .ok (.idiv, 1) := by decide +kernel
theorem dX4_watch_9 : decode cX4_watch 9 = .ok (.iconst 3, 1) := by decide +kernel
theorem dX4_watch_10 : decode cX4_watch 10 = .ok (.irem, 1) := by decide +kernel
theorem dX4_watch_11 : decode cX4_watch 11 = .ok (.ireturn, 1) := by decide +kernel
set_option maxRecDepth 20000 in
theorem ggX4_bed_X4_isIn : GoodIn wsX4_bed wsX4_isIn := goodIn_r _ [7] (by decide +kernel) (by decide +kernel)
set_option maxRecDepth 20000 in
theorem gX4_bed_X4_isIn : GoodIn wsX4_bed (va_wsS RX4 32 yX4_isIn wsX4_isIn) := goodIn_app (goodIn_of _ (by decide +kernel)) ggX4_bed_X4_isIn
set_option maxRecDepth 20000 in
theorem ggX4_bed_X4_fail : GoodIn wsX4_bed wsX4_fail := goodIn_r _ [11, 1, 17, 18, 19, 20, 21, 22, 23, 24] (by decide +kernel) (by decide +kernel)
set_option maxRecDepth 20000 in
theorem gX4_bed_X4_fail : GoodIn wsX4_bed (wsV RX4 45 RX4 yX4_fail wsX4_fail) := goodIn_app (goodIn_of _ (by decide +kernel)) ggX4_bed_X4_fail
set_option maxRecDepth 20000 in
theorem ggX4_bed_X4_letBed : GoodIn wsX4_bed wsX4_letBed := goodIn_r _ [15, 16, 17, 18, 19, 20, 21, 22, 23, 24] (by decide +kernel) (by decide +kernel)
set_option maxRecDepth 20000 in
theorem gX4_bed_X4_letBed : GoodIn wsX4_bed (wsV RX4 49 RX4 yX4_letBed wsX4_letBed) := goodIn_app (goodIn_of _ (by decide +kernel)) ggX4_bed_X4_letBed
theorem dX4_bed_0 : decode cX4_bed 0 = .ok (.aload_n 0, 1) := by decide +kernel
theorem dX4_bed_1 : decode cX4_bed 1 = .ok (.iconst 0, 1) := by decide +kernel
theorem dX4_bed_2 : decode cX4_bed 2 = .ok (.putfield 25, 3) := by decide +kernel
theorem dX4_bed_5 : decode cX4_bed 5 = .ok (.iload_n 1, 1) := by decide +kernel
theorem dX4_bed_6 : decode cX4_bed 6 = .ok (.iconst 0, 1) := by decide +kernel
theorem dX4_bed_7 : decode cX4_bed 7 = .ok (.bipush 9, 2) := by decide +kernel
theorem dX4_bed_9 : decode cX4_bed 9 = .ok (.invokestatic 32, 3) := by decide +kernel
theorem dX4_bed_12 : decode cX4_bed 12 = .ok (.ifCond .ne 9, 3) := by decide +kernel
theorem dX4_bed_15 : decode cX4_bed 15 = .ok (.aload_n 0, 1) := by decide +kernel
theorem dX4_bed_16 : decode cX4_bed 16 = .ok (.iconst 1, 1) := by decide +kernel
theorem dX4_bed_17 : decode cX4_bed 17 = .ok (.invokevirtual 45, 3) := by decide +kernel
theorem dX4_bed_20 : decode cX4_bed 20 = .ok (.ireturn, 1) := by decide +kernel
theorem dX4_bed_21 : decode cX4_bed 21 = .ok (.aload_n 0, 1) := by decide +kernel
theorem dX4_bed_22 : decode cX4_bed 22 = .ok (.getfield 29, 3) := by decide +kernel
theorem dX4_bed_25 : decode cX4_bed 25 = .ok (.bipush 6, 2) := by decide +kernel
theorem dX4_bed_27 : decode cX4_bed 27 = .ok (.if_icmp .ne 9, 3) := by decide +kernel
theorem dX4_bed_30 : decode cX4_bed 30 = .ok (.aload_n 0, 1) := by decide +kernel
theorem dX4_bed_31 : decode cX4_bed 31 = .ok (.iconst 2, 1) := by decide +kernel
theorem dX4_bed_32 : decode cX4_bed 32 = .ok (.invokevirtual 45, 3) := by decide +kernel
theorem dX4_bed_35 : decode cX4_bed 35 = .ok (.ireturn, 1) := by decide +kernel
theorem dX4_bed_36 : decode cX4_bed 36 = .ok (.aload_n 0, 1) := by decide +kernel
theorem dX4_bed_37 : decode cX4_bed 37 = .ok (.getfield 9, 3) := by decide +kernel
theorem dX4_bed_40 : decode cX4_bed 40 = .ok (.aload_n 0, 1) := by decide +kernel
theorem dX4_bed_41 : decode cX4_bed 41 = .ok (.getfield 29, 3) := by decide +kernel
theorem dX4_bed_44 : decode cX4_bed 44 = .ok (.iload_n 1, 1) := by decide +kernel
theorem dX4_bed_45 : decode cX4_bed 45 = .ok (.iastore, 1) := by decide +kernel
theorem dX4_bed_46 : decode cX4_bed 46 = .ok (.aload_n 0, 1) := by decide +kernel
theorem dX4_bed_47 : decode cX4_bed 47 = .ok (.aload_n 0, 1) := by decide +kernel
theorem dX4_bed_48 : decode cX4_bed 48 = .ok (.getfield 29, 3) := by decide +kernel
theorem dX4_bed_51 : decode cX4_bed 51 = .ok (.iconst 3, 1) := by decide +kernel
theorem dX4_bed_52 : decode cX4_bed 52 = .ok (.iconst (-1), 1) := by decide +kernel
theorem dX4_bed_53 : decode cX4_bed 53 = .ok (.invokevirtual 49, 3) := by decide +kernel
theorem dX4_bed_56 : decode cX4_bed 56 = .ok (.aload_n 0, 1) := by decide +kernel
theorem dX4_bed_57 : decode cX4_bed 57 = .ok (.dup, 1) := by decide +kernel
theorem dX4_bed_58 : decode cX4_bed 58 = .ok (.getfield 29, 3) := by decide +kernel
theorem dX4_bed_61 : decode cX4_bed 61 = .ok (.iconst 1, 1) := by decide +kernel
theorem dX4_bed_62 : decode cX4_bed 62 = .ok (.iadd, 1) := by decide +kernel
theorem dX4_bed_63 : decode cX4_bed 63 = .ok (.putfield 29, 3) := by decide +kernel
theorem dX4_bed_66 : decode cX4_bed 66 = .ok (.aload_n 0, 1) := by decide +kernel
theorem dX4_bed_67 : decode cX4_bed 67 = .ok (.getfield 29, 3) := by decide +kernel
theorem dX4_bed_70 : decode cX4_bed 70 = .ok (.iconst 1, 1) := by decide +kernel
theorem dX4_bed_71 : decode cX4_bed 71 = .ok (.isub, 1) := by decide +kernel
theorem dX4_bed_72 : decode cX4_bed 72 = .ok (.ireturn, 1) := by decide +kernel
set_option maxRecDepth 20000 in
theorem ggX4_sailor_X4_isIn : GoodIn wsX4_sailor wsX4_isIn := goodIn_r _ [8] (by decide +kernel) (by decide +kernel)
set_option maxRecDepth 20000 in
theorem gX4_sailor_X4_isIn : GoodIn wsX4_sailor (va_wsS RX4 32 yX4_isIn wsX4_isIn) := goodIn_app (goodIn_of _ (by decide +kernel)) ggX4_sailor_X4_isIn
set_option maxRecDepth 20000 in
theorem ggX4_sailor_X4_fail : GoodIn wsX4_sailor wsX4_fail := goodIn_r _ [12, 1, 18, 19, 20, 21, 22, 23, 24, 25] (by decide +kernel) (by decide +kernel)
set_option maxRecDepth 20000 in
theorem gX4_sailor_X4_fail : GoodIn wsX4_sailor (wsV RX4 45 RX4 yX4_fail wsX4_fail) := goodIn_app (goodIn_of _ (by decide +kernel)) ggX4_sailor_X4_fail
set_option maxRecDepth 20000 in
theorem ggX4_sailor_X4_let : GoodIn wsX4_sailor wsX4_let := goodIn_r _ [16, 17, 18, 19, 20, 21, 22, 23, 24, 25] (by decide +kernel) (by decide +kernel)
set_option maxRecDepth 20000 in
theorem gX4_sailor_X4_let : GoodIn wsX4_sailor (wsV RX4 53 RX4 yX4_let wsX4_let) := goodIn_app (goodIn_of _ (by decide +kernel)) ggX4_sailor_X4_let
theorem dX4_sailor_0 : decode cX4_sailor 0 = .ok (.aload_n 0, 1) := by decide +kernel
theorem dX4_sailor_1 : decode cX4_sailor 1 = .ok (.iconst 0, 1) := by decide +kernel
theorem dX4_sailor_2 : decode cX4_sailor 2 = .ok (.putfield 25, 3) := by decide +kernel
theorem dX4_sailor_5 : decode cX4_sailor 5 = .ok (.iload_n 1, 1) := by decide +kernel
theorem dX4_sailor_6 : decode cX4_sailor 6 = .ok (.iconst 0, 1) := by decide +kernel
theorem dX4_sailor_7 : decode cX4_sailor 7 = .ok (.iconst 2, 1) := by decide +kernel
theorem dX4_sailor_8 : decode cX4_sailor 8 = .ok (.invokestatic 32, 3) := by decide +kernel
theorem dX4_sailor_11 : decode cX4_sailor 11 = .ok (.ifCond .ne 9, 3) := by decide +kernel
theorem dX4_sailor_14 : decode cX4_sailor 14 = .ok (.aload_n 0, 1) := by decide +kernel
theorem dX4_sailor_15 : decode cX4_sailor 15 = .ok (.iconst 1, 1) := by decide +kernel
theorem dX4_sailor_16 : decode cX4_sailor 16 = .ok (.invokevirtual 45, 3) := by decide +kernel
theorem dX4_sailor_19 : decode cX4_sailor 19 = .ok (.ireturn, 1) := by decide +kernel
theorem dX4_sailor_20 : decode cX4_sailor 20 = .ok (.iload_n 2, 1) := by decide +kernel
theorem dX4_sailor_21 : decode cX4_sailor 21 = .ok (.iconst 0, 1) := by decide +kernel
theorem dX4_sailor_22 : decode cX4_sailor 22 = .ok (.bipush 9, 2) := by decide +kernel
theorem dX4_sailor_24 : decode cX4_sailor 24 = .ok (.invokestatic 32, 3) := by decide +kernel
theorem dX4_sailor_27 : decode cX4_sailor 27 = .ok (.ifCond .eq 24, 3) := by decide +kernel
theorem dX4_sailor_30 : decode cX4_sailor 30 = .ok (.iload_n 3, 1) := by decide +kernel
theorem dX4_sailor_31 : decode cX4_sailor 31 = .ok (.iconst 0, 1) := by decide +kernel
theorem dX4_sailor_32 : decode cX4_sailor 32 = .ok (.bipush 20, 2) := by decide +kernel
theorem dX4_sailor_34 : decode cX4_sailor 34 = .ok (.invokestatic 32, 3) := by decide +kernel
theorem dX4_sailor_37 : decode cX4_sailor 37 = .ok (.ifCond .eq 14, 3) := by decide +kernel
theorem dX4_sailor_40 : decode cX4_sailor 40 = .ok (.iload 4, 2) := by decide +kernel
theorem dX4_sailor_42 : decode cX4_sailor 42 = .ok (.iconst 0, 1) := by decide +kernel
theorem dX4_sailor_43 : decode cX4_sailor 43 = .ok (.bipush 99, 2) := by decide +kernel
theorem dX4_sailor_45 : decode cX4_sailor 45 = .ok (.invokestatic 32, 3) := by decide +kernel
theorem dX4_sailor_48 : decode cX4_sailor 48 = .ok (.ifCond .ne 9, 3) := by decide +kernel
theorem dX4_sailor_51 : decode cX4_sailor 51 = .ok (.aload_n 0, 1) := by decide +kernel
theorem dX4_sailor_52 : decode cX4_sailor 52 = .ok (.iconst 2, 1) := by decide +kernel
theorem dX4_sailor_53 : decode cX4_sailor 53 = .ok (.invokevirtual 45, 3) := by decide +kernel
theorem dX4_sailor_56 : decode cX4_sailor 56 = .ok (.ireturn, 1) := by decide +kernel
theorem dX4_sailor_57 : decode cX4_sailor 57 = .ok (.aload_n 0, 1) := by decide +kernel
theorem dX4_sailor_58 : decode cX4_sailor 58 = .ok (.getfield 36, 3) := by decide +kernel
theorem dX4_sailor_61 : decode cX4_sailor 61 = .ok (.bipush 10, 2) := by decide +kernel
theorem dX4_sailor_63 : decode cX4_sailor 63 = .ok (.if_icmp .ne 9, 3) := by decide +kernel
theorem dX4_sailor_66 : decode cX4_sailor 66 = .ok (.aload_n 0, 1) := by decide +kernel
theorem dX4_sailor_67 : decode cX4_sailor 67 = .ok (.iconst 3, 1) := by decide +kernel
theorem dX4_sailor_68 : decode cX4_sailor 68 = .ok (.invokevirtual 45, 3) := by decide +kernel
theorem dX4_sailor_71 : decode cX4_sailor 71 = .ok (.ireturn, 1) := by decide +kernel
theorem dX4_sailor_72 : decode cX4_sailor 72 = .ok (.aload_n 0, 1) := by decide +kernel
theorem dX4_sailor_73 : decode cX4_sailor 73 = .ok (.getfield 13, 3) := by decide +kernel
theorem dX4_sailor_76 : decode cX4_sailor 76 = .ok (.aload_n 0, 1) := by decide +kernel
theorem dX4_sailor_77 : decode cX4_sailor 77 = .ok (.getfield 36, 3) := by decide +kernel
theorem dX4_sailor_80 : decode cX4_sailor 80 = .ok (.iload_n 2, 1) := by decide +kernel
theorem dX4_sailor_81 : decode cX4_sailor 81 = .ok (.iastore, 1) := by decide +kernel
theorem dX4_sailor_82 : decode cX4_sailor 82 = .ok (.aload_n 0, 1) := by decide +kernel
theorem dX4_sailor_83 : decode cX4_sailor 83 = .ok (.getfield 16, 3) := by decide +kernel
theorem dX4_sailor_86 : decode cX4_sailor 86 = .ok (.aload_n 0, 1) := by decide +kernel
theorem dX4_sailor_87 : decode cX4_sailor 87 = .ok (.getfield 36, 3) := by decide +kernel
theorem dX4_sailor_90 : decode cX4_sailor 90 = .ok (.iload_n 3, 1) := by decide +kernel
theorem dX4_sailor_91 : decode cX4_sailor 91 = .ok (.iastore, 1) := by decide +kernel
theorem dX4_sailor_92 : decode cX4_sailor 92 = .ok (.aload_n 0, 1) := by decide +kernel
theorem dX4_sailor_93 : decode cX4_sailor 93 = .ok (.aload_n 0, 1) := by decide +kernel
theorem dX4_sailor_94 : decode cX4_sailor 94 = .ok (.getfield 36, 3) := by decide +kernel
theorem dX4_sailor_97 : decode cX4_sailor 97 = .ok (.iconst 0, 1) := by decide +kernel
theorem dX4_sailor_98 : decode cX4_sailor 98 = .ok (.iload_n 1, 1) := by decide +kernel
theorem dX4_sailor_99 : decode cX4_sailor 99 = .ok (.invokevirtual 53, 3) := by decide +kernel
theorem dX4_sailor_102 : decode cX4_sailor 102 = .ok (.aload_n 0, 1) := by decide +kernel
theorem dX4_sailor_103 : decode cX4_sailor 103 = .ok (.aload_n 0, 1) := by decide +kernel
theorem dX4_sailor_104 : decode cX4_sailor 104 = .ok (.getfield 36, 3) := by decide +kernel
theorem dX4_sailor_107 : decode cX4_sailor 107 = .ok (.iconst 1, 1) := by decide +kernel
theorem dX4_sailor_108 : decode cX4_sailor 108 = .ok (.iload 4, 2) := by decide +kernel
theorem dX4_sailor_110 : decode cX4_sailor 110 = .ok (.invokevirtual 53, 3) := by decide +kernel
theorem dX4_sailor_113 : decode cX4_sailor 113 = .ok (.aload_n 0, 1) := by decide +kernel
theorem dX4_sailor_114 : decode cX4_sailor 114 = .ok (.aload_n 0, 1) := by decide +kernel
theorem dX4_sailor_115 : decode cX4_sailor 115 = .ok (.getfield 36, 3) := by decide +kernel
theorem dX4_sailor_118 : decode cX4_sailor 118 = .ok (.iconst 2, 1) := by decide +kernel
theorem dX4_sailor_119 : decode cX4_sailor 119 = .ok (.iconst 1, 1) := by decide +kernel
theorem dX4_sailor_120 : decode cX4_sailor 120 = .ok (.invokevirtual 53, 3) := by decide +kernel
theorem dX4_sailor_123 : decode cX4_sailor 123 = .ok (.aload_n 0, 1) := by decide +kernel
theorem dX4_sailor_124 : decode cX4_sailor 124 = .ok (.aload_n 0, 1) := by decide +kernel
theorem dX4_sailor_125 : decode cX4_sailor 125 = .ok (.getfield 36, 3) := by decide +kernel
theorem dX4_sailor_128 : decode cX4_sailor 128 = .ok (.iconst 3, 1) := by decide +kernel
theorem dX4_sailor_129 : decode cX4_sailor 129 = .ok (.iconst (-1), 1) := by decide +kernel
theorem dX4_sailor_130 : decode cX4_sailor 130 = .ok (.invokevirtual 53, 3) := by decide +kernel
theorem dX4_sailor_133 : decode cX4_sailor 133 = .ok (.aload_n 0, 1) := by decide +kernel
theorem dX4_sailor_134 : decode cX4_sailor 134 = .ok (.aload_n 0, 1) := by decide +kernel
theorem dX4_sailor_135 : decode cX4_sailor 135 = .ok (.getfield 36, 3) := by decide +kernel
theorem dX4_sailor_138 : decode cX4_sailor 138 = .ok (.iconst 5, 1) := by decide +kernel
theorem dX4_sailor_139 : decode cX4_sailor 139 = .ok (.iconst (-1), 1) := by decide +kernel
theorem dX4_sailor_140 : decode cX4_sailor 140 = .ok (.invokevirtual 53, 3) := by decide +kernel
theorem dX4_sailor_143 : decode cX4_sailor 143 = .ok (.aload_n 0, 1) := by decide +kernel
theorem dX4_sailor_144 : decode cX4_sailor 144 = .ok (.dup, 1) := by decide +kernel
theorem dX4_sailor_145 : decode cX4_sailor 145 = .ok (.getfield 36, 3) := by decide +kernel
theorem dX4_sailor_148 : decode cX4_sailor 148 = .ok (.iconst 1, 1) := by decide +kernel
theorem dX4_sailor_149 : decode cX4_sailor 149 = .ok (.iadd, 1) := by decide +kernel
theorem dX4_sailor_150 : decode cX4_sailor 150 = .ok (.putfield 36, 3) := by decide +kernel
theorem dX4_sailor_153 : decode cX4_sailor 153 = .ok (.aload_n 0, 1) := by decide +kernel
theorem dX4_sailor_154 : decode cX4_sailor 154 = .ok (.getfield 36, 3) := by decide +kernel
theorem dX4_sailor_157 : decode cX4_sailor 157 = .ok (.iconst 1, 1) := by decide +kernel
theorem dX4_sailor_158 : decode cX4_sailor 158 = .ok (.isub, 1) := by decide +kernel
theorem dX4_sailor_159 : decode cX4_sailor 159 = .ok (.ireturn, 1) := by decide +kernel
set_option maxRecDepth 20000 in
theorem ggX4_keep__X4_isSailor : GoodIn wsX4_keep_ wsX4_isSailor := goodIn_r _ [6, 7, 8, 9, 5, 10, 29, 30, 31, 32, 33, 34, 35, 36] (by decide +kernel) (by decide +kernel)
set_option maxRecDepth 20000 in
theorem gX4_keep__X4_isSailor : GoodIn wsX4_keep_ (wsV RX4 56 RX4 yX4_isSailor wsX4_isSailor) := goodIn_app (goodIn_of _ (by decide +kernel)) ggX4_keep__X4_isSailor
set_option maxRecDepth 20000 in
theorem ggX4_keep__X4_isBed : GoodIn wsX4_keep_ wsX4_isBed := goodIn_r _ [14, 15, 8, 9, 5, 10, 29, 30, 31, 32, 33, 34, 35, 36] (by decide +kernel) (by decide +kernel)
set_option maxRecDepth 20000 in
theorem gX4_keep__X4_isBed : GoodIn wsX4_keep_ (wsV RX4 60 RX4 yX4_isBed wsX4_isBed) := goodIn_app (goodIn_of _ (by decide +kernel)) ggX4_keep__X4_isBed
set_option maxRecDepth 20000 in
theorem ggX4_keep__X4_fail : GoodIn wsX4_keep_ wsX4_fail := goodIn_r _ [19, 1, 29, 30, 31, 32, 33, 34, 35, 36] (by decide +kernel) (by decide +kernel)
set_option maxRecDepth 20000 in
theorem gX4_keep__X4_fail : GoodIn wsX4_keep_ (wsV RX4 45 RX4 yX4_fail wsX4_fail) := goodIn_app (goodIn_of _ (by decide +kernel)) ggX4_keep__X4_fail
set_option maxRecDepth 20000 in
theorem ggX4_keep__X4_sa : GoodIn wsX4_keep_ wsX4_sa := goodIn_r _ [23, 24, 29, 30, 31, 32, 33, 34, 35, 36] (by decide +kernel) (by decide +kernel)
set_option maxRecDepth 20000 in
theorem gX4_keep__X4_sa : GoodIn wsX4_keep_ (wsV RX4 63 RX4 yX4_sa wsX4_sa) := goodIn_app (goodIn_of _ (by decide +kernel)) ggX4_keep__X4_sa
set_option maxRecDepth 20000 in
theorem ggX4_keep__X4_let : GoodIn wsX4_keep_ wsX4_let := goodIn_r _ [28, 24, 29, 30, 31, 32, 33, 34, 35, 36] (by decide +kernel) (by decide +kernel)
set_option maxRecDepth 20000 in
theorem gX4_keep__X4_let : GoodIn wsX4_keep_ (wsV RX4 53 RX4 yX4_let wsX4_let) := goodIn_app (goodIn_of _ (by decide +kernel)) ggX4_keep__X4_let
theorem dX4_keep__0 : decode cX4_keep_ 0 = .ok (.aload_n 0, 1) := by decide +kernel
theorem dX4_keep__1 : decode cX4_keep_ 1 = .ok (.iconst 0, 1) := by decide +kernel
theorem dX4_keep__2 : decode cX4_keep_ 2 = .ok (.putfield 25, 3) := by decide +kernel
theorem dX4_keep__5 : decode cX4_keep_ 5 = .ok (.aload_n 0, 1) := by decide +kernel
theorem dX4_keep__6 : decode cX4_keep_ 6 = .ok (.iload_n 1, 1) := by decide +kernel
theorem dX4_keep__7 : decode cX4_keep_ 7 = .ok (.invokevirtual 56, 3) := by decide +kernel
theorem dX4_keep__10 : decode cX4_keep_ 10 = .ok (.ifCond .eq 16, 3) := by decide +kernel
theorem dX4_keep__13 : decode cX4_keep_ 13 = .ok (.iload_n 2, 1) := by decide +kernel
theorem dX4_keep__14 : decode cX4_keep_ 14 = .ok (.iconst (-1), 1) := by decide +kernel
theorem dX4_keep__15 : decode cX4_keep_ 15 = .ok (.if_icmp .eq 17, 3) := by decide +kernel
theorem dX4_keep__18 : decode cX4_keep_ 18 = .ok (.aload_n 0, 1) := by decide +kernel
theorem dX4_keep__19 : decode cX4_keep_ 19 = .ok (.iload_n 2, 1) := by decide +kernel
theorem dX4_keep__20 : decode cX4_keep_ 20 = .ok (.invokevirtual 60, 3) := by decide +kernel
theorem dX4_keep__23 : decode cX4_keep_ 23 = .ok (.ifCond .ne 9, 3) := by decide +kernel
theorem dX4_keep__26 : decode cX4_keep_ 26 = .ok (.aload_n 0, 1) := by decide +kernel
theorem dX4_keep__27 : decode cX4_keep_ 27 = .ok (.iconst 1, 1) := by decide +kernel
theorem dX4_keep__28 : decode cX4_keep_ 28 = .ok (.invokevirtual 45, 3) := by decide +kernel
theorem dX4_keep__31 : decode cX4_keep_ 31 = .ok (.ireturn, 1) := by decide +kernel
theorem dX4_keep__32 : decode cX4_keep_ 32 = .ok (.aload_n 0, 1) := by decide +kernel
theorem dX4_keep__33 : decode cX4_keep_ 33 = .ok (.iload_n 1, 1) := by decide +kernel
theorem dX4_keep__34 : decode cX4_keep_ 34 = .ok (.iconst 3, 1) := by decide +kernel
theorem dX4_keep__35 : decode cX4_keep_ 35 = .ok (.invokevirtual 63, 3) := by decide +kernel
theorem dX4_keep__38 : decode cX4_keep_ 38 = .ok (.istore_n 3, 1) := by decide +kernel
theorem dX4_keep__39 : decode cX4_keep_ 39 = .ok (.aload_n 0, 1) := by decide +kernel
theorem dX4_keep__40 : decode cX4_keep_ 40 = .ok (.iload_n 1, 1) := by decide +kernel
theorem dX4_keep__41 : decode cX4_keep_ 41 = .ok (.iconst 3, 1) := by decide +kernel
theorem dX4_keep__42 : decode cX4_keep_ 42 = .ok (.iload_n 2, 1) := by decide +kernel
theorem dX4_keep__43 : decode cX4_keep_ 43 = .ok (.invokevirtual 53, 3) := by decide +kernel
theorem dX4_keep__46 : decode cX4_keep_ 46 = .ok (.iload_n 3, 1) := by decide +kernel
theorem dX4_keep__47 : decode cX4_keep_ 47 = .ok (.ireturn, 1) := by decide +kernel
set_option maxRecDepth 20000 in
theorem ggX4_change_X4_isIn : GoodIn wsX4_change wsX4_isIn := goodIn_r _ [5] (by decide +kernel) (by decide +kernel)
set_option maxRecDepth 20000 in
theorem gX4_change_X4_isIn : GoodIn wsX4_change (va_wsS RX4 32 yX4_isIn wsX4_isIn) := goodIn_app (goodIn_of _ (by decide +kernel)) ggX4_change_X4_isIn
set_option maxRecDepth 20000 in
theorem ggX4_change_X4_fail : GoodIn wsX4_change wsX4_fail := goodIn_r _ [9, 10, 11, 12, 13, 14, 15, 16, 17, 18] (by decide +kernel) (by decide +kernel)
set_option maxRecDepth 20000 in
theorem gX4_change_X4_fail : GoodIn wsX4_change (wsV RX4 45 RX4 yX4_fail wsX4_fail) := goodIn_app (goodIn_of _ (by decide +kernel)) ggX4_change_X4_fail
theorem dX4_change_0 : decode cX4_change 0 = .ok (.iload_n 2, 1) := by decide +kernel
theorem dX4_change_1 : decode cX4_change 1 = .ok (.iload_n 3, 1) := by decide +kernel
theorem dX4_change_2 : decode cX4_change 2 = .ok (.iload 4, 2) := by decide +kernel
theorem dX4_change_4 : decode cX4_change 4 = .ok (.invokestatic 32, 3) := by decide +kernel
theorem dX4_change_7 : decode cX4_change 7 = .ok (.ifCond .ne 9, 3) := by decide +kernel
theorem dX4_change_10 : decode cX4_change 10 = .ok (.aload_n 0, 1) := by decide +kernel
theorem dX4_change_11 : decode cX4_change 11 = .ok (.iconst 1, 1) := by decide +kernel
theorem dX4_change_12 : decode cX4_change 12 = .ok (.invokevirtual 45, 3) := by decide +kernel
theorem dX4_change_15 : decode cX4_change 15 = .ok (.ireturn, 1) := by decide +kernel
theorem dX4_change_16 : decode cX4_change 16 = .ok (.aload_n 0, 1) := by decide +kernel
theorem dX4_change_17 : decode cX4_change 17 = .ok (.getfield 19, 3) := by decide +kernel
theorem dX4_change_20 : decode cX4_change 20 = .ok (.iload_n 1, 1) := by decide +kernel
theorem dX4_change_21 : decode cX4_change 21 = .ok (.iaload, 1) := by decide +kernel
theorem dX4_change_22 : decode cX4_change 22 = .ok (.istore 5, 2) := by decide +kernel
theorem dX4_change_24 : decode cX4_change 24 = .ok (.aload_n 0, 1) := by decide +kernel
theorem dX4_change_25 : decode cX4_change 25 = .ok (.getfield 19, 3) := by decide +kernel
theorem dX4_change_28 : decode cX4_change 28 = .ok (.iload_n 1, 1) := by decide +kernel
theorem dX4_change_29 : decode cX4_change 29 = .ok (.iload_n 2, 1) := by decide +kernel
theorem dX4_change_30 : decode cX4_change 30 = .ok (.iastore, 1) := by decide +kernel
theorem dX4_change_31 : decode cX4_change 31 = .ok (.iload 5, 2) := by decide +kernel
theorem dX4_change_33 : decode cX4_change 33 = .ok (.ireturn, 1) := by decide +kernel
set_option maxRecDepth 20000 in
theorem ggX4_setBell_X4_change : GoodIn wsX4_setBell wsX4_change := goodIn_r _ [6, 7, 8, 9, 5, 10, 11, 12, 13, 14, 1, 15, 16, 17, 18, 19, 20, 21, 22] (by decide +kernel) (by decide +kernel)
set_option maxRecDepth 20000 in
theorem gX4_setBell_X4_change : GoodIn wsX4_setBell (wsV RX4 67 RX4 yX4_change wsX4_change) := goodIn_app (goodIn_of _ (by decide +kernel)) ggX4_setBell_X4_change
theorem dX4_setBell_0 : decode cX4_setBell 0 = .ok (.aload_n 0, 1) := by decide +kernel
theorem dX4_setBell_1 : decode cX4_setBell 1 = .ok (.iconst 0, 1) := by decide +kernel
theorem dX4_setBell_2 : decode cX4_setBell 2 = .ok (.putfield 25, 3) := by decide +kernel
theorem dX4_setBell_5 : decode cX4_setBell 5 = .ok (.aload_n 0, 1) := by decide +kernel
theorem dX4_setBell_6 : decode cX4_setBell 6 = .ok (.iconst 1, 1) := by decide +kernel
theorem dX4_setBell_7 : decode cX4_setBell 7 = .ok (.iload_n 1, 1) := by decide +kernel
theorem dX4_setBell_8 : decode cX4_setBell 8 = .ok (.iconst 0, 1) := by decide +kernel
theorem dX4_setBell_9 : decode cX4_setBell 9 = .ok (.bipush 9, 2) := by decide +kernel
theorem dX4_setBell_11 : decode cX4_setBell 11 = .ok (.invokevirtual 67, 3) := by decide +kernel
theorem dX4_setBell_14 : decode cX4_setBell 14 = .ok (.ireturn, 1) := by decide +kernel
set_option maxRecDepth 20000 in
theorem ggX4_setPawn_X4_change : GoodIn wsX4_setPawn wsX4_change := goodIn_r _ [6, 7, 8, 9, 5, 10, 11, 12, 13, 14, 1, 15, 16, 17, 18, 19, 20, 21, 22] (by decide +kernel) (by decide +kernel)
set_option maxRecDepth 20000 in
theorem gX4_setPawn_X4_change : GoodIn wsX4_setPawn (wsV RX4 67 RX4 yX4_change wsX4_change) := goodIn_app (goodIn_of _ (by decide +kernel)) ggX4_setPawn_X4_change
theorem dX4_setPawn_0 : decode cX4_setPawn 0 = .ok (.aload_n 0, 1) := by decide +kernel
theorem dX4_setPawn_1 : decode cX4_setPawn 1 = .ok (.iconst 0, 1) := by decide +kernel
theorem dX4_setPawn_2 : decode cX4_setPawn 2 = .ok (.putfield 25, 3) := by decide +kernel
theorem dX4_setPawn_5 : decode cX4_setPawn 5 = .ok (.aload_n 0, 1) := by decide +kernel
theorem dX4_setPawn_6 : decode cX4_setPawn 6 = .ok (.iconst 2, 1) := by decide +kernel
theorem dX4_setPawn_7 : decode cX4_setPawn 7 = .ok (.iload_n 1, 1) := by decide +kernel
theorem dX4_setPawn_8 : decode cX4_setPawn 8 = .ok (.iconst 1, 1) := by decide +kernel
theorem dX4_setPawn_9 : decode cX4_setPawn 9 = .ok (.bipush 20, 2) := by decide +kernel
theorem dX4_setPawn_11 : decode cX4_setPawn 11 = .ok (.invokevirtual 67, 3) := by decide +kernel
theorem dX4_setPawn_14 : decode cX4_setPawn 14 = .ok (.ireturn, 1) := by decide +kernel
set_option maxRecDepth 20000 in
theorem ggX4_gets_X4_sa : GoodIn wsX4_gets wsX4_sa := goodIn_r _ [9, 10, 15, 16, 17, 18, 19, 20, 21, 22] (by decide +kernel) (by decide +kernel)
set_option maxRecDepth 20000 in
theorem gX4_gets_X4_sa : GoodIn wsX4_gets (wsV RX4 63 RX4 yX4_sa wsX4_sa) := goodIn_app (goodIn_of _ (by decide +kernel)) ggX4_gets_X4_sa
set_option maxRecDepth 20000 in
theorem ggX4_gets_X4_let : GoodIn wsX4_gets wsX4_let := goodIn_r _ [14, 10, 15, 16, 17, 18, 19, 20, 21, 22] (by decide +kernel) (by decide +kernel)
set_option maxRecDepth 20000 in
theorem gX4_gets_X4_let : GoodIn wsX4_gets (wsV RX4 53 RX4 yX4_let wsX4_let) := goodIn_app (goodIn_of _ (by decide +kernel)) ggX4_gets_X4_let
theorem dX4_gets_0 : decode cX4_gets 0 = .ok (.aload_n 0, 1) := by decide +kernel
theorem dX4_gets_1 : decode cX4_gets 1 = .ok (.iload_n 1, 1) := by decide +kernel
theorem dX4_gets_2 : decode cX4_gets 2 = .ok (.iconst 1, 1) := by decide +kernel
theorem dX4_gets_3 : decode cX4_gets 3 = .ok (.bipush 99, 2) := by decide +kernel
theorem dX4_gets_5 : decode cX4_gets 5 = .ok (.aload_n 0, 1) := by decide +kernel
theorem dX4_gets_6 : decode cX4_gets 6 = .ok (.iload_n 1, 1) := by decide +kernel
theorem dX4_gets_7 : decode cX4_gets 7 = .ok (.iconst 1, 1) := by decide +kernel
theorem dX4_gets_8 : decode cX4_gets 8 = .ok (.invokevirtual 63, 3) := by decide +kernel
theorem dX4_gets_11 : decode cX4_gets 11 = .ok (.iload_n 2, 1) := by decide +kernel
theorem dX4_gets_12 : decode cX4_gets 12 = .ok (.iadd, 1) := by decide +kernel
theorem dX4_gets_13 : decode cX4_gets 13 = .ok (.invokestatic 71, 3) := by decide +kernel
theorem dX4_gets_16 : decode cX4_gets 16 = .ok (.invokevirtual 53, 3) := by decide +kernel
theorem dX4_gets_19 : decode cX4_gets 19 = .ok (.aload_n 0, 1) := by decide +kernel
theorem dX4_gets_20 : decode cX4_gets 20 = .ok (.iload_n 1, 1) := by decide +kernel
theorem dX4_gets_21 : decode cX4_gets 21 = .ok (.iconst 1, 1) := by decide +kernel
theorem dX4_gets_22 : decode cX4_gets 22 = .ok (.invokevirtual 63, 3) := by decide +kernel
theorem dX4_gets_25 : decode cX4_gets 25 = .ok (.ireturn, 1) := by decide +kernel
set_option maxRecDepth 20000 in
theorem ggX4_pawns_X4_let : GoodIn wsX4_pawns wsX4_let := goodIn_r _ [6, 1, 19, 20, 21, 22, 23, 24, 25, 26] (by decide +kernel) (by decide +kernel)
set_option maxRecDepth 20000 in
theorem gX4_pawns_X4_let : GoodIn wsX4_pawns (wsV RX4 53 RX4 yX4_let wsX4_let) := goodIn_app (goodIn_of _ (by decide +kernel)) ggX4_pawns_X4_let
set_option maxRecDepth 20000 in
theorem ggX4_pawns_X4_gets : GoodIn wsX4_pawns wsX4_gets := goodIn_r _ [10, 11, 12, 13, 14, 15, 16, 17, 5, 18, 1, 2, 3, 4, 6, 19, 20, 21, 22, 23, 24, 25, 26] (by decide +kernel) (by decide +kernel)
set_option maxRecDepth 20000 in
theorem gX4_pawns_X4_gets : GoodIn wsX4_pawns (wsV RX4 76 RX4 yX4_gets wsX4_gets) := goodIn_app (goodIn_of _ (by decide +kernel)) ggX4_pawns_X4_gets
theorem dX4_pawns_0 : decode cX4_pawns 0 = .ok (.aload_n 0, 1) := by decide +kernel
theorem dX4_pawns_1 : decode cX4_pawns 1 = .ok (.iload_n 1, 1) := by decide +kernel
theorem dX4_pawns_2 : decode cX4_pawns 2 = .ok (.iconst 2, 1) := by decide +kernel
theorem dX4_pawns_3 : decode cX4_pawns 3 = .ok (.iconst 0, 1) := by decide +kernel
theorem dX4_pawns_4 : decode cX4_pawns 4 = .ok (.invokevirtual 53, 3) := by decide +kernel
theorem dX4_pawns_7 : decode cX4_pawns 7 = .ok (.aload_n 0, 1) := by decide +kernel
theorem dX4_pawns_8 : decode cX4_pawns 8 = .ok (.iload_n 1, 1) := by decide +kernel
theorem dX4_pawns_9 : decode cX4_pawns 9 = .ok (.aload_n 0, 1) := by decide +kernel
theorem dX4_pawns_10 : decode cX4_pawns 10 = .ok (.getfield 19, 3) := by decide +kernel
theorem dX4_pawns_13 : decode cX4_pawns 13 = .ok (.iconst 2, 1) := by decide +kernel
theorem dX4_pawns_14 : decode cX4_pawns 14 = .ok (.iaload, 1) := by decide +kernel
theorem dX4_pawns_15 : decode cX4_pawns 15 = .ok (.invokevirtual 76, 3) := by decide +kernel
theorem dX4_pawns_18 : decode cX4_pawns 18 = .ok (.ireturn, 1) := by decide +kernel
set_option maxRecDepth 20000 in
theorem ggX4_canRedeem_X4_sa : GoodIn wsX4_canRedeem wsX4_sa := goodIn_r _ [6, 1, 7, 8, 9, 10, 11, 12, 13, 14] (by decide +kernel) (by decide +kernel)
set_option maxRecDepth 20000 in
theorem gX4_canRedeem_X4_sa : GoodIn wsX4_canRedeem (wsV RX4 63 RX4 yX4_sa wsX4_sa) := goodIn_app (goodIn_of _ (by decide +kernel)) ggX4_canRedeem_X4_sa
theorem dX4_canRedeem_0 : decode cX4_canRedeem 0 = .ok (.aload_n 0, 1) := by decide +kernel
theorem dX4_canRedeem_1 : decode cX4_canRedeem 1 = .ok (.iload_n 1, 1) := by decide +kernel
theorem dX4_canRedeem_2 : decode cX4_canRedeem 2 = .ok (.iconst 2, 1) := by decide +kernel
theorem dX4_canRedeem_3 : decode cX4_canRedeem 3 = .ok (.invokevirtual 63, 3) := by decide +kernel
theorem dX4_canRedeem_6 : decode cX4_canRedeem 6 = .ok (.ifCond .ne 24, 3) := by decide +kernel
theorem dX4_canRedeem_9 : decode cX4_canRedeem 9 = .ok (.aload_n 0, 1) := by decide +kernel
theorem dX4_canRedeem_10 : decode cX4_canRedeem 10 = .ok (.iload_n 1, 1) := by decide +kernel
theorem dX4_canRedeem_11 : decode cX4_canRedeem 11 = .ok (.iconst 1, 1) := by decide +kernel
theorem dX4_canRedeem_12 : decode cX4_canRedeem 12 = .ok (.invokevirtual 63, 3) := by decide +kernel
theorem dX4_canRedeem_15 : decode cX4_canRedeem 15 = .ok (.aload_n 0, 1) := by decide +kernel
theorem dX4_canRedeem_16 : decode cX4_canRedeem 16 = .ok (.getfield 19, 3) := by decide +kernel
theorem dX4_canRedeem_19 : decode cX4_canRedeem 19 = .ok (.iconst 2, 1) := by decide +kernel
theorem dX4_canRedeem_20 : decode cX4_canRedeem 20 = .ok (.iaload, 1) := by decide +kernel
theorem dX4_canRedeem_21 : decode cX4_canRedeem 21 = .ok (.iconst 2, 1) := by decide +kernel
theorem dX4_canRedeem_22 : decode cX4_canRedeem 22 = .ok (.iadd, 1) := by decide +kernel
theorem dX4_canRedeem_23 : decode cX4_canRedeem 23 = .ok (.if_icmp .lt 7, 3) := by decide +kernel
theorem dX4_canRedeem_26 : decode cX4_canRedeem 26 = .ok (.iconst 1, 1) := by decide +kernel
theorem dX4_canRedeem_27 : decode cX4_canRedeem 27 = .ok (.goto 4, 3) := by decide +kernel
theorem dX4_canRedeem_30 : decode cX4_canRedeem 30 = .ok (.iconst 0, 1) := by decide +kernel
theorem dX4_canRedeem_31 : decode cX4_canRedeem 31 = .ok (.ireturn, 1) := by decide +kernel
set_option maxRecDepth 20000 in
theorem ggX4_redeems_X4_let : GoodIn wsX4_redeems wsX4_let := goodIn_r _ [6, 1, 15, 16, 17, 18, 19, 20, 21, 22] (by decide +kernel) (by decide +kernel)
set_option maxRecDepth 20000 in
theorem gX4_redeems_X4_let : GoodIn wsX4_redeems (wsV RX4 53 RX4 yX4_let wsX4_let) := goodIn_app (goodIn_of _ (by decide +kernel)) ggX4_redeems_X4_let
set_option maxRecDepth 20000 in
theorem ggX4_redeems_X4_more : GoodIn wsX4_redeems wsX4_more := goodIn_r _ [10, 1, 15, 16, 17, 18, 19, 20, 21, 22] (by decide +kernel) (by decide +kernel)
set_option maxRecDepth 20000 in
theorem gX4_redeems_X4_more : GoodIn wsX4_redeems (wsV RX4 79 RX4 yX4_more wsX4_more) := goodIn_app (goodIn_of _ (by decide +kernel)) ggX4_redeems_X4_more
set_option maxRecDepth 20000 in
theorem ggX4_redeems_X4_sa : GoodIn wsX4_redeems wsX4_sa := goodIn_r _ [14, 1, 15, 16, 17, 18, 19, 20, 21, 22] (by decide +kernel) (by decide +kernel)
set_option maxRecDepth 20000 in
theorem gX4_redeems_X4_sa : GoodIn wsX4_redeems (wsV RX4 63 RX4 yX4_sa wsX4_sa) := goodIn_app (goodIn_of _ (by decide +kernel)) ggX4_redeems_X4_sa
theorem dX4_redeems_0 : decode cX4_redeems 0 = .ok (.aload_n 0, 1) := by decide +kernel
theorem dX4_redeems_1 : decode cX4_redeems 1 = .ok (.iload_n 1, 1) := by decide +kernel
theorem dX4_redeems_2 : decode cX4_redeems 2 = .ok (.iconst 2, 1) := by decide +kernel
theorem dX4_redeems_3 : decode cX4_redeems 3 = .ok (.iconst 1, 1) := by decide +kernel
theorem dX4_redeems_4 : decode cX4_redeems 4 = .ok (.invokevirtual 53, 3) := by decide +kernel
theorem dX4_redeems_7 : decode cX4_redeems 7 = .ok (.aload_n 0, 1) := by decide +kernel
theorem dX4_redeems_8 : decode cX4_redeems 8 = .ok (.iload_n 1, 1) := by decide +kernel
theorem dX4_redeems_9 : decode cX4_redeems 9 = .ok (.iconst 1, 1) := by decide +kernel
theorem dX4_redeems_10 : decode cX4_redeems 10 = .ok (.aload_n 0, 1) := by decide +kernel
theorem dX4_redeems_11 : decode cX4_redeems 11 = .ok (.getfield 19, 3) := by decide +kernel
theorem dX4_redeems_14 : decode cX4_redeems 14 = .ok (.iconst 2, 1) := by decide +kernel
theorem dX4_redeems_15 : decode cX4_redeems 15 = .ok (.iaload, 1) := by decide +kernel
theorem dX4_redeems_16 : decode cX4_redeems 16 = .ok (.ineg, 1) := by decide +kernel
theorem dX4_redeems_17 : decode cX4_redeems 17 = .ok (.iconst 2, 1) := by decide +kernel
theorem dX4_redeems_18 : decode cX4_redeems 18 = .ok (.isub, 1) := by decide +kernel
theorem dX4_redeems_19 : decode cX4_redeems 19 = .ok (.invokevirtual 79, 3) := by decide +kernel
theorem dX4_redeems_22 : decode cX4_redeems 22 = .ok (.aload_n 0, 1) := by decide +kernel
theorem dX4_redeems_23 : decode cX4_redeems 23 = .ok (.iload_n 1, 1) := by decide +kernel
theorem dX4_redeems_24 : decode cX4_redeems 24 = .ok (.iconst 1, 1) := by decide +kernel
theorem dX4_redeems_25 : decode cX4_redeems 25 = .ok (.invokevirtual 63, 3) := by decide +kernel
theorem dX4_redeems_28 : decode cX4_redeems 28 = .ok (.ireturn, 1) := by decide +kernel
set_option maxRecDepth 20000 in
theorem ggX4_getsUp_X4_sa : GoodIn wsX4_getsUp wsX4_sa := goodIn_r _ [5, 6, 15, 16, 17, 18, 19, 20, 21, 22] (by decide +kernel) (by decide +kernel)
set_option maxRecDepth 20000 in
theorem gX4_getsUp_X4_sa : GoodIn wsX4_getsUp (wsV RX4 63 RX4 yX4_sa wsX4_sa) := goodIn_app (goodIn_of _ (by decide +kernel)) ggX4_getsUp_X4_sa
set_option maxRecDepth 20000 in
theorem ggX4_getsUp_X4_letBed : GoodIn wsX4_getsUp wsX4_letBed := goodIn_r _ [10, 6, 15, 16, 17, 18, 19, 20, 21, 22] (by decide +kernel) (by decide +kernel)
set_option maxRecDepth 20000 in
theorem gX4_getsUp_X4_letBed : GoodIn wsX4_getsUp (wsV RX4 49 RX4 yX4_letBed wsX4_letBed) := goodIn_app (goodIn_of _ (by decide +kernel)) ggX4_getsUp_X4_letBed
set_option maxRecDepth 20000 in
theorem ggX4_getsUp_X4_let : GoodIn wsX4_getsUp wsX4_let := goodIn_r _ [14, 6, 15, 16, 17, 18, 19, 20, 21, 22] (by decide +kernel) (by decide +kernel)
set_option maxRecDepth 20000 in
theorem gX4_getsUp_X4_let : GoodIn wsX4_getsUp (wsV RX4 53 RX4 yX4_let wsX4_let) := goodIn_app (goodIn_of _ (by decide +kernel)) ggX4_getsUp_X4_let
theorem dX4_getsUp_0 : decode cX4_getsUp 0 = .ok (.aload_n 0, 1) := by decide +kernel
theorem dX4_getsUp_1 : decode cX4_getsUp 1 = .ok (.iload_n 1, 1) := by decide +kernel
theorem dX4_getsUp_2 : decode cX4_getsUp 2 = .ok (.iconst 4, 1) := by decide +kernel
theorem dX4_getsUp_3 : decode cX4_getsUp 3 = .ok (.invokevirtual 63, 3) := by decide +kernel
theorem dX4_getsUp_6 : decode cX4_getsUp 6 = .ok (.iconst 1, 1) := by decide +kernel
theorem dX4_getsUp_7 : decode cX4_getsUp 7 = .ok (.if_icmp .ne 15, 3) := by decide +kernel
theorem dX4_getsUp_10 : decode cX4_getsUp 10 = .ok (.aload_n 0, 1) := by decide +kernel
theorem dX4_getsUp_11 : decode cX4_getsUp 11 = .ok (.aload_n 0, 1) := by decide +kernel
theorem dX4_getsUp_12 : decode cX4_getsUp 12 = .ok (.iload_n 1, 1) := by decide +kernel
theorem dX4_getsUp_13 : decode cX4_getsUp 13 = .ok (.iconst 5, 1) := by decide +kernel
theorem dX4_getsUp_14 : decode cX4_getsUp 14 = .ok (.invokevirtual 63, 3) := by decide +kernel
theorem dX4_getsUp_17 : decode cX4_getsUp 17 = .ok (.iconst 3, 1) := by decide +kernel
theorem dX4_getsUp_18 : decode cX4_getsUp 18 = .ok (.iconst (-1), 1) := by decide +kernel
theorem dX4_getsUp_19 : decode cX4_getsUp 19 = .ok (.invokevirtual 49, 3) := by decide +kernel
theorem dX4_getsUp_22 : decode cX4_getsUp 22 = .ok (.aload_n 0, 1) := by decide +kernel
theorem dX4_getsUp_23 : decode cX4_getsUp 23 = .ok (.iload_n 1, 1) := by decide +kernel
theorem dX4_getsUp_24 : decode cX4_getsUp 24 = .ok (.iconst 4, 1) := by decide +kernel
theorem dX4_getsUp_25 : decode cX4_getsUp 25 = .ok (.iconst 0, 1) := by decide +kernel
theorem dX4_getsUp_26 : decode cX4_getsUp 26 = .ok (.invokevirtual 53, 3) := by decide +kernel
theorem dX4_getsUp_29 : decode cX4_getsUp 29 = .ok (.aload_n 0, 1) := by decide +kernel
theorem dX4_getsUp_30 : decode cX4_getsUp 30 = .ok (.iload_n 1, 1) := by decide +kernel
theorem dX4_getsUp_31 : decode cX4_getsUp 31 = .ok (.iconst 5, 1) := by decide +kernel
theorem dX4_getsUp_32 : decode cX4_getsUp 32 = .ok (.iconst (-1), 1) := by decide +kernel
theorem dX4_getsUp_33 : decode cX4_getsUp 33 = .ok (.invokevirtual 53, 3) := by decide +kernel
theorem dX4_getsUp_36 : decode cX4_getsUp 36 = .ok (.return_, 1) := by decide +kernel
set_option maxRecDepth 20000 in
theorem ggX4_give_X4_isSailor : GoodIn wsX4_give wsX4_isSailor := goodIn_r _ [6, 7, 8, 9, 5, 10, 32, 33, 34, 35, 36, 37, 38, 39] (by decide +kernel) (by decide +kernel)
set_option maxRecDepth 20000 in
theorem gX4_give_X4_isSailor : GoodIn wsX4_give (wsV RX4 56 RX4 yX4_isSailor wsX4_isSailor) := goodIn_app (goodIn_of _ (by decide +kernel)) ggX4_give_X4_isSailor
set_option maxRecDepth 20000 in
theorem ggX4_give_X4_fail : GoodIn wsX4_give wsX4_fail := goodIn_r _ [14, 1, 32, 33, 34, 35, 36, 37, 38, 39] (by decide +kernel) (by decide +kernel)
set_option maxRecDepth 20000 in
theorem gX4_give_X4_fail : GoodIn wsX4_give (wsV RX4 45 RX4 yX4_fail wsX4_fail) := goodIn_app (goodIn_of _ (by decide +kernel)) ggX4_give_X4_fail
set_option maxRecDepth 20000 in
theorem ggX4_give_X4_isIn : GoodIn wsX4_give wsX4_isIn := goodIn_r _ [10] (by decide +kernel) (by decide +kernel)
set_option maxRecDepth 20000 in
theorem gX4_give_X4_isIn : GoodIn wsX4_give (va_wsS RX4 32 yX4_isIn wsX4_isIn) := goodIn_app (goodIn_of _ (by decide +kernel)) ggX4_give_X4_isIn
set_option maxRecDepth 20000 in
theorem ggX4_give_X4_gets : GoodIn wsX4_give wsX4_gets := goodIn_r _ [18, 19, 20, 21, 22, 23, 24, 25, 5, 26, 27, 28, 29, 30, 31, 32, 33, 34, 35, 36, 37, 38, 39] (by decide +kernel) (by decide +kernel)
set_option maxRecDepth 20000 in
theorem gX4_give_X4_gets : GoodIn wsX4_give (wsV RX4 76 RX4 yX4_gets wsX4_gets) := goodIn_app (goodIn_of _ (by decide +kernel)) ggX4_give_X4_gets
theorem dX4_give_0 : decode cX4_give 0 = .ok (.aload_n 0, 1) := by decide +kernel
theorem dX4_give_1 : decode cX4_give 1 = .ok (.iconst 0, 1) := by decide +kernel
theorem dX4_give_2 : decode cX4_give 2 = .ok (.putfield 25, 3) := by decide +kernel
theorem dX4_give_5 : decode cX4_give 5 = .ok (.aload_n 0, 1) := by decide +kernel
theorem dX4_give_6 : decode cX4_give 6 = .ok (.iload_n 1, 1) := by decide +kernel
theorem dX4_give_7 : decode cX4_give 7 = .ok (.invokevirtual 56, 3) := by decide +kernel
theorem dX4_give_10 : decode cX4_give 10 = .ok (.ifCond .ne 9, 3) := by decide +kernel
theorem dX4_give_13 : decode cX4_give 13 = .ok (.aload_n 0, 1) := by decide +kernel
theorem dX4_give_14 : decode cX4_give 14 = .ok (.iconst 1, 1) := by decide +kernel
theorem dX4_give_15 : decode cX4_give 15 = .ok (.invokevirtual 45, 3) := by decide +kernel
theorem dX4_give_18 : decode cX4_give 18 = .ok (.ireturn, 1) := by decide +kernel
theorem dX4_give_19 : decode cX4_give 19 = .ok (.iload_n 2, 1) := by decide +kernel
theorem dX4_give_20 : decode cX4_give 20 = .ok (.iconst 1, 1) := by decide +kernel
theorem dX4_give_21 : decode cX4_give 21 = .ok (.bipush 99, 2) := by decide +kernel
theorem dX4_give_23 : decode cX4_give 23 = .ok (.invokestatic 32, 3) := by decide +kernel
theorem dX4_give_26 : decode cX4_give 26 = .ok (.ifCond .eq 12, 3) := by decide +kernel
theorem dX4_give_29 : decode cX4_give 29 = .ok (.aload_n 0, 1) := by decide +kernel
theorem dX4_give_30 : decode cX4_give 30 = .ok (.iload_n 1, 1) := by decide +kernel
theorem dX4_give_31 : decode cX4_give 31 = .ok (.iload_n 2, 1) := by decide +kernel
theorem dX4_give_32 : decode cX4_give 32 = .ok (.invokevirtual 76, 3) := by decide +kernel
theorem dX4_give_35 : decode cX4_give 35 = .ok (.goto 8, 3) := by decide +kernel
theorem dX4_give_38 : decode cX4_give 38 = .ok (.aload_n 0, 1) := by decide +kernel
theorem dX4_give_39 : decode cX4_give 39 = .ok (.iconst 2, 1) := by decide +kernel
theorem dX4_give_40 : decode cX4_give 40 = .ok (.invokevirtual 45, 3) := by decide +kernel
theorem dX4_give_43 : decode cX4_give 43 = .ok (.ireturn, 1) := by decide +kernel
set_option maxRecDepth 20000 in
theorem ggX4_pawn_X4_isSailor : GoodIn wsX4_pawn wsX4_isSailor := goodIn_r _ [6, 7, 8, 9, 5, 10, 36, 37, 38, 39, 40, 41, 42, 43] (by decide +kernel) (by decide +kernel)
set_option maxRecDepth 20000 in
theorem gX4_pawn_X4_isSailor : GoodIn wsX4_pawn (wsV RX4 56 RX4 yX4_isSailor wsX4_isSailor) := goodIn_app (goodIn_of _ (by decide +kernel)) ggX4_pawn_X4_isSailor
set_option maxRecDepth 20000 in
theorem ggX4_pawn_X4_fail : GoodIn wsX4_pawn wsX4_fail := goodIn_r _ [14, 1, 36, 37, 38, 39, 40, 41, 42, 43] (by decide +kernel) (by decide +kernel)
set_option maxRecDepth 20000 in
theorem gX4_pawn_X4_fail : GoodIn wsX4_pawn (wsV RX4 45 RX4 yX4_fail wsX4_fail) := goodIn_app (goodIn_of _ (by decide +kernel)) ggX4_pawn_X4_fail
set_option maxRecDepth 20000 in
theorem ggX4_pawn_X4_sa : GoodIn wsX4_pawn wsX4_sa := goodIn_r _ [18, 19, 36, 37, 38, 39, 40, 41, 42, 43] (by decide +kernel) (by decide +kernel)
set_option maxRecDepth 20000 in
theorem gX4_pawn_X4_sa : GoodIn wsX4_pawn (wsV RX4 63 RX4 yX4_sa wsX4_sa) := goodIn_app (goodIn_of _ (by decide +kernel)) ggX4_pawn_X4_sa
set_option maxRecDepth 20000 in
theorem ggX4_pawn_X4_pawns : GoodIn wsX4_pawn wsX4_pawns := goodIn_r _ [23, 19, 24, 25, 26, 5, 27, 28, 29, 30, 31, 32, 33, 34, 35, 15, 16, 17, 18, 36, 37, 38, 39, 40, 41, 42, 43] (by decide +kernel) (by decide +kernel)
set_option maxRecDepth 20000 in
theorem gX4_pawn_X4_pawns : GoodIn wsX4_pawn (wsV RX4 82 RX4 yX4_pawns wsX4_pawns) := goodIn_app (goodIn_of _ (by decide +kernel)) ggX4_pawn_X4_pawns
theorem dX4_pawn_0 : decode cX4_pawn 0 = .ok (.aload_n 0, 1) := by decide +kernel
theorem dX4_pawn_1 : decode cX4_pawn 1 = .ok (.iconst 0, 1) := by decide +kernel
theorem dX4_pawn_2 : decode cX4_pawn 2 = .ok (.putfield 25, 3) := by decide +kernel
theorem dX4_pawn_5 : decode cX4_pawn 5 = .ok (.aload_n 0, 1) := by decide +kernel
theorem dX4_pawn_6 : decode cX4_pawn 6 = .ok (.iload_n 1, 1) := by decide +kernel
theorem dX4_pawn_7 : decode cX4_pawn 7 = .ok (.invokevirtual 56, 3) := by decide +kernel
theorem dX4_pawn_10 : decode cX4_pawn 10 = .ok (.ifCond .ne 9, 3) := by decide +kernel
theorem dX4_pawn_13 : decode cX4_pawn 13 = .ok (.aload_n 0, 1) := by decide +kernel
theorem dX4_pawn_14 : decode cX4_pawn 14 = .ok (.iconst 1, 1) := by decide +kernel
theorem dX4_pawn_15 : decode cX4_pawn 15 = .ok (.invokevirtual 45, 3) := by decide +kernel
theorem dX4_pawn_18 : decode cX4_pawn 18 = .ok (.ireturn, 1) := by decide +kernel
theorem dX4_pawn_19 : decode cX4_pawn 19 = .ok (.aload_n 0, 1) := by decide +kernel
theorem dX4_pawn_20 : decode cX4_pawn 20 = .ok (.iload_n 1, 1) := by decide +kernel
theorem dX4_pawn_21 : decode cX4_pawn 21 = .ok (.iconst 2, 1) := by decide +kernel
theorem dX4_pawn_22 : decode cX4_pawn 22 = .ok (.invokevirtual 63, 3) := by decide +kernel
theorem dX4_pawn_25 : decode cX4_pawn 25 = .ok (.iconst 1, 1) := by decide +kernel
theorem dX4_pawn_26 : decode cX4_pawn 26 = .ok (.if_icmp .ne 11, 3) := by decide +kernel
theorem dX4_pawn_29 : decode cX4_pawn 29 = .ok (.aload_n 0, 1) := by decide +kernel
theorem dX4_pawn_30 : decode cX4_pawn 30 = .ok (.iload_n 1, 1) := by decide +kernel
theorem dX4_pawn_31 : decode cX4_pawn 31 = .ok (.invokevirtual 82, 3) := by decide +kernel
theorem dX4_pawn_34 : decode cX4_pawn 34 = .ok (.goto 8, 3) := by decide +kernel
theorem dX4_pawn_37 : decode cX4_pawn 37 = .ok (.aload_n 0, 1) := by decide +kernel
theorem dX4_pawn_38 : decode cX4_pawn 38 = .ok (.iconst 2, 1) := by decide +kernel
theorem dX4_pawn_39 : decode cX4_pawn 39 = .ok (.invokevirtual 45, 3) := by decide +kernel
theorem dX4_pawn_42 : decode cX4_pawn 42 = .ok (.ireturn, 1) := by decide +kernel
set_option maxRecDepth 20000 in
theorem ggX4_redeem_X4_isSailor : GoodIn wsX4_redeem wsX4_isSailor := goodIn_r _ [6, 7, 8, 9, 5, 10, 36, 37, 38, 39, 40, 41, 42, 43] (by decide +kernel) (by decide +kernel)
set_option maxRecDepth 20000 in
theorem gX4_redeem_X4_isSailor : GoodIn wsX4_redeem (wsV RX4 56 RX4 yX4_isSailor wsX4_isSailor) := goodIn_app (goodIn_of _ (by decide +kernel)) ggX4_redeem_X4_isSailor
set_option maxRecDepth 20000 in
theorem ggX4_redeem_X4_fail : GoodIn wsX4_redeem wsX4_fail := goodIn_r _ [14, 1, 36, 37, 38, 39, 40, 41, 42, 43] (by decide +kernel) (by decide +kernel)
set_option maxRecDepth 20000 in
theorem gX4_redeem_X4_fail : GoodIn wsX4_redeem (wsV RX4 45 RX4 yX4_fail wsX4_fail) := goodIn_app (goodIn_of _ (by decide +kernel)) ggX4_redeem_X4_fail
set_option maxRecDepth 20000 in
theorem ggX4_redeem_X4_canRedeem : GoodIn wsX4_redeem wsX4_canRedeem := goodIn_r _ [18, 19, 20, 21, 22, 5, 23, 36, 37, 38, 39, 40, 41, 42, 43] (by decide +kernel) (by decide +kernel)
set_option maxRecDepth 20000 in
theorem gX4_redeem_X4_canRedeem : GoodIn wsX4_redeem (wsV RX4 85 RX4 yX4_canRedeem wsX4_canRedeem) := goodIn_app (goodIn_of _ (by decide +kernel)) ggX4_redeem_X4_canRedeem
set_option maxRecDepth 20000 in
theorem ggX4_redeem_X4_redeems : GoodIn wsX4_redeem wsX4_redeems := goodIn_r _ [27, 19, 28, 29, 30, 5, 31, 32, 33, 34, 35, 20, 21, 22, 23, 36, 37, 38, 39, 40, 41, 42, 43] (by decide +kernel) (by decide +kernel)
set_option maxRecDepth 20000 in
theorem gX4_redeem_X4_redeems : GoodIn wsX4_redeem (wsV RX4 88 RX4 yX4_redeems wsX4_redeems) := goodIn_app (goodIn_of _ (by decide +kernel)) ggX4_redeem_X4_redeems
theorem dX4_redeem_0 : decode cX4_redeem 0 = .ok (.aload_n 0, 1) := by decide +kernel
theorem dX4_redeem_1 : decode cX4_redeem 1 = .ok (.iconst 0, 1) := by decide +kernel
theorem dX4_redeem_2 : decode cX4_redeem 2 = .ok (.putfield 25, 3) := by decide +kernel
theorem dX4_redeem_5 : decode cX4_redeem 5 = .ok (.aload_n 0, 1) := by decide +kernel
theorem dX4_redeem_6 : decode cX4_redeem 6 = .ok (.iload_n 1, 1) := by decide +kernel
theorem dX4_redeem_7 : decode cX4_redeem 7 = .ok (.invokevirtual 56, 3) := by decide +kernel
theorem dX4_redeem_10 : decode cX4_redeem 10 = .ok (.ifCond .ne 9, 3) := by decide +kernel
theorem dX4_redeem_13 : decode cX4_redeem 13 = .ok (.aload_n 0, 1) := by decide +kernel
theorem dX4_redeem_14 : decode cX4_redeem 14 = .ok (.iconst 1, 1) := by decide +kernel
theorem dX4_redeem_15 : decode cX4_redeem 15 = .ok (.invokevirtual 45, 3) := by decide +kernel
theorem dX4_redeem_18 : decode cX4_redeem 18 = .ok (.ireturn, 1) := by decide +kernel
theorem dX4_redeem_19 : decode cX4_redeem 19 = .ok (.aload_n 0, 1) := by decide +kernel
theorem dX4_redeem_20 : decode cX4_redeem 20 = .ok (.iload_n 1, 1) := by decide +kernel
theorem dX4_redeem_21 : decode cX4_redeem 21 = .ok (.invokevirtual 85, 3) := by decide +kernel
theorem dX4_redeem_24 : decode cX4_redeem 24 = .ok (.ifCond .eq 11, 3) := by decide +kernel
theorem dX4_redeem_27 : decode cX4_redeem 27 = .ok (.aload_n 0, 1) := by decide +kernel
theorem dX4_redeem_28 : decode cX4_redeem 28 = .ok (.iload_n 1, 1) := by decide +kernel
theorem dX4_redeem_29 : decode cX4_redeem 29 = .ok (.invokevirtual 88, 3) := by decide +kernel
theorem dX4_redeem_32 : decode cX4_redeem 32 = .ok (.goto 8, 3) := by decide +kernel
theorem dX4_redeem_35 : decode cX4_redeem 35 = .ok (.aload_n 0, 1) := by decide +kernel
theorem dX4_redeem_36 : decode cX4_redeem 36 = .ok (.iconst 2, 1) := by decide +kernel
theorem dX4_redeem_37 : decode cX4_redeem 37 = .ok (.invokevirtual 45, 3) := by decide +kernel
theorem dX4_redeem_40 : decode cX4_redeem 40 = .ok (.ireturn, 1) := by decide +kernel
set_option maxRecDepth 20000 in
theorem ggX4_call_X4_isSailor : GoodIn wsX4_call wsX4_isSailor := goodIn_r _ [6, 7, 8, 9, 5, 10, 32, 33, 34, 35, 36, 37, 38, 39] (by decide +kernel) (by decide +kernel)
set_option maxRecDepth 20000 in
theorem gX4_call_X4_isSailor : GoodIn wsX4_call (wsV RX4 56 RX4 yX4_isSailor wsX4_isSailor) := goodIn_app (goodIn_of _ (by decide +kernel)) ggX4_call_X4_isSailor
set_option maxRecDepth 20000 in
theorem ggX4_call_X4_fail : GoodIn wsX4_call wsX4_fail := goodIn_r _ [14, 1, 32, 33, 34, 35, 36, 37, 38, 39] (by decide +kernel) (by decide +kernel)
set_option maxRecDepth 20000 in
theorem gX4_call_X4_fail : GoodIn wsX4_call (wsV RX4 45 RX4 yX4_fail wsX4_fail) := goodIn_app (goodIn_of _ (by decide +kernel)) ggX4_call_X4_fail
set_option maxRecDepth 20000 in
theorem ggX4_call_X4_sa : GoodIn wsX4_call wsX4_sa := goodIn_r _ [18, 19, 32, 33, 34, 35, 36, 37, 38, 39] (by decide +kernel) (by decide +kernel)
