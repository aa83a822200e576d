set_option maxRecDepth 20000 in
theorem gX4_call_X4_sa : GoodIn wsX4_call (wsV RX4 63 RX4 yX4_sa wsX4_sa) := goodIn_app (goodIn_of _ (by decide +kernel)) ggX4_call_X4_sa
set_option maxRecDepth 20000 in
theorem ggX4_call_X4_getsUp : GoodIn wsX4_call wsX4_getsUp := goodIn_r _ [23, 15, 16, 17, 5, 18, 19, 24, 25, 26, 27, 28, 29, 30, 31, 32, 33, 34, 35, 36, 37, 38, 39] (by decide +kernel) (by decide +kernel)
set_option maxRecDepth 20000 in
theorem gX4_call_X4_getsUp : GoodIn wsX4_call (wsV RX4 91 RX4 yX4_getsUp wsX4_getsUp) := goodIn_app (goodIn_of _ (by decide +kernel)) ggX4_call_X4_getsUp
theorem dX4_call_0 : decode cX4_call 0 = .ok (.aload_n 0, 1) := by decide +kernel
theorem dX4_call_1 : decode cX4_call 1 = .ok (.iconst 0, 1) := by decide +kernel
theorem dX4_call_2 : decode cX4_call 2 = .ok (.putfield 25, 3) := by decide +kernel
theorem dX4_call_5 : decode cX4_call 5 = .ok (.aload_n 0, 1) := by decide +kernel
theorem dX4_call_6 : decode cX4_call 6 = .ok (.iload_n 1, 1) := by decide +kernel
theorem dX4_call_7 : decode cX4_call 7 = .ok (.invokevirtual 56, 3) := by decide +kernel
theorem dX4_call_10 : decode cX4_call 10 = .ok (.ifCond .ne 9, 3) := by decide +kernel
theorem dX4_call_13 : decode cX4_call 13 = .ok (.aload_n 0, 1) := by decide +kernel
theorem dX4_call_14 : decode cX4_call 14 = .ok (.iconst 1, 1) := by decide +kernel
theorem dX4_call_15 : decode cX4_call 15 = .ok (.invokevirtual 45, 3) := by decide +kernel
theorem dX4_call_18 : decode cX4_call 18 = .ok (.ireturn, 1) := by decide +kernel
theorem dX4_call_19 : decode cX4_call 19 = .ok (.aload_n 0, 1) := by decide +kernel
theorem dX4_call_20 : decode cX4_call 20 = .ok (.iload_n 1, 1) := by decide +kernel
theorem dX4_call_21 : decode cX4_call 21 = .ok (.iconst 4, 1) := by decide +kernel
theorem dX4_call_22 : decode cX4_call 22 = .ok (.invokevirtual 63, 3) := by decide +kernel
theorem dX4_call_25 : decode cX4_call 25 = .ok (.ifCond .ne 9, 3) := by decide +kernel
theorem dX4_call_28 : decode cX4_call 28 = .ok (.aload_n 0, 1) := by decide +kernel
theorem dX4_call_29 : decode cX4_call 29 = .ok (.iconst 2, 1) := by decide +kernel
theorem dX4_call_30 : decode cX4_call 30 = .ok (.invokevirtual 45, 3) := by decide +kernel
theorem dX4_call_33 : decode cX4_call 33 = .ok (.ireturn, 1) := by decide +kernel
theorem dX4_call_34 : decode cX4_call 34 = .ok (.aload_n 0, 1) := by decide +kernel
theorem dX4_call_35 : decode cX4_call 35 = .ok (.iload_n 1, 1) := by decide +kernel
theorem dX4_call_36 : decode cX4_call 36 = .ok (.iconst 5, 1) := by decide +kernel
theorem dX4_call_37 : decode cX4_call 37 = .ok (.invokevirtual 63, 3) := by decide +kernel
theorem dX4_call_40 : decode cX4_call 40 = .ok (.istore_n 2, 1) := by decide +kernel
theorem dX4_call_41 : decode cX4_call 41 = .ok (.aload_n 0, 1) := by decide +kernel
theorem dX4_call_42 : decode cX4_call 42 = .ok (.iload_n 1, 1) := by decide +kernel
theorem dX4_call_43 : decode cX4_call 43 = .ok (.invokevirtual 91, 3) := by decide +kernel
theorem dX4_call_46 : decode cX4_call 46 = .ok (.iload_n 2, 1) := by decide +kernel
theorem dX4_call_47 : decode cX4_call 47 = .ok (.ireturn, 1) := by decide +kernel
set_option maxRecDepth 20000 in
theorem ggX4_shift_X4_isSailor : GoodIn wsX4_shift wsX4_isSailor := goodIn_r _ [6, 7, 8, 9, 5, 10, 24, 25, 26, 27, 28, 29, 30, 31] (by decide +kernel) (by decide +kernel)
set_option maxRecDepth 20000 in
theorem gX4_shift_X4_isSailor : GoodIn wsX4_shift (wsV RX4 56 RX4 yX4_isSailor wsX4_isSailor) := goodIn_app (goodIn_of _ (by decide +kernel)) ggX4_shift_X4_isSailor
set_option maxRecDepth 20000 in
theorem ggX4_shift_X4_isIn : GoodIn wsX4_shift wsX4_isIn := goodIn_r _ [10] (by decide +kernel) (by decide +kernel)
set_option maxRecDepth 20000 in
theorem gX4_shift_X4_isIn : GoodIn wsX4_shift (va_wsS RX4 32 yX4_isIn wsX4_isIn) := goodIn_app (goodIn_of _ (by decide +kernel)) ggX4_shift_X4_isIn
set_option maxRecDepth 20000 in
theorem ggX4_shift_X4_fail : GoodIn wsX4_shift wsX4_fail := goodIn_r _ [14, 1, 24, 25, 26, 27, 28, 29, 30, 31] (by decide +kernel) (by decide +kernel)
set_option maxRecDepth 20000 in
theorem gX4_shift_X4_fail : GoodIn wsX4_shift (wsV RX4 45 RX4 yX4_fail wsX4_fail) := goodIn_app (goodIn_of _ (by decide +kernel)) ggX4_shift_X4_fail
set_option maxRecDepth 20000 in
theorem ggX4_shift_X4_sa : GoodIn wsX4_shift wsX4_sa := goodIn_r _ [18, 19, 24, 25, 26, 27, 28, 29, 30, 31] (by decide +kernel) (by decide +kernel)
set_option maxRecDepth 20000 in
theorem gX4_shift_X4_sa : GoodIn wsX4_shift (wsV RX4 63 RX4 yX4_sa wsX4_sa) := goodIn_app (goodIn_of _ (by decide +kernel)) ggX4_shift_X4_sa
set_option maxRecDepth 20000 in
theorem ggX4_shift_X4_let : GoodIn wsX4_shift wsX4_let := goodIn_r _ [23, 19, 24, 25, 26, 27, 28, 29, 30, 31] (by decide +kernel) (by decide +kernel)
set_option maxRecDepth 20000 in
theorem gX4_shift_X4_let : GoodIn wsX4_shift (wsV RX4 53 RX4 yX4_let wsX4_let) := goodIn_app (goodIn_of _ (by decide +kernel)) ggX4_shift_X4_let
theorem dX4_shift_0 : decode cX4_shift 0 = .ok (.aload_n 0, 1) := by decide +kernel
theorem dX4_shift_1 : decode cX4_shift 1 = .ok (.iconst 0, 1) := by decide +kernel
theorem dX4_shift_2 : decode cX4_shift 2 = .ok (.putfield 25, 3) := by decide +kernel
theorem dX4_shift_5 : decode cX4_shift 5 = .ok (.aload_n 0, 1) := by decide +kernel
theorem dX4_shift_6 : decode cX4_shift 6 = .ok (.iload_n 1, 1) := by decide +kernel
theorem dX4_shift_7 : decode cX4_shift 7 = .ok (.invokevirtual 56, 3) := by decide +kernel
theorem dX4_shift_10 : decode cX4_shift 10 = .ok (.ifCond .eq 12, 3) := by decide +kernel
theorem dX4_shift_13 : decode cX4_shift 13 = .ok (.iload_n 2, 1) := by decide +kernel
theorem dX4_shift_14 : decode cX4_shift 14 = .ok (.iconst 0, 1) := by decide +kernel
theorem dX4_shift_15 : decode cX4_shift 15 = .ok (.iconst 2, 1) := by decide +kernel
theorem dX4_shift_16 : decode cX4_shift 16 = .ok (.invokestatic 32, 3) := by decide +kernel
theorem dX4_shift_19 : decode cX4_shift 19 = .ok (.ifCond .ne 9, 3) := by decide +kernel
theorem dX4_shift_22 : decode cX4_shift 22 = .ok (.aload_n 0, 1) := by decide +kernel
theorem dX4_shift_23 : decode cX4_shift 23 = .ok (.iconst 1, 1) := by decide +kernel
theorem dX4_shift_24 : decode cX4_shift 24 = .ok (.invokevirtual 45, 3) := by decide +kernel
theorem dX4_shift_27 : decode cX4_shift 27 = .ok (.ireturn, 1) := by decide +kernel
theorem dX4_shift_28 : decode cX4_shift 28 = .ok (.aload_n 0, 1) := by decide +kernel
theorem dX4_shift_29 : decode cX4_shift 29 = .ok (.iload_n 1, 1) := by decide +kernel
theorem dX4_shift_30 : decode cX4_shift 30 = .ok (.iconst 4, 1) := by decide +kernel
theorem dX4_shift_31 : decode cX4_shift 31 = .ok (.invokevirtual 63, 3) := by decide +kernel
theorem dX4_shift_34 : decode cX4_shift 34 = .ok (.ifCond .eq 9, 3) := by decide +kernel
theorem dX4_shift_37 : decode cX4_shift 37 = .ok (.aload_n 0, 1) := by decide +kernel
theorem dX4_shift_38 : decode cX4_shift 38 = .ok (.iconst 2, 1) := by decide +kernel
theorem dX4_shift_39 : decode cX4_shift 39 = .ok (.invokevirtual 45, 3) := by decide +kernel
theorem dX4_shift_42 : decode cX4_shift 42 = .ok (.ireturn, 1) := by decide +kernel
theorem dX4_shift_43 : decode cX4_shift 43 = .ok (.aload_n 0, 1) := by decide +kernel
theorem dX4_shift_44 : decode cX4_shift 44 = .ok (.iload_n 1, 1) := by decide +kernel
theorem dX4_shift_45 : decode cX4_shift 45 = .ok (.iconst 0, 1) := by decide +kernel
theorem dX4_shift_46 : decode cX4_shift 46 = .ok (.invokevirtual 63, 3) := by decide +kernel
theorem dX4_shift_49 : decode cX4_shift 49 = .ok (.istore_n 3, 1) := by decide +kernel
theorem dX4_shift_50 : decode cX4_shift 50 = .ok (.aload_n 0, 1) := by decide +kernel
theorem dX4_shift_51 : decode cX4_shift 51 = .ok (.iload_n 1, 1) := by decide +kernel
theorem dX4_shift_52 : decode cX4_shift 52 = .ok (.iconst 0, 1) := by decide +kernel
theorem dX4_shift_53 : decode cX4_shift 53 = .ok (.iload_n 2, 1) := by decide +kernel
theorem dX4_shift_54 : decode cX4_shift 54 = .ok (.invokevirtual 53, 3) := by decide +kernel
theorem dX4_shift_57 : decode cX4_shift 57 = .ok (.iload_n 3, 1) := by decide +kernel
theorem dX4_shift_58 : decode cX4_shift 58 = .ok (.ireturn, 1) := by decide +kernel
set_option maxRecDepth 20000 in
theorem ggX4_ring_X4_watch : GoodIn wsX4_ring wsX4_watch := goodIn_r _ [7, 1, 28, 29, 30, 31, 32, 33, 34, 35] (by decide +kernel) (by decide +kernel)
set_option maxRecDepth 20000 in
theorem gX4_ring_X4_watch : GoodIn wsX4_ring (wsV RX4 95 RX4 yX4_watch wsX4_watch) := goodIn_app (goodIn_of _ (by decide +kernel)) ggX4_ring_X4_watch
set_option maxRecDepth 20000 in
theorem ggX4_ring_X4_sa : GoodIn wsX4_ring wsX4_sa := goodIn_r _ [11, 1, 28, 29, 30, 31, 32, 33, 34, 35] (by decide +kernel) (by decide +kernel)
set_option maxRecDepth 20000 in
theorem gX4_ring_X4_sa : GoodIn wsX4_ring (wsV RX4 63 RX4 yX4_sa wsX4_sa) := goodIn_app (goodIn_of _ (by decide +kernel)) ggX4_ring_X4_sa
set_option maxRecDepth 20000 in
theorem ggX4_ring_X4_getsUp : GoodIn wsX4_ring wsX4_getsUp := goodIn_r _ [15, 8, 9, 10, 6, 11, 1, 16, 17, 18, 19, 20, 21, 22, 23, 28, 29, 30, 31, 32, 33, 34, 35] (by decide +kernel) (by decide +kernel)
set_option maxRecDepth 20000 in
theorem gX4_ring_X4_getsUp : GoodIn wsX4_ring (wsV RX4 91 RX4 yX4_getsUp wsX4_getsUp) := goodIn_app (goodIn_of _ (by decide +kernel)) ggX4_ring_X4_getsUp
set_option maxRecDepth 20000 in
theorem ggX4_ring_X4_more : GoodIn wsX4_ring wsX4_more := goodIn_r _ [27, 1, 28, 29, 30, 31, 32, 33, 34, 35] (by decide +kernel) (by decide +kernel)
set_option maxRecDepth 20000 in
theorem gX4_ring_X4_more : GoodIn wsX4_ring (wsV RX4 79 RX4 yX4_more wsX4_more) := goodIn_app (goodIn_of _ (by decide +kernel)) ggX4_ring_X4_more
theorem dX4_ring_0 : decode cX4_ring 0 = .ok (.bipush 8, 2) := by decide +kernel
theorem dX4_ring_2 : decode cX4_ring 2 = .ok (.aload_n 0, 1) := by decide +kernel
theorem dX4_ring_3 : decode cX4_ring 3 = .ok (.invokevirtual 95, 3) := by decide +kernel
theorem dX4_ring_6 : decode cX4_ring 6 = .ok (.iconst 2, 1) := by decide +kernel
theorem dX4_ring_7 : decode cX4_ring 7 = .ok (.iadd, 1) := by decide +kernel
theorem dX4_ring_8 : decode cX4_ring 8 = .ok (.aload_n 0, 1) := by decide +kernel
theorem dX4_ring_9 : decode cX4_ring 9 = .ok (.iload_n 1, 1) := by decide +kernel
theorem dX4_ring_10 : decode cX4_ring 10 = .ok (.iconst 0, 1) := by decide +kernel
theorem dX4_ring_11 : decode cX4_ring 11 = .ok (.invokevirtual 63, 3) := by decide +kernel
theorem dX4_ring_14 : decode cX4_ring 14 = .ok (.isub, 1) := by decide +kernel
theorem dX4_ring_15 : decode cX4_ring 15 = .ok (.iconst 3, 1) := by decide +kernel
theorem dX4_ring_16 : decode cX4_ring 16 = .ok (.irem, 1) := by decide +kernel
theorem dX4_ring_17 : decode cX4_ring 17 = .ok (.imul, 1) := by decide +kernel
theorem dX4_ring_18 : decode cX4_ring 18 = .ok (.aload_n 0, 1) := by decide +kernel
theorem dX4_ring_19 : decode cX4_ring 19 = .ok (.getfield 19, 3) := by decide +kernel
theorem dX4_ring_22 : decode cX4_ring 22 = .ok (.iconst 0, 1) := by decide +kernel
theorem dX4_ring_23 : decode cX4_ring 23 = .ok (.iaload, 1) := by decide +kernel
theorem dX4_ring_24 : decode cX4_ring 24 = .ok (.bipush 8, 2) := by decide +kernel
theorem dX4_ring_26 : decode cX4_ring 26 = .ok (.irem, 1) := by decide +kernel
theorem dX4_ring_27 : decode cX4_ring 27 = .ok (.iadd, 1) := by decide +kernel
theorem dX4_ring_28 : decode cX4_ring 28 = .ok (.istore_n 2, 1) := by decide +kernel
theorem dX4_ring_29 : decode cX4_ring 29 = .ok (.aload_n 0, 1) := by decide +kernel
theorem dX4_ring_30 : decode cX4_ring 30 = .ok (.getfield 19, 3) := by decide +kernel
theorem dX4_ring_33 : decode cX4_ring 33 = .ok (.iconst 1, 1) := by decide +kernel
theorem dX4_ring_34 : decode cX4_ring 34 = .ok (.iaload, 1) := by decide +kernel
theorem dX4_ring_35 : decode cX4_ring 35 = .ok (.iconst 2, 1) := by decide +kernel
theorem dX4_ring_36 : decode cX4_ring 36 = .ok (.iload_n 2, 1) := by decide +kernel
theorem dX4_ring_37 : decode cX4_ring 37 = .ok (.imul, 1) := by decide +kernel
theorem dX4_ring_38 : decode cX4_ring 38 = .ok (.iadd, 1) := by decide +kernel
theorem dX4_ring_39 : decode cX4_ring 39 = .ok (.aload_n 0, 1) := by decide +kernel
theorem dX4_ring_40 : decode cX4_ring 40 = .ok (.getfield 13, 3) := by decide +kernel
theorem dX4_ring_43 : decode cX4_ring 43 = .ok (.iload_n 1, 1) := by decide +kernel
theorem dX4_ring_44 : decode cX4_ring 44 = .ok (.iaload, 1) := by decide +kernel
theorem dX4_ring_45 : decode cX4_ring 45 = .ok (.if_icmp .lt 9, 3) := by decide +kernel
theorem dX4_ring_48 : decode cX4_ring 48 = .ok (.aload_n 0, 1) := by decide +kernel
theorem dX4_ring_49 : decode cX4_ring 49 = .ok (.iload_n 1, 1) := by decide +kernel
theorem dX4_ring_50 : decode cX4_ring 50 = .ok (.invokevirtual 91, 3) := by decide +kernel
theorem dX4_ring_53 : decode cX4_ring 53 = .ok (.return_, 1) := by decide +kernel
theorem dX4_ring_54 : decode cX4_ring 54 = .ok (.aload_n 0, 1) := by decide +kernel
theorem dX4_ring_55 : decode cX4_ring 55 = .ok (.iload_n 1, 1) := by decide +kernel
theorem dX4_ring_56 : decode cX4_ring 56 = .ok (.bipush 7, 2) := by decide +kernel
theorem dX4_ring_58 : decode cX4_ring 58 = .ok (.iconst 1, 1) := by decide +kernel
theorem dX4_ring_59 : decode cX4_ring 59 = .ok (.invokevirtual 79, 3) := by decide +kernel
theorem dX4_ring_62 : decode cX4_ring 62 = .ok (.aload_n 0, 1) := by decide +kernel
theorem dX4_ring_63 : decode cX4_ring 63 = .ok (.iload_n 1, 1) := by decide +kernel
theorem dX4_ring_64 : decode cX4_ring 64 = .ok (.bipush 9, 2) := by decide +kernel
theorem dX4_ring_66 : decode cX4_ring 66 = .ok (.iconst 1, 1) := by decide +kernel
theorem dX4_ring_67 : decode cX4_ring 67 = .ok (.invokevirtual 79, 3) := by decide +kernel
theorem dX4_ring_70 : decode cX4_ring 70 = .ok (.return_, 1) := by decide +kernel
set_option maxRecDepth 20000 in
theorem ggX4_pay_X4_sa : GoodIn wsX4_pay wsX4_sa := goodIn_r _ [10, 11, 35, 36, 37, 38, 39, 40, 41, 42] (by decide +kernel) (by decide +kernel)
set_option maxRecDepth 20000 in
theorem gX4_pay_X4_sa : GoodIn wsX4_pay (wsV RX4 63 RX4 yX4_sa wsX4_sa) := goodIn_app (goodIn_of _ (by decide +kernel)) ggX4_pay_X4_sa
set_option maxRecDepth 20000 in
theorem ggX4_pay_X4_gets : GoodIn wsX4_pay wsX4_gets := goodIn_r _ [15, 16, 17, 4, 18, 6, 7, 8, 9, 10, 11, 19, 20, 21, 22, 35, 36, 37, 38, 39, 40, 41, 42] (by decide +kernel) (by decide +kernel)
set_option maxRecDepth 20000 in
theorem gX4_pay_X4_gets : GoodIn wsX4_pay (wsV RX4 76 RX4 yX4_gets wsX4_gets) := goodIn_app (goodIn_of _ (by decide +kernel)) ggX4_pay_X4_gets
set_option maxRecDepth 20000 in
theorem ggX4_pay_X4_let : GoodIn wsX4_pay wsX4_let := goodIn_r _ [22, 11, 35, 36, 37, 38, 39, 40, 41, 42] (by decide +kernel) (by decide +kernel)
set_option maxRecDepth 20000 in
theorem gX4_pay_X4_let : GoodIn wsX4_pay (wsV RX4 53 RX4 yX4_let wsX4_let) := goodIn_app (goodIn_of _ (by decide +kernel)) ggX4_pay_X4_let
set_option maxRecDepth 20000 in
theorem ggX4_pay_X4_canRedeem : GoodIn wsX4_pay wsX4_canRedeem := goodIn_r _ [26, 11, 6, 7, 8, 9, 10, 35, 36, 37, 38, 39, 40, 41, 42] (by decide +kernel) (by decide +kernel)
set_option maxRecDepth 20000 in
theorem gX4_pay_X4_canRedeem : GoodIn wsX4_pay (wsV RX4 85 RX4 yX4_canRedeem wsX4_canRedeem) := goodIn_app (goodIn_of _ (by decide +kernel)) ggX4_pay_X4_canRedeem
set_option maxRecDepth 20000 in
theorem ggX4_pay_X4_redeems : GoodIn wsX4_pay wsX4_redeems := goodIn_r _ [30, 11, 19, 20, 21, 9, 22, 31, 32, 33, 34, 6, 7, 8, 10, 35, 36, 37, 38, 39, 40, 41, 42] (by decide +kernel) (by decide +kernel)
set_option maxRecDepth 20000 in
theorem gX4_pay_X4_redeems : GoodIn wsX4_pay (wsV RX4 88 RX4 yX4_redeems wsX4_redeems) := goodIn_app (goodIn_of _ (by decide +kernel)) ggX4_pay_X4_redeems
theorem dX4_pay_0 : decode cX4_pay 0 = .ok (.aload_n 0, 1) := by decide +kernel
theorem dX4_pay_1 : decode cX4_pay 1 = .ok (.iload_n 1, 1) := by decide +kernel
theorem dX4_pay_2 : decode cX4_pay 2 = .ok (.iconst 2, 1) := by decide +kernel
theorem dX4_pay_3 : decode cX4_pay 3 = .ok (.invokevirtual 63, 3) := by decide +kernel
theorem dX4_pay_6 : decode cX4_pay 6 = .ok (.iconst 1, 1) := by decide +kernel
theorem dX4_pay_7 : decode cX4_pay 7 = .ok (.if_icmp .ne 12, 3) := by decide +kernel
theorem dX4_pay_10 : decode cX4_pay 10 = .ok (.aload_n 0, 1) := by decide +kernel
theorem dX4_pay_11 : decode cX4_pay 11 = .ok (.getfield 16, 3) := by decide +kernel
theorem dX4_pay_14 : decode cX4_pay 14 = .ok (.iload_n 1, 1) := by decide +kernel
theorem dX4_pay_15 : decode cX4_pay 15 = .ok (.iaload, 1) := by decide +kernel
theorem dX4_pay_16 : decode cX4_pay 16 = .ok (.goto 11, 3) := by decide +kernel
theorem dX4_pay_19 : decode cX4_pay 19 = .ok (.aload_n 0, 1) := by decide +kernel
theorem dX4_pay_20 : decode cX4_pay 20 = .ok (.getfield 16, 3) := by decide +kernel
theorem dX4_pay_23 : decode cX4_pay 23 = .ok (.iload_n 1, 1) := by decide +kernel
theorem dX4_pay_24 : decode cX4_pay 24 = .ok (.iaload, 1) := by decide +kernel
theorem dX4_pay_25 : decode cX4_pay 25 = .ok (.iconst 2, 1) := by decide +kernel
theorem dX4_pay_26 : decode cX4_pay 26 = .ok (.idiv, 1) := by decide +kernel
theorem dX4_pay_27 : decode cX4_pay 27 = .ok (.istore_n 2, 1) := by decide +kernel
theorem dX4_pay_28 : decode cX4_pay 28 = .ok (.aload_n 0, 1) := by decide +kernel
theorem dX4_pay_29 : decode cX4_pay 29 = .ok (.iload_n 1, 1) := by decide +kernel
theorem dX4_pay_30 : decode cX4_pay 30 = .ok (.iconst 0, 1) := by decide +kernel
theorem dX4_pay_31 : decode cX4_pay 31 = .ok (.iload_n 2, 1) := by decide +kernel
theorem dX4_pay_32 : decode cX4_pay 32 = .ok (.aload_n 0, 1) := by decide +kernel
theorem dX4_pay_33 : decode cX4_pay 33 = .ok (.iload_n 1, 1) := by decide +kernel
theorem dX4_pay_34 : decode cX4_pay 34 = .ok (.bipush 9, 2) := by decide +kernel
theorem dX4_pay_36 : decode cX4_pay 36 = .ok (.invokevirtual 63, 3) := by decide +kernel
theorem dX4_pay_39 : decode cX4_pay 39 = .ok (.isub, 1) := by decide +kernel
theorem dX4_pay_40 : decode cX4_pay 40 = .ok (.invokestatic 99, 3) := by decide +kernel
theorem dX4_pay_43 : decode cX4_pay 43 = .ok (.invokevirtual 76, 3) := by decide +kernel
theorem dX4_pay_46 : decode cX4_pay 46 = .ok (.pop, 1) := by decide +kernel
theorem dX4_pay_47 : decode cX4_pay 47 = .ok (.aload_n 0, 1) := by decide +kernel
theorem dX4_pay_48 : decode cX4_pay 48 = .ok (.iload_n 1, 1) := by decide +kernel
theorem dX4_pay_49 : decode cX4_pay 49 = .ok (.bipush 9, 2) := by decide +kernel
theorem dX4_pay_51 : decode cX4_pay 51 = .ok (.iconst 0, 1) := by decide +kernel
theorem dX4_pay_52 : decode cX4_pay 52 = .ok (.invokevirtual 53, 3) := by decide +kernel
theorem dX4_pay_55 : decode cX4_pay 55 = .ok (.aload_n 0, 1) := by decide +kernel
theorem dX4_pay_56 : decode cX4_pay 56 = .ok (.iload_n 1, 1) := by decide +kernel
theorem dX4_pay_57 : decode cX4_pay 57 = .ok (.invokevirtual 85, 3) := by decide +kernel
theorem dX4_pay_60 : decode cX4_pay 60 = .ok (.ifCond .eq 9, 3) := by decide +kernel
theorem dX4_pay_63 : decode cX4_pay 63 = .ok (.aload_n 0, 1) := by decide +kernel
theorem dX4_pay_64 : decode cX4_pay 64 = .ok (.iload_n 1, 1) := by decide +kernel
theorem dX4_pay_65 : decode cX4_pay 65 = .ok (.invokevirtual 88, 3) := by decide +kernel
theorem dX4_pay_68 : decode cX4_pay 68 = .ok (.pop, 1) := by decide +kernel
theorem dX4_pay_69 : decode cX4_pay 69 = .ok (.return_, 1) := by decide +kernel
set_option maxRecDepth 20000 in
theorem ggX4_bedFor_X4_sa : GoodIn wsX4_bedFor wsX4_sa := goodIn_r _ [7, 8, 13, 14, 15, 16, 17, 18, 19, 20] (by decide +kernel) (by decide +kernel)
set_option maxRecDepth 20000 in
theorem gX4_bedFor_X4_sa : GoodIn wsX4_bedFor (wsV RX4 63 RX4 yX4_sa wsX4_sa) := goodIn_app (goodIn_of _ (by decide +kernel)) ggX4_bedFor_X4_sa
set_option maxRecDepth 20000 in
theorem ggX4_bedFor_X4_be : GoodIn wsX4_bedFor wsX4_be := goodIn_r _ [12, 8, 13, 14, 15, 16, 17, 18, 19, 20] (by decide +kernel) (by decide +kernel)
set_option maxRecDepth 20000 in
theorem gX4_bedFor_X4_be : GoodIn wsX4_bedFor (wsV RX4 102 RX4 yX4_be wsX4_be) := goodIn_app (goodIn_of _ (by decide +kernel)) ggX4_bedFor_X4_be
theorem dX4_bedFor_0 : decode cX4_bedFor 0 = .ok (.aload_n 0, 1) := by decide +kernel
theorem dX4_bedFor_1 : decode cX4_bedFor 1 = .ok (.iload_n 1, 1) := by decide +kernel
theorem dX4_bedFor_2 : decode cX4_bedFor 2 = .ok (.iconst 3, 1) := by decide +kernel
theorem dX4_bedFor_3 : decode cX4_bedFor 3 = .ok (.invokevirtual 63, 3) := by decide +kernel
theorem dX4_bedFor_6 : decode cX4_bedFor 6 = .ok (.istore_n 2, 1) := by decide +kernel
theorem dX4_bedFor_7 : decode cX4_bedFor 7 = .ok (.iload_n 2, 1) := by decide +kernel
theorem dX4_bedFor_8 : decode cX4_bedFor 8 = .ok (.iconst (-1), 1) := by decide +kernel
theorem dX4_bedFor_9 : decode cX4_bedFor 9 = .ok (.if_icmp .eq 15, 3) := by decide +kernel
theorem dX4_bedFor_12 : decode cX4_bedFor 12 = .ok (.aload_n 0, 1) := by decide +kernel
theorem dX4_bedFor_13 : decode cX4_bedFor 13 = .ok (.iload_n 2, 1) := by decide +kernel
theorem dX4_bedFor_14 : decode cX4_bedFor 14 = .ok (.iconst 3, 1) := by decide +kernel
theorem dX4_bedFor_15 : decode cX4_bedFor 15 = .ok (.invokevirtual 102, 3) := by decide +kernel
theorem dX4_bedFor_18 : decode cX4_bedFor 18 = .ok (.iconst (-1), 1) := by decide +kernel
theorem dX4_bedFor_19 : decode cX4_bedFor 19 = .ok (.if_icmp .ne 5, 3) := by decide +kernel
theorem dX4_bedFor_22 : decode cX4_bedFor 22 = .ok (.iload_n 2, 1) := by decide +kernel
theorem dX4_bedFor_23 : decode cX4_bedFor 23 = .ok (.ireturn, 1) := by decide +kernel
theorem dX4_bedFor_24 : decode cX4_bedFor 24 = .ok (.iconst (-1), 1) := by decide +kernel
theorem dX4_bedFor_25 : decode cX4_bedFor 25 = .ok (.istore_n 3, 1) := by decide +kernel
theorem dX4_bedFor_26 : decode cX4_bedFor 26 = .ok (.iconst 0, 1) := by decide +kernel
theorem dX4_bedFor_27 : decode cX4_bedFor 27 = .ok (.istore 4, 2) := by decide +kernel
theorem dX4_bedFor_29 : decode cX4_bedFor 29 = .ok (.iload 4, 2) := by decide +kernel
theorem dX4_bedFor_31 : decode cX4_bedFor 31 = .ok (.aload_n 0, 1) := by decide +kernel
theorem dX4_bedFor_32 : decode cX4_bedFor 32 = .ok (.getfield 29, 3) := by decide +kernel
theorem dX4_bedFor_35 : decode cX4_bedFor 35 = .ok (.if_icmp .ge 44, 3) := by decide +kernel
theorem dX4_bedFor_38 : decode cX4_bedFor 38 = .ok (.aload_n 0, 1) := by decide +kernel
theorem dX4_bedFor_39 : decode cX4_bedFor 39 = .ok (.iload 4, 2) := by decide +kernel
theorem dX4_bedFor_41 : decode cX4_bedFor 41 = .ok (.iconst 3, 1) := by decide +kernel
theorem dX4_bedFor_42 : decode cX4_bedFor 42 = .ok (.invokevirtual 102, 3) := by decide +kernel
theorem dX4_bedFor_45 : decode cX4_bedFor 45 = .ok (.iconst (-1), 1) := by decide +kernel
theorem dX4_bedFor_46 : decode cX4_bedFor 46 = .ok (.if_icmp .ne 27, 3) := by decide +kernel
theorem dX4_bedFor_49 : decode cX4_bedFor 49 = .ok (.iload_n 3, 1) := by decide +kernel
theorem dX4_bedFor_50 : decode cX4_bedFor 50 = .ok (.iconst (-1), 1) := by decide +kernel
theorem dX4_bedFor_51 : decode cX4_bedFor 51 = .ok (.if_icmp .eq 19, 3) := by decide +kernel
theorem dX4_bedFor_54 : decode cX4_bedFor 54 = .ok (.aload_n 0, 1) := by decide +kernel
theorem dX4_bedFor_55 : decode cX4_bedFor 55 = .ok (.getfield 9, 3) := by decide +kernel
theorem dX4_bedFor_58 : decode cX4_bedFor 58 = .ok (.iload 4, 2) := by decide +kernel
theorem dX4_bedFor_60 : decode cX4_bedFor 60 = .ok (.iaload, 1) := by decide +kernel
theorem dX4_bedFor_61 : decode cX4_bedFor 61 = .ok (.aload_n 0, 1) := by decide +kernel
theorem dX4_bedFor_62 : decode cX4_bedFor 62 = .ok (.getfield 9, 3) := by decide +kernel
theorem dX4_bedFor_65 : decode cX4_bedFor 65 = .ok (.iload_n 3, 1) := by decide +kernel
theorem dX4_bedFor_66 : decode cX4_bedFor 66 = .ok (.iaload, 1) := by decide +kernel
theorem dX4_bedFor_67 : decode cX4_bedFor 67 = .ok (.if_icmp .ge 6, 3) := by decide +kernel
theorem dX4_bedFor_70 : decode cX4_bedFor 70 = .ok (.iload 4, 2) := by decide +kernel
theorem dX4_bedFor_72 : decode cX4_bedFor 72 = .ok (.istore_n 3, 1) := by decide +kernel
theorem dX4_bedFor_73 : decode cX4_bedFor 73 = .ok (.iinc 4 1, 3) := by decide +kernel
theorem dX4_bedFor_76 : decode cX4_bedFor 76 = .ok (.goto (-47), 3) := by decide +kernel
theorem dX4_bedFor_79 : decode cX4_bedFor 79 = .ok (.iload_n 3, 1) := by decide +kernel
theorem dX4_bedFor_80 : decode cX4_bedFor 80 = .ok (.ireturn, 1) := by decide +kernel
set_option maxRecDepth 20000 in
theorem ggX4_lieDown_X4_let : GoodIn wsX4_lieDown wsX4_let := goodIn_r _ [5, 6, 11, 12, 13, 14, 15, 16, 17, 18] (by decide +kernel) (by decide +kernel)
set_option maxRecDepth 20000 in
theorem gX4_lieDown_X4_let : GoodIn wsX4_lieDown (wsV RX4 53 RX4 yX4_let wsX4_let) := goodIn_app (goodIn_of _ (by decide +kernel)) ggX4_lieDown_X4_let
set_option maxRecDepth 20000 in
theorem ggX4_lieDown_X4_more : GoodIn wsX4_lieDown wsX4_more := goodIn_r _ [10, 6, 11, 12, 13, 14, 15, 16, 17, 18] (by decide +kernel) (by decide +kernel)
set_option maxRecDepth 20000 in
theorem gX4_lieDown_X4_more : GoodIn wsX4_lieDown (wsV RX4 79 RX4 yX4_more wsX4_more) := goodIn_app (goodIn_of _ (by decide +kernel)) ggX4_lieDown_X4_more
theorem dX4_lieDown_0 : decode cX4_lieDown 0 = .ok (.aload_n 0, 1) := by decide +kernel
theorem dX4_lieDown_1 : decode cX4_lieDown 1 = .ok (.iload_n 1, 1) := by decide +kernel
theorem dX4_lieDown_2 : decode cX4_lieDown 2 = .ok (.iconst 4, 1) := by decide +kernel
theorem dX4_lieDown_3 : decode cX4_lieDown 3 = .ok (.iconst 2, 1) := by decide +kernel
theorem dX4_lieDown_4 : decode cX4_lieDown 4 = .ok (.invokevirtual 53, 3) := by decide +kernel
theorem dX4_lieDown_7 : decode cX4_lieDown 7 = .ok (.aload_n 0, 1) := by decide +kernel
theorem dX4_lieDown_8 : decode cX4_lieDown 8 = .ok (.iload_n 1, 1) := by decide +kernel
theorem dX4_lieDown_9 : decode cX4_lieDown 9 = .ok (.bipush 8, 2) := by decide +kernel
theorem dX4_lieDown_11 : decode cX4_lieDown 11 = .ok (.iconst 1, 1) := by decide +kernel
theorem dX4_lieDown_12 : decode cX4_lieDown 12 = .ok (.invokevirtual 79, 3) := by decide +kernel
theorem dX4_lieDown_15 : decode cX4_lieDown 15 = .ok (.return_, 1) := by decide +kernel
set_option maxRecDepth 20000 in
theorem ggX4_look_X4_bedFor : GoodIn wsX4_look wsX4_bedFor := goodIn_r _ [7, 8, 2, 9, 10, 11, 6, 12, 1, 13, 14, 15, 16, 45, 46, 47, 48, 49, 50, 51, 52] (by decide +kernel) (by decide +kernel)
set_option maxRecDepth 20000 in
theorem gX4_look_X4_bedFor : GoodIn wsX4_look (wsV RX4 105 RX4 yX4_bedFor wsX4_bedFor) := goodIn_app (goodIn_of _ (by decide +kernel)) ggX4_look_X4_bedFor
set_option maxRecDepth 20000 in
theorem ggX4_look_X4_lieDown : GoodIn wsX4_look wsX4_lieDown := goodIn_r _ [20, 21, 22, 23, 6, 24, 1, 25, 26, 27, 28, 45, 46, 47, 48, 49, 50, 51, 52] (by decide +kernel) (by decide +kernel)
set_option maxRecDepth 20000 in
theorem gX4_look_X4_lieDown : GoodIn wsX4_look (wsV RX4 108 RX4 yX4_lieDown wsX4_lieDown) := goodIn_app (goodIn_of _ (by decide +kernel)) ggX4_look_X4_lieDown
set_option maxRecDepth 20000 in
theorem ggX4_look_X4_sa : GoodIn wsX4_look wsX4_sa := goodIn_r _ [12, 1, 45, 46, 47, 48, 49, 50, 51, 52] (by decide +kernel) (by decide +kernel)
set_option maxRecDepth 20000 in
theorem gX4_look_X4_sa : GoodIn wsX4_look (wsV RX4 63 RX4 yX4_sa wsX4_sa) := goodIn_app (goodIn_of _ (by decide +kernel)) ggX4_look_X4_sa
set_option maxRecDepth 20000 in
theorem ggX4_look_X4_pawns : GoodIn wsX4_look wsX4_pawns := goodIn_r _ [32, 1, 21, 22, 23, 6, 24, 33, 34, 35, 36, 37, 38, 39, 40, 9, 10, 11, 12, 45, 46, 47, 48, 49, 50, 51, 52] (by decide +kernel) (by decide +kernel)
set_option maxRecDepth 20000 in
theorem gX4_look_X4_pawns : GoodIn wsX4_look (wsV RX4 82 RX4 yX4_pawns wsX4_pawns) := goodIn_app (goodIn_of _ (by decide +kernel)) ggX4_look_X4_pawns
set_option maxRecDepth 20000 in
theorem ggX4_look_X4_more : GoodIn wsX4_look wsX4_more := goodIn_r _ [28, 1, 45, 46, 47, 48, 49, 50, 51, 52] (by decide +kernel) (by decide +kernel)
set_option maxRecDepth 20000 in
theorem gX4_look_X4_more : GoodIn wsX4_look (wsV RX4 79 RX4 yX4_more wsX4_more) := goodIn_app (goodIn_of _ (by decide +kernel)) ggX4_look_X4_more
set_option maxRecDepth 20000 in
theorem ggX4_look_X4_let : GoodIn wsX4_look wsX4_let := goodIn_r _ [24, 1, 45, 46, 47, 48, 49, 50, 51, 52] (by decide +kernel) (by decide +kernel)
set_option maxRecDepth 20000 in
theorem gX4_look_X4_let : GoodIn wsX4_look (wsV RX4 53 RX4 yX4_let wsX4_let) := goodIn_app (goodIn_of _ (by decide +kernel)) ggX4_look_X4_let
set_option maxRecDepth 20000 in
theorem ggX4_look_X4_letBed : GoodIn wsX4_look wsX4_letBed := goodIn_r _ [44, 1, 45, 46, 47, 48, 49, 50, 51, 52] (by decide +kernel) (by decide +kernel)
set_option maxRecDepth 20000 in
theorem gX4_look_X4_letBed : GoodIn wsX4_look (wsV RX4 49 RX4 yX4_letBed wsX4_letBed) := goodIn_app (goodIn_of _ (by decide +kernel)) ggX4_look_X4_letBed
set_option maxRecDepth 20000 in
theorem ggX4_look_X4_be : GoodIn wsX4_look wsX4_be := goodIn_r _ [16, 1, 45, 46, 47, 48, 49, 50, 51, 52] (by decide +kernel) (by decide +kernel)
set_option maxRecDepth 20000 in
theorem gX4_look_X4_be : GoodIn wsX4_look (wsV RX4 102 RX4 yX4_be wsX4_be) := goodIn_app (goodIn_of _ (by decide +kernel)) ggX4_look_X4_be
theorem dX4_look_0 : decode cX4_look 0 = .ok (.aload_n 0, 1) := by decide +kernel
theorem dX4_look_1 : decode cX4_look 1 = .ok (.iload_n 1, 1) := by decide +kernel
theorem dX4_look_2 : decode cX4_look 2 = .ok (.invokevirtual 105, 3) := by decide +kernel
theorem dX4_look_5 : decode cX4_look 5 = .ok (.istore_n 2, 1) := by decide +kernel
theorem dX4_look_6 : decode cX4_look 6 = .ok (.iload_n 2, 1) := by decide +kernel
theorem dX4_look_7 : decode cX4_look 7 = .ok (.iconst (-1), 1) := by decide +kernel
theorem dX4_look_8 : decode cX4_look 8 = .ok (.if_icmp .ne 22, 3) := by decide +kernel
theorem dX4_look_11 : decode cX4_look 11 = .ok (.aload_n 0, 1) := by decide +kernel
theorem dX4_look_12 : decode cX4_look 12 = .ok (.getfield 19, 3) := by decide +kernel
theorem dX4_look_15 : decode cX4_look 15 = .ok (.iconst 0, 1) := by decide +kernel
theorem dX4_look_16 : decode cX4_look 16 = .ok (.iaload, 1) := by decide +kernel
theorem dX4_look_17 : decode cX4_look 17 = .ok (.bipush 8, 2) := by decide +kernel
theorem dX4_look_19 : decode cX4_look 19 = .ok (.irem, 1) := by decide +kernel
theorem dX4_look_20 : decode cX4_look 20 = .ok (.iconst 4, 1) := by decide +kernel
theorem dX4_look_21 : decode cX4_look 21 = .ok (.if_icmp .lt 8, 3) := by decide +kernel
theorem dX4_look_24 : decode cX4_look 24 = .ok (.aload_n 0, 1) := by decide +kernel
theorem dX4_look_25 : decode cX4_look 25 = .ok (.iload_n 1, 1) := by decide +kernel
theorem dX4_look_26 : decode cX4_look 26 = .ok (.invokevirtual 108, 3) := by decide +kernel
theorem dX4_look_29 : decode cX4_look 29 = .ok (.return_, 1) := by decide +kernel
theorem dX4_look_30 : decode cX4_look 30 = .ok (.aload_n 0, 1) := by decide +kernel
theorem dX4_look_31 : decode cX4_look 31 = .ok (.getfield 9, 3) := by decide +kernel
theorem dX4_look_34 : decode cX4_look 34 = .ok (.iload_n 2, 1) := by decide +kernel
theorem dX4_look_35 : decode cX4_look 35 = .ok (.iaload, 1) := by decide +kernel
theorem dX4_look_36 : decode cX4_look 36 = .ok (.istore_n 3, 1) := by decide +kernel
theorem dX4_look_37 : decode cX4_look 37 = .ok (.aload_n 0, 1) := by decide +kernel
theorem dX4_look_38 : decode cX4_look 38 = .ok (.iload_n 1, 1) := by decide +kernel
theorem dX4_look_39 : decode cX4_look 39 = .ok (.iconst 1, 1) := by decide +kernel
theorem dX4_look_40 : decode cX4_look 40 = .ok (.invokevirtual 63, 3) := by decide +kernel
theorem dX4_look_43 : decode cX4_look 43 = .ok (.iload_n 3, 1) := by decide +kernel
theorem dX4_look_44 : decode cX4_look 44 = .ok (.if_icmp .ge 36, 3) := by decide +kernel
theorem dX4_look_47 : decode cX4_look 47 = .ok (.aload_n 0, 1) := by decide +kernel
theorem dX4_look_48 : decode cX4_look 48 = .ok (.iload_n 1, 1) := by decide +kernel
theorem dX4_look_49 : decode cX4_look 49 = .ok (.iconst 1, 1) := by decide +kernel
theorem dX4_look_50 : decode cX4_look 50 = .ok (.invokevirtual 63, 3) := by decide +kernel
theorem dX4_look_53 : decode cX4_look 53 = .ok (.aload_n 0, 1) := by decide +kernel
theorem dX4_look_54 : decode cX4_look 54 = .ok (.getfield 19, 3) := by decide +kernel
theorem dX4_look_57 : decode cX4_look 57 = .ok (.iconst 2, 1) := by decide +kernel
theorem dX4_look_58 : decode cX4_look 58 = .ok (.iaload, 1) := by decide +kernel
theorem dX4_look_59 : decode cX4_look 59 = .ok (.iadd, 1) := by decide +kernel
theorem dX4_look_60 : decode cX4_look 60 = .ok (.iload_n 3, 1) := by decide +kernel
theorem dX4_look_61 : decode cX4_look 61 = .ok (.if_icmp .lt 19, 3) := by decide +kernel
theorem dX4_look_64 : decode cX4_look 64 = .ok (.aload_n 0, 1) := by decide +kernel
theorem dX4_look_65 : decode cX4_look 65 = .ok (.iload_n 1, 1) := by decide +kernel
theorem dX4_look_66 : decode cX4_look 66 = .ok (.iconst 2, 1) := by decide +kernel
theorem dX4_look_67 : decode cX4_look 67 = .ok (.invokevirtual 63, 3) := by decide +kernel
theorem dX4_look_70 : decode cX4_look 70 = .ok (.iconst 1, 1) := by decide +kernel
theorem dX4_look_71 : decode cX4_look 71 = .ok (.if_icmp .ne 9, 3) := by decide +kernel
theorem dX4_look_74 : decode cX4_look 74 = .ok (.aload_n 0, 1) := by decide +kernel
theorem dX4_look_75 : decode cX4_look 75 = .ok (.iload_n 1, 1) := by decide +kernel
theorem dX4_look_76 : decode cX4_look 76 = .ok (.invokevirtual 82, 3) := by decide +kernel
theorem dX4_look_79 : decode cX4_look 79 = .ok (.pop, 1) := by decide +kernel
theorem dX4_look_80 : decode cX4_look 80 = .ok (.aload_n 0, 1) := by decide +kernel
theorem dX4_look_81 : decode cX4_look 81 = .ok (.iload_n 1, 1) := by decide +kernel
theorem dX4_look_82 : decode cX4_look 82 = .ok (.iconst 1, 1) := by decide +kernel
theorem dX4_look_83 : decode cX4_look 83 = .ok (.invokevirtual 63, 3) := by decide +kernel
theorem dX4_look_86 : decode cX4_look 86 = .ok (.iload_n 3, 1) := by decide +kernel
theorem dX4_look_87 : decode cX4_look 87 = .ok (.if_icmp .ge 9, 3) := by decide +kernel
theorem dX4_look_90 : decode cX4_look 90 = .ok (.aload_n 0, 1) := by decide +kernel
theorem dX4_look_91 : decode cX4_look 91 = .ok (.iload_n 1, 1) := by decide +kernel
theorem dX4_look_92 : decode cX4_look 92 = .ok (.invokevirtual 108, 3) := by decide +kernel
theorem dX4_look_95 : decode cX4_look 95 = .ok (.return_, 1) := by decide +kernel
theorem dX4_look_96 : decode cX4_look 96 = .ok (.aload_n 0, 1) := by decide +kernel
theorem dX4_look_97 : decode cX4_look 97 = .ok (.iload_n 1, 1) := by decide +kernel
theorem dX4_look_98 : decode cX4_look 98 = .ok (.iconst 1, 1) := by decide +kernel
theorem dX4_look_99 : decode cX4_look 99 = .ok (.iload_n 3, 1) := by decide +kernel
theorem dX4_look_100 : decode cX4_look 100 = .ok (.ineg, 1) := by decide +kernel
theorem dX4_look_101 : decode cX4_look 101 = .ok (.invokevirtual 79, 3) := by decide +kernel
theorem dX4_look_104 : decode cX4_look 104 = .ok (.aload_n 0, 1) := by decide +kernel
theorem dX4_look_105 : decode cX4_look 105 = .ok (.iload_n 1, 1) := by decide +kernel
theorem dX4_look_106 : decode cX4_look 106 = .ok (.iconst 4, 1) := by decide +kernel
theorem dX4_look_107 : decode cX4_look 107 = .ok (.iconst 1, 1) := by decide +kernel
theorem dX4_look_108 : decode cX4_look 108 = .ok (.invokevirtual 53, 3) := by decide +kernel
theorem dX4_look_111 : decode cX4_look 111 = .ok (.aload_n 0, 1) := by decide +kernel
theorem dX4_look_112 : decode cX4_look 112 = .ok (.iload_n 1, 1) := by decide +kernel
theorem dX4_look_113 : decode cX4_look 113 = .ok (.iconst 5, 1) := by decide +kernel
theorem dX4_look_114 : decode cX4_look 114 = .ok (.iload_n 2, 1) := by decide +kernel
theorem dX4_look_115 : decode cX4_look 115 = .ok (.invokevirtual 53, 3) := by decide +kernel
theorem dX4_look_118 : decode cX4_look 118 = .ok (.aload_n 0, 1) := by decide +kernel
theorem dX4_look_119 : decode cX4_look 119 = .ok (.iload_n 2, 1) := by decide +kernel
theorem dX4_look_120 : decode cX4_look 120 = .ok (.iconst 3, 1) := by decide +kernel
theorem dX4_look_121 : decode cX4_look 121 = .ok (.iload_n 1, 1) := by decide +kernel
theorem dX4_look_122 : decode cX4_look 122 = .ok (.invokevirtual 49, 3) := by decide +kernel
theorem dX4_look_125 : decode cX4_look 125 = .ok (.aload_n 0, 1) := by decide +kernel
theorem dX4_look_126 : decode cX4_look 126 = .ok (.iload_n 2, 1) := by decide +kernel
theorem dX4_look_127 : decode cX4_look 127 = .ok (.iconst 1, 1) := by decide +kernel
theorem dX4_look_128 : decode cX4_look 128 = .ok (.aload_n 0, 1) := by decide +kernel
theorem dX4_look_129 : decode cX4_look 129 = .ok (.iload_n 2, 1) := by decide +kernel
theorem dX4_look_130 : decode cX4_look 130 = .ok (.iconst 1, 1) := by decide +kernel
theorem dX4_look_131 : decode cX4_look 131 = .ok (.invokevirtual 102, 3) := by decide +kernel
theorem dX4_look_134 : decode cX4_look 134 = .ok (.iconst 1, 1) := by decide +kernel
theorem dX4_look_135 : decode cX4_look 135 = .ok (.iadd, 1) := by decide +kernel
theorem dX4_look_136 : decode cX4_look 136 = .ok (.invokevirtual 49, 3) := by decide +kernel
theorem dX4_look_139 : decode cX4_look 139 = .ok (.aload_n 0, 1) := by decide +kernel
theorem dX4_look_140 : decode cX4_look 140 = .ok (.iload_n 2, 1) := by decide +kernel
theorem dX4_look_141 : decode cX4_look 141 = .ok (.iconst 2, 1) := by decide +kernel
theorem dX4_look_142 : decode cX4_look 142 = .ok (.aload_n 0, 1) := by decide +kernel
theorem dX4_look_143 : decode cX4_look 143 = .ok (.iload_n 2, 1) := by decide +kernel
theorem dX4_look_144 : decode cX4_look 144 = .ok (.iconst 2, 1) := by decide +kernel
theorem dX4_look_145 : decode cX4_look 145 = .ok (.invokevirtual 102, 3) := by decide +kernel
theorem dX4_look_148 : decode cX4_look 148 = .ok (.iload_n 3, 1) := by decide +kernel
theorem dX4_look_149 : decode cX4_look 149 = .ok (.iadd, 1) := by decide +kernel
theorem dX4_look_150 : decode cX4_look 150 = .ok (.invokevirtual 49, 3) := by decide +kernel
theorem dX4_look_153 : decode cX4_look 153 = .ok (.return_, 1) := by decide +kernel
set_option maxRecDepth 20000 in
theorem ggX4_hourOn_X4_sa : GoodIn wsX4_hourOn wsX4_sa := goodIn_r _ [15, 2, 79, 80, 81, 82, 83, 84, 85, 86] (by decide +kernel) (by decide +kernel)
set_option maxRecDepth 20000 in
theorem gX4_hourOn_X4_sa : GoodIn wsX4_hourOn (wsV RX4 63 RX4 yX4_sa wsX4_sa) := goodIn_app (goodIn_of _ (by decide +kernel)) ggX4_hourOn_X4_sa
set_option maxRecDepth 20000 in
theorem ggX4_hourOn_X4_watch : GoodIn wsX4_hourOn wsX4_watch := goodIn_r _ [19, 2, 79, 80, 81, 82, 83, 84, 85, 86] (by decide +kernel) (by decide +kernel)
set_option maxRecDepth 20000 in
theorem gX4_hourOn_X4_watch : GoodIn wsX4_hourOn (wsV RX4 95 RX4 yX4_watch wsX4_watch) := goodIn_app (goodIn_of _ (by decide +kernel)) ggX4_hourOn_X4_watch
set_option maxRecDepth 20000 in
theorem ggX4_hourOn_X4_ring : GoodIn wsX4_hourOn wsX4_ring := goodIn_r _ [23, 2, 24, 16, 17, 18, 14, 19, 11, 12, 13, 15, 25, 26, 27, 28, 29, 30, 31, 32, 33, 34, 35, 36, 37, 38, 39, 40, 79, 80, 81, 82, 83, 84, 85, 86] (by decide +kernel) (by decide +kernel)
set_option maxRecDepth 20000 in
theorem gX4_hourOn_X4_ring : GoodIn wsX4_hourOn (wsV RX4 111 RX4 yX4_ring wsX4_ring) := goodIn_app (goodIn_of _ (by decide +kernel)) ggX4_hourOn_X4_ring
set_option maxRecDepth 20000 in
theorem ggX4_hourOn_X4_pay : GoodIn wsX4_hourOn wsX4_pay := goodIn_r _ [44, 45, 4, 5, 6, 7, 11, 12, 13, 14, 15, 2, 46, 47, 48, 49, 8, 9, 10, 33, 34, 35, 36, 50, 51, 52, 53, 54, 55, 56, 57, 37, 38, 39, 40, 79, 80, 81, 82, 83, 84, 85, 86] (by decide +kernel) (by decide +kernel)
set_option maxRecDepth 20000 in
theorem gX4_hourOn_X4_pay : GoodIn wsX4_hourOn (wsV RX4 114 RX4 yX4_pay wsX4_pay) := goodIn_app (goodIn_of _ (by decide +kernel)) ggX4_hourOn_X4_pay
set_option maxRecDepth 20000 in
theorem ggX4_hourOn_X4_look : GoodIn wsX4_hourOn wsX4_look := goodIn_r _ [61, 2, 62, 63, 64, 65, 14, 66, 3, 11, 12, 13, 15, 67, 68, 69, 70, 71, 72, 73, 74, 33, 34, 35, 36, 37, 38, 39, 40, 75, 76, 77, 78, 46, 47, 48, 49, 8, 9, 6, 10, 29, 30, 31, 32, 79, 80, 81, 82, 83, 84, 85, 86] (by decide +kernel) (by decide +kernel)
set_option maxRecDepth 20000 in
theorem gX4_hourOn_X4_look : GoodIn wsX4_hourOn (wsV RX4 117 RX4 yX4_look wsX4_look) := goodIn_app (goodIn_of _ (by decide +kernel)) ggX4_hourOn_X4_look
set_option maxRecDepth 20000 in
theorem ggX4_hourOn_X4_be : GoodIn wsX4_hourOn wsX4_be := goodIn_r _ [70, 2, 79, 80, 81, 82, 83, 84, 85, 86] (by decide +kernel) (by decide +kernel)
set_option maxRecDepth 20000 in
theorem gX4_hourOn_X4_be : GoodIn wsX4_hourOn (wsV RX4 102 RX4 yX4_be wsX4_be) := goodIn_app (goodIn_of _ (by decide +kernel)) ggX4_hourOn_X4_be
set_option maxRecDepth 20000 in
theorem ggX4_hourOn_X4_more : GoodIn wsX4_hourOn wsX4_more := goodIn_r _ [40, 2, 79, 80, 81, 82, 83, 84, 85, 86] (by decide +kernel) (by decide +kernel)
set_option maxRecDepth 20000 in
theorem gX4_hourOn_X4_more : GoodIn wsX4_hourOn (wsV RX4 79 RX4 yX4_more wsX4_more) := goodIn_app (goodIn_of _ (by decide +kernel)) ggX4_hourOn_X4_more
set_option maxRecDepth 20000 in
theorem ggX4_hourOn_X4_letBed : GoodIn wsX4_hourOn wsX4_letBed := goodIn_r _ [32, 2, 79, 80, 81, 82, 83, 84, 85, 86] (by decide +kernel) (by decide +kernel)
set_option maxRecDepth 20000 in
theorem gX4_hourOn_X4_letBed : GoodIn wsX4_hourOn (wsV RX4 49 RX4 yX4_letBed wsX4_letBed) := goodIn_app (goodIn_of _ (by decide +kernel)) ggX4_hourOn_X4_letBed
theorem dX4_hourOn_0 : decode cX4_hourOn 0 = .ok (.iconst 0, 1) := by decide +kernel
theorem dX4_hourOn_1 : decode cX4_hourOn 1 = .ok (.istore_n 1, 1) := by decide +kernel
theorem dX4_hourOn_2 : decode cX4_hourOn 2 = .ok (.iload_n 1, 1) := by decide +kernel
theorem dX4_hourOn_3 : decode cX4_hourOn 3 = .ok (.aload_n 0, 1) := by decide +kernel
theorem dX4_hourOn_4 : decode cX4_hourOn 4 = .ok (.getfield 36, 3) := by decide +kernel
theorem dX4_hourOn_7 : decode cX4_hourOn 7 = .ok (.if_icmp .ge 36, 3) := by decide +kernel
theorem dX4_hourOn_10 : decode cX4_hourOn 10 = .ok (.aload_n 0, 1) := by decide +kernel
theorem dX4_hourOn_11 : decode cX4_hourOn 11 = .ok (.iload_n 1, 1) := by decide +kernel
theorem dX4_hourOn_12 : decode cX4_hourOn 12 = .ok (.iconst 4, 1) := by decide +kernel
theorem dX4_hourOn_13 : decode cX4_hourOn 13 = .ok (.invokevirtual 63, 3) := by decide +kernel
theorem dX4_hourOn_16 : decode cX4_hourOn 16 = .ok (.ifCond .eq 21, 3) := by decide +kernel
theorem dX4_hourOn_19 : decode cX4_hourOn 19 = .ok (.aload_n 0, 1) := by decide +kernel
theorem dX4_hourOn_20 : decode cX4_hourOn 20 = .ok (.iload_n 1, 1) := by decide +kernel
theorem dX4_hourOn_21 : decode cX4_hourOn 21 = .ok (.iconst 0, 1) := by decide +kernel
theorem dX4_hourOn_22 : decode cX4_hourOn 22 = .ok (.invokevirtual 63, 3) := by decide +kernel
theorem dX4_hourOn_25 : decode cX4_hourOn 25 = .ok (.aload_n 0, 1) := by decide +kernel
theorem dX4_hourOn_26 : decode cX4_hourOn 26 = .ok (.invokevirtual 95, 3) := by decide +kernel
theorem dX4_hourOn_29 : decode cX4_hourOn 29 = .ok (.if_icmp .eq 8, 3) := by decide +kernel
theorem dX4_hourOn_32 : decode cX4_hourOn 32 = .ok (.aload_n 0, 1) := by decide +kernel
theorem dX4_hourOn_33 : decode cX4_hourOn 33 = .ok (.iload_n 1, 1) := by decide +kernel
theorem dX4_hourOn_34 : decode cX4_hourOn 34 = .ok (.invokevirtual 111, 3) := by decide +kernel
theorem dX4_hourOn_37 : decode cX4_hourOn 37 = .ok (.iinc 1 1, 3) := by decide +kernel
theorem dX4_hourOn_40 : decode cX4_hourOn 40 = .ok (.goto (-38), 3) := by decide +kernel
theorem dX4_hourOn_43 : decode cX4_hourOn 43 = .ok (.iconst 0, 1) := by decide +kernel
theorem dX4_hourOn_44 : decode cX4_hourOn 44 = .ok (.istore_n 1, 1) := by decide +kernel
theorem dX4_hourOn_45 : decode cX4_hourOn 45 = .ok (.iload_n 1, 1) := by decide +kernel
theorem dX4_hourOn_46 : decode cX4_hourOn 46 = .ok (.aload_n 0, 1) := by decide +kernel
theorem dX4_hourOn_47 : decode cX4_hourOn 47 = .ok (.getfield 36, 3) := by decide +kernel
theorem dX4_hourOn_50 : decode cX4_hourOn 50 = .ok (.if_icmp .ge 56, 3) := by decide +kernel
theorem dX4_hourOn_53 : decode cX4_hourOn 53 = .ok (.aload_n 0, 1) := by decide +kernel
theorem dX4_hourOn_54 : decode cX4_hourOn 54 = .ok (.iload_n 1, 1) := by decide +kernel
theorem dX4_hourOn_55 : decode cX4_hourOn 55 = .ok (.iconst 0, 1) := by decide +kernel
theorem dX4_hourOn_56 : decode cX4_hourOn 56 = .ok (.invokevirtual 63, 3) := by decide +kernel
theorem dX4_hourOn_59 : decode cX4_hourOn 59 = .ok (.aload_n 0, 1) := by decide +kernel
theorem dX4_hourOn_60 : decode cX4_hourOn 60 = .ok (.invokevirtual 95, 3) := by decide +kernel
theorem dX4_hourOn_63 : decode cX4_hourOn 63 = .ok (.if_icmp .eq 6, 3) := by decide +kernel
theorem dX4_hourOn_66 : decode cX4_hourOn 66 = .ok (.goto 34, 3) := by decide +kernel
theorem dX4_hourOn_69 : decode cX4_hourOn 69 = .ok (.aload_n 0, 1) := by decide +kernel
theorem dX4_hourOn_70 : decode cX4_hourOn 70 = .ok (.getfield 19, 3) := by decide +kernel
theorem dX4_hourOn_73 : decode cX4_hourOn 73 = .ok (.iconst 0, 1) := by decide +kernel
theorem dX4_hourOn_74 : decode cX4_hourOn 74 = .ok (.iaload, 1) := by decide +kernel
theorem dX4_hourOn_75 : decode cX4_hourOn 75 = .ok (.bipush 8, 2) := by decide +kernel
theorem dX4_hourOn_77 : decode cX4_hourOn 77 = .ok (.irem, 1) := by decide +kernel
theorem dX4_hourOn_78 : decode cX4_hourOn 78 = .ok (.ifCond .ne 8, 3) := by decide +kernel
theorem dX4_hourOn_81 : decode cX4_hourOn 81 = .ok (.aload_n 0, 1) := by decide +kernel
theorem dX4_hourOn_82 : decode cX4_hourOn 82 = .ok (.iload_n 1, 1) := by decide +kernel
theorem dX4_hourOn_83 : decode cX4_hourOn 83 = .ok (.invokevirtual 114, 3) := by decide +kernel
theorem dX4_hourOn_86 : decode cX4_hourOn 86 = .ok (.aload_n 0, 1) := by decide +kernel
theorem dX4_hourOn_87 : decode cX4_hourOn 87 = .ok (.iload_n 1, 1) := by decide +kernel
theorem dX4_hourOn_88 : decode cX4_hourOn 88 = .ok (.iconst 4, 1) := by decide +kernel
theorem dX4_hourOn_89 : decode cX4_hourOn 89 = .ok (.invokevirtual 63, 3) := by decide +kernel
theorem dX4_hourOn_92 : decode cX4_hourOn 92 = .ok (.ifCond .ne 8, 3) := by decide +kernel
theorem dX4_hourOn_95 : decode cX4_hourOn 95 = .ok (.aload_n 0, 1) := by decide +kernel
theorem dX4_hourOn_96 : decode cX4_hourOn 96 = .ok (.iload_n 1, 1) := by decide +kernel
theorem dX4_hourOn_97 : decode cX4_hourOn 97 = .ok (.invokevirtual 117, 3) := by decide +kernel
theorem dX4_hourOn_100 : decode cX4_hourOn 100 = .ok (.iinc 1 1, 3) := by decide +kernel
theorem dX4_hourOn_103 : decode cX4_hourOn 103 = .ok (.goto (-58), 3) := by decide +kernel
theorem dX4_hourOn_106 : decode cX4_hourOn 106 = .ok (.iconst 0, 1) := by decide +kernel
theorem dX4_hourOn_107 : decode cX4_hourOn 107 = .ok (.istore_n 1, 1) := by decide +kernel
theorem dX4_hourOn_108 : decode cX4_hourOn 108 = .ok (.iload_n 1, 1) := by decide +kernel
theorem dX4_hourOn_109 : decode cX4_hourOn 109 = .ok (.aload_n 0, 1) := by decide +kernel
theorem dX4_hourOn_110 : decode cX4_hourOn 110 = .ok (.getfield 36, 3) := by decide +kernel
theorem dX4_hourOn_113 : decode cX4_hourOn 113 = .ok (.if_icmp .ge 74, 3) := by decide +kernel
theorem dX4_hourOn_116 : decode cX4_hourOn 116 = .ok (.aload_n 0, 1) := by decide +kernel
theorem dX4_hourOn_117 : decode cX4_hourOn 117 = .ok (.iload_n 1, 1) := by decide +kernel
theorem dX4_hourOn_118 : decode cX4_hourOn 118 = .ok (.iconst 4, 1) := by decide +kernel
theorem dX4_hourOn_119 : decode cX4_hourOn 119 = .ok (.invokevirtual 63, 3) := by decide +kernel
theorem dX4_hourOn_122 : decode cX4_hourOn 122 = .ok (.iconst 1, 1) := by decide +kernel
theorem dX4_hourOn_123 : decode cX4_hourOn 123 = .ok (.if_icmp .ne 33, 3) := by decide +kernel
theorem dX4_hourOn_126 : decode cX4_hourOn 126 = .ok (.aload_n 0, 1) := by decide +kernel
theorem dX4_hourOn_127 : decode cX4_hourOn 127 = .ok (.iload_n 1, 1) := by decide +kernel
theorem dX4_hourOn_128 : decode cX4_hourOn 128 = .ok (.bipush 6, 2) := by decide +kernel
theorem dX4_hourOn_130 : decode cX4_hourOn 130 = .ok (.aload_n 0, 1) := by decide +kernel
theorem dX4_hourOn_131 : decode cX4_hourOn 131 = .ok (.aload_n 0, 1) := by decide +kernel
theorem dX4_hourOn_132 : decode cX4_hourOn 132 = .ok (.iload_n 1, 1) := by decide +kernel
theorem dX4_hourOn_133 : decode cX4_hourOn 133 = .ok (.iconst 5, 1) := by decide +kernel
theorem dX4_hourOn_134 : decode cX4_hourOn 134 = .ok (.invokevirtual 63, 3) := by decide +kernel
theorem dX4_hourOn_137 : decode cX4_hourOn 137 = .ok (.iconst 0, 1) := by decide +kernel
theorem dX4_hourOn_138 : decode cX4_hourOn 138 = .ok (.invokevirtual 102, 3) := by decide +kernel
theorem dX4_hourOn_141 : decode cX4_hourOn 141 = .ok (.iconst 4, 1) := by decide +kernel
theorem dX4_hourOn_142 : decode cX4_hourOn 142 = .ok (.if_icmp .lt 7, 3) := by decide +kernel
theorem dX4_hourOn_145 : decode cX4_hourOn 145 = .ok (.iconst 2, 1) := by decide +kernel
theorem dX4_hourOn_146 : decode cX4_hourOn 146 = .ok (.goto 4, 3) := by decide +kernel
theorem dX4_hourOn_149 : decode cX4_hourOn 149 = .ok (.iconst 1, 1) := by decide +kernel
theorem dX4_hourOn_150 : decode cX4_hourOn 150 = .ok (.invokevirtual 79, 3) := by decide +kernel
theorem dX4_hourOn_153 : decode cX4_hourOn 153 = .ok (.goto 28, 3) := by decide +kernel
theorem dX4_hourOn_156 : decode cX4_hourOn 156 = .ok (.aload_n 0, 1) := by decide +kernel
theorem dX4_hourOn_157 : decode cX4_hourOn 157 = .ok (.iload_n 1, 1) := by decide +kernel
theorem dX4_hourOn_158 : decode cX4_hourOn 158 = .ok (.iconst 4, 1) := by decide +kernel
theorem dX4_hourOn_159 : decode cX4_hourOn 159 = .ok (.invokevirtual 63, 3) := by decide +kernel
theorem dX4_hourOn_162 : decode cX4_hourOn 162 = .ok (.iconst 2, 1) := by decide +kernel
theorem dX4_hourOn_163 : decode cX4_hourOn 163 = .ok (.if_icmp .ne 18, 3) := by decide +kernel
theorem dX4_hourOn_166 : decode cX4_hourOn 166 = .ok (.aload_n 0, 1) := by decide +kernel
theorem dX4_hourOn_167 : decode cX4_hourOn 167 = .ok (.iload_n 1, 1) := by decide +kernel
theorem dX4_hourOn_168 : decode cX4_hourOn 168 = .ok (.bipush 6, 2) := by decide +kernel
theorem dX4_hourOn_170 : decode cX4_hourOn 170 = .ok (.aload_n 0, 1) := by decide +kernel
theorem dX4_hourOn_171 : decode cX4_hourOn 171 = .ok (.getfield 19, 3) := by decide +kernel
theorem dX4_hourOn_174 : decode cX4_hourOn 174 = .ok (.iconst 0, 1) := by decide +kernel
theorem dX4_hourOn_175 : decode cX4_hourOn 175 = .ok (.iaload, 1) := by decide +kernel
theorem dX4_hourOn_176 : decode cX4_hourOn 176 = .ok (.iconst 2, 1) := by decide +kernel
theorem dX4_hourOn_177 : decode cX4_hourOn 177 = .ok (.irem, 1) := by decide +kernel
theorem dX4_hourOn_178 : decode cX4_hourOn 178 = .ok (.invokevirtual 79, 3) := by decide +kernel
theorem dX4_hourOn_181 : decode cX4_hourOn 181 = .ok (.iinc 1 1, 3) := by decide +kernel
theorem dX4_hourOn_184 : decode cX4_hourOn 184 = .ok (.goto (-76), 3) := by decide +kernel
theorem dX4_hourOn_187 : decode cX4_hourOn 187 = .ok (.iconst 0, 1) := by decide +kernel
theorem dX4_hourOn_188 : decode cX4_hourOn 188 = .ok (.istore_n 1, 1) := by decide +kernel
theorem dX4_hourOn_189 : decode cX4_hourOn 189 = .ok (.iload_n 1, 1) := by decide +kernel
theorem dX4_hourOn_190 : decode cX4_hourOn 190 = .ok (.aload_n 0, 1) := by decide +kernel
theorem dX4_hourOn_191 : decode cX4_hourOn 191 = .ok (.getfield 29, 3) := by decide +kernel
theorem dX4_hourOn_194 : decode cX4_hourOn 194 = .ok (.if_icmp .ge 53, 3) := by decide +kernel
theorem dX4_hourOn_197 : decode cX4_hourOn 197 = .ok (.aload_n 0, 1) := by decide +kernel
theorem dX4_hourOn_198 : decode cX4_hourOn 198 = .ok (.iload_n 1, 1) := by decide +kernel
theorem dX4_hourOn_199 : decode cX4_hourOn 199 = .ok (.iconst 0, 1) := by decide +kernel
theorem dX4_hourOn_200 : decode cX4_hourOn 200 = .ok (.aload_n 0, 1) := by decide +kernel
theorem dX4_hourOn_201 : decode cX4_hourOn 201 = .ok (.iload_n 1, 1) := by decide +kernel
theorem dX4_hourOn_202 : decode cX4_hourOn 202 = .ok (.iconst 3, 1) := by decide +kernel
theorem dX4_hourOn_203 : decode cX4_hourOn 203 = .ok (.invokevirtual 102, 3) := by decide +kernel
theorem dX4_hourOn_206 : decode cX4_hourOn 206 = .ok (.iconst (-1), 1) := by decide +kernel
theorem dX4_hourOn_207 : decode cX4_hourOn 207 = .ok (.if_icmp .ne 18, 3) := by decide +kernel
theorem dX4_hourOn_210 : decode cX4_hourOn 210 = .ok (.iconst 0, 1) := by decide +kernel
theorem dX4_hourOn_211 : decode cX4_hourOn 211 = .ok (.aload_n 0, 1) := by decide +kernel
theorem dX4_hourOn_212 : decode cX4_hourOn 212 = .ok (.iload_n 1, 1) := by decide +kernel
theorem dX4_hourOn_213 : decode cX4_hourOn 213 = .ok (.iconst 0, 1) := by decide +kernel
theorem dX4_hourOn_214 : decode cX4_hourOn 214 = .ok (.invokevirtual 102, 3) := by decide +kernel
theorem dX4_hourOn_217 : decode cX4_hourOn 217 = .ok (.iconst 1, 1) := by decide +kernel
theorem dX4_hourOn_218 : decode cX4_hourOn 218 = .ok (.isub, 1) := by decide +kernel
theorem dX4_hourOn_219 : decode cX4_hourOn 219 = .ok (.invokestatic 99, 3) := by decide +kernel
theorem dX4_hourOn_222 : decode cX4_hourOn 222 = .ok (.goto 16, 3) := by decide +kernel
theorem dX4_hourOn_225 : decode cX4_hourOn 225 = .ok (.bipush 8, 2) := by decide +kernel
theorem dX4_hourOn_227 : decode cX4_hourOn 227 = .ok (.aload_n 0, 1) := by decide +kernel
theorem dX4_hourOn_228 : decode cX4_hourOn 228 = .ok (.iload_n 1, 1) := by decide +kernel
theorem dX4_hourOn_229 : decode cX4_hourOn 229 = .ok (.iconst 0, 1) := by decide +kernel
theorem dX4_hourOn_230 : decode cX4_hourOn 230 = .ok (.invokevirtual 102, 3) := by decide +kernel
theorem dX4_hourOn_233 : decode cX4_hourOn 233 = .ok (.iconst 2, 1) := by decide +kernel
theorem dX4_hourOn_234 : decode cX4_hourOn 234 = .ok (.iadd, 1) := by decide +kernel
theorem dX4_hourOn_235 : decode cX4_hourOn 235 = .ok (.invokestatic 71, 3) := by decide +kernel
theorem dX4_hourOn_238 : decode cX4_hourOn 238 = .ok (.invokevirtual 49, 3) := by decide +kernel
theorem dX4_hourOn_241 : decode cX4_hourOn 241 = .ok (.iinc 1 1, 3) := by decide +kernel
theorem dX4_hourOn_244 : decode cX4_hourOn 244 = .ok (.goto (-55), 3) := by decide +kernel
theorem dX4_hourOn_247 : decode cX4_hourOn 247 = .ok (.aload_n 0, 1) := by decide +kernel
theorem dX4_hourOn_248 : decode cX4_hourOn 248 = .ok (.getfield 19, 3) := by decide +kernel
theorem dX4_hourOn_251 : decode cX4_hourOn 251 = .ok (.iconst 0, 1) := by decide +kernel
theorem dX4_hourOn_252 : decode cX4_hourOn 252 = .ok (.dup2, 1) := by decide +kernel
theorem dX4_hourOn_253 : decode cX4_hourOn 253 = .ok (.iaload, 1) := by decide +kernel
theorem dX4_hourOn_254 : decode cX4_hourOn 254 = .ok (.iconst 1, 1) := by decide +kernel
theorem dX4_hourOn_255 : decode cX4_hourOn 255 = .ok (.iadd, 1) := by decide +kernel
theorem dX4_hourOn_256 : decode cX4_hourOn 256 = .ok (.iastore, 1) := by decide +kernel
theorem dX4_hourOn_257 : decode cX4_hourOn 257 = .ok (.return_, 1) := by decide +kernel
set_option maxRecDepth 20000 in
theorem ggX4_hoursOn_X4_hourOn : GoodIn wsX4_hoursOn wsX4_hourOn := goodIn_r _ [5, 6, 7, 8, 9, 10, 11, 12, 13, 14, 15, 16, 17, 18, 4, 19, 20, 21, 22, 23, 24, 25, 26, 27, 28, 29, 30, 31, 32, 33, 34, 35, 36, 37, 38, 39, 40, 41, 42, 43, 44, 45, 46, 47, 48, 49, 50, 51, 52, 53, 54, 55, 56, 57, 58, 59, 60, 61, 62, 63, 64, 65, 66, 67, 68, 69, 70, 71, 72, 73, 74, 75, 76, 77, 78, 79, 80, 81, 82, 83, 84, 85, 86, 87, 88, 89, 90] (by decide +kernel) (by decide +kernel)
set_option maxRecDepth 20000 in
theorem gX4_hoursOn_X4_hourOn : GoodIn wsX4_hoursOn (wsV RX4 120 RX4 yX4_hourOn wsX4_hourOn) := goodIn_app (goodIn_of _ (by decide +kernel)) ggX4_hoursOn_X4_hourOn
theorem dX4_hoursOn_0 : decode cX4_hoursOn 0 = .ok (.iconst 0, 1) := by decide +kernel
theorem dX4_hoursOn_1 : decode cX4_hoursOn 1 = .ok (.istore_n 2, 1) := by decide +kernel
theorem dX4_hoursOn_2 : decode cX4_hoursOn 2 = .ok (.iload_n 2, 1) := by decide +kernel
theorem dX4_hoursOn_3 : decode cX4_hoursOn 3 = .ok (.iload_n 1, 1) := by decide +kernel
theorem dX4_hoursOn_4 : decode cX4_hoursOn 4 = .ok (.if_icmp .ge 13, 3) := by decide +kernel
theorem dX4_hoursOn_7 : decode cX4_hoursOn 7 = .ok (.aload_n 0, 1) := by decide +kernel
theorem dX4_hoursOn_8 : decode cX4_hoursOn 8 = .ok (.invokevirtual 120, 3) := by decide +kernel
theorem dX4_hoursOn_11 : decode cX4_hoursOn 11 = .ok (.iinc 2 1, 3) := by decide +kernel
theorem dX4_hoursOn_14 : decode cX4_hoursOn 14 = .ok (.goto (-12), 3) := by decide +kernel
theorem dX4_hoursOn_17 : decode cX4_hoursOn 17 = .ok (.return_, 1) := by decide +kernel
set_option maxRecDepth 20000 in
theorem ggX4_sum_X4_sa : GoodIn wsX4_sum wsX4_sa := goodIn_r _ [6, 7, 8, 9, 10, 11, 12, 13, 14, 15] (by decide +kernel) (by decide +kernel)
set_option maxRecDepth 20000 in
theorem gX4_sum_X4_sa : GoodIn wsX4_sum (wsV RX4 63 RX4 yX4_sa wsX4_sa) := goodIn_app (goodIn_of _ (by decide +kernel)) ggX4_sum_X4_sa
theorem dX4_sum_0 : decode cX4_sum 0 = .ok (.iconst 0, 1) := by decide +kernel
theorem dX4_sum_1 : decode cX4_sum 1 = .ok (.istore_n 2, 1) := by decide +kernel
theorem dX4_sum_2 : decode cX4_sum 2 = .ok (.iconst 0, 1) := by decide +kernel
theorem dX4_sum_3 : decode cX4_sum 3 = .ok (.istore_n 3, 1) := by decide +kernel
theorem dX4_sum_4 : decode cX4_sum 4 = .ok (.iload_n 3, 1) := by decide +kernel
theorem dX4_sum_5 : decode cX4_sum 5 = .ok (.aload_n 0, 1) := by decide +kernel
theorem dX4_sum_6 : decode cX4_sum 6 = .ok (.getfield 36, 3) := by decide +kernel
theorem dX4_sum_9 : decode cX4_sum 9 = .ok (.if_icmp .ge 18, 3) := by decide +kernel
theorem dX4_sum_12 : decode cX4_sum 12 = .ok (.iload_n 2, 1) := by decide +kernel
theorem dX4_sum_13 : decode cX4_sum 13 = .ok (.aload_n 0, 1) := by decide +kernel
theorem dX4_sum_14 : decode cX4_sum 14 = .ok (.iload_n 3, 1) := by decide +kernel
theorem dX4_sum_15 : decode cX4_sum 15 = .ok (.iload_n 1, 1) := by decide +kernel
theorem dX4_sum_16 : decode cX4_sum 16 = .ok (.invokevirtual 63, 3) := by decide +kernel
theorem dX4_sum_19 : decode cX4_sum 19 = .ok (.iadd, 1) := by decide +kernel
theorem dX4_sum_20 : decode cX4_sum 20 = .ok (.istore_n 2, 1) := by decide +kernel
theorem dX4_sum_21 : decode cX4_sum 21 = .ok (.iinc 3 1, 3) := by decide +kernel
theorem dX4_sum_24 : decode cX4_sum 24 = .ok (.goto (-20), 3) := by decide +kernel
theorem dX4_sum_27 : decode cX4_sum 27 = .ok (.iload_n 2, 1) := by decide +kernel
theorem dX4_sum_28 : decode cX4_sum 28 = .ok (.ireturn, 1) := by decide +kernel
set_option maxRecDepth 20000 in
theorem ggX4_pass_X4_isIn : GoodIn wsX4_pass wsX4_isIn := goodIn_r _ [5] (by decide +kernel) (by decide +kernel)
set_option maxRecDepth 20000 in
theorem gX4_pass_X4_isIn : GoodIn wsX4_pass (va_wsS RX4 32 yX4_isIn wsX4_isIn) := goodIn_app (goodIn_of _ (by decide +kernel)) ggX4_pass_X4_isIn
set_option maxRecDepth 20000 in
theorem ggX4_pass_X4_fail : GoodIn wsX4_pass wsX4_fail := goodIn_r _ [9, 1, 99, 100, 101, 102, 103, 104, 105, 106] (by decide +kernel) (by decide +kernel)
set_option maxRecDepth 20000 in
theorem gX4_pass_X4_fail : GoodIn wsX4_pass (wsV RX4 45 RX4 yX4_fail wsX4_fail) := goodIn_app (goodIn_of _ (by decide +kernel)) ggX4_pass_X4_fail
set_option maxRecDepth 20000 in
theorem ggX4_pass_X4_sum : GoodIn wsX4_pass wsX4_sum := goodIn_r _ [13, 14, 15, 16, 17, 4, 18, 19, 99, 100, 101, 102, 103, 104, 105, 106] (by decide +kernel) (by decide +kernel)
set_option maxRecDepth 20000 in
theorem gX4_pass_X4_sum : GoodIn wsX4_pass (wsV RX4 123 RX4 yX4_sum wsX4_sum) := goodIn_app (goodIn_of _ (by decide +kernel)) ggX4_pass_X4_sum
set_option maxRecDepth 20000 in
theorem ggX4_pass_X4_hoursOn : GoodIn wsX4_pass wsX4_hoursOn := goodIn_r _ [23, 24, 25, 26, 4, 27, 14, 19, 28, 29, 30, 31, 32, 33, 34, 35, 15, 16, 17, 18, 36, 37, 38, 39, 40, 41, 42, 43, 44, 45, 46, 47, 48, 49, 50, 51, 52, 53, 54, 55, 56, 57, 58, 59, 60, 61, 62, 63, 64, 65, 66, 67, 68, 69, 70, 71, 72, 73, 74, 75, 76, 77, 78, 79, 80, 81, 82, 83, 84, 85, 86, 87, 88, 89, 90, 91, 92, 93, 94, 95, 96, 97, 98, 99, 100, 101, 102, 103, 104, 105, 106] (by decide +kernel) (by decide +kernel)
set_option maxRecDepth 20000 in
theorem gX4_pass_X4_hoursOn : GoodIn wsX4_pass (wsV RX4 126 RX4 yX4_hoursOn wsX4_hoursOn) := goodIn_app (goodIn_of _ (by decide +kernel)) ggX4_pass_X4_hoursOn
theorem dX4_pass_0 : decode cX4_pass 0 = .ok (.aload_n 0, 1) := by decide +kernel
theorem dX4_pass_1 : decode cX4_pass 1 = .ok (.iconst 0, 1) := by decide +kernel
theorem dX4_pass_2 : decode cX4_pass 2 = .ok (.putfield 25, 3) := by decide +kernel
theorem dX4_pass_5 : decode cX4_pass 5 = .ok (.iload_n 1, 1) := by decide +kernel
theorem dX4_pass_6 : decode cX4_pass 6 = .ok (.iconst 1, 1) := by decide +kernel
theorem dX4_pass_7 : decode cX4_pass 7 = .ok (.bipush 72, 2) := by decide +kernel
theorem dX4_pass_9 : decode cX4_pass 9 = .ok (.invokestatic 32, 3) := by decide +kernel
theorem dX4_pass_12 : decode cX4_pass 12 = .ok (.ifCond .ne 9, 3) := by decide +kernel
theorem dX4_pass_15 : decode cX4_pass 15 = .ok (.aload_n 0, 1) := by decide +kernel
theorem dX4_pass_16 : decode cX4_pass 16 = .ok (.iconst 1, 1) := by decide +kernel
theorem dX4_pass_17 : decode cX4_pass 17 = .ok (.invokevirtual 45, 3) := by decide +kernel
theorem dX4_pass_20 : decode cX4_pass 20 = .ok (.ireturn, 1) := by decide +kernel
theorem dX4_pass_21 : decode cX4_pass 21 = .ok (.aload_n 0, 1) := by decide +kernel
theorem dX4_pass_22 : decode cX4_pass 22 = .ok (.bipush 8, 2) := by decide +kernel
theorem dX4_pass_24 : decode cX4_pass 24 = .ok (.invokevirtual 123, 3) := by decide +kernel
theorem dX4_pass_27 : decode cX4_pass 27 = .ok (.istore_n 2, 1) := by decide +kernel
theorem dX4_pass_28 : decode cX4_pass 28 = .ok (.aload_n 0, 1) := by decide +kernel
theorem dX4_pass_29 : decode cX4_pass 29 = .ok (.iload_n 1, 1) := by decide +kernel
theorem dX4_pass_30 : decode cX4_pass 30 = .ok (.invokevirtual 126, 3) := by decide +kernel
theorem dX4_pass_33 : decode cX4_pass 33 = .ok (.aload_n 0, 1) := by decide +kernel
theorem dX4_pass_34 : decode cX4_pass 34 = .ok (.bipush 8, 2) := by decide +kernel
theorem dX4_pass_36 : decode cX4_pass 36 = .ok (.invokevirtual 123, 3) := by decide +kernel
theorem dX4_pass_39 : decode cX4_pass 39 = .ok (.iload_n 2, 1) := by decide +kernel
theorem dX4_pass_40 : decode cX4_pass 40 = .ok (.isub, 1) := by decide +kernel
theorem dX4_pass_41 : decode cX4_pass 41 = .ok (.ireturn, 1) := by decide +kernel
set_option maxRecDepth 20000 in
theorem ggX4_sailorTold_X4_sa : GoodIn wsX4_sailorTold wsX4_sa := goodIn_r _ [7, 8, 9, 10, 11, 12, 13, 14, 15, 16] (by decide +kernel) (by decide +kernel)
set_option maxRecDepth 20000 in
theorem gX4_sailorTold_X4_sa : GoodIn wsX4_sailorTold (wsV RX4 63 RX4 yX4_sa wsX4_sa) := goodIn_app (goodIn_of _ (by decide +kernel)) ggX4_sailorTold_X4_sa
theorem dX4_sailorTold_0 : decode cX4_sailorTold 0 = .ok (.iload_n 2, 1) := by decide +kernel
theorem dX4_sailorTold_1 : decode cX4_sailorTold 1 = .ok (.tableswitch 48 0 2 #[27, 34, 41], 27) := by decide +kernel
theorem dX4_sailorTold_28 : decode cX4_sailorTold 28 = .ok (.aload_n 0, 1) := by decide +kernel
theorem dX4_sailorTold_29 : decode cX4_sailorTold 29 = .ok (.iload_n 1, 1) := by decide +kernel
theorem dX4_sailorTold_30 : decode cX4_sailorTold 30 = .ok (.iconst 0, 1) := by decide +kernel
theorem dX4_sailorTold_31 : decode cX4_sailorTold 31 = .ok (.invokevirtual 63, 3) := by decide +kernel
