set_option maxRecDepth 20000 in
theorem ggX3_init_X1_init : GoodIn wsX3_init wsX1_init := goodIn_r _ [10, 11, 2, 3, 12, 13, 14, 15, 16, 17, 18, 19, 20, 21, 22, 23, 24, 25, 26, 27, 28, 29, 30, 31, 32, 33, 34, 35, 36, 37, 38, 39, 40, 41, 42, 43, 44, 45, 46, 47, 48, 49, 50, 51, 52, 53, 56, 57, 58, 59, 60, 61, 62, 63, 64, 65, 66, 67, 68, 69, 70, 71, 72, 73, 74] (by decide +kernel) (by decide +kernel)
set_option maxRecDepth 20000 in
theorem gX3_init_X1_init_n9 : GoodIn wsX3_init (wsX1_init) := ggX3_init_X1_init
theorem dX3_init_0 : decode cX3_init 0 = .ok (.aload_n 0, 1) := by decide +kernel
theorem dX3_init_1 : decode cX3_init 1 = .ok (.invokespecial 1, 3) := by decide +kernel
theorem dX3_init_4 : decode cX3_init 4 = .ok (.aload_n 0, 1) := by decide +kernel
theorem dX3_init_5 : decode cX3_init 5 = .ok (.new 7, 3) := by decide +kernel
theorem dX3_init_8 : decode cX3_init 8 = .ok (.dup, 1) := by decide +kernel
theorem dX3_init_9 : decode cX3_init 9 = .ok (.invokespecial 9, 3) := by decide +kernel
theorem dX3_init_12 : decode cX3_init 12 = .ok (.putfield 10, 3) := by decide +kernel
theorem dX3_init_15 : decode cX3_init 15 = .ok (.aload_n 0, 1) := by decide +kernel
theorem dX3_init_16 : decode cX3_init 16 = .ok (.new 7, 3) := by decide +kernel
theorem dX3_init_19 : decode cX3_init 19 = .ok (.dup, 1) := by decide +kernel
theorem dX3_init_20 : decode cX3_init 20 = .ok (.invokespecial 9, 3) := by decide +kernel
theorem dX3_init_23 : decode cX3_init 23 = .ok (.putfield 16, 3) := by decide +kernel
theorem dX3_init_26 : decode cX3_init 26 = .ok (.return_, 1) := by decide +kernel
set_option maxRecDepth 20000 in
theorem ggX3_bed_X0_add : GoodIn wsX3_bed wsX0_add := goodIn_ca (goodIn_r _ [9, 10, 11, 12, 13, 14, 22, 23, 24, 25, 26, 27] (by decide +kernel) (by decide +kernel)) (goodIn_sub (fun _ h => List.mem_cons_of_mem _ (List.mem_append_right _ h)) (by decide +kernel))
set_option maxRecDepth 20000 in
theorem gX3_bed_X0_add : GoodIn wsX3_bed (wsV RX3 30 RX0 yX0_add wsX0_add) := goodIn_app (goodIn_of _ (by decide +kernel)) ggX3_bed_X0_add
theorem dX3_bed_0 : decode cX3_bed 0 = .ok (.iload_n 1, 1) := by decide +kernel
theorem dX3_bed_1 : decode cX3_bed 1 = .ok (.ifCond .lt 9, 3) := by decide +kernel
theorem dX3_bed_4 : decode cX3_bed 4 = .ok (.iload_n 1, 1) := by decide +kernel
theorem dX3_bed_5 : decode cX3_bed 5 = .ok (.bipush 9, 2) := by decide +kernel
theorem dX3_bed_7 : decode cX3_bed 7 = .ok (.if_icmp .le 13, 3) := by decide +kernel
theorem dX3_bed_10 : decode cX3_bed 10 = .ok (.new 19, 3) := by decide +kernel
theorem dX3_bed_13 : decode cX3_bed 13 = .ok (.dup, 1) := by decide +kernel
theorem dX3_bed_14 : decode cX3_bed 14 = .ok (.ldc 21, 2) := by decide +kernel
theorem dX3_bed_16 : decode cX3_bed 16 = .ok (.invokespecial 23, 3) := by decide +kernel
theorem dX3_bed_19 : decode cX3_bed 19 = .ok (.athrow, 1) := by decide +kernel
theorem dX3_bed_20 : decode cX3_bed 20 = .ok (.aload_n 0, 1) := by decide +kernel
theorem dX3_bed_21 : decode cX3_bed 21 = .ok (.getfield 10, 3) := by decide +kernel
theorem dX3_bed_24 : decode cX3_bed 24 = .ok (.getfield 26, 3) := by decide +kernel
theorem dX3_bed_27 : decode cX3_bed 27 = .ok (.iload_n 1, 1) := by decide +kernel
theorem dX3_bed_28 : decode cX3_bed 28 = .ok (.invokevirtual 30, 3) := by decide +kernel
theorem dX3_bed_31 : decode cX3_bed 31 = .ok (.ireturn, 1) := by decide +kernel
set_option maxRecDepth 20000 in
theorem ggX3_sailor_X3_requireWatch : GoodIn wsX3_sailor wsX3_requireWatch := goodIn_ca (goodIn_r _ [8, 9, 10] (by decide +kernel) (by decide +kernel)) (goodIn_sub (fun _ h => List.mem_cons_of_mem _ (List.mem_append_left _ (List.mem_append_right _ h))) (by decide +kernel))
set_option maxRecDepth 20000 in
theorem gX3_sailor_X3_requireWatch : GoodIn wsX3_sailor (va_wsS RX3 36 yX3_requireWatch wsX3_requireWatch) := goodIn_app (goodIn_of _ (by decide +kernel)) ggX3_sailor_X3_requireWatch
set_option maxRecDepth 20000 in
theorem ggX3_sailor_X2_add : GoodIn wsX3_sailor wsX2_add := goodIn_ca (goodIn_r _ [15, 16, 17, 18, 19, 20, 21, 22, 23, 24, 25, 26, 34, 35, 36, 37, 38, 39, 40, 41, 42, 43, 44, 45, 46] (by decide +kernel) (by decide +kernel)) (goodIn_sub (fun _ h => List.mem_cons_of_mem _ (List.mem_append_right _ h)) (by decide +kernel))
set_option maxRecDepth 20000 in
theorem gX3_sailor_X2_add : GoodIn wsX3_sailor (wsV RX3 52 RX2 yX2_add wsX2_add) := goodIn_app (goodIn_of _ (by decide +kernel)) ggX3_sailor_X2_add
theorem dX3_sailor_0 : decode cX3_sailor 0 = .ok (.iload_n 1, 1) := by decide +kernel
theorem dX3_sailor_1 : decode cX3_sailor 1 = .ok (.invokestatic 36, 3) := by decide +kernel
theorem dX3_sailor_4 : decode cX3_sailor 4 = .ok (.iload_n 2, 1) := by decide +kernel
theorem dX3_sailor_5 : decode cX3_sailor 5 = .ok (.ifCond .lt 9, 3) := by decide +kernel
theorem dX3_sailor_8 : decode cX3_sailor 8 = .ok (.iload_n 2, 1) := by decide +kernel
theorem dX3_sailor_9 : decode cX3_sailor 9 = .ok (.bipush 9, 2) := by decide +kernel
theorem dX3_sailor_11 : decode cX3_sailor 11 = .ok (.if_icmp .le 13, 3) := by decide +kernel
theorem dX3_sailor_14 : decode cX3_sailor 14 = .ok (.new 19, 3) := by decide +kernel
theorem dX3_sailor_17 : decode cX3_sailor 17 = .ok (.dup, 1) := by decide +kernel
theorem dX3_sailor_18 : decode cX3_sailor 18 = .ok (.ldc 40, 2) := by decide +kernel
theorem dX3_sailor_20 : decode cX3_sailor 20 = .ok (.invokespecial 23, 3) := by decide +kernel
theorem dX3_sailor_23 : decode cX3_sailor 23 = .ok (.athrow, 1) := by decide +kernel
theorem dX3_sailor_24 : decode cX3_sailor 24 = .ok (.iload_n 3, 1) := by decide +kernel
theorem dX3_sailor_25 : decode cX3_sailor 25 = .ok (.ifCond .lt 9, 3) := by decide +kernel
theorem dX3_sailor_28 : decode cX3_sailor 28 = .ok (.iload_n 3, 1) := by decide +kernel
theorem dX3_sailor_29 : decode cX3_sailor 29 = .ok (.bipush 20, 2) := by decide +kernel
theorem dX3_sailor_31 : decode cX3_sailor 31 = .ok (.if_icmp .le 13, 3) := by decide +kernel
theorem dX3_sailor_34 : decode cX3_sailor 34 = .ok (.new 19, 3) := by decide +kernel
theorem dX3_sailor_37 : decode cX3_sailor 37 = .ok (.dup, 1) := by decide +kernel
theorem dX3_sailor_38 : decode cX3_sailor 38 = .ok (.ldc 42, 2) := by decide +kernel
theorem dX3_sailor_40 : decode cX3_sailor 40 = .ok (.invokespecial 23, 3) := by decide +kernel
theorem dX3_sailor_43 : decode cX3_sailor 43 = .ok (.athrow, 1) := by decide +kernel
theorem dX3_sailor_44 : decode cX3_sailor 44 = .ok (.iload 4, 2) := by decide +kernel
theorem dX3_sailor_46 : decode cX3_sailor 46 = .ok (.ifCond .lt 10, 3) := by decide +kernel
theorem dX3_sailor_49 : decode cX3_sailor 49 = .ok (.iload 4, 2) := by decide +kernel
theorem dX3_sailor_51 : decode cX3_sailor 51 = .ok (.bipush 99, 2) := by decide +kernel
theorem dX3_sailor_53 : decode cX3_sailor 53 = .ok (.if_icmp .le 13, 3) := by decide +kernel
theorem dX3_sailor_56 : decode cX3_sailor 56 = .ok (.new 19, 3) := by decide +kernel
theorem dX3_sailor_59 : decode cX3_sailor 59 = .ok (.dup, 1) := by decide +kernel
theorem dX3_sailor_60 : decode cX3_sailor 60 = .ok (.ldc 46, 2) := by decide +kernel
theorem dX3_sailor_62 : decode cX3_sailor 62 = .ok (.invokespecial 23, 3) := by decide +kernel
theorem dX3_sailor_65 : decode cX3_sailor 65 = .ok (.athrow, 1) := by decide +kernel
theorem dX3_sailor_66 : decode cX3_sailor 66 = .ok (.aload_n 0, 1) := by decide +kernel
theorem dX3_sailor_67 : decode cX3_sailor 67 = .ok (.getfield 10, 3) := by decide +kernel
theorem dX3_sailor_70 : decode cX3_sailor 70 = .ok (.getfield 48, 3) := by decide +kernel
theorem dX3_sailor_73 : decode cX3_sailor 73 = .ok (.iload_n 1, 1) := by decide +kernel
theorem dX3_sailor_74 : decode cX3_sailor 74 = .ok (.iload_n 2, 1) := by decide +kernel
theorem dX3_sailor_75 : decode cX3_sailor 75 = .ok (.iload_n 3, 1) := by decide +kernel
theorem dX3_sailor_76 : decode cX3_sailor 76 = .ok (.iload 4, 2) := by decide +kernel
theorem dX3_sailor_78 : decode cX3_sailor 78 = .ok (.invokevirtual 52, 3) := by decide +kernel
theorem dX3_sailor_81 : decode cX3_sailor 81 = .ok (.ireturn, 1) := by decide +kernel
set_option maxRecDepth 20000 in
theorem ggX3_keep_X3_requireSailor : GoodIn wsX3_keep wsX3_requireSailor := goodIn_ca (goodIn_r _ [8, 9, 10, 1, 2, 11, 23, 24, 25, 26, 27, 28, 29, 30, 31, 32, 33, 34, 35, 36, 37, 38, 39, 40, 41, 42] (by decide +kernel) (by decide +kernel)) (goodIn_sub (fun _ h => List.mem_cons_of_mem _ (List.mem_append_right _ h)) (by decide +kernel))
set_option maxRecDepth 20000 in
theorem gX3_keep_X3_requireSailor : GoodIn wsX3_keep (wsV RX3 55 RX3 yX3_requireSailor wsX3_requireSailor) := goodIn_app (goodIn_of _ (by decide +kernel)) ggX3_keep_X3_requireSailor
set_option maxRecDepth 20000 in
theorem ggX3_keep_X3_requireBed : GoodIn wsX3_keep wsX3_requireBed := goodIn_ca (goodIn_r _ [15, 9, 10, 1, 16, 17, 18, 19, 20, 21, 22, 23, 24, 25, 26, 27, 28, 29, 43, 44, 45, 46, 47, 48] (by decide +kernel) (by decide +kernel)) (goodIn_sub (fun _ h => List.mem_cons_of_mem _ (List.mem_append_right _ h)) (by decide +kernel))
set_option maxRecDepth 20000 in
theorem gX3_keep_X3_requireBed : GoodIn wsX3_keep (wsV RX3 58 RX3 yX3_requireBed wsX3_requireBed) := goodIn_app (goodIn_of _ (by decide +kernel)) ggX3_keep_X3_requireBed
theorem dX3_keep_0 : decode cX3_keep 0 = .ok (.aload_n 0, 1) := by decide +kernel
theorem dX3_keep_1 : decode cX3_keep 1 = .ok (.iload_n 1, 1) := by decide +kernel
theorem dX3_keep_2 : decode cX3_keep 2 = .ok (.invokevirtual 55, 3) := by decide +kernel
theorem dX3_keep_5 : decode cX3_keep 5 = .ok (.iload_n 2, 1) := by decide +kernel
theorem dX3_keep_6 : decode cX3_keep 6 = .ok (.iconst (-1), 1) := by decide +kernel
theorem dX3_keep_7 : decode cX3_keep 7 = .ok (.if_icmp .eq 8, 3) := by decide +kernel
theorem dX3_keep_10 : decode cX3_keep 10 = .ok (.aload_n 0, 1) := by decide +kernel
theorem dX3_keep_11 : decode cX3_keep 11 = .ok (.iload_n 2, 1) := by decide +kernel
theorem dX3_keep_12 : decode cX3_keep 12 = .ok (.invokevirtual 58, 3) := by decide +kernel
theorem dX3_keep_15 : decode cX3_keep 15 = .ok (.aload_n 0, 1) := by decide +kernel
theorem dX3_keep_16 : decode cX3_keep 16 = .ok (.getfield 10, 3) := by decide +kernel
theorem dX3_keep_19 : decode cX3_keep 19 = .ok (.getfield 48, 3) := by decide +kernel
theorem dX3_keep_22 : decode cX3_keep 22 = .ok (.getfield 61, 3) := by decide +kernel
theorem dX3_keep_25 : decode cX3_keep 25 = .ok (.iload_n 1, 1) := by decide +kernel
theorem dX3_keep_26 : decode cX3_keep 26 = .ok (.iaload, 1) := by decide +kernel
theorem dX3_keep_27 : decode cX3_keep 27 = .ok (.istore_n 3, 1) := by decide +kernel
theorem dX3_keep_28 : decode cX3_keep 28 = .ok (.aload_n 0, 1) := by decide +kernel
theorem dX3_keep_29 : decode cX3_keep 29 = .ok (.getfield 10, 3) := by decide +kernel
theorem dX3_keep_32 : decode cX3_keep 32 = .ok (.getfield 48, 3) := by decide +kernel
theorem dX3_keep_35 : decode cX3_keep 35 = .ok (.getfield 61, 3) := by decide +kernel
theorem dX3_keep_38 : decode cX3_keep 38 = .ok (.iload_n 1, 1) := by decide +kernel
theorem dX3_keep_39 : decode cX3_keep 39 = .ok (.iload_n 2, 1) := by decide +kernel
theorem dX3_keep_40 : decode cX3_keep 40 = .ok (.iastore, 1) := by decide +kernel
theorem dX3_keep_41 : decode cX3_keep 41 = .ok (.iload_n 3, 1) := by decide +kernel
theorem dX3_keep_42 : decode cX3_keep 42 = .ok (.ireturn, 1) := by decide +kernel
theorem dX3_setBell_0 : decode cX3_setBell 0 = .ok (.iload_n 1, 1) := by decide +kernel
theorem dX3_setBell_1 : decode cX3_setBell 1 = .ok (.ifCond .lt 9, 3) := by decide +kernel
theorem dX3_setBell_4 : decode cX3_setBell 4 = .ok (.iload_n 1, 1) := by decide +kernel
theorem dX3_setBell_5 : decode cX3_setBell 5 = .ok (.bipush 9, 2) := by decide +kernel
theorem dX3_setBell_7 : decode cX3_setBell 7 = .ok (.if_icmp .le 13, 3) := by decide +kernel
theorem dX3_setBell_10 : decode cX3_setBell 10 = .ok (.new 19, 3) := by decide +kernel
theorem dX3_setBell_13 : decode cX3_setBell 13 = .ok (.dup, 1) := by decide +kernel
theorem dX3_setBell_14 : decode cX3_setBell 14 = .ok (.ldc 65, 2) := by decide +kernel
theorem dX3_setBell_16 : decode cX3_setBell 16 = .ok (.invokespecial 23, 3) := by decide +kernel
theorem dX3_setBell_19 : decode cX3_setBell 19 = .ok (.athrow, 1) := by decide +kernel
theorem dX3_setBell_20 : decode cX3_setBell 20 = .ok (.aload_n 0, 1) := by decide +kernel
theorem dX3_setBell_21 : decode cX3_setBell 21 = .ok (.getfield 10, 3) := by decide +kernel
theorem dX3_setBell_24 : decode cX3_setBell 24 = .ok (.getfield 67, 3) := by decide +kernel
theorem dX3_setBell_27 : decode cX3_setBell 27 = .ok (.istore_n 2, 1) := by decide +kernel
theorem dX3_setBell_28 : decode cX3_setBell 28 = .ok (.aload_n 0, 1) := by decide +kernel
theorem dX3_setBell_29 : decode cX3_setBell 29 = .ok (.getfield 10, 3) := by decide +kernel
theorem dX3_setBell_32 : decode cX3_setBell 32 = .ok (.iload_n 1, 1) := by decide +kernel
theorem dX3_setBell_33 : decode cX3_setBell 33 = .ok (.putfield 67, 3) := by decide +kernel
theorem dX3_setBell_36 : decode cX3_setBell 36 = .ok (.iload_n 2, 1) := by decide +kernel
theorem dX3_setBell_37 : decode cX3_setBell 37 = .ok (.ireturn, 1) := by decide +kernel
theorem dX3_setPawn_0 : decode cX3_setPawn 0 = .ok (.iload_n 1, 1) := by decide +kernel
theorem dX3_setPawn_1 : decode cX3_setPawn 1 = .ok (.iconst 1, 1) := by decide +kernel
theorem dX3_setPawn_2 : decode cX3_setPawn 2 = .ok (.if_icmp .lt 9, 3) := by decide +kernel
theorem dX3_setPawn_5 : decode cX3_setPawn 5 = .ok (.iload_n 1, 1) := by decide +kernel
theorem dX3_setPawn_6 : decode cX3_setPawn 6 = .ok (.bipush 20, 2) := by decide +kernel
theorem dX3_setPawn_8 : decode cX3_setPawn 8 = .ok (.if_icmp .le 13, 3) := by decide +kernel
theorem dX3_setPawn_11 : decode cX3_setPawn 11 = .ok (.new 19, 3) := by decide +kernel
theorem dX3_setPawn_14 : decode cX3_setPawn 14 = .ok (.dup, 1) := by decide +kernel
theorem dX3_setPawn_15 : decode cX3_setPawn 15 = .ok (.ldc 71, 2) := by decide +kernel
theorem dX3_setPawn_17 : decode cX3_setPawn 17 = .ok (.invokespecial 23, 3) := by decide +kernel
theorem dX3_setPawn_20 : decode cX3_setPawn 20 = .ok (.athrow, 1) := by decide +kernel
theorem dX3_setPawn_21 : decode cX3_setPawn 21 = .ok (.aload_n 0, 1) := by decide +kernel
theorem dX3_setPawn_22 : decode cX3_setPawn 22 = .ok (.getfield 10, 3) := by decide +kernel
theorem dX3_setPawn_25 : decode cX3_setPawn 25 = .ok (.getfield 73, 3) := by decide +kernel
theorem dX3_setPawn_28 : decode cX3_setPawn 28 = .ok (.istore_n 2, 1) := by decide +kernel
theorem dX3_setPawn_29 : decode cX3_setPawn 29 = .ok (.aload_n 0, 1) := by decide +kernel
theorem dX3_setPawn_30 : decode cX3_setPawn 30 = .ok (.getfield 10, 3) := by decide +kernel
theorem dX3_setPawn_33 : decode cX3_setPawn 33 = .ok (.iload_n 1, 1) := by decide +kernel
theorem dX3_setPawn_34 : decode cX3_setPawn 34 = .ok (.putfield 73, 3) := by decide +kernel
theorem dX3_setPawn_37 : decode cX3_setPawn 37 = .ok (.iload_n 2, 1) := by decide +kernel
theorem dX3_setPawn_38 : decode cX3_setPawn 38 = .ok (.ireturn, 1) := by decide +kernel
set_option maxRecDepth 20000 in
theorem ggX3_give_X3_requireSailor : GoodIn wsX3_give wsX3_requireSailor := goodIn_ca (goodIn_r _ [10, 11, 12, 3, 4, 13, 24, 25, 26, 27, 28, 29, 30, 31, 32, 33, 34, 35, 36, 37, 38, 39, 40, 41, 42, 43] (by decide +kernel) (by decide +kernel)) (goodIn_sub (fun _ h => List.mem_cons_of_mem _ (List.mem_append_right _ h)) (by decide +kernel))
set_option maxRecDepth 20000 in
theorem gX3_give_X3_requireSailor : GoodIn wsX3_give (wsV RX3 55 RX3 yX3_requireSailor wsX3_requireSailor) := goodIn_app (goodIn_of _ (by decide +kernel)) ggX3_give_X3_requireSailor
set_option maxRecDepth 20000 in
theorem ggX3_give_X2_earn : GoodIn wsX3_give wsX2_earn := goodIn_r _ [18, 19, 20, 21, 22, 23, 31, 32, 33, 34, 35, 36, 37, 38, 39, 40, 41, 42, 43] (by decide +kernel) (by decide +kernel)
set_option maxRecDepth 20000 in
theorem gX3_give_X2_earn : GoodIn wsX3_give (wsV RX3 78 RX2 yX2_earn wsX2_earn) := goodIn_app (goodIn_of _ (by decide +kernel)) ggX3_give_X2_earn
theorem dX3_give_0 : decode cX3_give 0 = .ok (.aload_n 0, 1) := by decide +kernel
theorem dX3_give_1 : decode cX3_give 1 = .ok (.iload_n 1, 1) := by decide +kernel
theorem dX3_give_2 : decode cX3_give 2 = .ok (.invokevirtual 55, 3) := by decide +kernel
theorem dX3_give_5 : decode cX3_give 5 = .ok (.iload_n 2, 1) := by decide +kernel
theorem dX3_give_6 : decode cX3_give 6 = .ok (.iconst 1, 1) := by decide +kernel
theorem dX3_give_7 : decode cX3_give 7 = .ok (.if_icmp .lt 9, 3) := by decide +kernel
theorem dX3_give_10 : decode cX3_give 10 = .ok (.iload_n 2, 1) := by decide +kernel
theorem dX3_give_11 : decode cX3_give 11 = .ok (.bipush 99, 2) := by decide +kernel
theorem dX3_give_13 : decode cX3_give 13 = .ok (.if_icmp .le 13, 3) := by decide +kernel
theorem dX3_give_16 : decode cX3_give 16 = .ok (.new 19, 3) := by decide +kernel
theorem dX3_give_19 : decode cX3_give 19 = .ok (.dup, 1) := by decide +kernel
theorem dX3_give_20 : decode cX3_give 20 = .ok (.ldc 76, 2) := by decide +kernel
theorem dX3_give_22 : decode cX3_give 22 = .ok (.invokespecial 23, 3) := by decide +kernel
theorem dX3_give_25 : decode cX3_give 25 = .ok (.athrow, 1) := by decide +kernel
theorem dX3_give_26 : decode cX3_give 26 = .ok (.aload_n 0, 1) := by decide +kernel
theorem dX3_give_27 : decode cX3_give 27 = .ok (.getfield 10, 3) := by decide +kernel
theorem dX3_give_30 : decode cX3_give 30 = .ok (.getfield 48, 3) := by decide +kernel
theorem dX3_give_33 : decode cX3_give 33 = .ok (.iload_n 1, 1) := by decide +kernel
theorem dX3_give_34 : decode cX3_give 34 = .ok (.iload_n 2, 1) := by decide +kernel
theorem dX3_give_35 : decode cX3_give 35 = .ok (.invokevirtual 78, 3) := by decide +kernel
theorem dX3_give_38 : decode cX3_give 38 = .ok (.aload_n 0, 1) := by decide +kernel
theorem dX3_give_39 : decode cX3_give 39 = .ok (.getfield 10, 3) := by decide +kernel
theorem dX3_give_42 : decode cX3_give 42 = .ok (.getfield 48, 3) := by decide +kernel
theorem dX3_give_45 : decode cX3_give 45 = .ok (.getfield 82, 3) := by decide +kernel
theorem dX3_give_48 : decode cX3_give 48 = .ok (.iload_n 1, 1) := by decide +kernel
theorem dX3_give_49 : decode cX3_give 49 = .ok (.iaload, 1) := by decide +kernel
theorem dX3_give_50 : decode cX3_give 50 = .ok (.ireturn, 1) := by decide +kernel
set_option maxRecDepth 20000 in
theorem ggX3_pawn_X3_requireSailor : GoodIn wsX3_pawn wsX3_requireSailor := goodIn_ca (goodIn_r _ [10, 11, 12, 3, 4, 13, 37, 38, 39, 40, 41, 42, 43, 44, 45, 46, 47, 48, 49, 50, 51, 52, 53, 54, 55, 56] (by decide +kernel) (by decide +kernel)) (goodIn_sub (fun _ h => List.mem_cons_of_mem _ (List.mem_append_right _ h)) (by decide +kernel))
set_option maxRecDepth 20000 in
theorem gX3_pawn_X3_requireSailor : GoodIn wsX3_pawn (wsV RX3 55 RX3 yX3_requireSailor wsX3_requireSailor) := goodIn_app (goodIn_of _ (by decide +kernel)) ggX3_pawn_X3_requireSailor
set_option maxRecDepth 20000 in
theorem ggX3_pawn_X2_hasBoots : GoodIn wsX3_pawn wsX2_hasBoots := goodIn_r _ [18, 19, 44, 45, 46, 47, 48, 49, 50, 51, 52, 53, 54, 55, 56] (by decide +kernel) (by decide +kernel)
set_option maxRecDepth 20000 in
theorem gX3_pawn_X2_hasBoots : GoodIn wsX3_pawn (wsV RX3 85 RX2 yX2_hasBoots wsX2_hasBoots) := goodIn_app (goodIn_of _ (by decide +kernel)) ggX3_pawn_X2_hasBoots
set_option maxRecDepth 20000 in
theorem ggX3_pawn_X1_pawnBoots : GoodIn wsX3_pawn wsX1_pawnBoots := goodIn_r _ [24, 25, 26, 27, 28, 29, 30, 17, 31, 32, 33, 34, 35, 36, 39, 40, 41, 42, 43, 44, 45, 46, 47, 48, 49, 50, 51, 52, 53, 54, 55, 56] (by decide +kernel) (by decide +kernel)
set_option maxRecDepth 20000 in
theorem gX3_pawn_X1_pawnBoots : GoodIn wsX3_pawn (wsV RX3 94 RX1 yX1_pawnBoots wsX1_pawnBoots) := goodIn_app (goodIn_of _ (by decide +kernel)) ggX3_pawn_X1_pawnBoots
theorem dX3_pawn_0 : decode cX3_pawn 0 = .ok (.aload_n 0, 1) := by decide +kernel
theorem dX3_pawn_1 : decode cX3_pawn 1 = .ok (.iload_n 1, 1) := by decide +kernel
theorem dX3_pawn_2 : decode cX3_pawn 2 = .ok (.invokevirtual 55, 3) := by decide +kernel
theorem dX3_pawn_5 : decode cX3_pawn 5 = .ok (.aload_n 0, 1) := by decide +kernel
theorem dX3_pawn_6 : decode cX3_pawn 6 = .ok (.getfield 10, 3) := by decide +kernel
theorem dX3_pawn_9 : decode cX3_pawn 9 = .ok (.getfield 48, 3) := by decide +kernel
theorem dX3_pawn_12 : decode cX3_pawn 12 = .ok (.iload_n 1, 1) := by decide +kernel
theorem dX3_pawn_13 : decode cX3_pawn 13 = .ok (.invokevirtual 85, 3) := by decide +kernel
theorem dX3_pawn_16 : decode cX3_pawn 16 = .ok (.ifCond .ne 13, 3) := by decide +kernel
theorem dX3_pawn_19 : decode cX3_pawn 19 = .ok (.new 89, 3) := by decide +kernel
theorem dX3_pawn_22 : decode cX3_pawn 22 = .ok (.dup, 1) := by decide +kernel
theorem dX3_pawn_23 : decode cX3_pawn 23 = .ok (.ldc 91, 2) := by decide +kernel
theorem dX3_pawn_25 : decode cX3_pawn 25 = .ok (.invokespecial 93, 3) := by decide +kernel
theorem dX3_pawn_28 : decode cX3_pawn 28 = .ok (.athrow, 1) := by decide +kernel
theorem dX3_pawn_29 : decode cX3_pawn 29 = .ok (.aload_n 0, 1) := by decide +kernel
theorem dX3_pawn_30 : decode cX3_pawn 30 = .ok (.getfield 10, 3) := by decide +kernel
theorem dX3_pawn_33 : decode cX3_pawn 33 = .ok (.iload_n 1, 1) := by decide +kernel
theorem dX3_pawn_34 : decode cX3_pawn 34 = .ok (.invokevirtual 94, 3) := by decide +kernel
theorem dX3_pawn_37 : decode cX3_pawn 37 = .ok (.aload_n 0, 1) := by decide +kernel
theorem dX3_pawn_38 : decode cX3_pawn 38 = .ok (.getfield 10, 3) := by decide +kernel
theorem dX3_pawn_41 : decode cX3_pawn 41 = .ok (.getfield 48, 3) := by decide +kernel
theorem dX3_pawn_44 : decode cX3_pawn 44 = .ok (.getfield 82, 3) := by decide +kernel
theorem dX3_pawn_47 : decode cX3_pawn 47 = .ok (.iload_n 1, 1) := by decide +kernel
theorem dX3_pawn_48 : decode cX3_pawn 48 = .ok (.iaload, 1) := by decide +kernel
theorem dX3_pawn_49 : decode cX3_pawn 49 = .ok (.ireturn, 1) := by decide +kernel
set_option maxRecDepth 20000 in
theorem ggX3_redeem_X3_requireSailor : GoodIn wsX3_redeem wsX3_requireSailor := goodIn_ca (goodIn_r _ [10, 11, 12, 3, 4, 13, 33, 34, 35, 36, 37, 38, 39, 40, 41, 42, 43, 44, 45, 46, 47, 48, 49, 50, 51, 52] (by decide +kernel) (by decide +kernel)) (goodIn_sub (fun _ h => List.mem_cons_of_mem _ (List.mem_append_right _ h)) (by decide +kernel))
set_option maxRecDepth 20000 in
theorem gX3_redeem_X3_requireSailor : GoodIn wsX3_redeem (wsV RX3 55 RX3 yX3_requireSailor wsX3_requireSailor) := goodIn_app (goodIn_of _ (by decide +kernel)) ggX3_redeem_X3_requireSailor
set_option maxRecDepth 20000 in
theorem ggX3_redeem_X1_canRedeemBoots : GoodIn wsX3_redeem wsX1_canRedeemBoots := goodIn_r _ [18, 19, 20, 21, 22, 23, 24, 25, 26, 27, 35, 36, 37, 38, 39, 40, 41, 42, 43, 44, 45, 46, 47, 48, 49, 50, 51, 52] (by decide +kernel) (by decide +kernel)
set_option maxRecDepth 20000 in
theorem gX3_redeem_X1_canRedeemBoots : GoodIn wsX3_redeem (wsV RX3 97 RX1 yX1_canRedeemBoots wsX1_canRedeemBoots) := goodIn_app (goodIn_of _ (by decide +kernel)) ggX3_redeem_X1_canRedeemBoots
set_option maxRecDepth 20000 in
theorem ggX3_redeem_X1_redeemBoots : GoodIn wsX3_redeem wsX1_redeemBoots := goodIn_r _ [31, 19, 20, 21, 32, 35, 36, 37, 38, 39, 40, 41, 42, 43, 44, 45, 46, 47, 48, 49, 50, 51, 52] (by decide +kernel) (by decide +kernel)
set_option maxRecDepth 20000 in
theorem gX3_redeem_X1_redeemBoots : GoodIn wsX3_redeem (wsV RX3 102 RX1 yX1_redeemBoots wsX1_redeemBoots) := goodIn_app (goodIn_of _ (by decide +kernel)) ggX3_redeem_X1_redeemBoots
theorem dX3_redeem_0 : decode cX3_redeem 0 = .ok (.aload_n 0, 1) := by decide +kernel
theorem dX3_redeem_1 : decode cX3_redeem 1 = .ok (.iload_n 1, 1) := by decide +kernel
theorem dX3_redeem_2 : decode cX3_redeem 2 = .ok (.invokevirtual 55, 3) := by decide +kernel
theorem dX3_redeem_5 : decode cX3_redeem 5 = .ok (.aload_n 0, 1) := by decide +kernel
theorem dX3_redeem_6 : decode cX3_redeem 6 = .ok (.getfield 10, 3) := by decide +kernel
theorem dX3_redeem_9 : decode cX3_redeem 9 = .ok (.iload_n 1, 1) := by decide +kernel
theorem dX3_redeem_10 : decode cX3_redeem 10 = .ok (.invokevirtual 97, 3) := by decide +kernel
theorem dX3_redeem_13 : decode cX3_redeem 13 = .ok (.ifCond .ne 13, 3) := by decide +kernel
theorem dX3_redeem_16 : decode cX3_redeem 16 = .ok (.new 89, 3) := by decide +kernel
theorem dX3_redeem_19 : decode cX3_redeem 19 = .ok (.dup, 1) := by decide +kernel
theorem dX3_redeem_20 : decode cX3_redeem 20 = .ok (.ldc 100, 2) := by decide +kernel
theorem dX3_redeem_22 : decode cX3_redeem 22 = .ok (.invokespecial 93, 3) := by decide +kernel
theorem dX3_redeem_25 : decode cX3_redeem 25 = .ok (.athrow, 1) := by decide +kernel
theorem dX3_redeem_26 : decode cX3_redeem 26 = .ok (.aload_n 0, 1) := by decide +kernel
theorem dX3_redeem_27 : decode cX3_redeem 27 = .ok (.getfield 10, 3) := by decide +kernel
theorem dX3_redeem_30 : decode cX3_redeem 30 = .ok (.iload_n 1, 1) := by decide +kernel
theorem dX3_redeem_31 : decode cX3_redeem 31 = .ok (.invokevirtual 102, 3) := by decide +kernel
theorem dX3_redeem_34 : decode cX3_redeem 34 = .ok (.aload_n 0, 1) := by decide +kernel
theorem dX3_redeem_35 : decode cX3_redeem 35 = .ok (.getfield 10, 3) := by decide +kernel
theorem dX3_redeem_38 : decode cX3_redeem 38 = .ok (.getfield 48, 3) := by decide +kernel
theorem dX3_redeem_41 : decode cX3_redeem 41 = .ok (.getfield 82, 3) := by decide +kernel
theorem dX3_redeem_44 : decode cX3_redeem 44 = .ok (.iload_n 1, 1) := by decide +kernel
theorem dX3_redeem_45 : decode cX3_redeem 45 = .ok (.iaload, 1) := by decide +kernel
theorem dX3_redeem_46 : decode cX3_redeem 46 = .ok (.ireturn, 1) := by decide +kernel
set_option maxRecDepth 20000 in
theorem ggX3_call_X3_requireSailor : GoodIn wsX3_call wsX3_requireSailor := goodIn_ca (goodIn_r _ [10, 11, 12, 3, 4, 13, 36, 37, 38, 39, 40, 41, 42, 43, 44, 45, 46, 47, 48, 49, 50, 51, 52, 53, 54, 55] (by decide +kernel) (by decide +kernel)) (goodIn_sub (fun _ h => List.mem_cons_of_mem _ (List.mem_append_right _ h)) (by decide +kernel))
set_option maxRecDepth 20000 in
theorem gX3_call_X3_requireSailor : GoodIn wsX3_call (wsV RX3 55 RX3 yX3_requireSailor wsX3_requireSailor) := goodIn_app (goodIn_of _ (by decide +kernel)) ggX3_call_X3_requireSailor
set_option maxRecDepth 20000 in
theorem ggX3_call_X2_isUp : GoodIn wsX3_call wsX2_isUp := goodIn_r _ [18, 19, 43, 44, 45, 46, 47, 48, 49, 50, 51, 52, 53, 54, 55] (by decide +kernel) (by decide +kernel)
set_option maxRecDepth 20000 in
theorem gX3_call_X2_isUp : GoodIn wsX3_call (wsV RX3 105 RX2 yX2_isUp wsX2_isUp) := goodIn_app (goodIn_of _ (by decide +kernel)) ggX3_call_X2_isUp
set_option maxRecDepth 20000 in
theorem ggX3_call_X1_getUp : GoodIn wsX3_call wsX1_getUp := goodIn_r _ [24, 25, 26, 27, 28, 29, 30, 31, 32, 33, 34, 35, 38, 39, 40, 41, 42, 43, 44, 45, 46, 47, 48, 49, 50, 51, 52, 53, 54, 55, 56, 57, 58, 59, 60, 61] (by decide +kernel) (by decide +kernel)
set_option maxRecDepth 20000 in
theorem gX3_call_X1_getUp : GoodIn wsX3_call (wsV RX3 113 RX1 yX1_getUp wsX1_getUp) := goodIn_app (goodIn_of _ (by decide +kernel)) ggX3_call_X1_getUp
theorem dX3_call_0 : decode cX3_call 0 = .ok (.aload_n 0, 1) := by decide +kernel
theorem dX3_call_1 : decode cX3_call 1 = .ok (.iload_n 1, 1) := by decide +kernel
theorem dX3_call_2 : decode cX3_call 2 = .ok (.invokevirtual 55, 3) := by decide +kernel
theorem dX3_call_5 : decode cX3_call 5 = .ok (.aload_n 0, 1) := by decide +kernel
theorem dX3_call_6 : decode cX3_call 6 = .ok (.getfield 10, 3) := by decide +kernel
theorem dX3_call_9 : decode cX3_call 9 = .ok (.getfield 48, 3) := by decide +kernel
theorem dX3_call_12 : decode cX3_call 12 = .ok (.iload_n 1, 1) := by decide +kernel
theorem dX3_call_13 : decode cX3_call 13 = .ok (.invokevirtual 105, 3) := by decide +kernel
theorem dX3_call_16 : decode cX3_call 16 = .ok (.ifCond .eq 13, 3) := by decide +kernel
theorem dX3_call_19 : decode cX3_call 19 = .ok (.new 89, 3) := by decide +kernel
theorem dX3_call_22 : decode cX3_call 22 = .ok (.dup, 1) := by decide +kernel
theorem dX3_call_23 : decode cX3_call 23 = .ok (.ldc 108, 2) := by decide +kernel
theorem dX3_call_25 : decode cX3_call 25 = .ok (.invokespecial 93, 3) := by decide +kernel
theorem dX3_call_28 : decode cX3_call 28 = .ok (.athrow, 1) := by decide +kernel
theorem dX3_call_29 : decode cX3_call 29 = .ok (.aload_n 0, 1) := by decide +kernel
theorem dX3_call_30 : decode cX3_call 30 = .ok (.getfield 10, 3) := by decide +kernel
theorem dX3_call_33 : decode cX3_call 33 = .ok (.getfield 48, 3) := by decide +kernel
theorem dX3_call_36 : decode cX3_call 36 = .ok (.getfield 110, 3) := by decide +kernel
theorem dX3_call_39 : decode cX3_call 39 = .ok (.iload_n 1, 1) := by decide +kernel
theorem dX3_call_40 : decode cX3_call 40 = .ok (.iaload, 1) := by decide +kernel
theorem dX3_call_41 : decode cX3_call 41 = .ok (.istore_n 2, 1) := by decide +kernel
theorem dX3_call_42 : decode cX3_call 42 = .ok (.aload_n 0, 1) := by decide +kernel
theorem dX3_call_43 : decode cX3_call 43 = .ok (.getfield 10, 3) := by decide +kernel
theorem dX3_call_46 : decode cX3_call 46 = .ok (.iload_n 1, 1) := by decide +kernel
theorem dX3_call_47 : decode cX3_call 47 = .ok (.invokevirtual 113, 3) := by decide +kernel
theorem dX3_call_50 : decode cX3_call 50 = .ok (.iload_n 2, 1) := by decide +kernel
theorem dX3_call_51 : decode cX3_call 51 = .ok (.ireturn, 1) := by decide +kernel
set_option maxRecDepth 20000 in
theorem ggX3_shift_X3_requireSailor : GoodIn wsX3_shift wsX3_requireSailor := goodIn_ca (goodIn_r _ [8, 9, 10, 1, 2, 11, 27, 28, 29, 30, 31, 32, 33, 34, 35, 36, 37, 38, 39, 40, 41, 42, 43, 44, 45, 46] (by decide +kernel) (by decide +kernel)) (goodIn_sub (fun _ h => List.mem_cons_of_mem _ (List.mem_append_left _ (List.mem_append_right _ h))) (by decide +kernel))
set_option maxRecDepth 20000 in
theorem gX3_shift_X3_requireSailor : GoodIn wsX3_shift (wsV RX3 55 RX3 yX3_requireSailor wsX3_requireSailor) := goodIn_app (goodIn_of _ (by decide +kernel)) ggX3_shift_X3_requireSailor
set_option maxRecDepth 20000 in
theorem ggX3_shift_X3_requireWatch : GoodIn wsX3_shift wsX3_requireWatch := goodIn_ca (goodIn_r _ [14, 9, 10] (by decide +kernel) (by decide +kernel)) (goodIn_sub (fun _ h => List.mem_cons_of_mem _ (List.mem_append_left _ (List.mem_append_right _ h))) (by decide +kernel))
set_option maxRecDepth 20000 in
theorem gX3_shift_X3_requireWatch : GoodIn wsX3_shift (va_wsS RX3 36 yX3_requireWatch wsX3_requireWatch) := goodIn_app (goodIn_of _ (by decide +kernel)) ggX3_shift_X3_requireWatch
set_option maxRecDepth 20000 in
theorem ggX3_shift_X3_requireUp : GoodIn wsX3_shift wsX3_requireUp := goodIn_ca (goodIn_r _ [18, 19, 20, 1, 2, 21, 22, 23, 24, 25, 26, 27, 28, 29, 30, 31, 32, 33, 34, 35, 36, 37, 38, 39, 40, 41, 42, 43, 44, 45, 46] (by decide +kernel) (by decide +kernel)) (goodIn_sub (fun _ h => List.mem_cons_of_mem _ (List.mem_append_right _ h)) (by decide +kernel))
set_option maxRecDepth 20000 in
theorem gX3_shift_X3_requireUp : GoodIn wsX3_shift (wsV RX3 116 RX3 yX3_requireUp wsX3_requireUp) := goodIn_app (goodIn_of _ (by decide +kernel)) ggX3_shift_X3_requireUp
theorem dX3_shift_0 : decode cX3_shift 0 = .ok (.aload_n 0, 1) := by decide +kernel
theorem dX3_shift_1 : decode cX3_shift 1 = .ok (.iload_n 1, 1) := by decide +kernel
theorem dX3_shift_2 : decode cX3_shift 2 = .ok (.invokevirtual 55, 3) := by decide +kernel
theorem dX3_shift_5 : decode cX3_shift 5 = .ok (.iload_n 2, 1) := by decide +kernel
theorem dX3_shift_6 : decode cX3_shift 6 = .ok (.invokestatic 36, 3) := by decide +kernel
theorem dX3_shift_9 : decode cX3_shift 9 = .ok (.aload_n 0, 1) := by decide +kernel
theorem dX3_shift_10 : decode cX3_shift 10 = .ok (.iload_n 1, 1) := by decide +kernel
theorem dX3_shift_11 : decode cX3_shift 11 = .ok (.invokevirtual 116, 3) := by decide +kernel
theorem dX3_shift_14 : decode cX3_shift 14 = .ok (.aload_n 0, 1) := by decide +kernel
theorem dX3_shift_15 : decode cX3_shift 15 = .ok (.getfield 10, 3) := by decide +kernel
theorem dX3_shift_18 : decode cX3_shift 18 = .ok (.getfield 48, 3) := by decide +kernel
theorem dX3_shift_21 : decode cX3_shift 21 = .ok (.getfield 119, 3) := by decide +kernel
theorem dX3_shift_24 : decode cX3_shift 24 = .ok (.iload_n 1, 1) := by decide +kernel
theorem dX3_shift_25 : decode cX3_shift 25 = .ok (.iaload, 1) := by decide +kernel
theorem dX3_shift_26 : decode cX3_shift 26 = .ok (.istore_n 3, 1) := by decide +kernel
theorem dX3_shift_27 : decode cX3_shift 27 = .ok (.aload_n 0, 1) := by decide +kernel
theorem dX3_shift_28 : decode cX3_shift 28 = .ok (.getfield 10, 3) := by decide +kernel
theorem dX3_shift_31 : decode cX3_shift 31 = .ok (.getfield 48, 3) := by decide +kernel
theorem dX3_shift_34 : decode cX3_shift 34 = .ok (.getfield 119, 3) := by decide +kernel
theorem dX3_shift_37 : decode cX3_shift 37 = .ok (.iload_n 1, 1) := by decide +kernel
theorem dX3_shift_38 : decode cX3_shift 38 = .ok (.iload_n 2, 1) := by decide +kernel
theorem dX3_shift_39 : decode cX3_shift 39 = .ok (.iastore, 1) := by decide +kernel
theorem dX3_shift_40 : decode cX3_shift 40 = .ok (.iload_n 3, 1) := by decide +kernel
theorem dX3_shift_41 : decode cX3_shift 41 = .ok (.ireturn, 1) := by decide +kernel
set_option maxRecDepth 20000 in
theorem ggX3_pass_X3_requireHours : GoodIn wsX3_pass wsX3_requireHours := goodIn_ca (goodIn_r _ [6, 7, 8] (by decide +kernel) (by decide +kernel)) (goodIn_sub (fun _ h => List.mem_cons_of_mem _ (List.mem_append_right _ h)) (by decide +kernel))
set_option maxRecDepth 20000 in
theorem gX3_pass_X3_requireHours : GoodIn wsX3_pass (va_wsS RX3 122 yX3_requireHours wsX3_requireHours) := goodIn_app (goodIn_of _ (by decide +kernel)) ggX3_pass_X3_requireHours
set_option maxRecDepth 20000 in
theorem ggX3_pass_X2_allFloors : GoodIn wsX3_pass wsX2_allFloors := goodIn_r _ [13, 14, 15, 16, 17, 12, 18, 19, 170, 171, 172, 173, 174, 175, 176, 177, 178, 179, 180, 181, 182] (by decide +kernel) (by decide +kernel)
set_option maxRecDepth 20000 in
theorem gX3_pass_X2_allFloors : GoodIn wsX3_pass (wsV RX3 125 RX2 yX2_allFloors wsX2_allFloors) := goodIn_app (goodIn_of _ (by decide +kernel)) ggX3_pass_X2_allFloors
set_option maxRecDepth 20000 in
theorem ggX3_pass_X1_goOn : GoodIn wsX3_pass wsX1_goOn := goodIn_r _ [24, 25, 26, 27, 28, 29, 30, 31, 32, 23, 33, 34, 35, 36, 37, 38, 12, 39, 40, 41, 42, 43, 44, 45, 46, 47, 48, 49, 50, 51, 52, 53, 54, 55, 56, 57, 58, 59, 60, 61, 62, 63, 64, 65, 66, 67, 68, 69, 70, 71, 72, 73, 74, 75, 76, 77, 78, 79, 80, 81, 82, 83, 84, 85, 86, 87, 88, 89, 90, 91, 92, 93, 94, 95, 96, 97, 98, 99, 100, 101, 102, 103, 104, 105, 106, 107, 108, 109, 110, 111, 112, 113, 114, 115, 116, 117, 118, 119, 120, 121, 122, 123, 124, 125, 126, 127, 128, 129, 130, 131, 132, 133, 134, 135, 136, 137, 138, 139, 140, 141, 142, 143, 144, 145, 146, 147, 14, 148, 149, 150, 151, 152, 153, 154, 155, 156, 157, 158, 159, 160, 161, 162, 165, 166, 167, 168, 169, 170, 171, 172, 173, 174, 175, 176, 177, 178, 179, 180, 181, 182, 183, 184, 185, 186, 187, 188] (by decide +kernel) (by decide +kernel)
set_option maxRecDepth 20000 in
theorem gX3_pass_X1_goOn : GoodIn wsX3_pass (wsV RX3 129 RX1 yX1_goOn wsX1_goOn) := goodIn_app (goodIn_of _ (by decide +kernel)) ggX3_pass_X1_goOn
theorem dX3_pass_0 : decode cX3_pass 0 = .ok (.iload_n 1, 1) := by decide +kernel
theorem dX3_pass_1 : decode cX3_pass 1 = .ok (.invokestatic 122, 3) := by decide +kernel
theorem dX3_pass_4 : decode cX3_pass 4 = .ok (.aload_n 0, 1) := by decide +kernel
theorem dX3_pass_5 : decode cX3_pass 5 = .ok (.getfield 10, 3) := by decide +kernel
theorem dX3_pass_8 : decode cX3_pass 8 = .ok (.getfield 48, 3) := by decide +kernel
theorem dX3_pass_11 : decode cX3_pass 11 = .ok (.invokevirtual 125, 3) := by decide +kernel
theorem dX3_pass_14 : decode cX3_pass 14 = .ok (.istore_n 2, 1) := by decide +kernel
theorem dX3_pass_15 : decode cX3_pass 15 = .ok (.aload_n 0, 1) := by decide +kernel
theorem dX3_pass_16 : decode cX3_pass 16 = .ok (.getfield 10, 3) := by decide +kernel
theorem dX3_pass_19 : decode cX3_pass 19 = .ok (.iload_n 1, 1) := by decide +kernel
theorem dX3_pass_20 : decode cX3_pass 20 = .ok (.invokevirtual 129, 3) := by decide +kernel
theorem dX3_pass_23 : decode cX3_pass 23 = .ok (.aload_n 0, 1) := by decide +kernel
theorem dX3_pass_24 : decode cX3_pass 24 = .ok (.getfield 10, 3) := by decide +kernel
theorem dX3_pass_27 : decode cX3_pass 27 = .ok (.getfield 48, 3) := by decide +kernel
theorem dX3_pass_30 : decode cX3_pass 30 = .ok (.invokevirtual 125, 3) := by decide +kernel
theorem dX3_pass_33 : decode cX3_pass 33 = .ok (.iload_n 2, 1) := by decide +kernel
theorem dX3_pass_34 : decode cX3_pass 34 = .ok (.isub, 1) := by decide +kernel
theorem dX3_pass_35 : decode cX3_pass 35 = .ok (.ireturn, 1) := by decide +kernel
set_option maxRecDepth 20000 in
theorem ggX3_told_X3_requireSailor : GoodIn wsX3_told wsX3_requireSailor := goodIn_ca (goodIn_r _ [20, 1, 2, 3, 4, 21, 22, 23, 24, 25, 26, 27, 28, 29, 30, 31, 32, 33, 34, 35, 36, 37, 38, 39, 40, 41] (by decide +kernel) (by decide +kernel)) (goodIn_sub (fun _ h => List.mem_cons_of_mem _ (List.mem_append_right _ h)) (by decide +kernel))
set_option maxRecDepth 20000 in
theorem gX3_told_X3_requireSailor : GoodIn wsX3_told (wsV RX3 55 RX3 yX3_requireSailor wsX3_requireSailor) := goodIn_app (goodIn_of _ (by decide +kernel)) ggX3_told_X3_requireSailor
theorem dX3_told_0 : decode cX3_told 0 = .ok (.aload_n 0, 1) := by decide +kernel
theorem dX3_told_1 : decode cX3_told 1 = .ok (.iload_n 1, 1) := by decide +kernel
theorem dX3_told_2 : decode cX3_told 2 = .ok (.invokevirtual 55, 3) := by decide +kernel
theorem dX3_told_5 : decode cX3_told 5 = .ok (.aload_n 0, 1) := by decide +kernel
theorem dX3_told_6 : decode cX3_told 6 = .ok (.getfield 10, 3) := by decide +kernel
theorem dX3_told_9 : decode cX3_told 9 = .ok (.getfield 48, 3) := by decide +kernel
theorem dX3_told_12 : decode cX3_told 12 = .ok (.astore_n 3, 1) := by decide +kernel
theorem dX3_told_13 : decode cX3_told 13 = .ok (.iload_n 2, 1) := by decide +kernel
theorem dX3_told_14 : decode cX3_told 14 = .ok (.tableswitch 135 0 10 #[58, 65, 72, 79, 86, 93, 100, 107, 114, 121, 128], 58) := by decide +kernel
theorem dX3_told_72 : decode cX3_told 72 = .ok (.aload_n 3, 1) := by decide +kernel
theorem dX3_told_73 : decode cX3_told 73 = .ok (.getfield 119, 3) := by decide +kernel
theorem dX3_told_76 : decode cX3_told 76 = .ok (.iload_n 1, 1) := by decide +kernel
theorem dX3_told_77 : decode cX3_told 77 = .ok (.iaload, 1) := by decide +kernel
theorem dX3_told_78 : decode cX3_told 78 = .ok (.ireturn, 1) := by decide +kernel
theorem dX3_told_79 : decode cX3_told 79 = .ok (.aload_n 3, 1) := by decide +kernel
theorem dX3_told_80 : decode cX3_told 80 = .ok (.getfield 132, 3) := by decide +kernel
theorem dX3_told_83 : decode cX3_told 83 = .ok (.iload_n 1, 1) := by decide +kernel
theorem dX3_told_84 : decode cX3_told 84 = .ok (.iaload, 1) := by decide +kernel
theorem dX3_told_85 : decode cX3_told 85 = .ok (.ireturn, 1) := by decide +kernel
theorem dX3_told_86 : decode cX3_told 86 = .ok (.aload_n 3, 1) := by decide +kernel
theorem dX3_told_87 : decode cX3_told 87 = .ok (.getfield 135, 3) := by decide +kernel
theorem dX3_told_90 : decode cX3_told 90 = .ok (.iload_n 1, 1) := by decide +kernel
theorem dX3_told_91 : decode cX3_told 91 = .ok (.iaload, 1) := by decide +kernel
theorem dX3_told_92 : decode cX3_told 92 = .ok (.ireturn, 1) := by decide +kernel
theorem dX3_told_93 : decode cX3_told 93 = .ok (.aload_n 3, 1) := by decide +kernel
theorem dX3_told_94 : decode cX3_told 94 = .ok (.getfield 82, 3) := by decide +kernel
theorem dX3_told_97 : decode cX3_told 97 = .ok (.iload_n 1, 1) := by decide +kernel
theorem dX3_told_98 : decode cX3_told 98 = .ok (.iaload, 1) := by decide +kernel
theorem dX3_told_99 : decode cX3_told 99 = .ok (.ireturn, 1) := by decide +kernel
theorem dX3_told_100 : decode cX3_told 100 = .ok (.aload_n 3, 1) := by decide +kernel
theorem dX3_told_101 : decode cX3_told 101 = .ok (.getfield 138, 3) := by decide +kernel
theorem dX3_told_104 : decode cX3_told 104 = .ok (.iload_n 1, 1) := by decide +kernel
theorem dX3_told_105 : decode cX3_told 105 = .ok (.iaload, 1) := by decide +kernel
theorem dX3_told_106 : decode cX3_told 106 = .ok (.ireturn, 1) := by decide +kernel
theorem dX3_told_107 : decode cX3_told 107 = .ok (.aload_n 3, 1) := by decide +kernel
theorem dX3_told_108 : decode cX3_told 108 = .ok (.getfield 61, 3) := by decide +kernel
theorem dX3_told_111 : decode cX3_told 111 = .ok (.iload_n 1, 1) := by decide +kernel
theorem dX3_told_112 : decode cX3_told 112 = .ok (.iaload, 1) := by decide +kernel
theorem dX3_told_113 : decode cX3_told 113 = .ok (.ireturn, 1) := by decide +kernel
theorem dX3_told_114 : decode cX3_told 114 = .ok (.aload_n 3, 1) := by decide +kernel
theorem dX3_told_115 : decode cX3_told 115 = .ok (.getfield 141, 3) := by decide +kernel
theorem dX3_told_118 : decode cX3_told 118 = .ok (.iload_n 1, 1) := by decide +kernel
theorem dX3_told_119 : decode cX3_told 119 = .ok (.iaload, 1) := by decide +kernel
theorem dX3_told_120 : decode cX3_told 120 = .ok (.ireturn, 1) := by decide +kernel
theorem dX3_told_121 : decode cX3_told 121 = .ok (.aload_n 3, 1) := by decide +kernel
theorem dX3_told_122 : decode cX3_told 122 = .ok (.getfield 110, 3) := by decide +kernel
theorem dX3_told_125 : decode cX3_told 125 = .ok (.iload_n 1, 1) := by decide +kernel
theorem dX3_told_126 : decode cX3_told 126 = .ok (.iaload, 1) := by decide +kernel
theorem dX3_told_127 : decode cX3_told 127 = .ok (.ireturn, 1) := by decide +kernel
theorem dX3_told_128 : decode cX3_told 128 = .ok (.aload_n 3, 1) := by decide +kernel
theorem dX3_told_129 : decode cX3_told 129 = .ok (.getfield 144, 3) := by decide +kernel
theorem dX3_told_132 : decode cX3_told 132 = .ok (.iload_n 1, 1) := by decide +kernel
theorem dX3_told_133 : decode cX3_told 133 = .ok (.iaload, 1) := by decide +kernel
theorem dX3_told_134 : decode cX3_told 134 = .ok (.ireturn, 1) := by decide +kernel
theorem dX3_told_135 : decode cX3_told 135 = .ok (.aload_n 3, 1) := by decide +kernel
theorem dX3_told_136 : decode cX3_told 136 = .ok (.getfield 147, 3) := by decide +kernel
theorem dX3_told_139 : decode cX3_told 139 = .ok (.iload_n 1, 1) := by decide +kernel
theorem dX3_told_140 : decode cX3_told 140 = .ok (.iaload, 1) := by decide +kernel
theorem dX3_told_141 : decode cX3_told 141 = .ok (.ireturn, 1) := by decide +kernel
theorem dX3_told_142 : decode cX3_told 142 = .ok (.aload_n 3, 1) := by decide +kernel
theorem dX3_told_143 : decode cX3_told 143 = .ok (.getfield 150, 3) := by decide +kernel
theorem dX3_told_146 : decode cX3_told 146 = .ok (.iload_n 1, 1) := by decide +kernel
theorem dX3_told_147 : decode cX3_told 147 = .ok (.iaload, 1) := by decide +kernel
theorem dX3_told_148 : decode cX3_told 148 = .ok (.ireturn, 1) := by decide +kernel
theorem dX3_told_149 : decode cX3_told 149 = .ok (.new 153, 3) := by decide +kernel
theorem dX3_told_152 : decode cX3_told 152 = .ok (.dup, 1) := by decide +kernel
theorem dX3_told_153 : decode cX3_told 153 = .ok (.ldc 155, 2) := by decide +kernel
theorem dX3_told_155 : decode cX3_told 155 = .ok (.invokespecial 157, 3) := by decide +kernel
theorem dX3_told_158 : decode cX3_told 158 = .ok (.athrow, 1) := by decide +kernel
set_option maxRecDepth 20000 in
theorem ggX3_about_X3_requireBed : GoodIn wsX3_about wsX3_requireBed := goodIn_ca (goodIn_r _ [14, 1, 2, 3, 4, 15, 16, 17, 18, 19, 20, 21, 22, 23, 24, 25, 26, 27, 28, 29, 30, 31, 32, 33] (by decide +kernel) (by decide +kernel)) (goodIn_sub (fun _ h => List.mem_cons_of_mem _ (List.mem_append_right _ h)) (by decide +kernel))
set_option maxRecDepth 20000 in
theorem gX3_about_X3_requireBed : GoodIn wsX3_about (wsV RX3 58 RX3 yX3_requireBed wsX3_requireBed) := goodIn_app (goodIn_of _ (by decide +kernel)) ggX3_about_X3_requireBed
theorem dX3_about_0 : decode cX3_about 0 = .ok (.aload_n 0, 1) := by decide +kernel
theorem dX3_about_1 : decode cX3_about 1 = .ok (.iload_n 1, 1) := by decide +kernel
theorem dX3_about_2 : decode cX3_about 2 = .ok (.invokevirtual 58, 3) := by decide +kernel
theorem dX3_about_5 : decode cX3_about 5 = .ok (.aload_n 0, 1) := by decide +kernel
theorem dX3_about_6 : decode cX3_about 6 = .ok (.getfield 10, 3) := by decide +kernel
theorem dX3_about_9 : decode cX3_about 9 = .ok (.getfield 26, 3) := by decide +kernel
theorem dX3_about_12 : decode cX3_about 12 = .ok (.astore_n 3, 1) := by decide +kernel
theorem dX3_about_13 : decode cX3_about 13 = .ok (.iload_n 2, 1) := by decide +kernel
theorem dX3_about_14 : decode cX3_about 14 = .ok (.tableswitch 69 0 4 #[34, 41, 48, 55, 62], 34) := by decide +kernel
theorem dX3_about_48 : decode cX3_about 48 = .ok (.aload_n 3, 1) := by decide +kernel
theorem dX3_about_49 : decode cX3_about 49 = .ok (.getfield 158, 3) := by decide +kernel
theorem dX3_about_52 : decode cX3_about 52 = .ok (.iload_n 1, 1) := by decide +kernel
theorem dX3_about_53 : decode cX3_about 53 = .ok (.iaload, 1) := by decide +kernel
theorem dX3_about_54 : decode cX3_about 54 = .ok (.ireturn, 1) := by decide +kernel
theorem dX3_about_55 : decode cX3_about 55 = .ok (.aload_n 3, 1) := by decide +kernel
theorem dX3_about_56 : decode cX3_about 56 = .ok (.getfield 161, 3) := by decide +kernel
theorem dX3_about_59 : decode cX3_about 59 = .ok (.iload_n 1, 1) := by decide +kernel
theorem dX3_about_60 : decode cX3_about 60 = .ok (.iaload, 1) := by decide +kernel
theorem dX3_about_61 : decode cX3_about 61 = .ok (.ireturn, 1) := by decide +kernel
theorem dX3_about_62 : decode cX3_about 62 = .ok (.aload_n 3, 1) := by decide +kernel
theorem dX3_about_63 : decode cX3_about 63 = .ok (.getfield 164, 3) := by decide +kernel
theorem dX3_about_66 : decode cX3_about 66 = .ok (.iload_n 1, 1) := by decide +kernel
theorem dX3_about_67 : decode cX3_about 67 = .ok (.iaload, 1) := by decide +kernel
theorem dX3_about_68 : decode cX3_about 68 = .ok (.ireturn, 1) := by decide +kernel
theorem dX3_about_69 : decode cX3_about 69 = .ok (.aload_n 3, 1) := by decide +kernel
theorem dX3_about_70 : decode cX3_about 70 = .ok (.getfield 167, 3) := by decide +kernel
theorem dX3_about_73 : decode cX3_about 73 = .ok (.iload_n 1, 1) := by decide +kernel
theorem dX3_about_74 : decode cX3_about 74 = .ok (.iaload, 1) := by decide +kernel
theorem dX3_about_75 : decode cX3_about 75 = .ok (.ireturn, 1) := by decide +kernel
theorem dX3_about_76 : decode cX3_about 76 = .ok (.aload_n 3, 1) := by decide +kernel
theorem dX3_about_77 : decode cX3_about 77 = .ok (.getfield 170, 3) := by decide +kernel
theorem dX3_about_80 : decode cX3_about 80 = .ok (.iload_n 1, 1) := by decide +kernel
theorem dX3_about_81 : decode cX3_about 81 = .ok (.iaload, 1) := by decide +kernel
theorem dX3_about_82 : decode cX3_about 82 = .ok (.ireturn, 1) := by decide +kernel
theorem dX3_about_83 : decode cX3_about 83 = .ok (.new 153, 3) := by decide +kernel
theorem dX3_about_86 : decode cX3_about 86 = .ok (.dup, 1) := by decide +kernel
theorem dX3_about_87 : decode cX3_about 87 = .ok (.ldc 173, 2) := by decide +kernel
theorem dX3_about_89 : decode cX3_about 89 = .ok (.invokespecial 157, 3) := by decide +kernel
theorem dX3_about_92 : decode cX3_about 92 = .ok (.athrow, 1) := by decide +kernel
set_option maxRecDepth 20000 in
theorem ggX3_count_X1_watchNow : GoodIn wsX3_count wsX1_watchNow := goodIn_r _ [15, 16, 40, 41, 42, 43, 44] (by decide +kernel) (by decide +kernel)
set_option maxRecDepth 20000 in
theorem gX3_count_X1_watchNow : GoodIn wsX3_count (wsV RX3 182 RX1 yX1_watchNow wsX1_watchNow) := goodIn_app (goodIn_of _ (by decide +kernel)) ggX3_count_X1_watchNow
set_option maxRecDepth 20000 in
theorem ggX3_count_X2_howManyAt : GoodIn wsX3_count wsX2_howManyAt := goodIn_r _ [21, 22, 23, 51, 52, 53, 54, 55, 56, 57, 58, 59, 60, 61, 62, 63] (by decide +kernel) (by decide +kernel)
set_option maxRecDepth 20000 in
theorem gX3_count_X2_howManyAt : GoodIn wsX3_count (wsV RX3 185 RX2 yX2_howManyAt wsX2_howManyAt) := goodIn_app (goodIn_of _ (by decide +kernel)) ggX3_count_X2_howManyAt
set_option maxRecDepth 20000 in
theorem ggX3_count_X2_allLate : GoodIn wsX3_count wsX2_allLate := goodIn_r _ [27, 28, 29, 30, 31, 20, 32, 22, 51, 52, 53, 54, 55, 56, 57, 58, 59, 60, 61, 62, 63] (by decide +kernel) (by decide +kernel)
set_option maxRecDepth 20000 in
theorem gX3_count_X2_allLate : GoodIn wsX3_count (wsV RX3 188 RX2 yX2_allLate wsX2_allLate) := goodIn_app (goodIn_of _ (by decide +kernel)) ggX3_count_X2_allLate
set_option maxRecDepth 20000 in
theorem ggX3_count_X2_allFloors : GoodIn wsX3_count wsX2_allFloors := goodIn_r _ [36, 37, 29, 30, 31, 20, 32, 22, 51, 52, 53, 54, 55, 56, 57, 58, 59, 60, 61, 62, 63] (by decide +kernel) (by decide +kernel)
set_option maxRecDepth 20000 in
theorem gX3_count_X2_allFloors : GoodIn wsX3_count (wsV RX3 125 RX2 yX2_allFloors wsX2_allFloors) := goodIn_app (goodIn_of _ (by decide +kernel)) ggX3_count_X2_allFloors
theorem dX3_count_0 : decode cX3_count 0 = .ok (.iload_n 1, 1) := by decide +kernel
theorem dX3_count_1 : decode cX3_count 1 = .ok (.tableswitch 155 0 9 #[55, 63, 74, 85, 93, 105, 117, 128, 139, 147], 55) := by decide +kernel
theorem dX3_count_56 : decode cX3_count 56 = .ok (.aload_n 0, 1) := by decide +kernel
theorem dX3_count_57 : decode cX3_count 57 = .ok (.getfield 10, 3) := by decide +kernel
theorem dX3_count_60 : decode cX3_count 60 = .ok (.getfield 175, 3) := by decide +kernel
theorem dX3_count_63 : decode cX3_count 63 = .ok (.ireturn, 1) := by decide +kernel
theorem dX3_count_64 : decode cX3_count 64 = .ok (.aload_n 0, 1) := by decide +kernel
theorem dX3_count_65 : decode cX3_count 65 = .ok (.getfield 10, 3) := by decide +kernel
theorem dX3_count_68 : decode cX3_count 68 = .ok (.getfield 26, 3) := by decide +kernel
theorem dX3_count_71 : decode cX3_count 71 = .ok (.getfield 178, 3) := by decide +kernel
theorem dX3_count_74 : decode cX3_count 74 = .ok (.ireturn, 1) := by decide +kernel
theorem dX3_count_75 : decode cX3_count 75 = .ok (.aload_n 0, 1) := by decide +kernel
theorem dX3_count_76 : decode cX3_count 76 = .ok (.getfield 10, 3) := by decide +kernel
theorem dX3_count_79 : decode cX3_count 79 = .ok (.getfield 48, 3) := by decide +kernel
theorem dX3_count_82 : decode cX3_count 82 = .ok (.getfield 181, 3) := by decide +kernel
theorem dX3_count_85 : decode cX3_count 85 = .ok (.ireturn, 1) := by decide +kernel
theorem dX3_count_86 : decode cX3_count 86 = .ok (.aload_n 0, 1) := by decide +kernel
theorem dX3_count_87 : decode cX3_count 87 = .ok (.getfield 10, 3) := by decide +kernel
theorem dX3_count_90 : decode cX3_count 90 = .ok (.invokevirtual 182, 3) := by decide +kernel
theorem dX3_count_93 : decode cX3_count 93 = .ok (.ireturn, 1) := by decide +kernel
theorem dX3_count_94 : decode cX3_count 94 = .ok (.aload_n 0, 1) := by decide +kernel
theorem dX3_count_95 : decode cX3_count 95 = .ok (.getfield 10, 3) := by decide +kernel
theorem dX3_count_98 : decode cX3_count 98 = .ok (.getfield 48, 3) := by decide +kernel
theorem dX3_count_101 : decode cX3_count 101 = .ok (.iconst 1, 1) := by decide +kernel
theorem dX3_count_102 : decode cX3_count 102 = .ok (.invokevirtual 185, 3) := by decide +kernel
theorem dX3_count_105 : decode cX3_count 105 = .ok (.ireturn, 1) := by decide +kernel
theorem dX3_count_106 : decode cX3_count 106 = .ok (.aload_n 0, 1) := by decide +kernel
theorem dX3_count_107 : decode cX3_count 107 = .ok (.getfield 10, 3) := by decide +kernel
theorem dX3_count_110 : decode cX3_count 110 = .ok (.getfield 48, 3) := by decide +kernel
theorem dX3_count_113 : decode cX3_count 113 = .ok (.iconst 2, 1) := by decide +kernel
theorem dX3_count_114 : decode cX3_count 114 = .ok (.invokevirtual 185, 3) := by decide +kernel
theorem dX3_count_117 : decode cX3_count 117 = .ok (.ireturn, 1) := by decide +kernel
theorem dX3_count_118 : decode cX3_count 118 = .ok (.aload_n 0, 1) := by decide +kernel
theorem dX3_count_119 : decode cX3_count 119 = .ok (.getfield 10, 3) := by decide +kernel
theorem dX3_count_122 : decode cX3_count 122 = .ok (.getfield 48, 3) := by decide +kernel
theorem dX3_count_125 : decode cX3_count 125 = .ok (.invokevirtual 188, 3) := by decide +kernel
theorem dX3_count_128 : decode cX3_count 128 = .ok (.ireturn, 1) := by decide +kernel
theorem dX3_count_129 : decode cX3_count 129 = .ok (.aload_n 0, 1) := by decide +kernel
theorem dX3_count_130 : decode cX3_count 130 = .ok (.getfield 10, 3) := by decide +kernel
theorem dX3_count_133 : decode cX3_count 133 = .ok (.getfield 48, 3) := by decide +kernel
theorem dX3_count_136 : decode cX3_count 136 = .ok (.invokevirtual 125, 3) := by decide +kernel
theorem dX3_count_139 : decode cX3_count 139 = .ok (.ireturn, 1) := by decide +kernel
theorem dX3_count_140 : decode cX3_count 140 = .ok (.aload_n 0, 1) := by decide +kernel
theorem dX3_count_141 : decode cX3_count 141 = .ok (.getfield 10, 3) := by decide +kernel
theorem dX3_count_144 : decode cX3_count 144 = .ok (.getfield 67, 3) := by decide +kernel
theorem dX3_count_147 : decode cX3_count 147 = .ok (.ireturn, 1) := by decide +kernel
theorem dX3_count_148 : decode cX3_count 148 = .ok (.aload_n 0, 1) := by decide +kernel
theorem dX3_count_149 : decode cX3_count 149 = .ok (.getfield 10, 3) := by decide +kernel
theorem dX3_count_152 : decode cX3_count 152 = .ok (.getfield 73, 3) := by decide +kernel
theorem dX3_count_155 : decode cX3_count 155 = .ok (.ireturn, 1) := by decide +kernel
theorem dX3_count_156 : decode cX3_count 156 = .ok (.new 153, 3) := by decide +kernel
theorem dX3_count_159 : decode cX3_count 159 = .ok (.dup, 1) := by decide +kernel
theorem dX3_count_160 : decode cX3_count 160 = .ok (.ldc 191, 2) := by decide +kernel
theorem dX3_count_162 : decode cX3_count 162 = .ok (.invokespecial 157, 3) := by decide +kernel
theorem dX3_count_165 : decode cX3_count 165 = .ok (.athrow, 1) := by decide +kernel
set_option maxRecDepth 20000 in
theorem ggX3_mean_X2_allRest : GoodIn wsX3_mean wsX2_allRest := goodIn_r _ [8, 9, 10, 11, 12, 7, 13, 14, 22, 23, 24, 25, 26, 27, 28, 29, 30, 31, 32, 33, 34] (by decide +kernel) (by decide +kernel)
set_option maxRecDepth 20000 in
theorem gX3_mean_X2_allRest : GoodIn wsX3_mean (wsV RX3 197 RX2 yX2_allRest wsX2_allRest) := goodIn_app (goodIn_of _ (by decide +kernel)) ggX3_mean_X2_allRest
theorem dX3_mean_0 : decode cX3_mean 0 = .ok (.aload_n 0, 1) := by decide +kernel
theorem dX3_mean_1 : decode cX3_mean 1 = .ok (.getfield 10, 3) := by decide +kernel
theorem dX3_mean_4 : decode cX3_mean 4 = .ok (.getfield 48, 3) := by decide +kernel
theorem dX3_mean_7 : decode cX3_mean 7 = .ok (.astore_n 1, 1) := by decide +kernel
theorem dX3_mean_8 : decode cX3_mean 8 = .ok (.aload_n 1, 1) := by decide +kernel
theorem dX3_mean_9 : decode cX3_mean 9 = .ok (.getfield 181, 3) := by decide +kernel
theorem dX3_mean_12 : decode cX3_mean 12 = .ok (.ifCond .gt 5, 3) := by decide +kernel
theorem dX3_mean_15 : decode cX3_mean 15 = .ok (.dconst 0, 1) := by decide +kernel
theorem dX3_mean_16 : decode cX3_mean 16 = .ok (.dreturn, 1) := by decide +kernel
theorem dX3_mean_17 : decode cX3_mean 17 = .ok (.aload_n 1, 1) := by decide +kernel
theorem dX3_mean_18 : decode cX3_mean 18 = .ok (.invokevirtual 197, 3) := by decide +kernel
theorem dX3_mean_21 : decode cX3_mean 21 = .ok (.i2d, 1) := by decide +kernel
theorem dX3_mean_22 : decode cX3_mean 22 = .ok (.aload_n 1, 1) := by decide +kernel
theorem dX3_mean_23 : decode cX3_mean 23 = .ok (.getfield 181, 3) := by decide +kernel
theorem dX3_mean_26 : decode cX3_mean 26 = .ok (.i2d, 1) := by decide +kernel
theorem dX3_mean_27 : decode cX3_mean 27 = .ok (.ddiv, 1) := by decide +kernel
theorem dX3_mean_28 : decode cX3_mean 28 = .ok (.dreturn, 1) := by decide +kernel
theorem dX3_requireSailor_0 : decode cX3_requireSailor 0 = .ok (.iload_n 1, 1) := by decide +kernel
theorem dX3_requireSailor_1 : decode cX3_requireSailor 1 = .ok (.ifCond .lt 17, 3) := by decide +kernel
theorem dX3_requireSailor_4 : decode cX3_requireSailor 4 = .ok (.iload_n 1, 1) := by decide +kernel
theorem dX3_requireSailor_5 : decode cX3_requireSailor 5 = .ok (.aload_n 0, 1) := by decide +kernel
theorem dX3_requireSailor_6 : decode cX3_requireSailor 6 = .ok (.getfield 10, 3) := by decide +kernel
theorem dX3_requireSailor_9 : decode cX3_requireSailor 9 = .ok (.getfield 48, 3) := by decide +kernel
theorem dX3_requireSailor_12 : decode cX3_requireSailor 12 = .ok (.getfield 181, 3) := by decide +kernel
theorem dX3_requireSailor_15 : decode cX3_requireSailor 15 = .ok (.if_icmp .lt 13, 3) := by decide +kernel
theorem dX3_requireSailor_18 : decode cX3_requireSailor 18 = .ok (.new 153, 3) := by decide +kernel
theorem dX3_requireSailor_21 : decode cX3_requireSailor 21 = .ok (.dup, 1) := by decide +kernel
theorem dX3_requireSailor_22 : decode cX3_requireSailor 22 = .ok (.ldc 214, 2) := by decide +kernel
theorem dX3_requireSailor_24 : decode cX3_requireSailor 24 = .ok (.invokespecial 157, 3) := by decide +kernel
theorem dX3_requireSailor_27 : decode cX3_requireSailor 27 = .ok (.athrow, 1) := by decide +kernel
theorem dX3_requireSailor_28 : decode cX3_requireSailor 28 = .ok (.return_, 1) := by decide +kernel
set_option maxRecDepth 20000 in
theorem ggX3_requireBed_X0_has : GoodIn wsX3_requireBed wsX0_has := goodIn_r _ [9, 10, 18, 19, 20, 21, 22, 23] (by decide +kernel) (by decide +kernel)
set_option maxRecDepth 20000 in
theorem gX3_requireBed_X0_has : GoodIn wsX3_requireBed (wsV RX3 216 RX0 yX0_has wsX0_has) := goodIn_app (goodIn_of _ (by decide +kernel)) ggX3_requireBed_X0_has
theorem dX3_requireBed_0 : decode cX3_requireBed 0 = .ok (.aload_n 0, 1) := by decide +kernel
theorem dX3_requireBed_1 : decode cX3_requireBed 1 = .ok (.getfield 10, 3) := by decide +kernel
theorem dX3_requireBed_4 : decode cX3_requireBed 4 = .ok (.getfield 26, 3) := by decide +kernel
theorem dX3_requireBed_7 : decode cX3_requireBed 7 = .ok (.iload_n 1, 1) := by decide +kernel
theorem dX3_requireBed_8 : decode cX3_requireBed 8 = .ok (.invokevirtual 216, 3) := by decide +kernel
theorem dX3_requireBed_11 : decode cX3_requireBed 11 = .ok (.ifCond .ne 13, 3) := by decide +kernel
theorem dX3_requireBed_14 : decode cX3_requireBed 14 = .ok (.new 153, 3) := by decide +kernel
theorem dX3_requireBed_17 : decode cX3_requireBed 17 = .ok (.dup, 1) := by decide +kernel
theorem dX3_requireBed_18 : decode cX3_requireBed 18 = .ok (.ldc 219, 2) := by decide +kernel
theorem dX3_requireBed_20 : decode cX3_requireBed 20 = .ok (.invokespecial 157, 3) := by decide +kernel
theorem dX3_requireBed_23 : decode cX3_requireBed 23 = .ok (.athrow, 1) := by decide +kernel
theorem dX3_requireBed_24 : decode cX3_requireBed 24 = .ok (.return_, 1) := by decide +kernel
theorem dX3_requireWatch_0 : decode cX3_requireWatch 0 = .ok (.iload_n 0, 1) := by decide +kernel
theorem dX3_requireWatch_1 : decode cX3_requireWatch 1 = .ok (.ifCond .lt 8, 3) := by decide +kernel
theorem dX3_requireWatch_4 : decode cX3_requireWatch 4 = .ok (.iload_n 0, 1) := by decide +kernel
theorem dX3_requireWatch_5 : decode cX3_requireWatch 5 = .ok (.iconst 3, 1) := by decide +kernel
theorem dX3_requireWatch_6 : decode cX3_requireWatch 6 = .ok (.if_icmp .lt 13, 3) := by decide +kernel
theorem dX3_requireWatch_9 : decode cX3_requireWatch 9 = .ok (.new 153, 3) := by decide +kernel
theorem dX3_requireWatch_12 : decode cX3_requireWatch 12 = .ok (.dup, 1) := by decide +kernel
theorem dX3_requireWatch_13 : decode cX3_requireWatch 13 = .ok (.ldc 221, 2) := by decide +kernel
theorem dX3_requireWatch_15 : decode cX3_requireWatch 15 = .ok (.invokespecial 157, 3) := by decide +kernel
theorem dX3_requireWatch_18 : decode cX3_requireWatch 18 = .ok (.athrow, 1) := by decide +kernel
theorem dX3_requireWatch_19 : decode cX3_requireWatch 19 = .ok (.return_, 1) := by decide +kernel
set_option maxRecDepth 20000 in
theorem ggX3_requireUp_X2_isUp : GoodIn wsX3_requireUp wsX2_isUp := goodIn_r _ [9, 10, 18, 19, 20, 21, 22, 23, 24, 25, 26, 27, 28, 29, 30] (by decide +kernel) (by decide +kernel)
set_option maxRecDepth 20000 in
theorem gX3_requireUp_X2_isUp : GoodIn wsX3_requireUp (wsV RX3 105 RX2 yX2_isUp wsX2_isUp) := goodIn_app (goodIn_of _ (by decide +kernel)) ggX3_requireUp_X2_isUp
theorem dX3_requireUp_0 : decode cX3_requireUp 0 = .ok (.aload_n 0, 1) := by decide +kernel
theorem dX3_requireUp_1 : decode cX3_requireUp 1 = .ok (.getfield 10, 3) := by decide +kernel
theorem dX3_requireUp_4 : decode cX3_requireUp 4 = .ok (.getfield 48, 3) := by decide +kernel
theorem dX3_requireUp_7 : decode cX3_requireUp 7 = .ok (.iload_n 1, 1) := by decide +kernel
theorem dX3_requireUp_8 : decode cX3_requireUp 8 = .ok (.invokevirtual 105, 3) := by decide +kernel
theorem dX3_requireUp_11 : decode cX3_requireUp 11 = .ok (.ifCond .ne 13, 3) := by decide +kernel
theorem dX3_requireUp_14 : decode cX3_requireUp 14 = .ok (.new 89, 3) := by decide +kernel
theorem dX3_requireUp_17 : decode cX3_requireUp 17 = .ok (.dup, 1) := by decide +kernel
theorem dX3_requireUp_18 : decode cX3_requireUp 18 = .ok (.ldc 223, 2) := by decide +kernel
theorem dX3_requireUp_20 : decode cX3_requireUp 20 = .ok (.invokespecial 93, 3) := by decide +kernel
theorem dX3_requireUp_23 : decode cX3_requireUp 23 = .ok (.athrow, 1) := by decide +kernel
theorem dX3_requireUp_24 : decode cX3_requireUp 24 = .ok (.return_, 1) := by decide +kernel
theorem dX3_requireHours_0 : decode cX3_requireHours 0 = .ok (.iload_n 0, 1) := by decide +kernel
theorem dX3_requireHours_1 : decode cX3_requireHours 1 = .ok (.iconst 1, 1) := by decide +kernel
theorem dX3_requireHours_2 : decode cX3_requireHours 2 = .ok (.if_icmp .lt 9, 3) := by decide +kernel
theorem dX3_requireHours_5 : decode cX3_requireHours 5 = .ok (.iload_n 0, 1) := by decide +kernel
theorem dX3_requireHours_6 : decode cX3_requireHours 6 = .ok (.bipush 72, 2) := by decide +kernel
theorem dX3_requireHours_8 : decode cX3_requireHours 8 = .ok (.if_icmp .le 13, 3) := by decide +kernel
theorem dX3_requireHours_11 : decode cX3_requireHours 11 = .ok (.new 19, 3) := by decide +kernel
theorem dX3_requireHours_14 : decode cX3_requireHours 14 = .ok (.dup, 1) := by decide +kernel
theorem dX3_requireHours_15 : decode cX3_requireHours 15 = .ok (.ldc 225, 2) := by decide +kernel
theorem dX3_requireHours_17 : decode cX3_requireHours 17 = .ok (.invokespecial 23, 3) := by decide +kernel
theorem dX3_requireHours_20 : decode cX3_requireHours 20 = .ok (.athrow, 1) := by decide +kernel
theorem dX3_requireHours_21 : decode cX3_requireHours 21 = .ok (.return_, 1) := by decide +kernel
