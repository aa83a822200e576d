set_option maxRecDepth 20000 in
theorem ggL_bed_X3_bed : GoodIn wsL_bed wsX3_bed := goodIn_ca (goodIn_ca (goodIn_r _ [7, 8, 9, 10, 11, 12, 13, 14, 15, 16, 17, 18, 19, 20, 21, 22, 23, 24, 25, 26, 27, 28, 29, 30, 31, 32, 33, 34] (by decide +kernel) (by decide +kernel)) (goodIn_sub (fun _ h => List.mem_cons_of_mem _ (List.mem_append_left _ (List.mem_append_right _ h))) (by decide +kernel))) (goodIn_sub (fun _ h => List.mem_cons_of_mem _ (List.mem_append_right _ h)) (by decide +kernel))
set_option maxRecDepth 20000 in
theorem gL_bed_X3_bed : GoodIn wsL_bed (wsV RL 7 RX3 yX3_bed wsX3_bed) := goodIn_app (goodIn_of _ (by decide +kernel)) ggL_bed_X3_bed
theorem dL_bed_0 : decode cL_bed 0 = .ok (.aload_n 2, 1) := by decide +kernel
theorem dL_bed_1 : decode cL_bed 1 = .ok (.iconst 0, 1) := by decide +kernel
theorem dL_bed_2 : decode cL_bed 2 = .ok (.aload_n 0, 1) := by decide +kernel
theorem dL_bed_3 : decode cL_bed 3 = .ok (.iload_n 1, 1) := by decide +kernel
theorem dL_bed_4 : decode cL_bed 4 = .ok (.invokevirtual 7, 3) := by decide +kernel
theorem dL_bed_7 : decode cL_bed 7 = .ok (.i2l, 1) := by decide +kernel
theorem dL_bed_8 : decode cL_bed 8 = .ok (.lastore, 1) := by decide +kernel
theorem dL_bed_9 : decode cL_bed 9 = .ok (.goto 9, 3) := by decide +kernel
theorem dL_bed_12 : decode cL_bed 12 = .ok (.astore_n 3, 1) := by decide +kernel
theorem dL_bed_13 : decode cL_bed 13 = .ok (.iconst 1, 1) := by decide +kernel
theorem dL_bed_14 : decode cL_bed 14 = .ok (.ireturn, 1) := by decide +kernel
theorem dL_bed_15 : decode cL_bed 15 = .ok (.astore_n 3, 1) := by decide +kernel
theorem dL_bed_16 : decode cL_bed 16 = .ok (.iconst 2, 1) := by decide +kernel
theorem dL_bed_17 : decode cL_bed 17 = .ok (.ireturn, 1) := by decide +kernel
theorem dL_bed_18 : decode cL_bed 18 = .ok (.iconst 0, 1) := by decide +kernel
theorem dL_bed_19 : decode cL_bed 19 = .ok (.ireturn, 1) := by decide +kernel
set_option maxRecDepth 20000 in
theorem ggL_sailor_X3_sailor : GoodIn wsL_sailor wsX3_sailor := goodIn_ca (goodIn_ca (goodIn_ca (goodIn_r _ [8, 9, 10, 11, 12, 13, 14, 7, 15, 16, 17, 18, 19, 20, 21, 22, 23, 24, 25, 26, 27, 28, 29, 30, 31, 32, 33, 34, 35, 36, 37, 38, 39, 40, 41, 42, 43, 44, 45, 46, 47, 48, 49, 50, 51, 52, 53] (by decide +kernel) (by decide +kernel)) (goodIn_sub (fun _ h => List.mem_cons_of_mem _ (List.mem_append_left _ (List.mem_append_left _ (List.mem_append_right _ h)))) (by decide +kernel))) (goodIn_sub (fun _ h => List.mem_cons_of_mem _ (List.mem_append_left _ (List.mem_append_right _ h))) (by decide +kernel))) (goodIn_sub (fun _ h => List.mem_cons_of_mem _ (List.mem_append_right _ h)) (by decide +kernel))
set_option maxRecDepth 20000 in
theorem gL_sailor_X3_sailor : GoodIn wsL_sailor (wsV RL 17 RX3 yX3_sailor wsX3_sailor) := goodIn_app (goodIn_of _ (by decide +kernel)) ggL_sailor_X3_sailor
theorem dL_sailor_0 : decode cL_sailor 0 = .ok (.aload 5, 2) := by decide +kernel
theorem dL_sailor_2 : decode cL_sailor 2 = .ok (.iconst 0, 1) := by decide +kernel
theorem dL_sailor_3 : decode cL_sailor 3 = .ok (.aload_n 0, 1) := by decide +kernel
theorem dL_sailor_4 : decode cL_sailor 4 = .ok (.iload_n 1, 1) := by decide +kernel
theorem dL_sailor_5 : decode cL_sailor 5 = .ok (.iload_n 2, 1) := by decide +kernel
theorem dL_sailor_6 : decode cL_sailor 6 = .ok (.iload_n 3, 1) := by decide +kernel
theorem dL_sailor_7 : decode cL_sailor 7 = .ok (.iload 4, 2) := by decide +kernel
theorem dL_sailor_9 : decode cL_sailor 9 = .ok (.invokevirtual 17, 3) := by decide +kernel
theorem dL_sailor_12 : decode cL_sailor 12 = .ok (.i2l, 1) := by decide +kernel
theorem dL_sailor_13 : decode cL_sailor 13 = .ok (.lastore, 1) := by decide +kernel
theorem dL_sailor_14 : decode cL_sailor 14 = .ok (.goto 15, 3) := by decide +kernel
theorem dL_sailor_17 : decode cL_sailor 17 = .ok (.astore 6, 2) := by decide +kernel
theorem dL_sailor_19 : decode cL_sailor 19 = .ok (.iconst 1, 1) := by decide +kernel
theorem dL_sailor_20 : decode cL_sailor 20 = .ok (.ireturn, 1) := by decide +kernel
theorem dL_sailor_21 : decode cL_sailor 21 = .ok (.astore 6, 2) := by decide +kernel
theorem dL_sailor_23 : decode cL_sailor 23 = .ok (.iconst 2, 1) := by decide +kernel
theorem dL_sailor_24 : decode cL_sailor 24 = .ok (.ireturn, 1) := by decide +kernel
theorem dL_sailor_25 : decode cL_sailor 25 = .ok (.astore 6, 2) := by decide +kernel
theorem dL_sailor_27 : decode cL_sailor 27 = .ok (.iconst 3, 1) := by decide +kernel
theorem dL_sailor_28 : decode cL_sailor 28 = .ok (.ireturn, 1) := by decide +kernel
theorem dL_sailor_29 : decode cL_sailor 29 = .ok (.iconst 0, 1) := by decide +kernel
theorem dL_sailor_30 : decode cL_sailor 30 = .ok (.ireturn, 1) := by decide +kernel
set_option maxRecDepth 20000 in
theorem ggL_keep_X3_keep : GoodIn wsL_keep wsX3_keep := goodIn_ca (goodIn_r _ [6, 7, 8, 9, 10, 11, 12, 5, 13, 14, 15, 16, 17, 18, 19, 20, 21, 22, 23, 24, 25, 26, 27, 28, 29, 30, 31, 32, 33, 34, 35, 36, 37, 38, 39, 40, 41, 42, 43, 44, 45, 46, 47, 48, 49, 50, 51, 52, 53] (by decide +kernel) (by decide +kernel)) (goodIn_sub (fun _ h => List.mem_cons_of_mem _ (List.mem_append_right _ h)) (by decide +kernel))
set_option maxRecDepth 20000 in
theorem gL_keep_X3_keep : GoodIn wsL_keep (wsV RL 23 RX3 yX3_keep wsX3_keep) := goodIn_app (goodIn_of _ (by decide +kernel)) ggL_keep_X3_keep
theorem dL_keep_0 : decode cL_keep 0 = .ok (.aload_n 3, 1) := by decide +kernel
theorem dL_keep_1 : decode cL_keep 1 = .ok (.iconst 0, 1) := by decide +kernel
theorem dL_keep_2 : decode cL_keep 2 = .ok (.aload_n 0, 1) := by decide +kernel
theorem dL_keep_3 : decode cL_keep 3 = .ok (.iload_n 1, 1) := by decide +kernel
theorem dL_keep_4 : decode cL_keep 4 = .ok (.iload_n 2, 1) := by decide +kernel
theorem dL_keep_5 : decode cL_keep 5 = .ok (.invokevirtual 23, 3) := by decide +kernel
theorem dL_keep_8 : decode cL_keep 8 = .ok (.i2l, 1) := by decide +kernel
theorem dL_keep_9 : decode cL_keep 9 = .ok (.lastore, 1) := by decide +kernel
theorem dL_keep_10 : decode cL_keep 10 = .ok (.goto 7, 3) := by decide +kernel
theorem dL_keep_13 : decode cL_keep 13 = .ok (.astore 4, 2) := by decide +kernel
theorem dL_keep_15 : decode cL_keep 15 = .ok (.iconst 1, 1) := by decide +kernel
theorem dL_keep_16 : decode cL_keep 16 = .ok (.ireturn, 1) := by decide +kernel
theorem dL_keep_17 : decode cL_keep 17 = .ok (.iconst 0, 1) := by decide +kernel
theorem dL_keep_18 : decode cL_keep 18 = .ok (.ireturn, 1) := by decide +kernel
set_option maxRecDepth 20000 in
theorem ggL_setBell_X3_setBell : GoodIn wsL_setBell wsX3_setBell := goodIn_ca (goodIn_r _ [6, 7, 8, 9, 10, 11, 12, 13, 14, 15, 16, 17] (by decide +kernel) (by decide +kernel)) (goodIn_sub (fun _ h => List.mem_cons_of_mem _ (List.mem_append_right _ h)) (by decide +kernel))
set_option maxRecDepth 20000 in
theorem gL_setBell_X3_setBell : GoodIn wsL_setBell (wsV RL 27 RX3 yX3_setBell wsX3_setBell) := goodIn_app (goodIn_of _ (by decide +kernel)) ggL_setBell_X3_setBell
theorem dL_setBell_0 : decode cL_setBell 0 = .ok (.aload_n 2, 1) := by decide +kernel
theorem dL_setBell_1 : decode cL_setBell 1 = .ok (.iconst 0, 1) := by decide +kernel
theorem dL_setBell_2 : decode cL_setBell 2 = .ok (.aload_n 0, 1) := by decide +kernel
theorem dL_setBell_3 : decode cL_setBell 3 = .ok (.iload_n 1, 1) := by decide +kernel
theorem dL_setBell_4 : decode cL_setBell 4 = .ok (.invokevirtual 27, 3) := by decide +kernel
theorem dL_setBell_7 : decode cL_setBell 7 = .ok (.i2l, 1) := by decide +kernel
theorem dL_setBell_8 : decode cL_setBell 8 = .ok (.lastore, 1) := by decide +kernel
theorem dL_setBell_9 : decode cL_setBell 9 = .ok (.goto 6, 3) := by decide +kernel
theorem dL_setBell_12 : decode cL_setBell 12 = .ok (.astore_n 3, 1) := by decide +kernel
theorem dL_setBell_13 : decode cL_setBell 13 = .ok (.iconst 1, 1) := by decide +kernel
theorem dL_setBell_14 : decode cL_setBell 14 = .ok (.ireturn, 1) := by decide +kernel
theorem dL_setBell_15 : decode cL_setBell 15 = .ok (.iconst 0, 1) := by decide +kernel
theorem dL_setBell_16 : decode cL_setBell 16 = .ok (.ireturn, 1) := by decide +kernel
set_option maxRecDepth 20000 in
theorem ggL_setPawn_X3_setPawn : GoodIn wsL_setPawn wsX3_setPawn := goodIn_ca (goodIn_r _ [6, 7, 8, 9, 10, 11, 12, 13, 14, 15, 16, 17] (by decide +kernel) (by decide +kernel)) (goodIn_sub (fun _ h => List.mem_cons_of_mem _ (List.mem_append_right _ h)) (by decide +kernel))
set_option maxRecDepth 20000 in
theorem gL_setPawn_X3_setPawn : GoodIn wsL_setPawn (wsV RL 30 RX3 yX3_setPawn wsX3_setPawn) := goodIn_app (goodIn_of _ (by decide +kernel)) ggL_setPawn_X3_setPawn
theorem dL_setPawn_0 : decode cL_setPawn 0 = .ok (.aload_n 2, 1) := by decide +kernel
theorem dL_setPawn_1 : decode cL_setPawn 1 = .ok (.iconst 0, 1) := by decide +kernel
theorem dL_setPawn_2 : decode cL_setPawn 2 = .ok (.aload_n 0, 1) := by decide +kernel
theorem dL_setPawn_3 : decode cL_setPawn 3 = .ok (.iload_n 1, 1) := by decide +kernel
theorem dL_setPawn_4 : decode cL_setPawn 4 = .ok (.invokevirtual 30, 3) := by decide +kernel
theorem dL_setPawn_7 : decode cL_setPawn 7 = .ok (.i2l, 1) := by decide +kernel
theorem dL_setPawn_8 : decode cL_setPawn 8 = .ok (.lastore, 1) := by decide +kernel
theorem dL_setPawn_9 : decode cL_setPawn 9 = .ok (.goto 6, 3) := by decide +kernel
theorem dL_setPawn_12 : decode cL_setPawn 12 = .ok (.astore_n 3, 1) := by decide +kernel
theorem dL_setPawn_13 : decode cL_setPawn 13 = .ok (.iconst 1, 1) := by decide +kernel
theorem dL_setPawn_14 : decode cL_setPawn 14 = .ok (.ireturn, 1) := by decide +kernel
theorem dL_setPawn_15 : decode cL_setPawn 15 = .ok (.iconst 0, 1) := by decide +kernel
theorem dL_setPawn_16 : decode cL_setPawn 16 = .ok (.ireturn, 1) := by decide +kernel
set_option maxRecDepth 20000 in
theorem ggL_give_X3_give : GoodIn wsL_give wsX3_give := goodIn_ca (goodIn_ca (goodIn_r _ [7, 8, 9, 10, 11, 12, 13, 14, 15, 6, 16, 17, 18, 19, 20, 21, 22, 23, 24, 25, 26, 27, 28, 29, 30, 31, 32, 33, 34, 35, 36, 37, 38, 39, 40, 41, 42, 43, 44, 45, 46, 47, 48, 49] (by decide +kernel) (by decide +kernel)) (goodIn_sub (fun _ h => List.mem_cons_of_mem _ (List.mem_append_left _ (List.mem_append_right _ h))) (by decide +kernel))) (goodIn_sub (fun _ h => List.mem_cons_of_mem _ (List.mem_append_right _ h)) (by decide +kernel))
set_option maxRecDepth 20000 in
theorem gL_give_X3_give : GoodIn wsL_give (wsV RL 33 RX3 yX3_give wsX3_give) := goodIn_app (goodIn_of _ (by decide +kernel)) ggL_give_X3_give
theorem dL_give_0 : decode cL_give 0 = .ok (.aload_n 3, 1) := by decide +kernel
theorem dL_give_1 : decode cL_give 1 = .ok (.iconst 0, 1) := by decide +kernel
theorem dL_give_2 : decode cL_give 2 = .ok (.aload_n 0, 1) := by decide +kernel
theorem dL_give_3 : decode cL_give 3 = .ok (.iload_n 1, 1) := by decide +kernel
theorem dL_give_4 : decode cL_give 4 = .ok (.iload_n 2, 1) := by decide +kernel
theorem dL_give_5 : decode cL_give 5 = .ok (.invokevirtual 33, 3) := by decide +kernel
theorem dL_give_8 : decode cL_give 8 = .ok (.i2l, 1) := by decide +kernel
theorem dL_give_9 : decode cL_give 9 = .ok (.lastore, 1) := by decide +kernel
theorem dL_give_10 : decode cL_give 10 = .ok (.goto 11, 3) := by decide +kernel
theorem dL_give_13 : decode cL_give 13 = .ok (.astore 4, 2) := by decide +kernel
theorem dL_give_15 : decode cL_give 15 = .ok (.iconst 1, 1) := by decide +kernel
theorem dL_give_16 : decode cL_give 16 = .ok (.ireturn, 1) := by decide +kernel
theorem dL_give_17 : decode cL_give 17 = .ok (.astore 4, 2) := by decide +kernel
theorem dL_give_19 : decode cL_give 19 = .ok (.iconst 2, 1) := by decide +kernel
theorem dL_give_20 : decode cL_give 20 = .ok (.ireturn, 1) := by decide +kernel
theorem dL_give_21 : decode cL_give 21 = .ok (.iconst 0, 1) := by decide +kernel
theorem dL_give_22 : decode cL_give 22 = .ok (.ireturn, 1) := by decide +kernel
set_option maxRecDepth 20000 in
theorem ggL_pawn_X3_pawn : GoodIn wsL_pawn wsX3_pawn := goodIn_ca (goodIn_ca (goodIn_r _ [7, 8, 9, 10, 11, 12, 13, 14, 15, 6, 16, 17, 18, 19, 20, 21, 22, 23, 24, 25, 26, 27, 28, 29, 30, 31, 32, 33, 34, 35, 36, 37, 38, 39, 40, 41, 42, 43, 44, 45, 46, 47, 48, 49, 50, 51, 52, 53, 54, 55, 56, 57, 58, 59, 60, 61, 62] (by decide +kernel) (by decide +kernel)) (goodIn_sub (fun _ h => List.mem_cons_of_mem _ (List.mem_append_left _ (List.mem_append_right _ h))) (by decide +kernel))) (goodIn_sub (fun _ h => List.mem_cons_of_mem _ (List.mem_append_right _ h)) (by decide +kernel))
set_option maxRecDepth 20000 in
theorem gL_pawn_X3_pawn : GoodIn wsL_pawn (wsV RL 36 RX3 yX3_pawn wsX3_pawn) := goodIn_app (goodIn_of _ (by decide +kernel)) ggL_pawn_X3_pawn
theorem dL_pawn_0 : decode cL_pawn 0 = .ok (.aload_n 2, 1) := by decide +kernel
theorem dL_pawn_1 : decode cL_pawn 1 = .ok (.iconst 0, 1) := by decide +kernel
theorem dL_pawn_2 : decode cL_pawn 2 = .ok (.aload_n 0, 1) := by decide +kernel
theorem dL_pawn_3 : decode cL_pawn 3 = .ok (.iload_n 1, 1) := by decide +kernel
theorem dL_pawn_4 : decode cL_pawn 4 = .ok (.invokevirtual 36, 3) := by decide +kernel
theorem dL_pawn_7 : decode cL_pawn 7 = .ok (.i2l, 1) := by decide +kernel
theorem dL_pawn_8 : decode cL_pawn 8 = .ok (.lastore, 1) := by decide +kernel
theorem dL_pawn_9 : decode cL_pawn 9 = .ok (.goto 9, 3) := by decide +kernel
theorem dL_pawn_12 : decode cL_pawn 12 = .ok (.astore_n 3, 1) := by decide +kernel
theorem dL_pawn_13 : decode cL_pawn 13 = .ok (.iconst 1, 1) := by decide +kernel
theorem dL_pawn_14 : decode cL_pawn 14 = .ok (.ireturn, 1) := by decide +kernel
theorem dL_pawn_15 : decode cL_pawn 15 = .ok (.astore_n 3, 1) := by decide +kernel
theorem dL_pawn_16 : decode cL_pawn 16 = .ok (.iconst 2, 1) := by decide +kernel
theorem dL_pawn_17 : decode cL_pawn 17 = .ok (.ireturn, 1) := by decide +kernel
theorem dL_pawn_18 : decode cL_pawn 18 = .ok (.iconst 0, 1) := by decide +kernel
theorem dL_pawn_19 : decode cL_pawn 19 = .ok (.ireturn, 1) := by decide +kernel
set_option maxRecDepth 20000 in
theorem ggL_redeem_X3_redeem : GoodIn wsL_redeem wsX3_redeem := goodIn_ca (goodIn_ca (goodIn_r _ [7, 8, 9, 10, 11, 12, 13, 14, 15, 6, 16, 17, 18, 19, 20, 21, 22, 23, 24, 25, 26, 27, 28, 29, 30, 31, 32, 33, 34, 35, 36, 37, 38, 39, 40, 41, 42, 43, 44, 45, 46, 47, 48, 49, 50, 51, 52, 53, 54, 55, 56, 57, 58] (by decide +kernel) (by decide +kernel)) (goodIn_sub (fun _ h => List.mem_cons_of_mem _ (List.mem_append_left _ (List.mem_append_right _ h))) (by decide +kernel))) (goodIn_sub (fun _ h => List.mem_cons_of_mem _ (List.mem_append_right _ h)) (by decide +kernel))
set_option maxRecDepth 20000 in
theorem gL_redeem_X3_redeem : GoodIn wsL_redeem (wsV RL 39 RX3 yX3_redeem wsX3_redeem) := goodIn_app (goodIn_of _ (by decide +kernel)) ggL_redeem_X3_redeem
theorem dL_redeem_0 : decode cL_redeem 0 = .ok (.aload_n 2, 1) := by decide +kernel
theorem dL_redeem_1 : decode cL_redeem 1 = .ok (.iconst 0, 1) := by decide +kernel
theorem dL_redeem_2 : decode cL_redeem 2 = .ok (.aload_n 0, 1) := by decide +kernel
theorem dL_redeem_3 : decode cL_redeem 3 = .ok (.iload_n 1, 1) := by decide +kernel
theorem dL_redeem_4 : decode cL_redeem 4 = .ok (.invokevirtual 39, 3) := by decide +kernel
theorem dL_redeem_7 : decode cL_redeem 7 = .ok (.i2l, 1) := by decide +kernel
theorem dL_redeem_8 : decode cL_redeem 8 = .ok (.lastore, 1) := by decide +kernel
theorem dL_redeem_9 : decode cL_redeem 9 = .ok (.goto 9, 3) := by decide +kernel
theorem dL_redeem_12 : decode cL_redeem 12 = .ok (.astore_n 3, 1) := by decide +kernel
theorem dL_redeem_13 : decode cL_redeem 13 = .ok (.iconst 1, 1) := by decide +kernel
theorem dL_redeem_14 : decode cL_redeem 14 = .ok (.ireturn, 1) := by decide +kernel
theorem dL_redeem_15 : decode cL_redeem 15 = .ok (.astore_n 3, 1) := by decide +kernel
theorem dL_redeem_16 : decode cL_redeem 16 = .ok (.iconst 2, 1) := by decide +kernel
theorem dL_redeem_17 : decode cL_redeem 17 = .ok (.ireturn, 1) := by decide +kernel
theorem dL_redeem_18 : decode cL_redeem 18 = .ok (.iconst 0, 1) := by decide +kernel
theorem dL_redeem_19 : decode cL_redeem 19 = .ok (.ireturn, 1) := by decide +kernel
set_option maxRecDepth 20000 in
theorem ggL_call_X3_call : GoodIn wsL_call wsX3_call := goodIn_ca (goodIn_ca (goodIn_r _ [7, 8, 9, 10, 11, 12, 13, 14, 15, 6, 16, 17, 18, 19, 20, 21, 22, 23, 24, 25, 26, 27, 28, 29, 30, 31, 32, 33, 34, 35, 36, 37, 38, 39, 40, 41, 42, 43, 44, 45, 46, 47, 48, 49, 50, 51, 52, 53, 54, 55, 56, 57, 58, 59, 60, 61, 62, 63, 64, 65, 66, 67] (by decide +kernel) (by decide +kernel)) (goodIn_sub (fun _ h => List.mem_cons_of_mem _ (List.mem_append_left _ (List.mem_append_right _ h))) (by decide +kernel))) (goodIn_sub (fun _ h => List.mem_cons_of_mem _ (List.mem_append_right _ h)) (by decide +kernel))
set_option maxRecDepth 20000 in
theorem gL_call_X3_call : GoodIn wsL_call (wsV RL 42 RX3 yX3_call wsX3_call) := goodIn_app (goodIn_of _ (by decide +kernel)) ggL_call_X3_call
theorem dL_call_0 : decode cL_call 0 = .ok (.aload_n 2, 1) := by decide +kernel
theorem dL_call_1 : decode cL_call 1 = .ok (.iconst 0, 1) := by decide +kernel
theorem dL_call_2 : decode cL_call 2 = .ok (.aload_n 0, 1) := by decide +kernel
theorem dL_call_3 : decode cL_call 3 = .ok (.iload_n 1, 1) := by decide +kernel
theorem dL_call_4 : decode cL_call 4 = .ok (.invokevirtual 42, 3) := by decide +kernel
theorem dL_call_7 : decode cL_call 7 = .ok (.i2l, 1) := by decide +kernel
theorem dL_call_8 : decode cL_call 8 = .ok (.lastore, 1) := by decide +kernel
theorem dL_call_9 : decode cL_call 9 = .ok (.goto 9, 3) := by decide +kernel
theorem dL_call_12 : decode cL_call 12 = .ok (.astore_n 3, 1) := by decide +kernel
theorem dL_call_13 : decode cL_call 13 = .ok (.iconst 1, 1) := by decide +kernel
theorem dL_call_14 : decode cL_call 14 = .ok (.ireturn, 1) := by decide +kernel
theorem dL_call_15 : decode cL_call 15 = .ok (.astore_n 3, 1) := by decide +kernel
theorem dL_call_16 : decode cL_call 16 = .ok (.iconst 2, 1) := by decide +kernel
theorem dL_call_17 : decode cL_call 17 = .ok (.ireturn, 1) := by decide +kernel
theorem dL_call_18 : decode cL_call 18 = .ok (.iconst 0, 1) := by decide +kernel
theorem dL_call_19 : decode cL_call 19 = .ok (.ireturn, 1) := by decide +kernel
set_option maxRecDepth 20000 in
theorem ggL_shift_X3_shift : GoodIn wsL_shift wsX3_shift := goodIn_ca (goodIn_ca (goodIn_r _ [7, 8, 9, 10, 11, 12, 13, 6, 14, 15, 16, 17, 18, 19, 20, 21, 22, 23, 24, 25, 26, 27, 28, 29, 30, 31, 32, 33, 34, 35, 36, 37, 38, 39, 40, 41, 42, 43, 44, 45, 46, 47, 48, 49, 50, 51, 52] (by decide +kernel) (by decide +kernel)) (goodIn_sub (fun _ h => List.mem_cons_of_mem _ (List.mem_append_left _ (List.mem_append_right _ h))) (by decide +kernel))) (goodIn_sub (fun _ h => List.mem_cons_of_mem _ (List.mem_append_right _ h)) (by decide +kernel))
set_option maxRecDepth 20000 in
theorem gL_shift_X3_shift : GoodIn wsL_shift (wsV RL 45 RX3 yX3_shift wsX3_shift) := goodIn_app (goodIn_of _ (by decide +kernel)) ggL_shift_X3_shift
theorem dL_shift_0 : decode cL_shift 0 = .ok (.aload_n 3, 1) := by decide +kernel
theorem dL_shift_1 : decode cL_shift 1 = .ok (.iconst 0, 1) := by decide +kernel
theorem dL_shift_2 : decode cL_shift 2 = .ok (.aload_n 0, 1) := by decide +kernel
theorem dL_shift_3 : decode cL_shift 3 = .ok (.iload_n 1, 1) := by decide +kernel
theorem dL_shift_4 : decode cL_shift 4 = .ok (.iload_n 2, 1) := by decide +kernel
theorem dL_shift_5 : decode cL_shift 5 = .ok (.invokevirtual 45, 3) := by decide +kernel
theorem dL_shift_8 : decode cL_shift 8 = .ok (.i2l, 1) := by decide +kernel
theorem dL_shift_9 : decode cL_shift 9 = .ok (.lastore, 1) := by decide +kernel
theorem dL_shift_10 : decode cL_shift 10 = .ok (.goto 11, 3) := by decide +kernel
theorem dL_shift_13 : decode cL_shift 13 = .ok (.astore 4, 2) := by decide +kernel
theorem dL_shift_15 : decode cL_shift 15 = .ok (.iconst 1, 1) := by decide +kernel
theorem dL_shift_16 : decode cL_shift 16 = .ok (.ireturn, 1) := by decide +kernel
theorem dL_shift_17 : decode cL_shift 17 = .ok (.astore 4, 2) := by decide +kernel
theorem dL_shift_19 : decode cL_shift 19 = .ok (.iconst 2, 1) := by decide +kernel
theorem dL_shift_20 : decode cL_shift 20 = .ok (.ireturn, 1) := by decide +kernel
theorem dL_shift_21 : decode cL_shift 21 = .ok (.iconst 0, 1) := by decide +kernel
theorem dL_shift_22 : decode cL_shift 22 = .ok (.ireturn, 1) := by decide +kernel
set_option maxRecDepth 20000 in
theorem ggL_pass_X3_pass : GoodIn wsL_pass wsX3_pass := goodIn_ca (goodIn_r _ [6, 7, 8, 9, 10, 5, 11, 12, 13, 14, 15, 16, 17, 18, 19, 20, 21, 22, 23, 24, 25, 26, 27, 28, 29, 30, 31, 32, 33, 34, 35, 36, 37, 38, 39, 40, 41, 42, 43, 44, 45, 46, 47, 48, 49, 50, 51, 52, 53, 54, 55, 56, 57, 58, 59, 60, 61, 62, 63, 64, 65, 66, 67, 68, 69, 70, 71, 72, 73, 74, 75, 76, 77, 78, 79, 80, 81, 82, 83, 84, 85, 86, 87, 88, 89, 90, 91, 92, 93, 94, 95, 96, 97, 98, 99, 100, 101, 102, 103, 104, 105, 106, 107, 108, 109, 110, 111, 112, 113, 114, 115, 116, 117, 118, 119, 120, 121, 122, 123, 124, 125, 126, 127, 128, 129, 130, 131, 132, 133, 134, 135, 136, 137, 138, 139, 140, 141, 142, 143, 144, 145, 146, 147, 148, 149, 150, 151, 152, 153, 154, 155, 156, 157, 158, 159, 160, 161, 162, 163, 164, 165, 166, 167, 168, 169, 170, 171, 172, 173, 174, 175, 176, 177, 178, 179, 180, 181, 182, 183, 184, 185, 186, 187, 188, 189, 190, 191, 192, 193] (by decide +kernel) (by decide +kernel)) (goodIn_sub (fun _ h => List.mem_cons_of_mem _ (List.mem_append_right _ h)) (by decide +kernel))
set_option maxRecDepth 20000 in
theorem gL_pass_X3_pass : GoodIn wsL_pass (wsV RL 48 RX3 yX3_pass wsX3_pass) := goodIn_app (goodIn_of _ (by decide +kernel)) ggL_pass_X3_pass
theorem dL_pass_0 : decode cL_pass 0 = .ok (.aload_n 2, 1) := by decide +kernel
theorem dL_pass_1 : decode cL_pass 1 = .ok (.iconst 0, 1) := by decide +kernel
theorem dL_pass_2 : decode cL_pass 2 = .ok (.aload_n 0, 1) := by decide +kernel
theorem dL_pass_3 : decode cL_pass 3 = .ok (.iload_n 1, 1) := by decide +kernel
theorem dL_pass_4 : decode cL_pass 4 = .ok (.invokevirtual 48, 3) := by decide +kernel
theorem dL_pass_7 : decode cL_pass 7 = .ok (.i2l, 1) := by decide +kernel
theorem dL_pass_8 : decode cL_pass 8 = .ok (.lastore, 1) := by decide +kernel
theorem dL_pass_9 : decode cL_pass 9 = .ok (.goto 6, 3) := by decide +kernel
theorem dL_pass_12 : decode cL_pass 12 = .ok (.astore_n 3, 1) := by decide +kernel
theorem dL_pass_13 : decode cL_pass 13 = .ok (.iconst 1, 1) := by decide +kernel
theorem dL_pass_14 : decode cL_pass 14 = .ok (.ireturn, 1) := by decide +kernel
theorem dL_pass_15 : decode cL_pass 15 = .ok (.iconst 0, 1) := by decide +kernel
theorem dL_pass_16 : decode cL_pass 16 = .ok (.ireturn, 1) := by decide +kernel
set_option maxRecDepth 20000 in
theorem ggL_told_X3_told : GoodIn wsL_told wsX3_told := goodIn_ca (goodIn_r _ [6, 7, 8, 9, 10, 11, 12, 13, 14, 15, 16, 17, 18, 19, 20, 21, 22, 23, 24, 5, 25, 26, 27, 28, 29, 30, 31, 32, 33, 34, 35, 36, 37, 38, 39, 40, 41, 42, 43, 44, 45, 46] (by decide +kernel) (by decide +kernel)) (goodIn_sub (fun _ h => List.mem_cons_of_mem _ (List.mem_append_right _ h)) (by decide +kernel))
set_option maxRecDepth 20000 in
theorem gL_told_X3_told : GoodIn wsL_told (wsV RL 51 RX3 yX3_told wsX3_told) := goodIn_app (goodIn_of _ (by decide +kernel)) ggL_told_X3_told
theorem dL_told_0 : decode cL_told 0 = .ok (.aload_n 3, 1) := by decide +kernel
theorem dL_told_1 : decode cL_told 1 = .ok (.iconst 0, 1) := by decide +kernel
theorem dL_told_2 : decode cL_told 2 = .ok (.aload_n 0, 1) := by decide +kernel
theorem dL_told_3 : decode cL_told 3 = .ok (.iload_n 1, 1) := by decide +kernel
theorem dL_told_4 : decode cL_told 4 = .ok (.iload_n 2, 1) := by decide +kernel
theorem dL_told_5 : decode cL_told 5 = .ok (.invokevirtual 51, 3) := by decide +kernel
theorem dL_told_8 : decode cL_told 8 = .ok (.i2l, 1) := by decide +kernel
theorem dL_told_9 : decode cL_told 9 = .ok (.lastore, 1) := by decide +kernel
theorem dL_told_10 : decode cL_told 10 = .ok (.goto 7, 3) := by decide +kernel
theorem dL_told_13 : decode cL_told 13 = .ok (.astore 4, 2) := by decide +kernel
theorem dL_told_15 : decode cL_told 15 = .ok (.iconst 1, 1) := by decide +kernel
theorem dL_told_16 : decode cL_told 16 = .ok (.ireturn, 1) := by decide +kernel
theorem dL_told_17 : decode cL_told 17 = .ok (.iconst 0, 1) := by decide +kernel
theorem dL_told_18 : decode cL_told 18 = .ok (.ireturn, 1) := by decide +kernel
set_option maxRecDepth 20000 in
theorem ggL_about_X3_about : GoodIn wsL_about wsX3_about := goodIn_ca (goodIn_r _ [6, 7, 8, 9, 10, 11, 12, 13, 14, 15, 16, 17, 18, 5, 19, 20, 21, 22, 23, 24, 25, 26, 27, 28, 29, 30, 31, 32, 33, 34, 35, 36, 37, 38] (by decide +kernel) (by decide +kernel)) (goodIn_sub (fun _ h => List.mem_cons_of_mem _ (List.mem_append_right _ h)) (by decide +kernel))
set_option maxRecDepth 20000 in
theorem gL_about_X3_about : GoodIn wsL_about (wsV RL 54 RX3 yX3_about wsX3_about) := goodIn_app (goodIn_of _ (by decide +kernel)) ggL_about_X3_about
theorem dL_about_0 : decode cL_about 0 = .ok (.aload_n 3, 1) := by decide +kernel
theorem dL_about_1 : decode cL_about 1 = .ok (.iconst 0, 1) := by decide +kernel
theorem dL_about_2 : decode cL_about 2 = .ok (.aload_n 0, 1) := by decide +kernel
theorem dL_about_3 : decode cL_about 3 = .ok (.iload_n 1, 1) := by decide +kernel
theorem dL_about_4 : decode cL_about 4 = .ok (.iload_n 2, 1) := by decide +kernel
theorem dL_about_5 : decode cL_about 5 = .ok (.invokevirtual 54, 3) := by decide +kernel
theorem dL_about_8 : decode cL_about 8 = .ok (.i2l, 1) := by decide +kernel
theorem dL_about_9 : decode cL_about 9 = .ok (.lastore, 1) := by decide +kernel
theorem dL_about_10 : decode cL_about 10 = .ok (.goto 7, 3) := by decide +kernel
theorem dL_about_13 : decode cL_about 13 = .ok (.astore 4, 2) := by decide +kernel
theorem dL_about_15 : decode cL_about 15 = .ok (.iconst 1, 1) := by decide +kernel
theorem dL_about_16 : decode cL_about 16 = .ok (.ireturn, 1) := by decide +kernel
theorem dL_about_17 : decode cL_about 17 = .ok (.iconst 0, 1) := by decide +kernel
theorem dL_about_18 : decode cL_about 18 = .ok (.ireturn, 1) := by decide +kernel
set_option maxRecDepth 20000 in
theorem ggL_count_X3_count : GoodIn wsL_count wsX3_count := goodIn_ca (goodIn_r _ [6, 7, 8, 9, 10, 11, 12, 13, 14, 15, 16, 17, 18, 19, 20, 21, 22, 23, 24, 25, 26, 27, 28, 29, 30, 31, 32, 33, 34, 35, 36, 37, 38, 39, 40, 41, 42, 43, 44, 45, 46, 47, 48, 49, 50, 51, 52, 53, 54, 55, 56, 57, 58, 59, 60, 61, 62, 63, 64, 65, 66, 67, 68, 69] (by decide +kernel) (by decide +kernel)) (goodIn_sub (fun _ h => List.mem_cons_of_mem _ (List.mem_append_right _ h)) (by decide +kernel))
set_option maxRecDepth 20000 in
theorem gL_count_X3_count : GoodIn wsL_count (wsV RL 57 RX3 yX3_count wsX3_count) := goodIn_app (goodIn_of _ (by decide +kernel)) ggL_count_X3_count
theorem dL_count_0 : decode cL_count 0 = .ok (.aload_n 2, 1) := by decide +kernel
theorem dL_count_1 : decode cL_count 1 = .ok (.iconst 0, 1) := by decide +kernel
theorem dL_count_2 : decode cL_count 2 = .ok (.aload_n 0, 1) := by decide +kernel
theorem dL_count_3 : decode cL_count 3 = .ok (.iload_n 1, 1) := by decide +kernel
theorem dL_count_4 : decode cL_count 4 = .ok (.invokevirtual 57, 3) := by decide +kernel
theorem dL_count_7 : decode cL_count 7 = .ok (.i2l, 1) := by decide +kernel
theorem dL_count_8 : decode cL_count 8 = .ok (.lastore, 1) := by decide +kernel
theorem dL_count_9 : decode cL_count 9 = .ok (.goto 6, 3) := by decide +kernel
theorem dL_count_12 : decode cL_count 12 = .ok (.astore_n 3, 1) := by decide +kernel
theorem dL_count_13 : decode cL_count 13 = .ok (.iconst 1, 1) := by decide +kernel
theorem dL_count_14 : decode cL_count 14 = .ok (.ireturn, 1) := by decide +kernel
theorem dL_count_15 : decode cL_count 15 = .ok (.iconst 0, 1) := by decide +kernel
theorem dL_count_16 : decode cL_count 16 = .ok (.ireturn, 1) := by decide +kernel
set_option maxRecDepth 20000 in
theorem ggL_would_X3_would : GoodIn wsL_would wsX3_would := goodIn_ca (goodIn_ca (goodIn_r _ [7, 8, 9, 10, 11, 12, 13, 14, 6, 15, 16, 17, 18, 19, 20, 21, 22, 23, 24, 25, 26, 27, 28, 29, 30, 31, 32, 33, 34, 35, 36, 37, 38, 39, 40, 41, 42, 43, 44, 45, 46, 47, 48, 49, 50, 51, 52, 53, 54, 55, 56, 57, 58, 59, 60, 61, 62, 63, 64, 65, 66, 67, 68, 69, 70, 71, 72, 73, 74, 75, 76, 77, 78, 79, 80, 81, 82, 83, 84, 85, 86, 87, 88, 89, 90, 91, 92, 93, 94, 95, 96, 97, 98, 99, 100, 101, 102, 103, 104, 105, 106, 107, 108, 109, 110, 111, 112, 113, 114, 115, 116, 117, 118, 119, 120, 121, 122, 123, 124, 125, 126, 127, 128, 129, 130, 131, 132, 133, 134, 135, 136, 137, 138, 139, 140, 141, 142, 143, 144, 145, 146, 147, 148, 149, 150, 151, 152, 153, 154, 155, 156, 157, 158, 159, 160, 161, 162, 163, 164, 165, 166, 167, 168, 169, 170, 171, 172, 173, 174, 175, 176, 177, 178, 179, 180, 181, 182, 183, 184, 185, 186, 187, 188, 189, 190, 191, 192, 193, 194, 195, 196, 197, 198, 199, 200, 201, 202, 203, 204, 205, 206, 207, 208, 209, 210, 211, 212, 213, 214, 215, 216] (by decide +kernel) (by decide +kernel)) (goodIn_sub (fun _ h => List.mem_cons_of_mem _ (List.mem_append_left _ (List.mem_append_right _ h))) (by decide +kernel))) (goodIn_sub (fun _ h => List.mem_cons_of_mem _ (List.mem_append_right _ h)) (by decide +kernel))
set_option maxRecDepth 20000 in
theorem gL_would_X3_would : GoodIn wsL_would (wsV RL 60 RX3 yX3_would wsX3_would) := goodIn_app (goodIn_of _ (by decide +kernel)) ggL_would_X3_would
theorem dL_would_0 : decode cL_would 0 = .ok (.aload_n 3, 1) := by decide +kernel
theorem dL_would_1 : decode cL_would 1 = .ok (.iconst 0, 1) := by decide +kernel
theorem dL_would_2 : decode cL_would 2 = .ok (.aload_n 0, 1) := by decide +kernel
theorem dL_would_3 : decode cL_would 3 = .ok (.iload_n 1, 1) := by decide +kernel
theorem dL_would_4 : decode cL_would 4 = .ok (.iload_n 2, 1) := by decide +kernel
theorem dL_would_5 : decode cL_would 5 = .ok (.invokevirtual 60, 3) := by decide +kernel
theorem dL_would_8 : decode cL_would 8 = .ok (.i2l, 1) := by decide +kernel
theorem dL_would_9 : decode cL_would 9 = .ok (.lastore, 1) := by decide +kernel
theorem dL_would_10 : decode cL_would 10 = .ok (.goto 11, 3) := by decide +kernel
theorem dL_would_13 : decode cL_would 13 = .ok (.astore 4, 2) := by decide +kernel
theorem dL_would_15 : decode cL_would 15 = .ok (.iconst 1, 1) := by decide +kernel
theorem dL_would_16 : decode cL_would 16 = .ok (.ireturn, 1) := by decide +kernel
theorem dL_would_17 : decode cL_would 17 = .ok (.astore 4, 2) := by decide +kernel
theorem dL_would_19 : decode cL_would 19 = .ok (.iconst 2, 1) := by decide +kernel
theorem dL_would_20 : decode cL_would 20 = .ok (.ireturn, 1) := by decide +kernel
theorem dL_would_21 : decode cL_would 21 = .ok (.iconst 0, 1) := by decide +kernel
theorem dL_would_22 : decode cL_would 22 = .ok (.ireturn, 1) := by decide +kernel
set_option maxRecDepth 20000 in
theorem ggL_until_X3_until : GoodIn wsL_until wsX3_until := goodIn_ca (goodIn_r _ [6, 7, 8, 9, 10, 11, 12, 13, 5, 14, 15, 16, 17, 18, 19, 20, 21, 22, 23, 24, 25, 26, 27, 28, 29, 30, 31, 32, 33, 34, 35, 36, 37, 38, 39, 40, 41, 42, 43, 44, 45, 46, 47, 48, 49, 50, 51, 52, 53, 54, 55, 56, 57, 58, 59, 60, 61, 62, 63, 64, 65, 66, 67, 68, 69, 70, 71, 72, 73, 74, 75, 76, 77, 78, 79, 80, 81, 82, 83, 84, 85, 86, 87, 88, 89, 90, 91, 92, 93, 94, 95, 96, 97, 98, 99, 100, 101, 102, 103, 104, 105, 106, 107, 108, 109, 110, 111, 112, 113, 114, 115, 116, 117, 118, 119, 120, 121, 122, 123, 124, 125, 126, 127, 128, 129, 130, 131, 132, 133, 134, 135, 136, 137, 138, 139, 140, 141, 142, 143, 144, 145, 146, 147, 148, 149, 150, 151, 152, 153, 154, 155, 156, 157, 158, 159, 160, 161, 162, 163, 164, 165, 166, 167, 168, 169, 170, 171, 172, 173, 174, 175, 176, 177, 178, 179, 180, 181, 182, 183, 184, 185, 186, 187, 188, 189, 190, 191, 192, 193, 194, 195, 196, 197, 198, 199, 200, 201, 202, 203, 204, 205, 206, 207, 208, 209, 210] (by decide +kernel) (by decide +kernel)) (goodIn_sub (fun _ h => List.mem_cons_of_mem _ (List.mem_append_right _ h)) (by decide +kernel))
set_option maxRecDepth 20000 in
theorem gL_until_X3_until : GoodIn wsL_until (wsV RL 63 RX3 yX3_until wsX3_until) := goodIn_app (goodIn_of _ (by decide +kernel)) ggL_until_X3_until
theorem dL_until_0 : decode cL_until 0 = .ok (.aload_n 2, 1) := by decide +kernel
theorem dL_until_1 : decode cL_until 1 = .ok (.iconst 0, 1) := by decide +kernel
theorem dL_until_2 : decode cL_until 2 = .ok (.aload_n 0, 1) := by decide +kernel
theorem dL_until_3 : decode cL_until 3 = .ok (.iload_n 1, 1) := by decide +kernel
theorem dL_until_4 : decode cL_until 4 = .ok (.invokevirtual 63, 3) := by decide +kernel
theorem dL_until_7 : decode cL_until 7 = .ok (.i2l, 1) := by decide +kernel
theorem dL_until_8 : decode cL_until 8 = .ok (.lastore, 1) := by decide +kernel
theorem dL_until_9 : decode cL_until 9 = .ok (.goto 6, 3) := by decide +kernel
theorem dL_until_12 : decode cL_until 12 = .ok (.astore_n 3, 1) := by decide +kernel
theorem dL_until_13 : decode cL_until 13 = .ok (.iconst 1, 1) := by decide +kernel
theorem dL_until_14 : decode cL_until 14 = .ok (.ireturn, 1) := by decide +kernel
theorem dL_until_15 : decode cL_until 15 = .ok (.iconst 0, 1) := by decide +kernel
theorem dL_until_16 : decode cL_until 16 = .ok (.ireturn, 1) := by decide +kernel
set_option maxRecDepth 20000 in
theorem ggL_advise_X3_advise : GoodIn wsL_advise wsX3_advise := goodIn_ca (goodIn_ca (goodIn_r _ [7, 8, 9, 10, 11, 12, 13, 14, 15, 6, 16, 17, 18, 19, 20, 21, 22, 23, 24, 25, 26, 27, 28, 29, 30, 31, 32, 33, 34, 35, 36, 37, 38, 39, 40, 41, 42, 43, 44, 45, 46, 47, 48, 49, 50, 51, 52, 53, 54, 55, 56, 57, 58, 59, 60, 61, 62, 63, 64, 65, 66, 67, 68, 69, 70, 71, 72, 73, 74, 75, 76, 77, 78, 79, 80, 81, 82, 83, 84, 85, 86, 87, 88, 89, 90, 91, 92, 93, 94, 95, 96, 97, 98, 99, 100, 101, 102, 103, 104, 105, 106, 107, 108, 109, 110, 111, 112, 113, 114, 115, 116, 117, 118, 119, 120, 121, 122, 123, 124, 125, 126, 127, 128, 129, 130, 131, 132, 133, 134, 135, 136, 137, 138, 139, 140, 141, 142, 143, 144, 145, 146, 147, 148, 149, 150, 151, 152, 153, 154, 155, 156, 157, 158, 159, 160, 161, 162, 163, 164, 165, 166, 167, 168, 169, 170, 171, 172, 173, 174, 175, 176, 177, 178, 179, 180, 181, 182, 183, 184, 185, 186, 187, 188, 189, 190, 191, 192, 193, 194, 195, 196, 197, 198, 199, 200, 201, 202, 203, 204, 205, 206, 207, 208, 209, 210, 211, 212, 213, 214, 215, 216, 217, 218, 219] (by decide +kernel) (by decide +kernel)) (goodIn_sub (fun _ h => List.mem_cons_of_mem _ (List.mem_append_left _ (List.mem_append_right _ h))) (by decide +kernel))) (goodIn_sub (fun _ h => List.mem_cons_of_mem _ (List.mem_append_right _ h)) (by decide +kernel))
set_option maxRecDepth 20000 in
theorem gL_advise_X3_advise : GoodIn wsL_advise (wsV RL 66 RX3 yX3_advise wsX3_advise) := goodIn_app (goodIn_of _ (by decide +kernel)) ggL_advise_X3_advise
theorem dL_advise_0 : decode cL_advise 0 = .ok (.aload_n 2, 1) := by decide +kernel
theorem dL_advise_1 : decode cL_advise 1 = .ok (.iconst 0, 1) := by decide +kernel
theorem dL_advise_2 : decode cL_advise 2 = .ok (.aload_n 0, 1) := by decide +kernel
theorem dL_advise_3 : decode cL_advise 3 = .ok (.iload_n 1, 1) := by decide +kernel
theorem dL_advise_4 : decode cL_advise 4 = .ok (.invokevirtual 66, 3) := by decide +kernel
theorem dL_advise_7 : decode cL_advise 7 = .ok (.i2l, 1) := by decide +kernel
theorem dL_advise_8 : decode cL_advise 8 = .ok (.lastore, 1) := by decide +kernel
theorem dL_advise_9 : decode cL_advise 9 = .ok (.goto 9, 3) := by decide +kernel
theorem dL_advise_12 : decode cL_advise 12 = .ok (.astore_n 3, 1) := by decide +kernel
theorem dL_advise_13 : decode cL_advise 13 = .ok (.iconst 1, 1) := by decide +kernel
theorem dL_advise_14 : decode cL_advise 14 = .ok (.ireturn, 1) := by decide +kernel
theorem dL_advise_15 : decode cL_advise 15 = .ok (.astore_n 3, 1) := by decide +kernel
theorem dL_advise_16 : decode cL_advise 16 = .ok (.iconst 2, 1) := by decide +kernel
theorem dL_advise_17 : decode cL_advise 17 = .ok (.ireturn, 1) := by decide +kernel
theorem dL_advise_18 : decode cL_advise 18 = .ok (.iconst 0, 1) := by decide +kernel
theorem dL_advise_19 : decode cL_advise 19 = .ok (.ireturn, 1) := by decide +kernel
set_option maxRecDepth 20000 in
theorem ggL_law_X3_init : GoodIn wsL_law wsX3_init := goodIn_r _ [9, 10, 11, 12, 13, 14, 15, 16, 17, 18, 19, 20, 21, 22, 23, 24, 25, 26, 27, 28, 29, 30, 31, 32, 33, 34, 35, 36, 37, 38, 39, 40, 41, 42, 43, 44, 45, 46, 47, 48, 49, 50, 51, 52, 53, 54, 55, 56, 57, 657, 658, 659, 660, 661, 647, 648, 662, 663, 664, 665, 666, 667, 668, 669, 670, 671, 672, 673, 674, 675, 676, 677, 678, 679, 680] (by decide +kernel) (by decide +kernel)
set_option maxRecDepth 20000 in
theorem gL_law_X3_init : GoodIn wsL_law (wsX3_init) := ggL_law_X3_init
set_option maxRecDepth 20000 in
theorem ggL_law_X4_init : GoodIn wsL_law wsX4_init := goodIn_r _ [60, 61, 11, 12, 36, 62, 63, 64, 65, 66, 649, 650, 651, 652, 653, 654, 655, 656] (by decide +kernel) (by decide +kernel)
set_option maxRecDepth 20000 in
theorem gL_law_X4_init : GoodIn wsL_law (wsX4_init) := ggL_law_X4_init
set_option maxRecDepth 20000 in
theorem ggL_law_L_bed : GoodIn wsL_law wsL_bed := goodIn_ca (goodIn_ca (goodIn_r _ [70, 71, 72, 73, 74, 75, 2, 76, 77, 78, 16, 79, 80, 81, 82, 26, 83, 84, 85, 35, 37, 41, 647, 648, 657, 658, 659, 660, 661, 662, 663, 664, 665, 666, 667] (by decide +kernel) (by decide +kernel)) (goodIn_sub (fun _ h => List.mem_append_left _ (List.mem_append_left _ (List.mem_append_left _ (List.mem_append_left _ (List.mem_append_right _ h))))) (by decide +kernel))) (goodIn_sub (fun _ h => List.mem_append_left _ (List.mem_append_left _ (List.mem_append_left _ (List.mem_append_right _ h)))) (by decide +kernel))
set_option maxRecDepth 20000 in
theorem gL_law_L_bed : GoodIn wsL_law (va_wsS RL 73 yL_bed wsL_bed) := goodIn_app (goodIn_of _ (by decide +kernel)) ggL_law_L_bed
set_option maxRecDepth 20000 in
theorem ggL_law_X4_bed : GoodIn wsL_law wsX4_bed := goodIn_r _ [89, 90, 91, 62, 92, 93, 5, 94, 95, 96, 97, 98, 99, 100, 101, 102, 65, 649, 650, 651, 652, 653, 654, 655, 656] (by decide +kernel) (by decide +kernel)
set_option maxRecDepth 20000 in
theorem gL_law_X4_bed : GoodIn wsL_law (wsV RL 78 RX4 yX4_bed wsX4_bed) := goodIn_app (goodIn_of _ (by decide +kernel)) ggL_law_X4_bed
set_option maxRecDepth 20000 in
theorem ggL_law_X4_thrown : GoodIn wsL_law wsX4_thrown := goodIn_r _ [106, 90, 649, 650, 651, 652, 653, 654, 655, 656] (by decide +kernel) (by decide +kernel)
set_option maxRecDepth 20000 in
theorem gL_law_X4_thrown : GoodIn wsL_law (wsV RL 79 RX4 yX4_thrown wsX4_thrown) := goodIn_app (goodIn_of _ (by decide +kernel)) ggL_law_X4_thrown
set_option maxRecDepth 20000 in
theorem ggL_law_L_sailor : GoodIn wsL_law wsL_sailor := goodIn_ca (goodIn_ca (goodIn_ca (goodIn_r _ [109, 110, 71, 72, 111, 112, 113, 2, 114, 77, 78, 16, 115, 116, 117, 118, 119, 120, 121, 122, 123, 30, 124, 125, 85, 45, 46, 47, 48, 49, 50, 51, 52, 53, 647, 648, 657, 658, 659, 660, 661, 668, 669, 670, 671, 672, 673, 674, 675, 676, 677, 678, 679, 680] (by decide +kernel) (by decide +kernel)) (goodIn_sub (fun _ h => List.mem_append_left _ (List.mem_append_left _ (List.mem_append_left _ (List.mem_append_left _ (List.mem_append_right _ h))))) (by decide +kernel))) (goodIn_sub (fun _ h => List.mem_append_left _ (List.mem_append_left _ (List.mem_append_right _ h))) (by decide +kernel))) (goodIn_sub (fun _ h => List.mem_append_left _ (List.mem_append_right _ h)) (by decide +kernel))
set_option maxRecDepth 20000 in
theorem gL_law_L_sailor : GoodIn wsL_law (va_wsS RL 83 yL_sailor wsL_sailor) := goodIn_app (goodIn_of _ (by decide +kernel)) ggL_law_L_sailor
set_option maxRecDepth 20000 in
theorem ggL_law_X4_sailor : GoodIn wsL_law wsX4_sailor := goodIn_r _ [129, 90, 130, 63, 64, 92, 93, 5, 94, 95, 96, 97, 98, 131, 132, 133, 134, 65, 649, 650, 651, 652, 653, 654, 655, 656] (by decide +kernel) (by decide +kernel)
set_option maxRecDepth 20000 in
theorem gL_law_X4_sailor : GoodIn wsL_law (wsV RL 86 RX4 yX4_sailor wsX4_sailor) := goodIn_app (goodIn_of _ (by decide +kernel)) ggL_law_X4_sailor
set_option maxRecDepth 20000 in
theorem ggL_law_L_keep : GoodIn wsL_law wsL_keep := goodIn_ca (goodIn_r _ [137, 110, 138, 139, 140, 2, 141, 16, 115, 142, 143, 144, 145, 146, 119, 120, 147, 148, 149, 150, 151, 79, 152, 153, 154, 26, 155, 35, 647, 648, 657, 658, 659, 660, 661, 668, 669, 670, 671, 672, 673, 674, 675, 676, 677, 678, 679, 680, 662, 663, 664, 665, 666, 667] (by decide +kernel) (by decide +kernel)) (goodIn_sub (fun _ h => List.mem_append_left _ (List.mem_append_left _ (List.mem_append_right _ h))) (by decide +kernel))
set_option maxRecDepth 20000 in
theorem gL_law_L_keep : GoodIn wsL_law (va_wsS RL 87 yL_keep wsL_keep) := goodIn_app (goodIn_of _ (by decide +kernel)) ggL_law_L_keep
set_option maxRecDepth 20000 in
theorem ggL_law_X4_keep_ : GoodIn wsL_law wsX4_keep_ := goodIn_r _ [159, 90, 160, 161, 162, 5, 163, 130, 92, 93, 94, 164, 165, 166, 167, 91, 95, 96, 97, 98, 168, 169, 170, 171, 65, 131, 132, 133, 134, 649, 650, 651, 652, 653, 654, 655, 656] (by decide +kernel) (by decide +kernel)
set_option maxRecDepth 20000 in
theorem gL_law_X4_keep_ : GoodIn wsL_law (wsV RL 90 RX4 yX4_keep_ wsX4_keep_) := goodIn_app (goodIn_of _ (by decide +kernel)) ggL_law_X4_keep_
set_option maxRecDepth 20000 in
theorem ggL_law_L_setBell : GoodIn wsL_law wsL_setBell := goodIn_ca (goodIn_r _ [174, 71, 175, 176, 177, 2, 178, 77, 78, 16, 179, 647, 648, 657, 658, 659, 660, 661] (by decide +kernel) (by decide +kernel)) (goodIn_sub (fun _ h => List.mem_append_left _ (List.mem_append_left _ (List.mem_append_left _ (List.mem_append_left _ (List.mem_append_right _ h))))) (by decide +kernel))
set_option maxRecDepth 20000 in
theorem gL_law_L_setBell : GoodIn wsL_law (va_wsS RL 91 yL_setBell wsL_setBell) := goodIn_app (goodIn_of _ (by decide +kernel)) ggL_law_L_setBell
set_option maxRecDepth 20000 in
theorem ggL_law_X4_setBell : GoodIn wsL_law wsX4_setBell := goodIn_r _ [183, 90, 184, 185, 186, 5, 187, 65, 92, 93, 94, 95, 96, 97, 98, 649, 650, 651, 652, 653, 654, 655, 656] (by decide +kernel) (by decide +kernel)
set_option maxRecDepth 20000 in
theorem gL_law_X4_setBell : GoodIn wsL_law (wsV RL 93 RX4 yX4_setBell wsX4_setBell) := goodIn_app (goodIn_of _ (by decide +kernel)) ggL_law_X4_setBell
set_option maxRecDepth 20000 in
theorem ggL_law_L_setPawn : GoodIn wsL_law wsL_setPawn := goodIn_ca (goodIn_r _ [190, 71, 191, 192, 193, 2, 194, 77, 78, 16, 195, 647, 648, 657, 658, 659, 660, 661] (by decide +kernel) (by decide +kernel)) (goodIn_sub (fun _ h => List.mem_append_left _ (List.mem_append_left _ (List.mem_append_left _ (List.mem_append_left _ (List.mem_append_right _ h))))) (by decide +kernel))
set_option maxRecDepth 20000 in
theorem gL_law_L_setPawn : GoodIn wsL_law (va_wsS RL 94 yL_setPawn wsL_setPawn) := goodIn_app (goodIn_of _ (by decide +kernel)) ggL_law_L_setPawn
set_option maxRecDepth 20000 in
theorem ggL_law_X4_setPawn : GoodIn wsL_law wsX4_setPawn := goodIn_r _ [199, 90, 184, 185, 186, 5, 187, 65, 92, 93, 94, 95, 96, 97, 98, 649, 650, 651, 652, 653, 654, 655, 656] (by decide +kernel) (by decide +kernel)
set_option maxRecDepth 20000 in
theorem gL_law_X4_setPawn : GoodIn wsL_law (wsV RL 96 RX4 yX4_setPawn wsX4_setPawn) := goodIn_app (goodIn_of _ (by decide +kernel)) ggL_law_X4_setPawn
set_option maxRecDepth 20000 in
theorem ggL_law_L_give : GoodIn wsL_law wsL_give := goodIn_ca (goodIn_ca (goodIn_r _ [202, 110, 71, 203, 204, 205, 2, 206, 77, 78, 16, 115, 207, 143, 144, 145, 146, 119, 120, 147, 208, 209, 210, 30, 211, 49, 212, 213, 214, 215, 647, 648, 657, 658, 659, 660, 661, 668, 669, 670, 671, 672, 673, 674, 675, 676, 677, 678, 679, 680] (by decide +kernel) (by decide +kernel)) (goodIn_sub (fun _ h => List.mem_append_left _ (List.mem_append_left _ (List.mem_append_left _ (List.mem_append_left _ (List.mem_append_right _ h))))) (by decide +kernel))) (goodIn_sub (fun _ h => List.mem_append_left _ (List.mem_append_left _ (List.mem_append_right _ h))) (by decide +kernel))
set_option maxRecDepth 20000 in
theorem gL_law_L_give : GoodIn wsL_law (va_wsS RL 97 yL_give wsL_give) := goodIn_app (goodIn_of _ (by decide +kernel)) ggL_law_L_give
set_option maxRecDepth 20000 in
theorem ggL_law_X4_give : GoodIn wsL_law wsX4_give := goodIn_r _ [219, 90, 160, 161, 162, 5, 163, 130, 92, 93, 94, 95, 96, 97, 98, 220, 221, 222, 223, 224, 213, 214, 215, 168, 169, 170, 171, 65, 131, 132, 133, 134, 649, 650, 651, 652, 653, 654, 655, 656] (by decide +kernel) (by decide +kernel)
set_option maxRecDepth 20000 in
theorem gL_law_X4_give : GoodIn wsL_law (wsV RL 99 RX4 yX4_give wsX4_give) := goodIn_app (goodIn_of _ (by decide +kernel)) ggL_law_X4_give
set_option maxRecDepth 20000 in
theorem ggL_law_L_pawn : GoodIn wsL_law wsL_pawn := goodIn_ca (goodIn_ca (goodIn_r _ [227, 110, 72, 228, 229, 230, 2, 231, 232, 85, 16, 115, 207, 143, 144, 145, 146, 119, 120, 147, 233, 234, 235, 30, 236, 50, 237, 238, 239, 15, 240, 31, 241, 23, 242, 209, 210, 211, 49, 212, 213, 214, 215, 647, 648, 657, 658, 659, 660, 661, 668, 669, 670, 671, 672, 673, 674, 675, 676, 677, 678, 679, 680] (by decide +kernel) (by decide +kernel)) (goodIn_sub (fun _ h => List.mem_append_right _ h) (by decide +kernel))) (goodIn_sub (fun _ h => List.mem_append_left _ (List.mem_append_left _ (List.mem_append_right _ h))) (by decide +kernel))
set_option maxRecDepth 20000 in
theorem gL_law_L_pawn : GoodIn wsL_law (va_wsS RL 100 yL_pawn wsL_pawn) := goodIn_app (goodIn_of _ (by decide +kernel)) ggL_law_L_pawn
set_option maxRecDepth 20000 in
theorem ggL_law_X4_pawn : GoodIn wsL_law wsX4_pawn := goodIn_r _ [246, 90, 160, 161, 162, 5, 163, 130, 92, 93, 94, 95, 96, 97, 98, 168, 169, 170, 171, 65, 247, 248, 249, 250, 131, 132, 133, 134, 220, 221, 222, 223, 224, 213, 214, 215, 649, 650, 651, 652, 653, 654, 655, 656] (by decide +kernel) (by decide +kernel)
set_option maxRecDepth 20000 in
theorem gL_law_X4_pawn : GoodIn wsL_law (wsV RL 102 RX4 yX4_pawn wsX4_pawn) := goodIn_app (goodIn_of _ (by decide +kernel)) ggL_law_X4_pawn
set_option maxRecDepth 20000 in
theorem ggL_law_L_redeem : GoodIn wsL_law wsL_redeem := goodIn_ca (goodIn_ca (goodIn_r _ [253, 110, 72, 254, 255, 256, 2, 257, 232, 85, 16, 115, 207, 143, 144, 145, 146, 119, 120, 147, 258, 259, 260, 15, 261, 31, 262, 23, 263, 234, 235, 30, 236, 50, 264, 265, 266, 267, 241, 647, 648, 657, 658, 659, 660, 661, 668, 669, 670, 671, 672, 673, 674, 675, 676, 677, 678, 679, 680] (by decide +kernel) (by decide +kernel)) (goodIn_sub (fun _ h => List.mem_append_right _ h) (by decide +kernel))) (goodIn_sub (fun _ h => List.mem_append_left _ (List.mem_append_left _ (List.mem_append_right _ h))) (by decide +kernel))
set_option maxRecDepth 20000 in
theorem gL_law_L_redeem : GoodIn wsL_law (va_wsS RL 103 yL_redeem wsL_redeem) := goodIn_app (goodIn_of _ (by decide +kernel)) ggL_law_L_redeem
set_option maxRecDepth 20000 in
theorem ggL_law_X4_redeem : GoodIn wsL_law wsX4_redeem := goodIn_r _ [271, 90, 160, 161, 162, 5, 163, 130, 92, 93, 94, 95, 96, 97, 98, 272, 273, 274, 275, 65, 168, 169, 170, 171, 276, 277, 278, 279, 131, 132, 133, 134, 280, 281, 282, 283, 649, 650, 651, 652, 653, 654, 655, 656] (by decide +kernel) (by decide +kernel)
set_option maxRecDepth 20000 in
theorem gL_law_X4_redeem : GoodIn wsL_law (wsV RL 105 RX4 yX4_redeem wsX4_redeem) := goodIn_app (goodIn_of _ (by decide +kernel)) ggL_law_X4_redeem
set_option maxRecDepth 20000 in
theorem ggL_law_L_call : GoodIn wsL_law wsL_call := goodIn_ca (goodIn_ca (goodIn_r _ [286, 110, 72, 287, 288, 289, 2, 290, 232, 85, 16, 115, 291, 143, 144, 145, 146, 119, 120, 147, 292, 293, 294, 30, 295, 52, 296, 297, 298, 15, 299, 31, 300, 27, 301, 302, 303, 153, 154, 26, 155, 35, 647, 648, 657, 658, 659, 660, 661, 668, 669, 670, 671, 672, 673, 674, 675, 676, 677, 678, 679, 680, 662, 663, 664, 665, 666, 667] (by decide +kernel) (by decide +kernel)) (goodIn_sub (fun _ h => List.mem_append_right _ h) (by decide +kernel))) (goodIn_sub (fun _ h => List.mem_append_left _ (List.mem_append_left _ (List.mem_append_right _ h))) (by decide +kernel))
set_option maxRecDepth 20000 in
theorem gL_law_L_call : GoodIn wsL_law (va_wsS RL 106 yL_call wsL_call) := goodIn_app (goodIn_of _ (by decide +kernel)) ggL_law_L_call
set_option maxRecDepth 20000 in
theorem ggL_law_X4_call : GoodIn wsL_law wsX4_call := goodIn_r _ [307, 90, 160, 161, 162, 5, 163, 130, 92, 93, 94, 95, 96, 97, 98, 168, 169, 170, 171, 65, 308, 309, 310, 311, 99, 100, 101, 102, 131, 132, 133, 134, 649, 650, 651, 652, 653, 654, 655, 656] (by decide +kernel) (by decide +kernel)
set_option maxRecDepth 20000 in
theorem gL_law_X4_call : GoodIn wsL_law (wsV RL 108 RX4 yX4_call wsX4_call) := goodIn_app (goodIn_of _ (by decide +kernel)) ggL_law_X4_call
set_option maxRecDepth 20000 in
theorem ggL_law_L_shift : GoodIn wsL_law wsL_shift := goodIn_ca (goodIn_ca (goodIn_r _ [314, 110, 72, 315, 316, 317, 2, 318, 16, 115, 319, 143, 144, 145, 146, 119, 120, 147, 116, 117, 118, 320, 321, 322, 323, 232, 85, 292, 293, 294, 30, 295, 52, 647, 648, 657, 658, 659, 660, 661, 668, 669, 670, 671, 672, 673, 674, 675, 676, 677, 678, 679, 680] (by decide +kernel) (by decide +kernel)) (goodIn_sub (fun _ h => List.mem_append_left _ (List.mem_append_left _ (List.mem_append_right _ h))) (by decide +kernel))) (goodIn_sub (fun _ h => List.mem_append_right _ h) (by decide +kernel))
set_option maxRecDepth 20000 in
theorem gL_law_L_shift : GoodIn wsL_law (va_wsS RL 109 yL_shift wsL_shift) := goodIn_app (goodIn_of _ (by decide +kernel)) ggL_law_L_shift
set_option maxRecDepth 20000 in
theorem ggL_law_X4_shift : GoodIn wsL_law wsX4_shift := goodIn_r _ [327, 90, 160, 161, 162, 5, 163, 130, 92, 93, 94, 95, 96, 97, 98, 168, 169, 170, 171, 65, 131, 132, 133, 134, 649, 650, 651, 652, 653, 654, 655, 656] (by decide +kernel) (by decide +kernel)
set_option maxRecDepth 20000 in
theorem gL_law_X4_shift : GoodIn wsL_law (wsV RL 111 RX4 yX4_shift wsX4_shift) := goodIn_app (goodIn_of _ (by decide +kernel)) ggL_law_X4_shift
