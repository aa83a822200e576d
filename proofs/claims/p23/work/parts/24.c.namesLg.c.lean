set_option maxRecDepth 20000 in
theorem ggL_act_X5_gets : GoodIn wsL_act wsX5_gets := goodIn_r _ [111, 112, 356, 357, 358, 359, 360, 361, 362, 363, 364, 365, 366, 367, 368] (by decide +kernel) (by decide +kernel)
set_option maxRecDepth 20000 in
theorem gL_act_X5_gets : GoodIn wsL_act (wsV RL 80 RX5 yX5_gets wsX5_gets) := goodIn_app (goodIn_of _ (by decide +kernel)) ggL_act_X5_gets
set_option maxRecDepth 20000 in
theorem ggL_act_X3_give : GoodIn wsL_act wsX3_give := goodIn_ca (goodIn_ca (goodIn_r _ [116, 37, 38, 39, 59, 117, 85, 86, 87, 35, 88, 63, 64, 89, 118, 119, 120, 68, 121, 75, 122, 123, 124, 125, 369, 370, 371, 372, 373, 374, 375, 382, 383, 384, 385, 386, 387, 388, 389, 390, 391, 392, 393, 394] (by decide +kernel) (by decide +kernel)) (goodIn_sub (fun _ h => List.mem_cons_of_mem _ (List.mem_append_left _ (List.mem_append_left _ (List.mem_append_left _ (List.mem_append_left _ (List.mem_append_right _ h)))))) (by decide +kernel))) (goodIn_sub (fun _ h => List.mem_cons_of_mem _ (List.mem_append_left _ (List.mem_append_left _ (List.mem_append_right _ h)))) (by decide +kernel))
set_option maxRecDepth 20000 in
theorem gL_act_X3_give : GoodIn wsL_act (wsV RL 84 RX3 yX3_give wsX3_give) := goodIn_app (goodIn_of _ (by decide +kernel)) ggL_act_X3_give
set_option maxRecDepth 20000 in
theorem ggL_act_X3_pawn : GoodIn wsL_act wsX3_pawn := goodIn_ca (goodIn_ca (goodIn_r _ [129, 130, 47, 39, 59, 117, 85, 86, 87, 35, 88, 63, 64, 89, 131, 132, 133, 68, 134, 76, 135, 136, 137, 138, 139, 140, 141, 142, 143, 119, 120, 121, 75, 122, 123, 124, 125, 369, 370, 371, 372, 373, 374, 375, 382, 383, 384, 385, 386, 387, 388, 389, 390, 391, 392, 393, 394] (by decide +kernel) (by decide +kernel)) (goodIn_sub (fun _ h => List.mem_cons_of_mem _ (List.mem_append_right _ h)) (by decide +kernel))) (goodIn_sub (fun _ h => List.mem_cons_of_mem _ (List.mem_append_left _ (List.mem_append_left _ (List.mem_append_right _ h)))) (by decide +kernel))
set_option maxRecDepth 20000 in
theorem gL_act_X3_pawn : GoodIn wsL_act (wsV RL 91 RX3 yX3_pawn wsX3_pawn) := goodIn_app (goodIn_of _ (by decide +kernel)) ggL_act_X3_pawn
set_option maxRecDepth 20000 in
theorem ggL_act_X3_redeem : GoodIn wsL_act wsX3_redeem := goodIn_ca (goodIn_ca (goodIn_r _ [147, 130, 47, 39, 59, 117, 85, 86, 87, 35, 88, 63, 64, 89, 148, 149, 150, 138, 151, 140, 152, 142, 153, 132, 133, 68, 134, 76, 154, 155, 156, 157, 141, 369, 370, 371, 372, 373, 374, 375, 382, 383, 384, 385, 386, 387, 388, 389, 390, 391, 392, 393, 394] (by decide +kernel) (by decide +kernel)) (goodIn_sub (fun _ h => List.mem_cons_of_mem _ (List.mem_append_right _ h)) (by decide +kernel))) (goodIn_sub (fun _ h => List.mem_cons_of_mem _ (List.mem_append_left _ (List.mem_append_left _ (List.mem_append_right _ h)))) (by decide +kernel))
set_option maxRecDepth 20000 in
theorem gL_act_X3_redeem : GoodIn wsL_act (wsV RL 93 RX3 yX3_redeem wsX3_redeem) := goodIn_app (goodIn_of _ (by decide +kernel)) ggL_act_X3_redeem
