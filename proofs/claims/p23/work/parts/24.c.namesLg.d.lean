set_option maxRecDepth 20000 in
theorem ggL_act_X5_up : GoodIn wsL_act wsX5_up := goodIn_r _ [161, 162, 163, 164, 356, 357, 358, 359, 360, 361, 362, 363, 364, 365, 366, 367, 368, 350, 351, 352, 353, 354, 355] (by decide +kernel) (by decide +kernel)
set_option maxRecDepth 20000 in
theorem gL_act_X5_up : GoodIn wsL_act (wsV RL 102 RX5 yX5_up wsX5_up) := goodIn_app (goodIn_of _ (by decide +kernel)) ggL_act_X5_up
set_option maxRecDepth 20000 in
theorem ggL_act_X3_call : GoodIn wsL_act wsX3_call := goodIn_ca (goodIn_ca (goodIn_r _ [168, 130, 47, 39, 59, 169, 85, 86, 87, 35, 88, 63, 64, 89, 170, 171, 172, 68, 173, 78, 174, 175, 176, 138, 177, 140, 178, 179, 180, 181, 182, 95, 96, 44, 97, 48, 369, 370, 371, 372, 373, 374, 375, 382, 383, 384, 385, 386, 387, 388, 389, 390, 391, 392, 393, 394, 376, 377, 378, 379, 380, 381] (by decide +kernel) (by decide +kernel)) (goodIn_sub (fun _ h => List.mem_cons_of_mem _ (List.mem_append_right _ h)) (by decide +kernel))) (goodIn_sub (fun _ h => List.mem_cons_of_mem _ (List.mem_append_left _ (List.mem_append_left _ (List.mem_append_right _ h)))) (by decide +kernel))
set_option maxRecDepth 20000 in
theorem gL_act_X3_call : GoodIn wsL_act (wsV RL 105 RX3 yX3_call wsX3_call) := goodIn_app (goodIn_of _ (by decide +kernel)) ggL_act_X3_call
set_option maxRecDepth 20000 in
theorem ggL_act_X3_shift : GoodIn wsL_act wsX3_shift := goodIn_ca (goodIn_ca (goodIn_r _ [186, 39, 59, 187, 85, 86, 87, 35, 88, 63, 64, 89, 60, 61, 62, 188, 189, 190, 191, 130, 47, 170, 171, 172, 68, 173, 78, 369, 370, 371, 372, 373, 374, 375, 382, 383, 384, 385, 386, 387, 388, 389, 390, 391, 392, 393, 394] (by decide +kernel) (by decide +kernel)) (goodIn_sub (fun _ h => List.mem_cons_of_mem _ (List.mem_append_left _ (List.mem_append_left _ (List.mem_append_right _ h)))) (by decide +kernel))) (goodIn_sub (fun _ h => List.mem_cons_of_mem _ (List.mem_append_right _ h)) (by decide +kernel))
set_option maxRecDepth 20000 in
theorem gL_act_X3_shift : GoodIn wsL_act (wsV RL 108 RX3 yX3_shift wsX3_shift) := goodIn_app (goodIn_of _ (by decide +kernel)) ggL_act_X3_shift
set_option maxRecDepth 20000 in
theorem ggL_act_X6_sums : GoodIn wsL_act wsX6_sums := goodIn_r _ [196, 197, 198, 199, 200, 201, 202, 345, 346, 347, 348, 349, 356, 357, 358, 359, 360, 361, 362, 363, 364, 365, 366, 367, 368] (by decide +kernel) (by decide +kernel)
set_option maxRecDepth 20000 in
theorem gL_act_X6_sums : GoodIn wsL_act (wsV RL 111 RX6 yX6_sums wsX6_sums) := goodIn_app (goodIn_of _ (by decide +kernel)) ggL_act_X6_sums
