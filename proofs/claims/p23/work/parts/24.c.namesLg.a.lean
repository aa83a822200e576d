set_option maxRecDepth 20000 in
theorem ggL_act_L_below : GoodIn wsL_act wsL_below := goodIn_r _ [25, 26] (by decide +kernel) (by decide +kernel)
set_option maxRecDepth 20000 in
theorem gL_act_L_below : GoodIn wsL_act (va_wsS RL 19 yL_below wsL_below) := goodIn_app (goodIn_of _ (by decide +kernel)) ggL_act_L_below
set_option maxRecDepth 20000 in
theorem ggL_act_X4_init : GoodIn wsL_act wsX4_init := goodIn_r _ [28, 29, 30, 31] (by decide +kernel) (by decide +kernel)
set_option maxRecDepth 20000 in
theorem gL_act_X4_init_n27 : GoodIn wsL_act (wsX4_init) := ggL_act_X4_init
set_option maxRecDepth 20000 in
theorem ggL_act_X3_bed : GoodIn wsL_act wsX3_bed := goodIn_ca (goodIn_ca (goodIn_r _ [36, 37, 38, 39, 40, 41, 42, 43, 44, 45, 46, 47, 48, 49, 50, 369, 370, 371, 372, 373, 374, 375, 376, 377, 378, 379, 380, 381] (by decide +kernel) (by decide +kernel)) (goodIn_sub (fun _ h => List.mem_cons_of_mem _ (List.mem_append_left _ (List.mem_append_left _ (List.mem_append_left _ (List.mem_append_left _ (List.mem_append_right _ h)))))) (by decide +kernel))) (goodIn_sub (fun _ h => List.mem_cons_of_mem _ (List.mem_append_left _ (List.mem_append_left _ (List.mem_append_left _ (List.mem_append_right _ h))))) (by decide +kernel))
set_option maxRecDepth 20000 in
theorem gL_act_X3_bed : GoodIn wsL_act (wsV RL 35 RX3 yX3_bed wsX3_bed) := goodIn_app (goodIn_of _ (by decide +kernel)) ggL_act_X3_bed
set_option maxRecDepth 20000 in
theorem ggL_act_X5_init : GoodIn wsL_act wsX5_init := goodIn_r _ [52, 53, 30, 31, 54, 356, 357, 358, 359, 360, 361, 362, 363, 364, 365, 366, 367, 368] (by decide +kernel) (by decide +kernel)
set_option maxRecDepth 20000 in
theorem gL_act_X5_init_n43 : GoodIn wsL_act (wsX5_init) := ggL_act_X5_init
