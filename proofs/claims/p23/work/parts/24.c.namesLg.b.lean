set_option maxRecDepth 20000 in
theorem ggL_act_X3_sailor : GoodIn wsL_act wsX3_sailor := goodIn_ca (goodIn_ca (goodIn_ca (goodIn_r _ [58, 37, 38, 39, 59, 60, 61, 35, 62, 63, 64, 65, 66, 67, 68, 69, 70, 47, 71, 72, 73, 74, 75, 76, 77, 78, 79, 369, 370, 371, 372, 373, 374, 375, 382, 383, 384, 385, 386, 387, 388, 389, 390, 391, 392, 393, 394] (by decide +kernel) (by decide +kernel)) (goodIn_sub (fun _ h => List.mem_cons_of_mem _ (List.mem_append_left _ (List.mem_append_left _ (List.mem_append_left _ (List.mem_append_left _ (List.mem_append_right _ h)))))) (by decide +kernel))) (goodIn_sub (fun _ h => List.mem_cons_of_mem _ (List.mem_append_left _ (List.mem_append_left _ (List.mem_append_right _ h)))) (by decide +kernel))) (goodIn_sub (fun _ h => List.mem_cons_of_mem _ (List.mem_append_left _ (List.mem_append_right _ h))) (by decide +kernel))
set_option maxRecDepth 20000 in
theorem gL_act_X3_sailor : GoodIn wsL_act (wsV RL 57 RX3 yX3_sailor wsX3_sailor) := goodIn_app (goodIn_of _ (by decide +kernel)) ggL_act_X3_sailor
set_option maxRecDepth 20000 in
theorem ggL_act_X3_keep : GoodIn wsL_act wsX3_keep := goodIn_ca (goodIn_r _ [83, 39, 59, 84, 85, 86, 87, 35, 88, 63, 64, 89, 90, 91, 92, 93, 40, 94, 95, 96, 44, 97, 48, 369, 370, 371, 372, 373, 374, 375, 382, 383, 384, 385, 386, 387, 388, 389, 390, 391, 392, 393, 394, 376, 377, 378, 379, 380, 381] (by decide +kernel) (by decide +kernel)) (goodIn_sub (fun _ h => List.mem_cons_of_mem _ (List.mem_append_left _ (List.mem_append_left _ (List.mem_append_right _ h)))) (by decide +kernel))
set_option maxRecDepth 20000 in
theorem gL_act_X3_keep : GoodIn wsL_act (wsV RL 65 RX3 yX3_keep wsX3_keep) := goodIn_app (goodIn_of _ (by decide +kernel)) ggL_act_X3_keep
set_option maxRecDepth 20000 in
theorem ggL_act_X3_setBell : GoodIn wsL_act wsX3_setBell := goodIn_ca (goodIn_r _ [101, 37, 38, 39, 102, 369, 370, 371, 372, 373, 374, 375] (by decide +kernel) (by decide +kernel)) (goodIn_sub (fun _ h => List.mem_cons_of_mem _ (List.mem_append_left _ (List.mem_append_left _ (List.mem_append_left _ (List.mem_append_left _ (List.mem_append_right _ h)))))) (by decide +kernel))
set_option maxRecDepth 20000 in
theorem gL_act_X3_setBell : GoodIn wsL_act (wsV RL 71 RX3 yX3_setBell wsX3_setBell) := goodIn_app (goodIn_of _ (by decide +kernel)) ggL_act_X3_setBell
set_option maxRecDepth 20000 in
theorem ggL_act_X3_setPawn : GoodIn wsL_act wsX3_setPawn := goodIn_ca (goodIn_r _ [106, 37, 38, 39, 107, 369, 370, 371, 372, 373, 374, 375] (by decide +kernel) (by decide +kernel)) (goodIn_sub (fun _ h => List.mem_cons_of_mem _ (List.mem_append_left _ (List.mem_append_left _ (List.mem_append_left _ (List.mem_append_left _ (List.mem_append_right _ h)))))) (by decide +kernel))
set_option maxRecDepth 20000 in
theorem gL_act_X3_setPawn : GoodIn wsL_act (wsV RL 77 RX3 yX3_setPawn wsX3_setPawn) := goodIn_app (goodIn_of _ (by decide +kernel)) ggL_act_X3_setPawn
