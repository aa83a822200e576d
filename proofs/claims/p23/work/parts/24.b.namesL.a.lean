theorem dL_below_0 : decode cL_below 0 = .ok (.iload_n 0, 1) := by decide +kernel
theorem dL_below_1 : decode cL_below 1 = .ok (.ldc 7, 2) := by decide +kernel
theorem dL_below_3 : decode cL_below 3 = .ok (.iand, 1) := by decide +kernel
theorem dL_below_4 : decode cL_below 4 = .ok (.iload_n 1, 1) := by decide +kernel
theorem dL_below_5 : decode cL_below 5 = .ok (.irem, 1) := by decide +kernel
theorem dL_below_6 : decode cL_below 6 = .ok (.ireturn, 1) := by decide +kernel
theorem dL_cell_0 : decode cL_cell 0 = .ok (.iload_n 1, 1) := by decide +kernel
theorem dL_cell_1 : decode cL_cell 1 = .ok (.aload_n 0, 1) := by decide +kernel
theorem dL_cell_2 : decode cL_cell 2 = .ok (.arraylength, 1) := by decide +kernel
theorem dL_cell_3 : decode cL_cell 3 = .ok (.if_icmp .ge 9, 3) := by decide +kernel
theorem dL_cell_6 : decode cL_cell 6 = .ok (.aload_n 0, 1) := by decide +kernel
theorem dL_cell_7 : decode cL_cell 7 = .ok (.iload_n 1, 1) := by decide +kernel
theorem dL_cell_8 : decode cL_cell 8 = .ok (.iaload, 1) := by decide +kernel
theorem dL_cell_9 : decode cL_cell 9 = .ok (.goto 9, 3) := by decide +kernel
theorem dL_cell_12 : decode cL_cell 12 = .ok (.ldc 8, 2) := by decide +kernel
theorem dL_cell_14 : decode cL_cell 14 = .ok (.iload_n 1, 1) := by decide +kernel
theorem dL_cell_15 : decode cL_cell 15 = .ok (.iconst 3, 1) := by decide +kernel
theorem dL_cell_16 : decode cL_cell 16 = .ok (.iadd, 1) := by decide +kernel
theorem dL_cell_17 : decode cL_cell 17 = .ok (.imul, 1) := by decide +kernel
theorem dL_cell_18 : decode cL_cell 18 = .ok (.ireturn, 1) := by decide +kernel
set_option maxRecDepth 20000 in
theorem ggL_act_L_below : GoodIn wsL_act wsL_below := goodIn_r _ [25, 26] (by decide +kernel) (by decide +kernel)
set_option maxRecDepth 20000 in
theorem gL_act_L_below : GoodIn wsL_act (va_wsS RL 19 yL_below wsL_below) := goodIn_app (goodIn_of _ (by decide +kernel)) ggL_act_L_below
set_option maxRecDepth 20000 in
theorem ggL_act_X4_init : GoodIn wsL_act wsX4_init := goodIn_r _ [28, 29, 30, 31] (by decide +kernel) (by decide +kernel)
set_option maxRecDepth 20000 in
theorem gL_act_X4_init_n27 : GoodIn wsL_act (wsX4_init) := ggL_act_X4_init
set_option maxRecDepth 20000 in
theorem ggL_act_X3_bed : GoodIn wsL_act wsX3_bed := goodIn_ca (goodIn_ca (goodIn_r _ [36, 37, 38, 39, 40, 41, 42, 43, 44, 45, 46, 47, 48, 49, 50, 369, 370, 371, 372, 373, 374, 375, 376, 377, 378, 379, 380, 381] (by decide +kernel) (by decide +kernel)) (goodIn_sub (fun _ h => List.mem_cons_of_mem _ (List.mem_append_left _ (List.mem_append_left _ (List.mem_append_left _ (List.mem_append_left _ (List.mem_append_right _ h)))))) (by decide +kernel))) (goodIn_sub (fun _ h => List.mem_cons_of_mem _ (List.mem_append_left _ (List.mem_append_left _ (List.mem_append_left _ (List.mem_append_right _ h))))) (by decide +kernel))
set_option maxRecDepth 20000 in
theorem gL_act_X3_bed : GoodIn wsL_act (wsV RL 35 RX3 yX3_bed wsX3_bed) := goodIn_app (goodIn_of _ (by decide +kernel)) ggL_act_X3_bed
set_option maxRecDepth 20000 in
theorem ggL_act_X5_init : GoodIn wsL_act wsX5_init := goodIn_r _ [52, 53, 30, 31, 54, 356, 357, 358, 359, 360, 361, 362, 363, 364, 365, 366, 367, 368] (by decide +kernel) (by decide +kernel)
set_option maxRecDepth 20000 in
theorem gL_act_X5_init_n43 : GoodIn wsL_act (wsX5_init) := ggL_act_X5_init
set_option maxRecDepth 20000 in
theorem ggL_act_X3_sailor : GoodIn wsL_act wsX3_sailor := goodIn_ca (goodIn_ca (goodIn_ca (goodIn_r _ [58, 37, 38, 39, 59, 60, 61, 35, 62, 63, 64, 65, 66, 67, 68, 69, 70, 47, 71, 72, 73, 74, 75, 76, 77, 78, 79, 369, 370, 371, 372, 373, 374, 375, 382, 383, 384, 385, 386, 387, 388, 389, 390, 391, 392, 393, 394] (by decide +kernel) (by decide +kernel)) (goodIn_sub (fun _ h => List.mem_cons_of_mem _ (List.mem_append_left _ (List.mem_append_left _ (List.mem_append_left _ (List.mem_append_left _ (List.mem_append_right _ h)))))) (by decide +kernel))) (goodIn_sub (fun _ h => List.mem_cons_of_mem _ (List.mem_append_left _ (List.mem_append_left _ (List.mem_append_right _ h)))) (by decide +kernel))) (goodIn_sub (fun _ h => List.mem_cons_of_mem _ (List.mem_append_left _ (List.mem_append_right _ h))) (by decide +kernel))
set_option maxRecDepth 20000 in
theorem gL_act_X3_sailor : GoodIn wsL_act (wsV RL 57 RX3 yX3_sailor wsX3_sailor) := goodIn_app (goodIn_of _ (by decide +kernel)) ggL_act_X3_sailor
set_option maxRecDepth 20000 in
theorem ggL_act_X3_keep : GoodIn wsL_act wsX3_keep := goodIn_ca (goodIn_r _ [83, 39, 59, 84, 85, 86, 87, 35, 88, 63, 64, 89, 90, 91, 92, 93, 40, 94, 95, 96, 44, 97, 48, 369, 370, 371, 372, 373, 374, 375, 382, 383, 384, 385, 386, 387, 388, 389, 390, 391, 392, 393, 394, 376, 377, 378, 379, 380, 381] (by decide +kernel) (by decide +kernel)) (goodIn_sub (fun _ h => List.mem_cons_of_mem _ (List.mem_append_left _ (List.mem_append_left _ (List.mem_append_right _ h)))) (by decide +kernel))
set_option maxRecDepth 20000 in
theorem gL_act_X3_keep : GoodIn wsL_act (wsV RL 65 RX3 yX3_keep wsX3_keep) := goodIn_app (goodIn_of _ (by decide +kernel)) ggL_act_X3_keep
set_option maxRecDepth 20000 in
theorem ggL_act_X3_setBell : GoodIn wsL_act wsX3_setBell := goodIn_ca (goodIn_r _ [101, 37, 38, 39, 102, 369, 370, 371, 372, 373, 374, 375] (by decide +kernel) (by decide +kernel)) (goodIn_sub (fun _ h => List.mem_cons_of_mem _ (List.mem_append_left _ (List.mem_append_left _ (List.mem_append_left _ (List.mem_append_left _ (List.mem_append_right _ h)))))) (by decide +kernel))
set_option maxRecDepth 20000 in
theorem gL_act_X3_setBell : GoodIn wsL_act (wsV RL 71 RX3 yX3_setBell wsX3_setBell) := goodIn_app (goodIn_of _ (by decide +kernel)) ggL_act_X3_setBell
set_option maxRecDepth 20000 in
theorem ggL_act_X3_setPawn : GoodIn wsL_act wsX3_setPawn := goodIn_ca (goodIn_r _ [106, 37, 38, 39, 107, 369, 370, 371, 372, 373, 374, 375] (by decide +kernel) (by decide +kernel)) (goodIn_sub (fun _ h => List.mem_cons_of_mem _ (List.mem_append_left _ (List.mem_append_left _ (List.mem_append_left _ (List.mem_append_left _ (List.mem_append_right _ h)))))) (by decide +kernel))
set_option maxRecDepth 20000 in
theorem gL_act_X3_setPawn : GoodIn wsL_act (wsV RL 77 RX3 yX3_setPawn wsX3_setPawn) := goodIn_app (goodIn_of _ (by decide +kernel)) ggL_act_X3_setPawn
set_option maxRecDepth 20000 in
theorem ggL_act_X5_gets : GoodIn wsL_act wsX5_gets := goodIn_r _ [111, 112, 356, 357, 358, 359, 360, 361, 362, 363, 364, 365, 366, 367, 368] (by decide +kernel) (by decide +kernel)
set_option maxRecDepth 20000 in
theorem gL_act_X5_gets : GoodIn wsL_act (wsV RL 80 RX5 yX5_gets wsX5_gets) := goodIn_app (goodIn_of _ (by decide +kernel)) ggL_act_X5_gets
set_option maxRecDepth 20000 in
theorem ggL_act_X3_give : GoodIn wsL_act wsX3_give := goodIn_ca (goodIn_ca (goodIn_r _ [116, 37, 38, 39, 59, 117, 85, 86, 87, 35, 88, 63, 64, 89, 118, 119, 120, 68, 121, 75, 122, 123, 124, 125, 369, 370, 371, 372, 373, 374, 375, 382, 383, 384, 385, 386, 387, 388, 389, 390, 391, 392, 393, 394] (by decide +kernel) (by decide +kernel)) (goodIn_sub (fun _ h => List.mem_cons_of_mem _ (List.mem_append_left _ (List.mem_append_left _ (List.mem_append_left _ (List.mem_append_left _ (List.mem_append_right _ h)))))) (by decide +kernel))) (goodIn_sub (fun _ h => List.mem_cons_of_mem _ (List.mem_append_left _ (List.mem_append_left _ (List.mem_append_right _ h)))) (by decide +kernel))
set_option maxRecDepth 20000 in
theorem gL_act_X3_give : GoodIn wsL_act (wsV RL 84 RX3 yX3_give wsX3_give) := goodIn_app (goodIn_of _ (by decide +kernel)) ggL_act_X3_give
set_option maxRecDepth 20000 in
theorem ggL_act_X3_pawn : GoodIn wsL_act wsX3_pawn := goodIn_ca (goodIn_ca (goodIn_r _ [129, 130, 47, 39, 59, 117, 85, 86, 87, 35, 88, 63, 64, 89, 131, 132, 133, 68, 134, 76, 135, 136, 137, 138, 139, 140, 141, 142, 143, 119, 120, 121, 75, 122, 123, 124, 125, 369, 370, 371, 372, 373, 374, 375, 382, 383, 384, 385, 386, 387, 388, 389, 390, 391, 392, 393, 394] (by decide +kernel) (by decide +kernel)) (goodIn_sub (fun _ h => List.mem_cons_of_mem _ (List.mem_append_right _ h)) (by decide +kernel))) (goodIn_sub (fun _ h => List.mem_cons_of_mem _ (List.mem_append_left _ (List.mem_append_left _ (List.mem_append_right _ h)))) (by decide +kernel))
set_option maxRecDepth 20000 in
theorem gL_act_X3_pawn : GoodIn wsL_act (wsV RL 91 RX3 yX3_pawn wsX3_pawn) := goodIn_app (goodIn_of _ (by decide +kernel)) ggL_act_X3_pawn
set_option maxRecDepth 20000 in
theorem ggL_act_X3_redeem : GoodIn wsL_act wsX3_redeem := goodIn_ca (goodIn_ca (goodIn_r _ [147, 130, 47, 39, 59, 117, 85, 86, 87, 35, 88, 63, 64, 89, 148, 149, 150, 138, 151, 140, 152, 142, 153, 132, 133, 68, 134, 76, 154, 155, 156, 157, 141, 369, 370, 371, 372, 373, 374, 375, 382, 383, 384, 385, 386, 387, 388, 389, 390, 391, 392, 393, 394] (by decide +kernel) (by decide +kernel)) (goodIn_sub (fun _ h => List.mem_cons_of_mem _ (List.mem_append_right _ h)) (by decide +kernel))) (goodIn_sub (fun _ h => List.mem_cons_of_mem _ (List.mem_append_left _ (List.mem_append_left _ (List.mem_append_right _ h)))) (by decide +kernel))
set_option maxRecDepth 20000 in
theorem gL_act_X3_redeem : GoodIn wsL_act (wsV RL 93 RX3 yX3_redeem wsX3_redeem) := goodIn_app (goodIn_of _ (by decide +kernel)) ggL_act_X3_redeem
set_option maxRecDepth 20000 in
theorem ggL_act_X5_up : GoodIn wsL_act wsX5_up := goodIn_r _ [161, 162, 163, 164, 356, 357, 358, 359, 360, 361, 362, 363, 364, 365, 366, 367, 368, 350, 351, 352, 353, 354, 355] (by decide +kernel) (by decide +kernel)
set_option maxRecDepth 20000 in
theorem gL_act_X5_up : GoodIn wsL_act (wsV RL 102 RX5 yX5_up wsX5_up) := goodIn_app (goodIn_of _ (by decide +kernel)) ggL_act_X5_up
set_option maxRecDepth 20000 in
theorem ggL_act_X3_call : GoodIn wsL_act wsX3_call := goodIn_ca (goodIn_ca (goodIn_r _ [168, 130, 47, 39, 59, 169, 85, 86, 87, 35, 88, 63, 64, 89, 170, 171, 172, 68, 173, 78, 174, 175, 176, 138, 177, 140, 178, 179, 180, 181, 182, 95, 96, 44, 97, 48, 369, 370, 371, 372, 373, 374, 375, 382, 383, 384, 385, 386, 387, 388, 389, 390, 391, 392, 393, 394, 376, 377, 378, 379, 380, 381] (by decide +kernel) (by decide +kernel)) (goodIn_sub (fun _ h => List.mem_cons_of_mem _ (List.mem_append_right _ h)) (by decide +kernel))) (goodIn_sub (fun _ h => List.mem_cons_of_mem _ (List.mem_append_left _ (List.mem_append_left _ (List.mem_append_right _ h)))) (by decide +kernel))
set_option maxRecDepth 20000 in
theorem gL_act_X3_call : GoodIn wsL_act (wsV RL 105 RX3 yX3_call wsX3_call) := goodIn_app (goodIn_of _ (by decide +kernel)) ggL_act_X3_call
set_option maxRecDepth 20000 in
theorem ggL_act_X3_shift : GoodIn wsL_act wsX3_shift := goodIn_ca (goodIn_ca (goodIn_r _ [186, 39, 59, 187, 85, 86, 87, 35, 88, 63, 64, 89, 60, 61, 62, 188, 189, 190, 191, 130, 47, 170, 171, 172, 68, 173, 78, 369, 370, 371, 372, 373, 374, 375, 382, 383, 384, 385, 386, 387, 388, 389, 390, 391, 392, 393, 394] (by decide +kernel) (by decide +kernel)) (goodIn_sub (fun _ h => List.mem_cons_of_mem _ (List.mem_append_left _ (List.mem_append_left _ (List.mem_append_right _ h)))) (by decide +kernel))) (goodIn_sub (fun _ h => List.mem_cons_of_mem _ (List.mem_append_right _ h)) (by decide +kernel))
set_option maxRecDepth 20000 in
theorem gL_act_X3_shift : GoodIn wsL_act (wsV RL 108 RX3 yX3_shift wsX3_shift) := goodIn_app (goodIn_of _ (by decide +kernel)) ggL_act_X3_shift
set_option maxRecDepth 20000 in
theorem ggL_act_X6_sums : GoodIn wsL_act wsX6_sums := goodIn_r _ [196, 197, 198, 199, 200, 201, 202, 345, 346, 347, 348, 349, 356, 357, 358, 359, 360, 361, 362, 363, 364, 365, 366, 367, 368] (by decide +kernel) (by decide +kernel)
set_option maxRecDepth 20000 in
theorem gL_act_X6_sums : GoodIn wsL_act (wsV RL 111 RX6 yX6_sums wsX6_sums) := goodIn_app (goodIn_of _ (by decide +kernel)) ggL_act_X6_sums
set_option maxRecDepth 20000 in
theorem ggL_act_X6_behind : GoodIn wsL_act wsX6_behind := goodIn_r _ [206, 207, 208, 209, 195, 210, 211, 198, 199, 200, 212, 213, 214, 201, 215, 216, 217, 218, 219, 220, 202, 221, 222, 223, 224, 225, 226, 227, 159, 160, 10, 161, 162, 163, 164, 228, 109, 110, 111, 112, 229, 230, 231, 232, 233, 345, 346, 347, 348, 349, 356, 357, 358, 359, 360, 361, 362, 363, 364, 365, 366, 367, 368, 350, 351, 352, 353, 354, 355] (by decide +kernel) (by decide +kernel)
set_option maxRecDepth 20000 in
theorem gL_act_X6_behind : GoodIn wsL_act (wsV RL 115 RX6 yX6_behind wsX6_behind) := goodIn_app (goodIn_of _ (by decide +kernel)) ggL_act_X6_behind
set_option maxRecDepth 20000 in
theorem ggL_act_X3_pass : GoodIn wsL_act wsX3_pass := goodIn_ca (goodIn_r _ [237, 39, 59, 238, 239, 35, 240, 37, 38, 241, 242, 243, 68, 244, 245, 246, 247, 248, 249, 71, 250, 251, 252, 138, 253, 140, 254, 255, 179, 256, 257, 258, 259, 260, 261, 262, 263, 171, 172, 173, 78, 264, 265, 266, 267, 268, 269, 270, 271, 272, 273, 274, 275, 276, 277, 175, 176, 177, 178, 180, 181, 182, 95, 96, 44, 97, 48, 278, 279, 280, 281, 282, 283, 284, 285, 286, 287, 288, 289, 290, 291, 74, 292, 293, 124, 294, 295, 132, 133, 134, 76, 296, 119, 120, 121, 75, 122, 123, 125, 297, 149, 150, 151, 152, 142, 153, 298, 155, 156, 157, 141, 299, 300, 301, 302, 303, 304, 305, 306, 307, 50, 308, 309, 310, 311, 312, 49, 313, 314, 315, 316, 317, 318, 319, 136, 137, 139, 143, 320, 321, 322, 323, 324, 325, 326, 327, 328, 329, 330, 331, 332, 333, 334, 335, 336, 337, 338, 339, 340, 341, 342, 343, 344, 369, 370, 371, 372, 373, 374, 375, 382, 383, 384, 385, 386, 387, 388, 389, 390, 391, 392, 393, 394, 376, 377, 378, 379, 380, 381] (by decide +kernel) (by decide +kernel)) (goodIn_sub (fun _ h => List.mem_cons_of_mem _ (List.mem_append_left _ (List.mem_append_left _ (List.mem_append_left _ (List.mem_append_left _ (List.mem_append_right _ h)))))) (by decide +kernel))
set_option maxRecDepth 20000 in
theorem gL_act_X3_pass : GoodIn wsL_act (wsV RL 119 RX3 yX3_pass wsX3_pass) := goodIn_app (goodIn_of _ (by decide +kernel)) ggL_act_X3_pass
theorem dL_act_0 : decode cL_act 0 = .ok (.aload_n 1, 1) := by decide +kernel
theorem dL_act_1 : decode cL_act 1 = .ok (.getfield 9, 3) := by decide +kernel
theorem dL_act_4 : decode cL_act 4 = .ok (.arraylength, 1) := by decide +kernel
theorem dL_act_5 : decode cL_act 5 = .ok (.istore_n 3, 1) := by decide +kernel
theorem dL_act_6 : decode cL_act 6 = .ok (.aload_n 1, 1) := by decide +kernel
theorem dL_act_7 : decode cL_act 7 = .ok (.getfield 15, 3) := by decide +kernel
theorem dL_act_10 : decode cL_act 10 = .ok (.arraylength, 1) := by decide +kernel
theorem dL_act_11 : decode cL_act 11 = .ok (.istore 4, 2) := by decide +kernel
theorem dL_act_13 : decode cL_act 13 = .ok (.iload_n 2, 1) := by decide +kernel
theorem dL_act_14 : decode cL_act 14 = .ok (.bipush 9, 2) := by decide +kernel
theorem dL_act_16 : decode cL_act 16 = .ok (.ishr, 1) := by decide +kernel
theorem dL_act_17 : decode cL_act 17 = .ok (.bipush 18, 2) := by decide +kernel
theorem dL_act_19 : decode cL_act 19 = .ok (.invokestatic 19, 3) := by decide +kernel
theorem dL_act_22 : decode cL_act 22 = .ok (.istore 5, 2) := by decide +kernel
theorem dL_act_24 : decode cL_act 24 = .ok (.iload 5, 2) := by decide +kernel
theorem dL_act_26 : decode cL_act 26 = .ok (.ifCond .ne 119, 3) := by decide +kernel
theorem dL_act_29 : decode cL_act 29 = .ok (.iload_n 3, 1) := by decide +kernel
theorem dL_act_30 : decode cL_act 30 = .ok (.bipush 6, 2) := by decide +kernel
theorem dL_act_32 : decode cL_act 32 = .ok (.if_icmp .ne 5, 3) := by decide +kernel
theorem dL_act_35 : decode cL_act 35 = .ok (.iconst 1, 1) := by decide +kernel
theorem dL_act_36 : decode cL_act 36 = .ok (.ireturn, 1) := by decide +kernel
theorem dL_act_37 : decode cL_act 37 = .ok (.iload_n 3, 1) := by decide +kernel
theorem dL_act_38 : decode cL_act 38 = .ok (.iconst 1, 1) := by decide +kernel
theorem dL_act_39 : decode cL_act 39 = .ok (.iadd, 1) := by decide +kernel
theorem dL_act_40 : decode cL_act 40 = .ok (.anewarray 25, 3) := by decide +kernel
theorem dL_act_43 : decode cL_act 43 = .ok (.astore 6, 2) := by decide +kernel
theorem dL_act_45 : decode cL_act 45 = .ok (.iconst 0, 1) := by decide +kernel
theorem dL_act_46 : decode cL_act 46 = .ok (.istore 7, 2) := by decide +kernel
theorem dL_act_48 : decode cL_act 48 = .ok (.iload 7, 2) := by decide +kernel
theorem dL_act_50 : decode cL_act 50 = .ok (.iload_n 3, 1) := by decide +kernel
theorem dL_act_51 : decode cL_act 51 = .ok (.if_icmp .ge 21, 3) := by decide +kernel
theorem dL_act_54 : decode cL_act 54 = .ok (.aload 6, 2) := by decide +kernel
theorem dL_act_56 : decode cL_act 56 = .ok (.iload 7, 2) := by decide +kernel
theorem dL_act_58 : decode cL_act 58 = .ok (.aload_n 1, 1) := by decide +kernel
theorem dL_act_59 : decode cL_act 59 = .ok (.getfield 9, 3) := by decide +kernel
theorem dL_act_62 : decode cL_act 62 = .ok (.iload 7, 2) := by decide +kernel
theorem dL_act_64 : decode cL_act 64 = .ok (.aaload, 1) := by decide +kernel
theorem dL_act_65 : decode cL_act 65 = .ok (.aastore, 1) := by decide +kernel
theorem dL_act_66 : decode cL_act 66 = .ok (.iinc 7 1, 3) := by decide +kernel
theorem dL_act_69 : decode cL_act 69 = .ok (.goto (-21), 3) := by decide +kernel
theorem dL_act_72 : decode cL_act 72 = .ok (.aload 6, 2) := by decide +kernel
theorem dL_act_74 : decode cL_act 74 = .ok (.iload_n 3, 1) := by decide +kernel
theorem dL_act_75 : decode cL_act 75 = .ok (.new 25, 3) := by decide +kernel
theorem dL_act_78 : decode cL_act 78 = .ok (.dup, 1) := by decide +kernel
theorem dL_act_79 : decode cL_act 79 = .ok (.invokespecial 27, 3) := by decide +kernel
theorem dL_act_82 : decode cL_act 82 = .ok (.aastore, 1) := by decide +kernel
theorem dL_act_83 : decode cL_act 83 = .ok (.aload 6, 2) := by decide +kernel
theorem dL_act_85 : decode cL_act 85 = .ok (.iload_n 3, 1) := by decide +kernel
theorem dL_act_86 : decode cL_act 86 = .ok (.aaload, 1) := by decide +kernel
theorem dL_act_87 : decode cL_act 87 = .ok (.iload_n 3, 1) := by decide +kernel
theorem dL_act_88 : decode cL_act 88 = .ok (.putfield 28, 3) := by decide +kernel
theorem dL_act_91 : decode cL_act 91 = .ok (.aload 6, 2) := by decide +kernel
theorem dL_act_93 : decode cL_act 93 = .ok (.iload_n 3, 1) := by decide +kernel
theorem dL_act_94 : decode cL_act 94 = .ok (.aaload, 1) := by decide +kernel
theorem dL_act_95 : decode cL_act 95 = .ok (.iload_n 2, 1) := by decide +kernel
theorem dL_act_96 : decode cL_act 96 = .ok (.iconst 1, 1) := by decide +kernel
theorem dL_act_97 : decode cL_act 97 = .ok (.ishr, 1) := by decide +kernel
theorem dL_act_98 : decode cL_act 98 = .ok (.iload_n 2, 1) := by decide +kernel
theorem dL_act_99 : decode cL_act 99 = .ok (.iconst 2, 1) := by decide +kernel
theorem dL_act_100 : decode cL_act 100 = .ok (.invokestatic 19, 3) := by decide +kernel
theorem dL_act_103 : decode cL_act 103 = .ok (.ifCond .ne 8, 3) := by decide +kernel
theorem dL_act_106 : decode cL_act 106 = .ok (.bipush 10, 2) := by decide +kernel
theorem dL_act_108 : decode cL_act 108 = .ok (.goto 4, 3) := by decide +kernel
theorem dL_act_111 : decode cL_act 111 = .ok (.iconst 4, 1) := by decide +kernel
theorem dL_act_112 : decode cL_act 112 = .ok (.invokestatic 19, 3) := by decide +kernel
theorem dL_act_115 : decode cL_act 115 = .ok (.putfield 32, 3) := by decide +kernel
theorem dL_act_118 : decode cL_act 118 = .ok (.aload_n 1, 1) := by decide +kernel
theorem dL_act_119 : decode cL_act 119 = .ok (.aload 6, 2) := by decide +kernel
theorem dL_act_121 : decode cL_act 121 = .ok (.putfield 9, 3) := by decide +kernel
theorem dL_act_124 : decode cL_act 124 = .ok (.aload_n 0, 1) := by decide +kernel
theorem dL_act_125 : decode cL_act 125 = .ok (.aload 6, 2) := by decide +kernel
theorem dL_act_127 : decode cL_act 127 = .ok (.iload_n 3, 1) := by decide +kernel
theorem dL_act_128 : decode cL_act 128 = .ok (.aaload, 1) := by decide +kernel
theorem dL_act_129 : decode cL_act 129 = .ok (.getfield 32, 3) := by decide +kernel
theorem dL_act_132 : decode cL_act 132 = .ok (.invokevirtual 35, 3) := by decide +kernel
theorem dL_act_135 : decode cL_act 135 = .ok (.iload_n 3, 1) := by decide +kernel
theorem dL_act_136 : decode cL_act 136 = .ok (.if_icmp .ne 7, 3) := by decide +kernel
theorem dL_act_139 : decode cL_act 139 = .ok (.iconst 1, 1) := by decide +kernel
theorem dL_act_140 : decode cL_act 140 = .ok (.goto 4, 3) := by decide +kernel
theorem dL_act_143 : decode cL_act 143 = .ok (.iconst 0, 1) := by decide +kernel
theorem dL_act_144 : decode cL_act 144 = .ok (.ireturn, 1) := by decide +kernel
theorem dL_act_145 : decode cL_act 145 = .ok (.iload 5, 2) := by decide +kernel
theorem dL_act_147 : decode cL_act 147 = .ok (.iconst 3, 1) := by decide +kernel
theorem dL_act_148 : decode cL_act 148 = .ok (.if_icmp .lt 8, 3) := by decide +kernel
theorem dL_act_151 : decode cL_act 151 = .ok (.iload 4, 2) := by decide +kernel
theorem dL_act_153 : decode cL_act 153 = .ok (.ifCond .ne 192, 3) := by decide +kernel
theorem dL_act_156 : decode cL_act 156 = .ok (.iload 4, 2) := by decide +kernel
theorem dL_act_158 : decode cL_act 158 = .ok (.bipush 10, 2) := by decide +kernel
theorem dL_act_160 : decode cL_act 160 = .ok (.if_icmp .ne 5, 3) := by decide +kernel
theorem dL_act_163 : decode cL_act 163 = .ok (.iconst 1, 1) := by decide +kernel
theorem dL_act_164 : decode cL_act 164 = .ok (.ireturn, 1) := by decide +kernel
theorem dL_act_165 : decode cL_act 165 = .ok (.iload 4, 2) := by decide +kernel
theorem dL_act_167 : decode cL_act 167 = .ok (.iconst 1, 1) := by decide +kernel
theorem dL_act_168 : decode cL_act 168 = .ok (.iadd, 1) := by decide +kernel
theorem dL_act_169 : decode cL_act 169 = .ok (.anewarray 41, 3) := by decide +kernel
theorem dL_act_172 : decode cL_act 172 = .ok (.astore 6, 2) := by decide +kernel
theorem dL_act_174 : decode cL_act 174 = .ok (.iconst 0, 1) := by decide +kernel
theorem dL_act_175 : decode cL_act 175 = .ok (.istore 7, 2) := by decide +kernel
theorem dL_act_177 : decode cL_act 177 = .ok (.iload 7, 2) := by decide +kernel
theorem dL_act_179 : decode cL_act 179 = .ok (.iload 4, 2) := by decide +kernel
theorem dL_act_181 : decode cL_act 181 = .ok (.if_icmp .ge 21, 3) := by decide +kernel
theorem dL_act_184 : decode cL_act 184 = .ok (.aload 6, 2) := by decide +kernel
theorem dL_act_186 : decode cL_act 186 = .ok (.iload 7, 2) := by decide +kernel
theorem dL_act_188 : decode cL_act 188 = .ok (.aload_n 1, 1) := by decide +kernel
theorem dL_act_189 : decode cL_act 189 = .ok (.getfield 15, 3) := by decide +kernel
theorem dL_act_192 : decode cL_act 192 = .ok (.iload 7, 2) := by decide +kernel
theorem dL_act_194 : decode cL_act 194 = .ok (.aaload, 1) := by decide +kernel
theorem dL_act_195 : decode cL_act 195 = .ok (.aastore, 1) := by decide +kernel
theorem dL_act_196 : decode cL_act 196 = .ok (.iinc 7 1, 3) := by decide +kernel
theorem dL_act_199 : decode cL_act 199 = .ok (.goto (-22), 3) := by decide +kernel
theorem dL_act_202 : decode cL_act 202 = .ok (.new 41, 3) := by decide +kernel
theorem dL_act_205 : decode cL_act 205 = .ok (.dup, 1) := by decide +kernel
theorem dL_act_206 : decode cL_act 206 = .ok (.invokespecial 43, 3) := by decide +kernel
theorem dL_act_209 : decode cL_act 209 = .ok (.astore 7, 2) := by decide +kernel
theorem dL_act_211 : decode cL_act 211 = .ok (.aload 7, 2) := by decide +kernel
theorem dL_act_213 : decode cL_act 213 = .ok (.iload 4, 2) := by decide +kernel
theorem dL_act_215 : decode cL_act 215 = .ok (.putfield 44, 3) := by decide +kernel
theorem dL_act_218 : decode cL_act 218 = .ok (.aload 7, 2) := by decide +kernel
theorem dL_act_220 : decode cL_act 220 = .ok (.iload_n 2, 1) := by decide +kernel
theorem dL_act_221 : decode cL_act 221 = .ok (.iconst 1, 1) := by decide +kernel
theorem dL_act_222 : decode cL_act 222 = .ok (.ishr, 1) := by decide +kernel
theorem dL_act_223 : decode cL_act 223 = .ok (.iconst 3, 1) := by decide +kernel
theorem dL_act_224 : decode cL_act 224 = .ok (.invokestatic 19, 3) := by decide +kernel
theorem dL_act_227 : decode cL_act 227 = .ok (.putfield 45, 3) := by decide +kernel
theorem dL_act_230 : decode cL_act 230 = .ok (.aload 7, 2) := by decide +kernel
theorem dL_act_232 : decode cL_act 232 = .ok (.iload_n 2, 1) := by decide +kernel
theorem dL_act_233 : decode cL_act 233 = .ok (.iconst 2, 1) := by decide +kernel
theorem dL_act_234 : decode cL_act 234 = .ok (.ishr, 1) := by decide +kernel
theorem dL_act_235 : decode cL_act 235 = .ok (.bipush 10, 2) := by decide +kernel
theorem dL_act_237 : decode cL_act 237 = .ok (.invokestatic 19, 3) := by decide +kernel
theorem dL_act_240 : decode cL_act 240 = .ok (.putfield 48, 3) := by decide +kernel
theorem dL_act_243 : decode cL_act 243 = .ok (.aload 7, 2) := by decide +kernel
theorem dL_act_245 : decode cL_act 245 = .ok (.iload_n 2, 1) := by decide +kernel
theorem dL_act_246 : decode cL_act 246 = .ok (.iconst 4, 1) := by decide +kernel
theorem dL_act_247 : decode cL_act 247 = .ok (.ishr, 1) := by decide +kernel
theorem dL_act_248 : decode cL_act 248 = .ok (.iload_n 2, 1) := by decide +kernel
theorem dL_act_249 : decode cL_act 249 = .ok (.iconst 2, 1) := by decide +kernel
theorem dL_act_250 : decode cL_act 250 = .ok (.invokestatic 19, 3) := by decide +kernel
theorem dL_act_253 : decode cL_act 253 = .ok (.ifCond .ne 8, 3) := by decide +kernel
theorem dL_act_256 : decode cL_act 256 = .ok (.bipush 21, 2) := by decide +kernel
theorem dL_act_258 : decode cL_act 258 = .ok (.goto 5, 3) := by decide +kernel
theorem dL_act_261 : decode cL_act 261 = .ok (.bipush 7, 2) := by decide +kernel
theorem dL_act_263 : decode cL_act 263 = .ok (.invokestatic 19, 3) := by decide +kernel
theorem dL_act_266 : decode cL_act 266 = .ok (.putfield 51, 3) := by decide +kernel
theorem dL_act_269 : decode cL_act 269 = .ok (.aload 7, 2) := by decide +kernel
theorem dL_act_271 : decode cL_act 271 = .ok (.iload_n 2, 1) := by decide +kernel
theorem dL_act_272 : decode cL_act 272 = .ok (.iconst 5, 1) := by decide +kernel
theorem dL_act_273 : decode cL_act 273 = .ok (.ishr, 1) := by decide +kernel
theorem dL_act_274 : decode cL_act 274 = .ok (.iload_n 2, 1) := by decide +kernel
theorem dL_act_275 : decode cL_act 275 = .ok (.iconst 1, 1) := by decide +kernel
theorem dL_act_276 : decode cL_act 276 = .ok (.ishr, 1) := by decide +kernel
theorem dL_act_277 : decode cL_act 277 = .ok (.iconst 2, 1) := by decide +kernel
theorem dL_act_278 : decode cL_act 278 = .ok (.invokestatic 19, 3) := by decide +kernel
theorem dL_act_281 : decode cL_act 281 = .ok (.ifCond .ne 8, 3) := by decide +kernel
theorem dL_act_284 : decode cL_act 284 = .ok (.bipush 100, 2) := by decide +kernel
theorem dL_act_286 : decode cL_act 286 = .ok (.goto 5, 3) := by decide +kernel
theorem dL_act_289 : decode cL_act 289 = .ok (.bipush 9, 2) := by decide +kernel
theorem dL_act_291 : decode cL_act 291 = .ok (.invokestatic 19, 3) := by decide +kernel
theorem dL_act_294 : decode cL_act 294 = .ok (.putfield 54, 3) := by decide +kernel
theorem dL_act_297 : decode cL_act 297 = .ok (.aload 6, 2) := by decide +kernel
theorem dL_act_299 : decode cL_act 299 = .ok (.iload 4, 2) := by decide +kernel
theorem dL_act_301 : decode cL_act 301 = .ok (.aload 7, 2) := by decide +kernel
theorem dL_act_303 : decode cL_act 303 = .ok (.aastore, 1) := by decide +kernel
theorem dL_act_304 : decode cL_act 304 = .ok (.aload_n 1, 1) := by decide +kernel
theorem dL_act_305 : decode cL_act 305 = .ok (.aload 6, 2) := by decide +kernel
theorem dL_act_307 : decode cL_act 307 = .ok (.putfield 15, 3) := by decide +kernel
theorem dL_act_310 : decode cL_act 310 = .ok (.aload_n 0, 1) := by decide +kernel
theorem dL_act_311 : decode cL_act 311 = .ok (.aload 7, 2) := by decide +kernel
theorem dL_act_313 : decode cL_act 313 = .ok (.getfield 45, 3) := by decide +kernel
theorem dL_act_316 : decode cL_act 316 = .ok (.aload 7, 2) := by decide +kernel
theorem dL_act_318 : decode cL_act 318 = .ok (.getfield 48, 3) := by decide +kernel
theorem dL_act_321 : decode cL_act 321 = .ok (.aload 7, 2) := by decide +kernel
theorem dL_act_323 : decode cL_act 323 = .ok (.getfield 51, 3) := by decide +kernel
theorem dL_act_326 : decode cL_act 326 = .ok (.aload 7, 2) := by decide +kernel
theorem dL_act_328 : decode cL_act 328 = .ok (.getfield 54, 3) := by decide +kernel
theorem dL_act_331 : decode cL_act 331 = .ok (.invokevirtual 57, 3) := by decide +kernel
theorem dL_act_334 : decode cL_act 334 = .ok (.iload 4, 2) := by decide +kernel
theorem dL_act_336 : decode cL_act 336 = .ok (.if_icmp .ne 7, 3) := by decide +kernel
theorem dL_act_339 : decode cL_act 339 = .ok (.iconst 1, 1) := by decide +kernel
theorem dL_act_340 : decode cL_act 340 = .ok (.goto 4, 3) := by decide +kernel
theorem dL_act_343 : decode cL_act 343 = .ok (.iconst 0, 1) := by decide +kernel
theorem dL_act_344 : decode cL_act 344 = .ok (.ireturn, 1) := by decide +kernel
theorem dL_act_345 : decode cL_act 345 = .ok (.iload_n 2, 1) := by decide +kernel
theorem dL_act_346 : decode cL_act 346 = .ok (.iconst 1, 1) := by decide +kernel
theorem dL_act_347 : decode cL_act 347 = .ok (.ishr, 1) := by decide +kernel
theorem dL_act_348 : decode cL_act 348 = .ok (.iload 4, 2) := by decide +kernel
theorem dL_act_350 : decode cL_act 350 = .ok (.invokestatic 19, 3) := by decide +kernel
theorem dL_act_353 : decode cL_act 353 = .ok (.istore 6, 2) := by decide +kernel
theorem dL_act_355 : decode cL_act 355 = .ok (.aload_n 1, 1) := by decide +kernel
theorem dL_act_356 : decode cL_act 356 = .ok (.getfield 15, 3) := by decide +kernel
theorem dL_act_359 : decode cL_act 359 = .ok (.iload 6, 2) := by decide +kernel
theorem dL_act_361 : decode cL_act 361 = .ok (.aaload, 1) := by decide +kernel
theorem dL_act_362 : decode cL_act 362 = .ok (.astore 7, 2) := by decide +kernel
theorem dL_act_364 : decode cL_act 364 = .ok (.iload 5, 2) := by decide +kernel
theorem dL_act_366 : decode cL_act 366 = .ok (.tableswitch 486 3 10 #[46, 133, 170, 209, 254, 299, 365, 427], 46) := by decide +kernel
theorem dL_act_412 : decode cL_act 412 = .ok (.aload 7, 2) := by decide +kernel
theorem dL_act_414 : decode cL_act 414 = .ok (.getfield 61, 3) := by decide +kernel
theorem dL_act_417 : decode cL_act 417 = .ok (.ifnonnull 7, 3) := by decide +kernel
theorem dL_act_420 : decode cL_act 420 = .ok (.iconst (-1), 1) := by decide +kernel
theorem dL_act_421 : decode cL_act 421 = .ok (.goto 11, 3) := by decide +kernel
theorem dL_act_424 : decode cL_act 424 = .ok (.aload 7, 2) := by decide +kernel
theorem dL_act_426 : decode cL_act 426 = .ok (.getfield 61, 3) := by decide +kernel
theorem dL_act_429 : decode cL_act 429 = .ok (.getfield 28, 3) := by decide +kernel
theorem dL_act_432 : decode cL_act 432 = .ok (.istore 8, 2) := by decide +kernel
theorem dL_act_434 : decode cL_act 434 = .ok (.iload_n 3, 1) := by decide +kernel
theorem dL_act_435 : decode cL_act 435 = .ok (.ifCond .eq 11, 3) := by decide +kernel
theorem dL_act_438 : decode cL_act 438 = .ok (.iload_n 2, 1) := by decide +kernel
theorem dL_act_439 : decode cL_act 439 = .ok (.iconst 4, 1) := by decide +kernel
theorem dL_act_440 : decode cL_act 440 = .ok (.invokestatic 19, 3) := by decide +kernel
theorem dL_act_443 : decode cL_act 443 = .ok (.ifCond .ne 7, 3) := by decide +kernel
theorem dL_act_446 : decode cL_act 446 = .ok (.iconst (-1), 1) := by decide +kernel
theorem dL_act_447 : decode cL_act 447 = .ok (.goto 10, 3) := by decide +kernel
theorem dL_act_450 : decode cL_act 450 = .ok (.iload_n 2, 1) := by decide +kernel
theorem dL_act_451 : decode cL_act 451 = .ok (.iconst 3, 1) := by decide +kernel
theorem dL_act_452 : decode cL_act 452 = .ok (.ishr, 1) := by decide +kernel
theorem dL_act_453 : decode cL_act 453 = .ok (.iload_n 3, 1) := by decide +kernel
theorem dL_act_454 : decode cL_act 454 = .ok (.invokestatic 19, 3) := by decide +kernel
theorem dL_act_457 : decode cL_act 457 = .ok (.istore 9, 2) := by decide +kernel
theorem dL_act_459 : decode cL_act 459 = .ok (.aload 7, 2) := by decide +kernel
theorem dL_act_461 : decode cL_act 461 = .ok (.iload 9, 2) := by decide +kernel
theorem dL_act_463 : decode cL_act 463 = .ok (.ifCond .ge 7, 3) := by decide +kernel
theorem dL_act_466 : decode cL_act 466 = .ok (.aconst_null, 1) := by decide +kernel
theorem dL_act_467 : decode cL_act 467 = .ok (.goto 10, 3) := by decide +kernel
theorem dL_act_470 : decode cL_act 470 = .ok (.aload_n 1, 1) := by decide +kernel
theorem dL_act_471 : decode cL_act 471 = .ok (.getfield 9, 3) := by decide +kernel
theorem dL_act_474 : decode cL_act 474 = .ok (.iload 9, 2) := by decide +kernel
theorem dL_act_476 : decode cL_act 476 = .ok (.aaload, 1) := by decide +kernel
theorem dL_act_477 : decode cL_act 477 = .ok (.putfield 61, 3) := by decide +kernel
theorem dL_act_480 : decode cL_act 480 = .ok (.aload_n 0, 1) := by decide +kernel
theorem dL_act_481 : decode cL_act 481 = .ok (.iload 6, 2) := by decide +kernel
theorem dL_act_483 : decode cL_act 483 = .ok (.iload 9, 2) := by decide +kernel
theorem dL_act_485 : decode cL_act 485 = .ok (.invokevirtual 65, 3) := by decide +kernel
theorem dL_act_488 : decode cL_act 488 = .ok (.iload 8, 2) := by decide +kernel
theorem dL_act_490 : decode cL_act 490 = .ok (.if_icmp .ne 7, 3) := by decide +kernel
theorem dL_act_493 : decode cL_act 493 = .ok (.iconst 1, 1) := by decide +kernel
theorem dL_act_494 : decode cL_act 494 = .ok (.goto 4, 3) := by decide +kernel
theorem dL_act_497 : decode cL_act 497 = .ok (.iconst 0, 1) := by decide +kernel
theorem dL_act_498 : decode cL_act 498 = .ok (.ireturn, 1) := by decide +kernel
theorem dL_act_499 : decode cL_act 499 = .ok (.aload_n 1, 1) := by decide +kernel
theorem dL_act_500 : decode cL_act 500 = .ok (.getfield 68, 3) := by decide +kernel
theorem dL_act_503 : decode cL_act 503 = .ok (.istore 10, 2) := by decide +kernel
theorem dL_act_505 : decode cL_act 505 = .ok (.aload_n 1, 1) := by decide +kernel
theorem dL_act_506 : decode cL_act 506 = .ok (.iload_n 2, 1) := by decide +kernel
theorem dL_act_507 : decode cL_act 507 = .ok (.iconst 3, 1) := by decide +kernel
theorem dL_act_508 : decode cL_act 508 = .ok (.ishr, 1) := by decide +kernel
theorem dL_act_509 : decode cL_act 509 = .ok (.bipush 10, 2) := by decide +kernel
theorem dL_act_511 : decode cL_act 511 = .ok (.invokestatic 19, 3) := by decide +kernel
theorem dL_act_514 : decode cL_act 514 = .ok (.putfield 68, 3) := by decide +kernel
theorem dL_act_517 : decode cL_act 517 = .ok (.aload_n 0, 1) := by decide +kernel
theorem dL_act_518 : decode cL_act 518 = .ok (.aload_n 1, 1) := by decide +kernel
theorem dL_act_519 : decode cL_act 519 = .ok (.getfield 68, 3) := by decide +kernel
theorem dL_act_522 : decode cL_act 522 = .ok (.invokevirtual 71, 3) := by decide +kernel
theorem dL_act_525 : decode cL_act 525 = .ok (.iload 10, 2) := by decide +kernel
theorem dL_act_527 : decode cL_act 527 = .ok (.if_icmp .ne 7, 3) := by decide +kernel
theorem dL_act_530 : decode cL_act 530 = .ok (.iconst 1, 1) := by decide +kernel
theorem dL_act_531 : decode cL_act 531 = .ok (.goto 4, 3) := by decide +kernel
theorem dL_act_534 : decode cL_act 534 = .ok (.iconst 0, 1) := by decide +kernel
theorem dL_act_535 : decode cL_act 535 = .ok (.ireturn, 1) := by decide +kernel
theorem dL_act_536 : decode cL_act 536 = .ok (.aload_n 1, 1) := by decide +kernel
theorem dL_act_537 : decode cL_act 537 = .ok (.getfield 74, 3) := by decide +kernel
theorem dL_act_540 : decode cL_act 540 = .ok (.istore 11, 2) := by decide +kernel
theorem dL_act_542 : decode cL_act 542 = .ok (.aload_n 1, 1) := by decide +kernel
theorem dL_act_543 : decode cL_act 543 = .ok (.iconst 1, 1) := by decide +kernel
theorem dL_act_544 : decode cL_act 544 = .ok (.iload_n 2, 1) := by decide +kernel
