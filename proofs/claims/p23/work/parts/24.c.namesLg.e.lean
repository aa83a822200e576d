set_option maxRecDepth 20000 in
theorem ggL_act_X6_behind : GoodIn wsL_act wsX6_behind := goodIn_r _ [206, 207, 208, 209, 195, 210, 211, 198, 199, 200, 212, 213, 214, 201, 215, 216, 217, 218, 219, 220, 202, 221, 222, 223, 224, 225, 226, 227, 159, 160, 10, 161, 162, 163, 164, 228, 109, 110, 111, 112, 229, 230, 231, 232, 233, 345, 346, 347, 348, 349, 356, 357, 358, 359, 360, 361, 362, 363, 364, 365, 366, 367, 368, 350, 351, 352, 353, 354, 355] rfl (by decide +kernel)
set_option maxRecDepth 20000 in
theorem gL_act_X6_behind : GoodIn wsL_act (wsV RL 115 RX6 yX6_behind wsX6_behind) := goodIn_app (goodIn_of _ (by decide +kernel)) ggL_act_X6_behind
set_option maxRecDepth 20000 in
theorem ggL_act_X3_pass : GoodIn wsL_act wsX3_pass := goodIn_ca (goodIn_r _ [237, 39, 59, 238, 239, 35, 240, 37, 38, 241, 242, 243, 68, 244, 245, 246, 247, 248, 249, 71, 250, 251, 252, 138, 253, 140, 254, 255, 179, 256, 257, 258, 259, 260, 261, 262, 263, 171, 172, 173, 78, 264, 265, 266, 267, 268, 269, 270, 271, 272, 273, 274, 275, 276, 277, 175, 176, 177, 178, 180, 181, 182, 95, 96, 44, 97, 48, 278, 279, 280, 281, 282, 283, 284, 285, 286, 287, 288, 289, 290, 291, 74, 292, 293, 124, 294, 295, 132, 133, 134, 76, 296, 119, 120, 121, 75, 122, 123, 125, 297, 149, 150, 151, 152, 142, 153, 298, 155, 156, 157, 141, 299, 300, 301, 302, 303, 304, 305, 306, 307, 50, 308, 309, 310, 311, 312, 49, 313, 314, 315, 316, 317, 318, 319, 136, 137, 139, 143, 320, 321, 322, 323, 324, 325, 326, 327, 328, 329, 330, 331, 332, 333, 334, 335, 336, 337, 338, 339, 340, 341, 342, 343, 344, 369, 370, 371, 372, 373, 374, 375, 382, 383, 384, 385, 386, 387, 388, 389, 390, 391, 392, 393, 394, 376, 377, 378, 379, 380, 381] (by decide +kernel) (by decide +kernel)) (goodIn_sub (fun _ h => List.mem_cons_of_mem _ (List.mem_append_left _ (List.mem_append_left _ (List.mem_append_left _ (List.mem_append_left _ (List.mem_append_right _ h)))))) (by decide +kernel))
set_option maxRecDepth 20000 in
theorem gL_act_X3_pass : GoodIn wsL_act (wsV RL 119 RX3 yX3_pass wsX3_pass) := goodIn_app (goodIn_of _ (by decide +kernel)) ggL_act_X3_pass
set_option maxRecDepth 20000 in
theorem ggL_build_X6_init : GoodIn wsL_build wsX6_init := goodIn_r _ [5, 6, 7, 8, 9, 10, 11, 12, 13, 14, 359, 360, 361, 362, 363] (by decide +kernel) (by decide +kernel)
set_option maxRecDepth 20000 in
theorem gL_build_X6_init_n122 : GoodIn wsL_build (wsX6_init) := ggL_build_X6_init
set_option maxRecDepth 20000 in
theorem ggL_build_L_cell : GoodIn wsL_build wsL_cell := goodIn_r _ [18, 19] (by decide +kernel) (by decide +kernel)
set_option maxRecDepth 20000 in
theorem gL_build_L_cell : GoodIn wsL_build (va_wsS RL 123 yL_cell wsL_cell) := goodIn_app (goodIn_of _ (by decide +kernel)) ggL_build_L_cell
