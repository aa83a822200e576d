set_option maxRecDepth 20000 in
theorem ggX6_behind_X6_pass : GoodIn wsX6_behind wsX6_pass := goodIn_r _ [5, 6, 7, 8, 9, 10, 11, 12, 13, 14, 15, 16, 17, 18, 19, 20, 21, 22, 23, 24, 25, 26, 27, 28, 29, 30, 31, 32, 33, 34, 35, 36, 37, 38, 39, 40, 41, 42, 4, 43, 44, 45, 46, 47, 48, 49, 50, 51, 52, 53, 54, 55, 56, 57, 58, 59, 60, 61, 62, 63, 64, 65, 66, 67, 68] rfl (by decide +kernel)
set_option maxRecDepth 20000 in
theorem gX6_behind_X6_pass : GoodIn wsX6_behind (wsV RX6 103 RX6 yX6_pass wsX6_pass) := goodIn_app (goodIn_of _ (by decide +kernel)) ggX6_behind_X6_pass
set_option maxRecDepth 20000 in
theorem ggX6_isSame_X6_sums : GoodIn wsX6_isSame wsX6_sums := goodIn_r _ [29, 1, 4, 20, 21, 23, 24, 119, 120, 121, 122, 123, 130, 131, 132, 133, 134, 135, 136, 137, 138, 139, 140, 141, 142] (by decide +kernel) (by decide +kernel)
set_option maxRecDepth 20000 in
theorem gX6_isSame_X6_sums : GoodIn wsX6_isSame (wsV RX6 106 RX6 yX6_sums wsX6_sums) := goodIn_app (goodIn_of _ (by decide +kernel)) ggX6_isSame_X6_sums
set_option maxRecDepth 20000 in
theorem ggX6_isSame_X3_count : GoodIn wsX6_isSame wsX3_count := goodIn_ca (goodIn_r _ [34, 35, 36, 37, 38, 39, 40, 41, 42, 43, 44, 45, 46, 47, 48, 49, 50, 51, 52, 53, 54, 55, 56, 57, 58, 59, 60, 61, 62, 63, 64, 65, 66, 67, 68, 69, 70, 71, 143, 144, 145, 146, 147, 148, 149, 150, 151, 152, 153, 154, 155, 156, 157, 158, 159, 160, 161, 162, 163, 164, 165, 166, 167, 168] (by decide +kernel) (by decide +kernel)) (goodIn_sub (fun _ h => List.mem_cons_of_mem _ (List.mem_append_right _ h)) (by decide +kernel))
set_option maxRecDepth 20000 in
theorem gX6_isSame_X3_count : GoodIn wsX6_isSame (wsV RX6 110 RX3 yX3_count wsX3_count) := goodIn_app (goodIn_of _ (by decide +kernel)) ggX6_isSame_X3_count
