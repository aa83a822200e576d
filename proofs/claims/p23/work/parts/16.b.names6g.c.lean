set_option maxRecDepth 20000 in
theorem ggX6_isSame_X3_about : GoodIn wsX6_isSame wsX3_about := goodIn_ca (goodIn_r _ [75, 35, 36, 37, 39, 76, 77, 78, 79, 80, 81, 82, 83, 33, 84, 85, 86, 87, 88, 89, 90, 143, 144, 145, 146, 147, 148, 149, 150, 151, 152, 153, 154, 155] (by decide +kernel) (by decide +kernel)) (goodIn_sub (fun _ h => List.mem_cons_of_mem _ (List.mem_append_right _ h)) (by decide +kernel))
set_option maxRecDepth 20000 in
theorem gX6_isSame_X3_about : GoodIn wsX6_isSame (wsV RX6 116 RX3 yX3_about wsX3_about) := goodIn_app (goodIn_of _ (by decide +kernel)) ggX6_isSame_X3_about
set_option maxRecDepth 20000 in
theorem ggX6_isSame_X3_told : GoodIn wsX6_isSame wsX3_told := goodIn_ca (goodIn_r _ [94, 35, 36, 37, 41, 95, 96, 97, 98, 99, 100, 101, 102, 103, 104, 105, 106, 107, 108, 33, 109, 42, 143, 144, 145, 146, 147, 148, 149, 156, 157, 158, 159, 160, 161, 162, 163, 164, 165, 166, 167, 168] (by decide +kernel) (by decide +kernel)) (goodIn_sub (fun _ h => List.mem_cons_of_mem _ (List.mem_append_right _ h)) (by decide +kernel))
set_option maxRecDepth 20000 in
theorem gX6_isSame_X3_told : GoodIn wsX6_isSame (wsV RX6 120 RX3 yX3_told wsX3_told) := goodIn_app (goodIn_of _ (by decide +kernel)) ggX6_isSame_X3_told
set_option maxRecDepth 20000 in
theorem ggX6_isSame_X3_mean : GoodIn wsX6_isSame wsX3_mean := goodIn_r _ [113, 37, 41, 42, 114, 115, 116, 54, 117, 118, 63, 64, 65, 66, 56, 143, 144, 145, 146, 147, 148, 149, 156, 157, 158, 159, 160, 161, 162, 163, 164, 165, 166, 167, 168] (by decide +kernel) (by decide +kernel)
set_option maxRecDepth 20000 in
theorem gX6_isSame_X3_mean : GoodIn wsX6_isSame (wsV RX6 123 RX3 yX3_mean wsX3_mean) := goodIn_app (goodIn_of _ (by decide +kernel)) ggX6_isSame_X3_mean
