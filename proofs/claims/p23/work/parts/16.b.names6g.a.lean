set_option maxRecDepth 20000 in
theorem ggX6_pass_X5_up : GoodIn wsX6_pass wsX5_up := goodIn_r _ [26, 27, 28, 29, 46, 47, 48, 49, 50, 51, 52, 53, 54, 55, 56, 57, 58, 59, 60, 61, 62, 63, 64] (by decide +kernel) (by decide +kernel)
set_option maxRecDepth 20000 in
theorem gX6_pass_X5_up : GoodIn wsX6_pass (wsV RX6 92 RX5 yX5_up wsX5_up) := goodIn_app (goodIn_of _ (by decide +kernel)) ggX6_pass_X5_up
set_option maxRecDepth 20000 in
theorem ggX6_pass_X5_gets : GoodIn wsX6_pass wsX5_gets := goodIn_r _ [33, 34, 46, 47, 48, 49, 50, 51, 52, 53, 54, 55, 56, 57, 58] (by decide +kernel) (by decide +kernel)
set_option maxRecDepth 20000 in
theorem gX6_pass_X5_gets : GoodIn wsX6_pass (wsV RX6 95 RX5 yX5_gets wsX5_gets) := goodIn_app (goodIn_of _ (by decide +kernel)) ggX6_pass_X5_gets
set_option maxRecDepth 20000 in
theorem ggX6_pass_X6_free : GoodIn wsX6_pass wsX6_free := goodIn_r _ [39, 40, 18, 21, 14, 46, 47, 48, 49, 50, 51, 52, 53, 54, 55, 56, 57, 58, 59, 60, 61, 62, 63, 64, 41, 42, 43, 44, 45] (by decide +kernel) (by decide +kernel)
set_option maxRecDepth 20000 in
theorem gX6_pass_X6_free : GoodIn wsX6_pass (wsV RX6 99 RX6 yX6_free wsX6_free) := goodIn_app (goodIn_of _ (by decide +kernel)) ggX6_pass_X6_free
