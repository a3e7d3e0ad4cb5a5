set_option maxRecDepth 20000 in
theorem ggX7_init_X7_begin : GoodIn wsX7_init wsX7_begin := goodIn_r _ [31, 32, 33, 5, 7, 8, 9, 34, 35, 36, 37, 38, 30, 39, 40, 41, 20, 42, 17, 18, 43, 44, 45, 46, 11, 47, 48, 49, 50, 51, 52, 53, 54, 55, 56, 57, 58, 59, 60, 61, 62, 63, 64, 65, 66, 67, 68, 69, 70, 71, 72, 73, 74, 75, 76, 77] (by decide +kernel) (by decide +kernel)
set_option maxRecDepth 20000 in
theorem gX7_init_X7_begin : GoodIn wsX7_init (wsV RX7 75 RX7 yX7_begin wsX7_begin) := goodIn_app (goodIn_of _ (by decide +kernel)) ggX7_init_X7_begin
set_option maxRecDepth 20000 in
theorem ggX7_begin_X7_anew : GoodIn wsX7_begin wsX7_anew := goodIn_r _ [13, 14, 15, 16, 17, 18, 19, 20, 21, 22, 12, 23, 2, 7, 24, 25, 26, 27, 28, 29, 30, 31, 32, 33, 34, 35, 36, 37, 38, 39, 40, 41, 42, 43, 44, 45, 46, 47, 48, 49, 50, 51, 52, 53, 54, 55] (by decide +kernel) (by decide +kernel)
set_option maxRecDepth 20000 in
theorem gX7_begin_X7_anew : GoodIn wsX7_begin (wsV RX7 91 RX7 yX7_anew wsX7_anew) := goodIn_app (goodIn_of _ (by decide +kernel)) ggX7_begin_X7_anew
set_option maxRecDepth 20000 in
theorem ggX7_anew_X7_first : GoodIn wsX7_anew wsX7_first := goodIn_r _ [11, 6, 12, 13, 14, 15, 16, 17, 18, 19, 20, 21, 22, 23, 24, 25, 26, 27, 28, 29, 30, 31, 32, 33, 34, 35, 36, 37, 38, 39, 40, 41, 42, 43, 44, 45] (by decide +kernel) (by decide +kernel)
set_option maxRecDepth 20000 in
theorem gX7_anew_X7_first : GoodIn wsX7_anew (wsV RX7 103 RX7 yX7_first wsX7_first) := goodIn_app (goodIn_of _ (by decide +kernel)) ggX7_anew_X7_first
set_option maxRecDepth 20000 in
theorem ggX7_clash_X7_isGroup : GoodIn wsX7_clash wsX7_isGroup := goodIn_r _ [8, 9, 26, 27, 28, 29, 30, 31, 32, 33, 34, 35, 36, 37, 38, 39, 40, 41, 42, 43, 44, 45, 46, 47, 48, 49, 50, 51, 52, 53, 54, 55, 56] (by decide +kernel) (by decide +kernel)
set_option maxRecDepth 20000 in
theorem gX7_clash_X7_isGroup : GoodIn wsX7_clash (wsV RX7 106 RX7 yX7_isGroup wsX7_isGroup) := goodIn_app (goodIn_of _ (by decide +kernel)) ggX7_clash_X7_isGroup
set_option maxRecDepth 20000 in
theorem ggX7_clash_X7_anew : GoodIn wsX7_clash wsX7_anew := goodIn_r _ [13, 14, 15, 16, 17, 18, 19, 20, 21, 22, 7, 23, 9, 24, 25, 26, 27, 28, 29, 30, 31, 32, 33, 34, 35, 36, 37, 38, 39, 40, 41, 42, 43, 44, 45, 46, 47, 48, 49, 50, 51, 52, 53, 54, 55, 56] (by decide +kernel) (by decide +kernel)
set_option maxRecDepth 20000 in
theorem gX7_clash_X7_anew : GoodIn wsX7_clash (wsV RX7 91 RX7 yX7_anew wsX7_anew) := goodIn_app (goodIn_of _ (by decide +kernel)) ggX7_clash_X7_anew
set_option maxRecDepth 20000 in
theorem ggX7_least_X7_isGroup : GoodIn wsX7_least wsX7_isGroup := goodIn_r _ [7, 8, 25, 26, 27, 28, 29, 30, 31, 32, 33, 34, 35, 36, 37, 38, 39, 40, 41, 42, 43, 44, 45, 46, 47, 48, 49, 50, 51, 52, 53, 54, 55] (by decide +kernel) (by decide +kernel)
set_option maxRecDepth 20000 in
theorem gX7_least_X7_isGroup : GoodIn wsX7_least (wsV RX7 106 RX7 yX7_isGroup wsX7_isGroup) := goodIn_app (goodIn_of _ (by decide +kernel)) ggX7_least_X7_isGroup
set_option maxRecDepth 20000 in
theorem ggX7_least_X7_anew : GoodIn wsX7_least wsX7_anew := goodIn_r _ [12, 13, 14, 15, 16, 17, 18, 19, 20, 21, 6, 22, 8, 23, 24, 25, 26, 27, 28, 29, 30, 31, 32, 33, 34, 35, 36, 37, 38, 39, 40, 41, 42, 43, 44, 45, 46, 47, 48, 49, 50, 51, 52, 53, 54, 55] (by decide +kernel) (by decide +kernel)
set_option maxRecDepth 20000 in
theorem gX7_least_X7_anew : GoodIn wsX7_least (wsV RX7 91 RX7 yX7_anew wsX7_anew) := goodIn_app (goodIn_of _ (by decide +kernel)) ggX7_least_X7_anew
