set_option maxRecDepth 20000 in
theorem ggX7_end_X7_groupsOf : GoodIn wsX7_end wsX7_groupsOf := goodIn_r _ [10, 11, 16, 17, 18, 19, 20, 21, 22, 23, 24, 25, 26, 27, 28, 29, 30, 31, 32, 33, 34, 35, 36, 37, 38, 39, 40, 41, 42, 43, 44, 45, 46] (by decide +kernel) (by decide +kernel)
set_option maxRecDepth 20000 in
theorem gX7_end_X7_groupsOf : GoodIn wsX7_end (wsV RX7 130 RX7 yX7_groupsOf wsX7_groupsOf) := goodIn_app (goodIn_of _ (by decide +kernel)) ggX7_end_X7_groupsOf
set_option maxRecDepth 20000 in
theorem ggX7_end_X7_comes : GoodIn wsX7_end wsX7_comes := goodIn_r _ [15, 1, 3, 6, 7, 8, 9, 10, 11, 16, 17, 18, 19, 20, 21, 22, 23, 24, 25, 26, 27, 28, 29, 30, 31, 32, 33, 34, 35, 36, 37, 38, 39, 40, 41, 42, 43, 44, 45, 46] (by decide +kernel) (by decide +kernel)
set_option maxRecDepth 20000 in
theorem gX7_end_X7_comes : GoodIn wsX7_end (wsV RX7 133 RX7 yX7_comes wsX7_comes) := goodIn_app (goodIn_of _ (by decide +kernel)) ggX7_end_X7_comes
set_option maxRecDepth 20000 in
theorem ggX7_go_X7_shownNow : GoodIn wsX7_go wsX7_shownNow := goodIn_r _ [11, 2, 12, 13, 14, 10, 15, 4, 33, 34, 35, 36, 37, 38, 39, 40, 41, 42, 43, 44, 45, 46, 47, 48, 49, 50, 51, 52, 53, 54, 55, 56, 57, 58, 59, 60, 61, 62, 63] (by decide +kernel) (by decide +kernel)
set_option maxRecDepth 20000 in
theorem gX7_go_X7_shownNow : GoodIn wsX7_go (wsV RX7 136 RX7 yX7_shownNow wsX7_shownNow) := goodIn_app (goodIn_of _ (by decide +kernel)) ggX7_go_X7_shownNow
set_option maxRecDepth 20000 in
theorem ggX7_go_X7_comes : GoodIn wsX7_go wsX7_comes := goodIn_r _ [19, 2, 3, 12, 13, 14, 10, 15, 4, 33, 34, 35, 36, 37, 38, 39, 40, 41, 42, 43, 44, 45, 46, 47, 48, 49, 50, 51, 52, 53, 54, 55, 56, 57, 58, 59, 60, 61, 62, 63] (by decide +kernel) (by decide +kernel)
set_option maxRecDepth 20000 in
theorem gX7_go_X7_comes : GoodIn wsX7_go (wsV RX7 133 RX7 yX7_comes wsX7_comes) := goodIn_app (goodIn_of _ (by decide +kernel)) ggX7_go_X7_comes
set_option maxRecDepth 20000 in
theorem ggX7_go_X7_end : GoodIn wsX7_go wsX7_end := goodIn_r _ [23, 2, 24, 3, 25, 26, 12, 13, 14, 10, 15, 4, 16, 17, 18, 19, 33, 34, 35, 36, 37, 38, 39, 40, 41, 42, 43, 44, 45, 46, 47, 48, 49, 50, 51, 52, 53, 54, 55, 56, 57, 58, 59, 60, 61, 62, 63] (by decide +kernel) (by decide +kernel)
set_option maxRecDepth 20000 in
theorem gX7_go_X7_end : GoodIn wsX7_go (wsV RX7 140 RX7 yX7_end wsX7_end) := goodIn_app (goodIn_of _ (by decide +kernel)) ggX7_go_X7_end
set_option maxRecDepth 20000 in
theorem ggX7_go_X7_fault : GoodIn wsX7_go wsX7_fault := goodIn_r _ [30, 3, 25, 2, 26, 1, 31, 32, 33, 34, 35, 36, 37, 38, 39, 40, 41, 42, 43, 44, 45, 46, 47, 48, 49, 50, 51, 52, 53, 54, 55, 56, 57, 58, 59, 60, 61, 62, 63] (by decide +kernel) (by decide +kernel)
set_option maxRecDepth 20000 in
theorem gX7_go_X7_fault : GoodIn wsX7_go (wsV RX7 143 RX7 yX7_fault wsX7_fault) := goodIn_app (goodIn_of _ (by decide +kernel)) ggX7_go_X7_fault
set_option maxRecDepth 20000 in
theorem ggX7_call_X7_isGroup : GoodIn wsX7_call wsX7_isGroup := goodIn_r _ [6, 7, 16, 17, 18, 19, 20, 21, 22, 23, 24, 25, 26, 27, 28, 29, 30, 31, 32, 33, 34, 35, 36, 37, 38, 39, 40, 41, 42, 43, 44, 45, 46] (by decide +kernel) (by decide +kernel)
set_option maxRecDepth 20000 in
theorem gX7_call_X7_isGroup : GoodIn wsX7_call (wsV RX7 106 RX7 yX7_isGroup wsX7_isGroup) := goodIn_app (goodIn_of _ (by decide +kernel)) ggX7_call_X7_isGroup
