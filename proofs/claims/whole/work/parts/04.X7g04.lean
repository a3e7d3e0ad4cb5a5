set_option maxRecDepth 20000 in
theorem ggX7_call_X7_tell : GoodIn wsX7_call wsX7_tell := goodIn_r _ [11, 12, 13, 14, 15, 16, 17, 18, 19, 20, 21, 22, 23, 24, 25, 26, 27, 28, 29, 30, 31, 32, 33, 34, 35, 36, 37, 38, 39, 40, 41, 42, 43, 44, 45, 46] (by decide +kernel) (by decide +kernel)
set_option maxRecDepth 20000 in
theorem gX7_call_X7_tell : GoodIn wsX7_call (wsV RX7 146 RX7 yX7_tell wsX7_tell) := goodIn_app (goodIn_of _ (by decide +kernel)) ggX7_call_X7_tell
set_option maxRecDepth 20000 in
theorem ggX7_plan_X7_tell : GoodIn wsX7_plan wsX7_tell := goodIn_r _ [8, 9, 10, 11, 12, 13, 14, 15, 16, 17, 18, 19, 20, 21, 22, 23, 24, 25, 26, 27, 28, 29, 30, 31, 32, 33, 34, 35, 36, 37, 38, 39, 40, 41, 42, 43] (by decide +kernel) (by decide +kernel)
set_option maxRecDepth 20000 in
theorem gX7_plan_X7_tell : GoodIn wsX7_plan (wsV RX7 146 RX7 yX7_tell wsX7_tell) := goodIn_app (goodIn_of _ (by decide +kernel)) ggX7_plan_X7_tell
set_option maxRecDepth 20000 in
theorem ggX7_second_X7_take : GoodIn wsX7_second wsX7_take := goodIn_r _ [10, 5, 4, 52, 53, 54, 55, 56, 57, 58, 59, 60, 61, 62, 63, 64, 65, 66, 67, 68, 69, 70, 71, 72, 73, 74, 75, 76, 77, 78, 79, 80, 81, 82] (by decide +kernel) (by decide +kernel)
set_option maxRecDepth 20000 in
theorem gX7_second_X7_take : GoodIn wsX7_second (wsV RX7 150 RX7 yX7_take wsX7_take) := goodIn_app (goodIn_of _ (by decide +kernel)) ggX7_second_X7_take
set_option maxRecDepth 20000 in
theorem ggX7_second_X7_eventOf : GoodIn wsX7_second wsX7_eventOf := goodIn_r _ [14, 15, 16, 17, 52, 53, 54, 55, 56, 57, 58, 59, 60, 61, 62, 63, 64, 65, 66, 67, 68, 69, 70, 71, 72, 73, 74, 75, 76, 77, 78, 79, 80, 81, 82] (by decide +kernel) (by decide +kernel)
set_option maxRecDepth 20000 in
theorem gX7_second_X7_eventOf : GoodIn wsX7_second (wsV RX7 153 RX7 yX7_eventOf wsX7_eventOf) := goodIn_app (goodIn_of _ (by decide +kernel)) ggX7_second_X7_eventOf
set_option maxRecDepth 20000 in
theorem ggX7_second_X7_go : GoodIn wsX7_second wsX7_go := goodIn_r _ [21, 22, 5, 23, 24, 25, 26, 27, 28, 29, 9, 30, 31, 32, 33, 34, 35, 36, 37, 38, 39, 40, 41, 42, 43, 44, 45, 46, 47, 48, 49, 50, 51, 52, 53, 54, 55, 56, 57, 58, 59, 60, 61, 62, 63, 64, 65, 66, 67, 68, 69, 70, 71, 72, 73, 74, 75, 76, 77, 78, 79, 80, 81, 82] (by decide +kernel) (by decide +kernel)
set_option maxRecDepth 20000 in
theorem gX7_second_X7_go : GoodIn wsX7_second (wsV RX7 156 RX7 yX7_go wsX7_go) := goodIn_app (goodIn_of _ (by decide +kernel)) ggX7_second_X7_go
set_option maxRecDepth 20000 in
theorem ggX7_told_X7_take : GoodIn wsX7_told wsX7_take := goodIn_r _ [10, 5, 11, 27, 28, 29, 30, 31, 32, 33, 34, 35, 36, 37, 38, 39, 40, 41, 42, 43, 44, 45, 46, 47, 48, 49, 50, 51, 52, 53, 54, 55, 56, 57] (by decide +kernel) (by decide +kernel)
set_option maxRecDepth 20000 in
theorem gX7_told_X7_take : GoodIn wsX7_told (wsV RX7 150 RX7 yX7_take wsX7_take) := goodIn_app (goodIn_of _ (by decide +kernel)) ggX7_told_X7_take
set_option maxRecDepth 20000 in
theorem ggX7_told_X7_shownNow : GoodIn wsX7_told wsX7_shownNow := goodIn_r _ [15, 5, 16, 17, 18, 9, 19, 20, 27, 28, 29, 30, 31, 32, 33, 34, 35, 36, 37, 38, 39, 40, 41, 42, 43, 44, 45, 46, 47, 48, 49, 50, 51, 52, 53, 54, 55, 56, 57] (by decide +kernel) (by decide +kernel)
set_option maxRecDepth 20000 in
theorem gX7_told_X7_shownNow : GoodIn wsX7_told (wsV RX7 136 RX7 yX7_shownNow wsX7_shownNow) := goodIn_app (goodIn_of _ (by decide +kernel)) ggX7_told_X7_shownNow
