set_option maxRecDepth 20000 in
theorem ggX6_read_X6_forgetRun : GoodIn wsX6_read wsX6_forgetRun := goodIn_r _ [56, 57, 58, 59, 60, 61, 62, 63, 64, 65, 66, 67, 68, 69, 70, 71, 72, 73, 74, 75, 76, 77, 78, 79, 80, 81, 82, 83, 84, 85, 86, 87, 88, 89, 90, 42, 91, 45, 92, 93, 94, 95, 96, 97, 98, 99, 116, 117, 118, 119, 120, 121, 122, 123, 124, 125, 126, 127, 128, 129, 130, 131, 132, 133, 134, 135, 136, 137, 138, 139, 140, 141, 142, 143, 100, 101, 102, 103, 104, 105, 106, 107, 108, 109] (by decide +kernel) (by decide +kernel)
set_option maxRecDepth 20000 in
theorem gX6_read_X6_forgetRun : GoodIn wsX6_read (wsV RX6 80 RX6 yX6_forgetRun wsX6_forgetRun) := goodIn_app (goodIn_of _ (by decide +kernel)) ggX6_read_X6_forgetRun
set_option maxRecDepth 20000 in
theorem ggX6_call_X0_isGroup : GoodIn wsX6_call wsX0_isGroup := goodIn_r _ [6, 7, 34, 35, 36, 37, 38, 39, 40, 41, 42, 43] (by decide +kernel) (by decide +kernel)
set_option maxRecDepth 20000 in
theorem gX6_call_X0_isGroup : GoodIn wsX6_call (wsV RX6 65 RX0 yX0_isGroup wsX0_isGroup) := goodIn_app (goodIn_of _ (by decide +kernel)) ggX6_call_X0_isGroup
set_option maxRecDepth 20000 in
theorem ggX6_call_X6_note : GoodIn wsX6_call wsX6_note := goodIn_r _ [12, 13, 14, 15, 16, 17, 18, 19, 20, 21, 22, 23, 24, 25, 26, 27, 28, 29, 30, 31, 32, 33, 44, 45, 46] (by decide +kernel) (by decide +kernel)
set_option maxRecDepth 20000 in
theorem gX6_call_X6_note : GoodIn wsX6_call (wsV RX6 113 RX6 yX6_note wsX6_note) := goodIn_app (goodIn_of _ (by decide +kernel)) ggX6_call_X6_note
set_option maxRecDepth 20000 in
theorem ggX6_plan_X0_isPlan : GoodIn wsX6_plan wsX0_isPlan := goodIn_r _ [7, 8, 35, 36, 37, 38, 39, 40, 41, 42, 43, 44] (by decide +kernel) (by decide +kernel)
set_option maxRecDepth 20000 in
theorem gX6_plan_X0_isPlan : GoodIn wsX6_plan (wsV RX6 117 RX0 yX0_isPlan wsX0_isPlan) := goodIn_app (goodIn_of _ (by decide +kernel)) ggX6_plan_X0_isPlan
set_option maxRecDepth 20000 in
theorem ggX6_plan_X6_note : GoodIn wsX6_plan wsX6_note := goodIn_r _ [13, 14, 15, 16, 17, 18, 19, 20, 21, 22, 23, 24, 25, 26, 27, 28, 29, 30, 31, 32, 33, 34, 45, 46, 47] (by decide +kernel) (by decide +kernel)
set_option maxRecDepth 20000 in
theorem gX6_plan_X6_note : GoodIn wsX6_plan (wsV RX6 113 RX6 yX6_note wsX6_note) := goodIn_app (goodIn_of _ (by decide +kernel)) ggX6_plan_X6_note
set_option maxRecDepth 20000 in
theorem ggX6_second_X1_take : GoodIn wsX6_second wsX1_take := goodIn_r _ [10, 11, 12, 13, 14, 15, 16, 9, 17, 125, 126, 127] (by decide +kernel) (by decide +kernel)
set_option maxRecDepth 20000 in
theorem gX6_second_X1_take : GoodIn wsX6_second (wsV RX6 123 RX1 yX1_take wsX1_take) := goodIn_app (goodIn_of _ (by decide +kernel)) ggX6_second_X1_take
set_option maxRecDepth 20000 in
theorem ggX6_second_X2_step : GoodIn wsX6_second wsX2_step := goodIn_r _ [22, 23, 24, 25, 26, 27, 28, 29, 30, 31, 32, 33, 34, 35, 21, 36, 37, 38, 39, 40, 41, 42, 43, 44, 45, 46, 47, 48, 49, 50, 51, 52, 53, 54, 55, 56, 57, 58, 59, 60, 61, 62, 63, 64, 65, 66, 67, 68, 69, 70, 71, 72, 73, 74, 75, 76, 77, 78, 79, 80, 81, 82, 83, 84, 85, 86, 87, 88, 89, 90, 91, 92, 93, 94, 95, 96, 97, 98, 99, 100, 101, 102, 103, 104, 105, 106, 107, 128, 129, 130, 131, 132, 133, 134, 135, 136, 137, 115, 116, 117, 118, 119, 120, 121, 122, 123, 124] (by decide +kernel) (by decide +kernel)
set_option maxRecDepth 20000 in
theorem gX6_second_X2_step : GoodIn wsX6_second (wsV RX6 126 RX2 yX2_step wsX2_step) := goodIn_app (goodIn_of _ (by decide +kernel)) ggX6_second_X2_step
set_option maxRecDepth 20000 in
theorem ggX6_told_X2_packed : GoodIn wsX6_told wsX2_packed := goodIn_r _ [10, 11, 12, 13, 14, 15, 16, 17, 63, 64, 65, 66, 67, 68, 69, 70, 71, 72] (by decide +kernel) (by decide +kernel)
set_option maxRecDepth 20000 in
theorem gX6_told_X2_packed : GoodIn wsX6_told (wsV RX6 129 RX2 yX2_packed wsX2_packed) := goodIn_app (goodIn_of _ (by decide +kernel)) ggX6_told_X2_packed
