set_option maxRecDepth 20000 in
theorem ggX6_row_X4_rowEntry : GoodIn wsX6_row wsX4_rowEntry := goodIn_r _ [6, 7, 8, 9, 10, 11, 12, 13, 14, 15, 16, 17, 18, 19, 20, 21, 22, 23, 24, 25, 26, 27, 28, 29, 30, 31, 32, 5, 33, 34, 35, 36, 37, 38, 39, 40, 41, 42, 43, 44, 45, 46, 47, 48, 49, 57, 58, 59, 60, 61, 62, 63, 64, 65, 66, 67, 68, 69, 70, 71, 72, 73, 74, 75, 76, 77, 78, 79, 80, 81, 82, 83, 84, 85, 86, 87, 88, 89, 90, 91] rfl (by decide +kernel)
set_option maxRecDepth 20000 in
theorem gX6_row_X4_rowEntry : GoodIn wsX6_row (wsV RX6 153 RX4 yX4_rowEntry wsX4_rowEntry) := goodIn_app (goodIn_of _ (by decide +kernel)) ggX6_row_X4_rowEntry
set_option maxRecDepth 20000 in
theorem ggX6_longest_X0_isGroup : GoodIn wsX6_longest wsX0_isGroup := goodIn_r _ [9, 10, 33, 34, 35, 36, 37, 38, 39, 40, 41, 42] rfl (by decide +kernel)
set_option maxRecDepth 20000 in
theorem gX6_longest_X0_isGroup : GoodIn wsX6_longest (wsV RX6 65 RX0 yX0_isGroup wsX0_isGroup) := goodIn_app (goodIn_of _ (by decide +kernel)) ggX6_longest_X0_isGroup
set_option maxRecDepth 20000 in
theorem ggX6_answered_X6_ring : GoodIn wsX6_answered wsX6_ring := goodIn_r _ [7, 1, 2, 8, 9, 10, 11, 12, 13, 14, 15, 16, 17, 18, 19, 20, 21, 22, 23, 24, 25, 26, 27, 28, 29, 30, 31, 32, 33, 34, 35, 36, 37, 38, 39, 40, 41, 42] rfl (by decide +kernel)
set_option maxRecDepth 20000 in
theorem gX6_answered_X6_ring : GoodIn wsX6_answered (wsV RX6 163 RX6 yX6_ring wsX6_ring) := goodIn_app (goodIn_of _ (by decide +kernel)) ggX6_answered_X6_ring
set_option maxRecDepth 20000 in
theorem ggX6_same_X2_packed : GoodIn wsX6_same wsX2_packed := goodIn_r _ [13, 14, 15, 16, 17, 18, 19, 20, 166, 167, 168, 169, 170, 171, 172, 173, 174, 175] rfl (by decide +kernel)
set_option maxRecDepth 20000 in
theorem gX6_same_X2_packed : GoodIn wsX6_same (wsV RX6 129 RX2 yX2_packed wsX2_packed) := goodIn_app (goodIn_of _ (by decide +kernel)) ggX6_same_X2_packed
set_option maxRecDepth 20000 in
theorem ggX6_same_X2_unpack : GoodIn wsX6_same wsX2_unpack := goodIn_r _ [24, 20, 19, 18, 17, 16, 15, 14, 25, 26, 12, 27, 166, 167, 168, 169, 170, 171, 172, 173, 174, 175] rfl (by decide +kernel)
set_option maxRecDepth 20000 in
theorem gX6_same_X2_unpack : GoodIn wsX6_same (wsV RX6 166 RX2 yX2_unpack wsX2_unpack) := goodIn_app (goodIn_of _ (by decide +kernel)) ggX6_same_X2_unpack
set_option maxRecDepth 20000 in
theorem ggX6_same_X4_numberOf : GoodIn wsX6_same wsX4_numberOf := goodIn_r _ [32, 33, 34, 35, 36, 31, 37, 38, 39, 151, 152, 153, 154, 155, 156, 157, 158, 159, 160, 161, 162, 163, 164, 165] rfl (by decide +kernel)
set_option maxRecDepth 20000 in
theorem gX6_same_X4_numberOf : GoodIn wsX6_same (wsV RX6 133 RX4 yX4_numberOf wsX4_numberOf) := goodIn_app (goodIn_of _ (by decide +kernel)) ggX6_same_X4_numberOf
set_option maxRecDepth 20000 in
theorem ggX6_same_X1_eventOf : GoodIn wsX6_same wsX1_eventOf := goodIn_r _ [44, 45, 46, 47, 48, 43, 49, 50, 51, 176, 177, 178] rfl (by decide +kernel)
set_option maxRecDepth 20000 in
theorem gX6_same_X1_eventOf : GoodIn wsX6_same (wsV RX6 123 RX1 yX1_eventOf wsX1_eventOf) := goodIn_app (goodIn_of _ (by decide +kernel)) ggX6_same_X1_eventOf
set_option maxRecDepth 20000 in
theorem ggX6_same_X2_step : GoodIn wsX6_same wsX2_step := goodIn_r _ [55, 56, 57, 18, 17, 19, 58, 59, 60, 61, 20, 62, 63, 64, 12, 65, 66, 67, 15, 16, 68, 69, 70, 71, 72, 73, 74, 75, 76, 77, 78, 79, 80, 81, 82, 83, 84, 85, 86, 87, 88, 89, 90, 91, 14, 92, 93, 94, 95, 96, 97, 98, 99, 100, 101, 102, 103, 104, 105, 106, 107, 108, 109, 110, 111, 112, 113, 114, 115, 116, 117, 118, 119, 120, 121, 122, 123, 124, 125, 126, 127, 128, 129, 130, 131, 132, 133, 166, 167, 168, 169, 170, 171, 172, 173, 174, 175, 141, 142, 143, 144, 145, 146, 147, 148, 149, 150] rfl (by decide +kernel)
set_option maxRecDepth 20000 in
theorem gX6_same_X2_step : GoodIn wsX6_same (wsV RX6 126 RX2 yX2_step wsX2_step) := goodIn_app (goodIn_of _ (by decide +kernel)) ggX6_same_X2_step
set_option maxRecDepth 20000 in
theorem ggX6_startAnew_X0_clear : GoodIn wsX6_startAnew wsX0_clear := goodIn_r _ [8, 9, 10, 11, 12, 13, 14, 15, 16, 17, 18, 19, 20, 72, 73, 74, 75, 76, 77, 78, 79, 80, 81] rfl (by decide +kernel)
set_option maxRecDepth 20000 in
theorem gX6_startAnew_X0_clear : GoodIn wsX6_startAnew (wsV RX6 172 RX0 yX0_clear wsX0_clear) := goodIn_app (goodIn_of _ (by decide +kernel)) ggX6_startAnew_X0_clear
set_option maxRecDepth 20000 in
theorem ggX6_startAnew_X6_forgetRun : GoodIn wsX6_startAnew wsX6_forgetRun := goodIn_r _ [25, 26, 27, 28, 29, 30, 31, 32, 33, 34, 35, 36, 37, 38, 39, 18, 19, 20, 40, 41, 42, 43, 44, 45, 46, 47, 48, 49, 50, 51, 52, 53, 54, 55, 56, 7, 57, 16, 58, 59, 60, 61, 62, 63, 64, 65, 82, 83, 84, 85, 86, 87, 88, 89, 90, 91, 92, 93, 94, 95, 96, 97, 98, 99, 100, 101, 102, 103, 104, 105, 106, 107, 108, 109, 72, 73, 74, 75, 76, 77, 78, 79, 80, 81] rfl (by decide +kernel)
set_option maxRecDepth 20000 in
theorem gX6_startAnew_X6_forgetRun : GoodIn wsX6_startAnew (wsV RX6 80 RX6 yX6_forgetRun wsX6_forgetRun) := goodIn_app (goodIn_of _ (by decide +kernel)) ggX6_startAnew_X6_forgetRun
set_option maxRecDepth 20000 in
theorem ggX6_forgetRun_X4_forget : GoodIn wsX6_forgetRun wsX4_forget := goodIn_r _ [10, 11, 12, 13, 14, 15, 16, 17, 49, 50, 51, 52, 53, 54, 55, 56, 57, 58, 59, 60, 61, 62, 63] rfl (by decide +kernel)
set_option maxRecDepth 20000 in
theorem gX6_forgetRun_X4_forget : GoodIn wsX6_forgetRun (wsV RX6 144 RX4 yX4_forget wsX4_forget) := goodIn_app (goodIn_of _ (by decide +kernel)) ggX6_forgetRun_X4_forget
set_option maxRecDepth 20000 in
theorem ggX6_forgetRun_X2_reset : GoodIn wsX6_forgetRun wsX2_reset := goodIn_r _ [22, 23, 24, 25, 26, 27, 28, 29, 30, 31, 32, 33, 34, 35, 36, 37, 38, 15, 16, 17, 64, 65, 66, 67, 68, 69, 70, 71, 72, 73, 74, 75, 76, 77, 78, 79, 80, 81, 82, 83] rfl (by decide +kernel)
set_option maxRecDepth 20000 in
theorem gX6_forgetRun_X2_reset : GoodIn wsX6_forgetRun (wsV RX6 178 RX2 yX2_reset wsX2_reset) := goodIn_app (goodIn_of _ (by decide +kernel)) ggX6_forgetRun_X2_reset
set_option maxRecDepth 20000 in
theorem ggX6_note_X1_add : GoodIn wsX6_note wsX1_add := goodIn_r _ [7, 8, 9, 10, 11, 12, 13, 6, 14, 22, 23, 24] rfl (by decide +kernel)
set_option maxRecDepth 20000 in
theorem gX6_note_X1_add : GoodIn wsX6_note (wsV RX6 181 RX1 yX1_add wsX1_add) := goodIn_app (goodIn_of _ (by decide +kernel)) ggX6_note_X1_add
