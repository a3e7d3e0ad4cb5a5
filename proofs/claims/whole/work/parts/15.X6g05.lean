set_option maxRecDepth 20000 in
theorem ggX6_forgetRun_X4_forget : GoodIn wsX6_forgetRun wsX4_forget := goodIn_r _ [10, 11, 12, 13, 14, 15, 16, 17, 49, 50, 51, 52, 53, 54, 55, 56, 57, 58, 59, 60, 61, 62, 63] (by decide +kernel) (by decide +kernel)
set_option maxRecDepth 20000 in
theorem gX6_forgetRun_X4_forget : GoodIn wsX6_forgetRun (wsV RX6 144 RX4 yX4_forget wsX4_forget) := goodIn_app (goodIn_of _ (by decide +kernel)) ggX6_forgetRun_X4_forget
set_option maxRecDepth 20000 in
theorem ggX6_forgetRun_X2_reset : GoodIn wsX6_forgetRun wsX2_reset := goodIn_r _ [22, 23, 24, 25, 26, 27, 28, 29, 30, 31, 32, 33, 34, 35, 36, 37, 38, 15, 16, 17, 64, 65, 66, 67, 68, 69, 70, 71, 72, 73, 74, 75, 76, 77, 78, 79, 80, 81, 82, 83] (by decide +kernel) (by decide +kernel)
set_option maxRecDepth 20000 in
theorem gX6_forgetRun_X2_reset : GoodIn wsX6_forgetRun (wsV RX6 181 RX2 yX2_reset wsX2_reset) := goodIn_app (goodIn_of _ (by decide +kernel)) ggX6_forgetRun_X2_reset
set_option maxRecDepth 20000 in
theorem ggX6_note_X1_add : GoodIn wsX6_note wsX1_add := goodIn_r _ [7, 8, 9, 10, 11, 12, 13, 6, 14, 22, 23, 24] (by decide +kernel) (by decide +kernel)
set_option maxRecDepth 20000 in
theorem gX6_note_X1_add : GoodIn wsX6_note (wsV RX6 184 RX1 yX1_add wsX1_add) := goodIn_app (goodIn_of _ (by decide +kernel)) ggX6_note_X1_add
