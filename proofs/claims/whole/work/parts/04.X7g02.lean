set_option maxRecDepth 20000 in
theorem ggX7_phase_X7_number : GoodIn wsX7_phase wsX7_number := goodIn_r _ [16, 17, 18, 19, 9, 20, 6, 7, 8, 10, 11, 12, 25, 26, 27, 28, 29, 30, 31, 32, 33, 34, 35, 36, 37, 38, 39, 40, 41, 42, 43, 44, 45, 46, 47, 48, 49, 50, 51, 52, 53, 54, 55] (by decide +kernel) (by decide +kernel)
set_option maxRecDepth 20000 in
theorem gX7_phase_X7_number : GoodIn wsX7_phase (wsV RX7 120 RX7 yX7_number wsX7_number) := goodIn_app (goodIn_of _ (by decide +kernel)) ggX7_phase_X7_number
set_option maxRecDepth 20000 in
theorem ggX7_phase_X7_behind : GoodIn wsX7_phase wsX7_behind := goodIn_r _ [24, 17, 18, 19, 9, 20, 6, 7, 8, 10, 11, 12, 25, 26, 27, 28, 29, 30, 31, 32, 33, 34, 35, 36, 37, 38, 39, 40, 41, 42, 43, 44, 45, 46, 47, 48, 49, 50, 51, 52, 53, 54, 55] (by decide +kernel) (by decide +kernel)
set_option maxRecDepth 20000 in
theorem gX7_phase_X7_behind : GoodIn wsX7_phase (wsV RX7 123 RX7 yX7_behind wsX7_behind) := goodIn_app (goodIn_of _ (by decide +kernel)) ggX7_phase_X7_behind
set_option maxRecDepth 20000 in
theorem ggX7_read_X7_phase : GoodIn wsX7_read wsX7_phase := goodIn_r _ [13, 14, 7, 4, 5, 6, 15, 16, 17, 12, 18, 2, 19, 20, 21, 22, 23, 24, 25, 26, 27, 28, 29, 30, 31, 46, 47, 48, 49, 50, 51, 52, 53, 54, 55, 56, 57, 58, 59, 60, 61, 62, 63, 64, 65, 66, 67, 68, 69, 70, 71, 72, 73, 74, 75, 76] (by decide +kernel) (by decide +kernel)
set_option maxRecDepth 20000 in
theorem gX7_read_X7_phase : GoodIn wsX7_read (wsV RX7 126 RX7 yX7_phase wsX7_phase) := goodIn_app (goodIn_of _ (by decide +kernel)) ggX7_read_X7_phase
set_option maxRecDepth 20000 in
theorem ggX7_read_X7_sign : GoodIn wsX7_read wsX7_sign := goodIn_r _ [18, 2, 19, 46, 47, 48, 49, 50, 51, 52, 53, 54, 55, 56, 57, 58, 59, 60, 61, 62, 63, 64, 65, 66, 67, 68, 69, 70, 71, 72, 73, 74, 75, 76] (by decide +kernel) (by decide +kernel)
set_option maxRecDepth 20000 in
theorem gX7_read_X7_sign : GoodIn wsX7_read (wsV RX7 110 RX7 yX7_sign wsX7_sign) := goodIn_app (goodIn_of _ (by decide +kernel)) ggX7_read_X7_sign
set_option maxRecDepth 20000 in
theorem ggX7_read_X7_anew : GoodIn wsX7_read wsX7_anew := goodIn_r _ [35, 36, 37, 38, 39, 40, 41, 42, 43, 44, 12, 45, 14, 3, 4, 46, 47, 48, 49, 50, 51, 52, 53, 54, 55, 56, 57, 58, 59, 60, 61, 62, 63, 64, 65, 66, 67, 68, 69, 70, 71, 72, 73, 74, 75, 76] (by decide +kernel) (by decide +kernel)
set_option maxRecDepth 20000 in
theorem gX7_read_X7_anew : GoodIn wsX7_read (wsV RX7 91 RX7 yX7_anew wsX7_anew) := goodIn_app (goodIn_of _ (by decide +kernel)) ggX7_read_X7_anew
set_option maxRecDepth 20000 in
theorem ggX7_shownNow_X7_groupsOf : GoodIn wsX7_shownNow wsX7_groupsOf := goodIn_r _ [6, 7, 8, 9, 10, 11, 12, 13, 14, 15, 16, 17, 18, 19, 20, 21, 22, 23, 24, 25, 26, 27, 28, 29, 30, 31, 32, 33, 34, 35, 36, 37, 38] (by decide +kernel) (by decide +kernel)
set_option maxRecDepth 20000 in
theorem gX7_shownNow_X7_groupsOf : GoodIn wsX7_shownNow (wsV RX7 130 RX7 yX7_groupsOf wsX7_groupsOf) := goodIn_app (goodIn_of _ (by decide +kernel)) ggX7_shownNow_X7_groupsOf
set_option maxRecDepth 20000 in
theorem ggX7_comes_X7_groupsOf : GoodIn wsX7_comes wsX7_groupsOf := goodIn_r _ [7, 8, 9, 10, 11, 12, 13, 14, 15, 16, 17, 18, 19, 20, 21, 22, 23, 24, 25, 26, 27, 28, 29, 30, 31, 32, 33, 34, 35, 36, 37, 38, 39] (by decide +kernel) (by decide +kernel)
set_option maxRecDepth 20000 in
theorem gX7_comes_X7_groupsOf : GoodIn wsX7_comes (wsV RX7 130 RX7 yX7_groupsOf wsX7_groupsOf) := goodIn_app (goodIn_of _ (by decide +kernel)) ggX7_comes_X7_groupsOf
