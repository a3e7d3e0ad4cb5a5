set_option maxRecDepth 20000 in
theorem ggX7_init_X7_begin : GoodIn wsX7_init wsX7_begin := goodIn_r _ [31, 32, 33, 5, 7, 8, 9, 34, 35, 36, 37, 38, 30, 39, 40, 41, 20, 42, 17, 18, 43, 44, 45, 46, 11, 47, 48, 49, 50, 51, 52, 53, 54, 55, 56, 57, 58, 59, 60, 61, 62, 63, 64, 65, 66, 67, 68, 69, 70, 71, 72, 73, 74, 75, 76, 77] rfl (by decide +kernel)
set_option maxRecDepth 20000 in
theorem gX7_init_X7_begin : GoodIn wsX7_init (wsV RX7 75 RX7 yX7_begin wsX7_begin) := goodIn_app (goodIn_of _ (by decide +kernel)) ggX7_init_X7_begin
set_option maxRecDepth 20000 in
theorem ggX7_begin_X7_anew : GoodIn wsX7_begin wsX7_anew := goodIn_r _ [13, 14, 15, 16, 17, 18, 19, 20, 21, 22, 12, 23, 2, 7, 24, 25, 26, 27, 28, 29, 30, 31, 32, 33, 34, 35, 36, 37, 38, 39, 40, 41, 42, 43, 44, 45, 46, 47, 48, 49, 50, 51, 52, 53, 54, 55] rfl (by decide +kernel)
set_option maxRecDepth 20000 in
theorem gX7_begin_X7_anew : GoodIn wsX7_begin (wsV RX7 91 RX7 yX7_anew wsX7_anew) := goodIn_app (goodIn_of _ (by decide +kernel)) ggX7_begin_X7_anew
set_option maxRecDepth 20000 in
theorem ggX7_anew_X7_first : GoodIn wsX7_anew wsX7_first := goodIn_r _ [11, 6, 12, 13, 14, 15, 16, 17, 18, 19, 20, 21, 22, 23, 24, 25, 26, 27, 28, 29, 30, 31, 32, 33, 34, 35, 36, 37, 38, 39, 40, 41, 42, 43, 44, 45] rfl (by decide +kernel)
set_option maxRecDepth 20000 in
theorem gX7_anew_X7_first : GoodIn wsX7_anew (wsV RX7 103 RX7 yX7_first wsX7_first) := goodIn_app (goodIn_of _ (by decide +kernel)) ggX7_anew_X7_first
set_option maxRecDepth 20000 in
theorem ggX7_clash_X7_isGroup : GoodIn wsX7_clash wsX7_isGroup := goodIn_r _ [8, 9, 26, 27, 28, 29, 30, 31, 32, 33, 34, 35, 36, 37, 38, 39, 40, 41, 42, 43, 44, 45, 46, 47, 48, 49, 50, 51, 52, 53, 54, 55, 56] rfl (by decide +kernel)
set_option maxRecDepth 20000 in
theorem gX7_clash_X7_isGroup : GoodIn wsX7_clash (wsV RX7 106 RX7 yX7_isGroup wsX7_isGroup) := goodIn_app (goodIn_of _ (by decide +kernel)) ggX7_clash_X7_isGroup
set_option maxRecDepth 20000 in
theorem ggX7_clash_X7_anew : GoodIn wsX7_clash wsX7_anew := goodIn_r _ [13, 14, 15, 16, 17, 18, 19, 20, 21, 22, 7, 23, 9, 24, 25, 26, 27, 28, 29, 30, 31, 32, 33, 34, 35, 36, 37, 38, 39, 40, 41, 42, 43, 44, 45, 46, 47, 48, 49, 50, 51, 52, 53, 54, 55, 56] rfl (by decide +kernel)
set_option maxRecDepth 20000 in
theorem gX7_clash_X7_anew : GoodIn wsX7_clash (wsV RX7 91 RX7 yX7_anew wsX7_anew) := goodIn_app (goodIn_of _ (by decide +kernel)) ggX7_clash_X7_anew
set_option maxRecDepth 20000 in
theorem ggX7_least_X7_isGroup : GoodIn wsX7_least wsX7_isGroup := goodIn_r _ [7, 8, 25, 26, 27, 28, 29, 30, 31, 32, 33, 34, 35, 36, 37, 38, 39, 40, 41, 42, 43, 44, 45, 46, 47, 48, 49, 50, 51, 52, 53, 54, 55] rfl (by decide +kernel)
set_option maxRecDepth 20000 in
theorem gX7_least_X7_isGroup : GoodIn wsX7_least (wsV RX7 106 RX7 yX7_isGroup wsX7_isGroup) := goodIn_app (goodIn_of _ (by decide +kernel)) ggX7_least_X7_isGroup
set_option maxRecDepth 20000 in
theorem ggX7_least_X7_anew : GoodIn wsX7_least wsX7_anew := goodIn_r _ [12, 13, 14, 15, 16, 17, 18, 19, 20, 21, 6, 22, 8, 23, 24, 25, 26, 27, 28, 29, 30, 31, 32, 33, 34, 35, 36, 37, 38, 39, 40, 41, 42, 43, 44, 45, 46, 47, 48, 49, 50, 51, 52, 53, 54, 55] rfl (by decide +kernel)
set_option maxRecDepth 20000 in
theorem gX7_least_X7_anew : GoodIn wsX7_least (wsV RX7 91 RX7 yX7_anew wsX7_anew) := goodIn_app (goodIn_of _ (by decide +kernel)) ggX7_least_X7_anew
set_option maxRecDepth 20000 in
theorem ggX7_most_X7_isGroup : GoodIn wsX7_most wsX7_isGroup := goodIn_r _ [7, 8, 25, 26, 27, 28, 29, 30, 31, 32, 33, 34, 35, 36, 37, 38, 39, 40, 41, 42, 43, 44, 45, 46, 47, 48, 49, 50, 51, 52, 53, 54, 55] rfl (by decide +kernel)
set_option maxRecDepth 20000 in
theorem gX7_most_X7_isGroup : GoodIn wsX7_most (wsV RX7 106 RX7 yX7_isGroup wsX7_isGroup) := goodIn_app (goodIn_of _ (by decide +kernel)) ggX7_most_X7_isGroup
set_option maxRecDepth 20000 in
theorem ggX7_most_X7_anew : GoodIn wsX7_most wsX7_anew := goodIn_r _ [12, 13, 14, 15, 16, 17, 18, 19, 20, 21, 6, 22, 8, 23, 24, 25, 26, 27, 28, 29, 30, 31, 32, 33, 34, 35, 36, 37, 38, 39, 40, 41, 42, 43, 44, 45, 46, 47, 48, 49, 50, 51, 52, 53, 54, 55] rfl (by decide +kernel)
set_option maxRecDepth 20000 in
theorem gX7_most_X7_anew : GoodIn wsX7_most (wsV RX7 91 RX7 yX7_anew wsX7_anew) := goodIn_app (goodIn_of _ (by decide +kernel)) ggX7_most_X7_anew
set_option maxRecDepth 20000 in
theorem ggX7_isDigit_X7_sign : GoodIn wsX7_isDigit wsX7_sign := goodIn_r _ [5, 6, 7, 8, 9, 10, 11, 12, 13, 14, 15, 16, 17, 18, 19, 20, 21, 22, 23, 24, 25, 26, 27, 28, 29, 30, 31, 32, 33, 34, 35, 36, 37, 38] rfl (by decide +kernel)
set_option maxRecDepth 20000 in
theorem gX7_isDigit_X7_sign : GoodIn wsX7_isDigit (wsV RX7 110 RX7 yX7_sign wsX7_sign) := goodIn_app (goodIn_of _ (by decide +kernel)) ggX7_isDigit_X7_sign
set_option maxRecDepth 20000 in
theorem ggX7_behind_X7_isDigit : GoodIn wsX7_behind wsX7_isDigit := goodIn_r _ [5, 6, 7, 8, 4, 9, 10, 11, 12, 13, 14, 15, 16, 17, 18, 19, 20, 21, 22, 23, 24, 25, 26, 27, 28, 29, 30, 31, 32, 33, 34, 35, 36, 37, 38, 39, 40, 41, 42] rfl (by decide +kernel)
set_option maxRecDepth 20000 in
theorem gX7_behind_X7_isDigit : GoodIn wsX7_behind (wsV RX7 114 RX7 yX7_isDigit wsX7_isDigit) := goodIn_app (goodIn_of _ (by decide +kernel)) ggX7_behind_X7_isDigit
set_option maxRecDepth 20000 in
theorem ggX7_number_X7_isDigit : GoodIn wsX7_number wsX7_isDigit := goodIn_r _ [5, 6, 7, 8, 4, 9, 10, 11, 12, 13, 14, 15, 16, 17, 18, 19, 20, 21, 22, 23, 24, 25, 26, 27, 28, 29, 30, 31, 32, 33, 34, 35, 36, 37, 38, 39, 40, 41, 42] rfl (by decide +kernel)
set_option maxRecDepth 20000 in
theorem gX7_number_X7_isDigit : GoodIn wsX7_number (wsV RX7 114 RX7 yX7_isDigit wsX7_isDigit) := goodIn_app (goodIn_of _ (by decide +kernel)) ggX7_number_X7_isDigit
set_option maxRecDepth 20000 in
theorem ggX7_number_X7_sign : GoodIn wsX7_number wsX7_sign := goodIn_r _ [9, 10, 11, 12, 13, 14, 15, 16, 17, 18, 19, 20, 21, 22, 23, 24, 25, 26, 27, 28, 29, 30, 31, 32, 33, 34, 35, 36, 37, 38, 39, 40, 41, 42] rfl (by decide +kernel)
set_option maxRecDepth 20000 in
theorem gX7_number_X7_sign : GoodIn wsX7_number (wsV RX7 110 RX7 yX7_sign wsX7_sign) := goodIn_app (goodIn_of _ (by decide +kernel)) ggX7_number_X7_sign
set_option maxRecDepth 20000 in
theorem ggX7_phase_X7_sign : GoodIn wsX7_phase wsX7_sign := goodIn_r _ [10, 11, 12, 25, 26, 27, 28, 29, 30, 31, 32, 33, 34, 35, 36, 37, 38, 39, 40, 41, 42, 43, 44, 45, 46, 47, 48, 49, 50, 51, 52, 53, 54, 55] rfl (by decide +kernel)
set_option maxRecDepth 20000 in
theorem gX7_phase_X7_sign : GoodIn wsX7_phase (wsV RX7 110 RX7 yX7_sign wsX7_sign) := goodIn_app (goodIn_of _ (by decide +kernel)) ggX7_phase_X7_sign
set_option maxRecDepth 20000 in
theorem ggX7_phase_X7_number : GoodIn wsX7_phase wsX7_number := goodIn_r _ [16, 17, 18, 19, 9, 20, 6, 7, 8, 10, 11, 12, 25, 26, 27, 28, 29, 30, 31, 32, 33, 34, 35, 36, 37, 38, 39, 40, 41, 42, 43, 44, 45, 46, 47, 48, 49, 50, 51, 52, 53, 54, 55] rfl (by decide +kernel)
set_option maxRecDepth 20000 in
theorem gX7_phase_X7_number : GoodIn wsX7_phase (wsV RX7 120 RX7 yX7_number wsX7_number) := goodIn_app (goodIn_of _ (by decide +kernel)) ggX7_phase_X7_number
set_option maxRecDepth 20000 in
theorem ggX7_phase_X7_behind : GoodIn wsX7_phase wsX7_behind := goodIn_r _ [24, 17, 18, 19, 9, 20, 6, 7, 8, 10, 11, 12, 25, 26, 27, 28, 29, 30, 31, 32, 33, 34, 35, 36, 37, 38, 39, 40, 41, 42, 43, 44, 45, 46, 47, 48, 49, 50, 51, 52, 53, 54, 55] rfl (by decide +kernel)
set_option maxRecDepth 20000 in
theorem gX7_phase_X7_behind : GoodIn wsX7_phase (wsV RX7 123 RX7 yX7_behind wsX7_behind) := goodIn_app (goodIn_of _ (by decide +kernel)) ggX7_phase_X7_behind
set_option maxRecDepth 20000 in
theorem ggX7_read_X7_phase : GoodIn wsX7_read wsX7_phase := goodIn_r _ [13, 14, 7, 4, 5, 6, 15, 16, 17, 12, 18, 2, 19, 20, 21, 22, 23, 24, 25, 26, 27, 28, 29, 30, 31, 46, 47, 48, 49, 50, 51, 52, 53, 54, 55, 56, 57, 58, 59, 60, 61, 62, 63, 64, 65, 66, 67, 68, 69, 70, 71, 72, 73, 74, 75, 76] rfl (by decide +kernel)
set_option maxRecDepth 20000 in
theorem gX7_read_X7_phase : GoodIn wsX7_read (wsV RX7 126 RX7 yX7_phase wsX7_phase) := goodIn_app (goodIn_of _ (by decide +kernel)) ggX7_read_X7_phase
set_option maxRecDepth 20000 in
theorem ggX7_read_X7_sign : GoodIn wsX7_read wsX7_sign := goodIn_r _ [18, 2, 19, 46, 47, 48, 49, 50, 51, 52, 53, 54, 55, 56, 57, 58, 59, 60, 61, 62, 63, 64, 65, 66, 67, 68, 69, 70, 71, 72, 73, 74, 75, 76] rfl (by decide +kernel)
set_option maxRecDepth 20000 in
theorem gX7_read_X7_sign : GoodIn wsX7_read (wsV RX7 110 RX7 yX7_sign wsX7_sign) := goodIn_app (goodIn_of _ (by decide +kernel)) ggX7_read_X7_sign
set_option maxRecDepth 20000 in
theorem ggX7_read_X7_anew : GoodIn wsX7_read wsX7_anew := goodIn_r _ [35, 36, 37, 38, 39, 40, 41, 42, 43, 44, 12, 45, 14, 3, 4, 46, 47, 48, 49, 50, 51, 52, 53, 54, 55, 56, 57, 58, 59, 60, 61, 62, 63, 64, 65, 66, 67, 68, 69, 70, 71, 72, 73, 74, 75, 76] rfl (by decide +kernel)
set_option maxRecDepth 20000 in
theorem gX7_read_X7_anew : GoodIn wsX7_read (wsV RX7 91 RX7 yX7_anew wsX7_anew) := goodIn_app (goodIn_of _ (by decide +kernel)) ggX7_read_X7_anew
set_option maxRecDepth 20000 in
theorem ggX7_shownNow_X7_groupsOf : GoodIn wsX7_shownNow wsX7_groupsOf := goodIn_r _ [6, 7, 8, 9, 10, 11, 12, 13, 14, 15, 16, 17, 18, 19, 20, 21, 22, 23, 24, 25, 26, 27, 28, 29, 30, 31, 32, 33, 34, 35, 36, 37, 38] rfl (by decide +kernel)
set_option maxRecDepth 20000 in
theorem gX7_shownNow_X7_groupsOf : GoodIn wsX7_shownNow (wsV RX7 130 RX7 yX7_groupsOf wsX7_groupsOf) := goodIn_app (goodIn_of _ (by decide +kernel)) ggX7_shownNow_X7_groupsOf
set_option maxRecDepth 20000 in
theorem ggX7_comes_X7_groupsOf : GoodIn wsX7_comes wsX7_groupsOf := goodIn_r _ [7, 8, 9, 10, 11, 12, 13, 14, 15, 16, 17, 18, 19, 20, 21, 22, 23, 24, 25, 26, 27, 28, 29, 30, 31, 32, 33, 34, 35, 36, 37, 38, 39] rfl (by decide +kernel)
set_option maxRecDepth 20000 in
theorem gX7_comes_X7_groupsOf : GoodIn wsX7_comes (wsV RX7 130 RX7 yX7_groupsOf wsX7_groupsOf) := goodIn_app (goodIn_of _ (by decide +kernel)) ggX7_comes_X7_groupsOf
set_option maxRecDepth 20000 in
theorem ggX7_end_X7_groupsOf : GoodIn wsX7_end wsX7_groupsOf := goodIn_r _ [10, 11, 16, 17, 18, 19, 20, 21, 22, 23, 24, 25, 26, 27, 28, 29, 30, 31, 32, 33, 34, 35, 36, 37, 38, 39, 40, 41, 42, 43, 44, 45, 46] rfl (by decide +kernel)
set_option maxRecDepth 20000 in
theorem gX7_end_X7_groupsOf : GoodIn wsX7_end (wsV RX7 130 RX7 yX7_groupsOf wsX7_groupsOf) := goodIn_app (goodIn_of _ (by decide +kernel)) ggX7_end_X7_groupsOf
set_option maxRecDepth 20000 in
theorem ggX7_end_X7_comes : GoodIn wsX7_end wsX7_comes := goodIn_r _ [15, 1, 3, 6, 7, 8, 9, 10, 11, 16, 17, 18, 19, 20, 21, 22, 23, 24, 25, 26, 27, 28, 29, 30, 31, 32, 33, 34, 35, 36, 37, 38, 39, 40, 41, 42, 43, 44, 45, 46] rfl (by decide +kernel)
set_option maxRecDepth 20000 in
theorem gX7_end_X7_comes : GoodIn wsX7_end (wsV RX7 133 RX7 yX7_comes wsX7_comes) := goodIn_app (goodIn_of _ (by decide +kernel)) ggX7_end_X7_comes
set_option maxRecDepth 20000 in
theorem ggX7_go_X7_shownNow : GoodIn wsX7_go wsX7_shownNow := goodIn_r _ [11, 2, 12, 13, 14, 10, 15, 4, 33, 34, 35, 36, 37, 38, 39, 40, 41, 42, 43, 44, 45, 46, 47, 48, 49, 50, 51, 52, 53, 54, 55, 56, 57, 58, 59, 60, 61, 62, 63] rfl (by decide +kernel)
set_option maxRecDepth 20000 in
theorem gX7_go_X7_shownNow : GoodIn wsX7_go (wsV RX7 136 RX7 yX7_shownNow wsX7_shownNow) := goodIn_app (goodIn_of _ (by decide +kernel)) ggX7_go_X7_shownNow
set_option maxRecDepth 20000 in
theorem ggX7_go_X7_comes : GoodIn wsX7_go wsX7_comes := goodIn_r _ [19, 2, 3, 12, 13, 14, 10, 15, 4, 33, 34, 35, 36, 37, 38, 39, 40, 41, 42, 43, 44, 45, 46, 47, 48, 49, 50, 51, 52, 53, 54, 55, 56, 57, 58, 59, 60, 61, 62, 63] rfl (by decide +kernel)
set_option maxRecDepth 20000 in
theorem gX7_go_X7_comes : GoodIn wsX7_go (wsV RX7 133 RX7 yX7_comes wsX7_comes) := goodIn_app (goodIn_of _ (by decide +kernel)) ggX7_go_X7_comes
set_option maxRecDepth 20000 in
theorem ggX7_go_X7_end : GoodIn wsX7_go wsX7_end := goodIn_r _ [23, 2, 24, 3, 25, 26, 12, 13, 14, 10, 15, 4, 16, 17, 18, 19, 33, 34, 35, 36, 37, 38, 39, 40, 41, 42, 43, 44, 45, 46, 47, 48, 49, 50, 51, 52, 53, 54, 55, 56, 57, 58, 59, 60, 61, 62, 63] rfl (by decide +kernel)
set_option maxRecDepth 20000 in
theorem gX7_go_X7_end : GoodIn wsX7_go (wsV RX7 140 RX7 yX7_end wsX7_end) := goodIn_app (goodIn_of _ (by decide +kernel)) ggX7_go_X7_end
set_option maxRecDepth 20000 in
theorem ggX7_go_X7_fault : GoodIn wsX7_go wsX7_fault := goodIn_r _ [30, 3, 25, 2, 26, 1, 31, 32, 33, 34, 35, 36, 37, 38, 39, 40, 41, 42, 43, 44, 45, 46, 47, 48, 49, 50, 51, 52, 53, 54, 55, 56, 57, 58, 59, 60, 61, 62, 63] rfl (by decide +kernel)
set_option maxRecDepth 20000 in
theorem gX7_go_X7_fault : GoodIn wsX7_go (wsV RX7 143 RX7 yX7_fault wsX7_fault) := goodIn_app (goodIn_of _ (by decide +kernel)) ggX7_go_X7_fault
set_option maxRecDepth 20000 in
theorem ggX7_call_X7_isGroup : GoodIn wsX7_call wsX7_isGroup := goodIn_r _ [6, 7, 16, 17, 18, 19, 20, 21, 22, 23, 24, 25, 26, 27, 28, 29, 30, 31, 32, 33, 34, 35, 36, 37, 38, 39, 40, 41, 42, 43, 44, 45, 46] rfl (by decide +kernel)
set_option maxRecDepth 20000 in
theorem gX7_call_X7_isGroup : GoodIn wsX7_call (wsV RX7 106 RX7 yX7_isGroup wsX7_isGroup) := goodIn_app (goodIn_of _ (by decide +kernel)) ggX7_call_X7_isGroup
set_option maxRecDepth 20000 in
theorem ggX7_call_X7_tell : GoodIn wsX7_call wsX7_tell := goodIn_r _ [11, 12, 13, 14, 15, 16, 17, 18, 19, 20, 21, 22, 23, 24, 25, 26, 27, 28, 29, 30, 31, 32, 33, 34, 35, 36, 37, 38, 39, 40, 41, 42, 43, 44, 45, 46] rfl (by decide +kernel)
set_option maxRecDepth 20000 in
theorem gX7_call_X7_tell : GoodIn wsX7_call (wsV RX7 146 RX7 yX7_tell wsX7_tell) := goodIn_app (goodIn_of _ (by decide +kernel)) ggX7_call_X7_tell
set_option maxRecDepth 20000 in
theorem ggX7_plan_X7_tell : GoodIn wsX7_plan wsX7_tell := goodIn_r _ [8, 9, 10, 11, 12, 13, 14, 15, 16, 17, 18, 19, 20, 21, 22, 23, 24, 25, 26, 27, 28, 29, 30, 31, 32, 33, 34, 35, 36, 37, 38, 39, 40, 41, 42, 43] rfl (by decide +kernel)
set_option maxRecDepth 20000 in
theorem gX7_plan_X7_tell : GoodIn wsX7_plan (wsV RX7 146 RX7 yX7_tell wsX7_tell) := goodIn_app (goodIn_of _ (by decide +kernel)) ggX7_plan_X7_tell
