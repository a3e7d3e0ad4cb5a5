set_option maxRecDepth 20000 in
theorem ggX2_following_X0_placeBehind : GoodIn wsX2_following wsX0_placeBehind := goodIn_r _ [21, 22, 23, 24, 25, 9, 26, 27, 28, 7, 8, 10, 11, 39, 40, 41, 42, 43, 44, 45, 46, 47, 48] (by decide +kernel) (by decide +kernel)
set_option maxRecDepth 20000 in
theorem gX2_following_X0_placeBehind : GoodIn wsX2_following (wsV RX2 100 RX0 yX0_placeBehind wsX0_placeBehind) := goodIn_app (goodIn_of _ (by decide +kernel)) ggX2_following_X0_placeBehind
set_option maxRecDepth 20000 in
theorem ggX2_leave_X0_groupsIn : GoodIn wsX2_leave wsX0_groupsIn := goodIn_r _ [13, 14, 39, 40, 41, 42, 43, 44, 45, 46, 47, 48] (by decide +kernel) (by decide +kernel)
set_option maxRecDepth 20000 in
theorem gX2_leave_X0_groupsIn : GoodIn wsX2_leave (wsV RX2 38 RX0 yX0_groupsIn wsX0_groupsIn) := goodIn_app (goodIn_of _ (by decide +kernel)) ggX2_leave_X0_groupsIn
set_option maxRecDepth 20000 in
theorem ggX2_leave_X0_clearing : GoodIn wsX2_leave wsX0_clearing := goodIn_r _ [18, 19, 20, 39, 40, 41, 42, 43, 44, 45, 46, 47, 48] (by decide +kernel) (by decide +kernel)
set_option maxRecDepth 20000 in
theorem gX2_leave_X0_clearing : GoodIn wsX2_leave (wsV RX2 106 RX0 yX0_clearing wsX0_clearing) := goodIn_app (goodIn_of _ (by decide +kernel)) ggX2_leave_X0_clearing
set_option maxRecDepth 20000 in
theorem ggX2_leave_X2_enter : GoodIn wsX2_leave wsX2_enter := goodIn_r _ [25, 1, 2, 26, 3, 5, 27, 28, 7, 8, 9, 10, 11, 12, 13, 14, 29, 30, 31, 32, 33, 34, 35, 36, 37, 38, 39, 40, 41, 42, 43, 44, 45, 46, 47, 48] (by decide +kernel) (by decide +kernel)
set_option maxRecDepth 20000 in
theorem gX2_leave_X2_enter : GoodIn wsX2_leave (wsV RX2 71 RX2 yX2_enter wsX2_enter) := goodIn_app (goodIn_of _ (by decide +kernel)) ggX2_leave_X2_enter
set_option maxRecDepth 20000 in
theorem ggX2_enter_X0_groupsIn : GoodIn wsX2_enter wsX0_groupsIn := goodIn_r _ [14, 15, 26, 27, 28, 29, 30, 31, 32, 33, 34, 35] (by decide +kernel) (by decide +kernel)
set_option maxRecDepth 20000 in
theorem gX2_enter_X0_groupsIn : GoodIn wsX2_enter (wsV RX2 38 RX0 yX0_groupsIn wsX0_groupsIn) := goodIn_app (goodIn_of _ (by decide +kernel)) ggX2_enter_X0_groupsIn
set_option maxRecDepth 20000 in
theorem ggX2_fault_X2_lit : GoodIn wsX2_fault wsX2_lit := goodIn_r _ [13, 1, 14, 15, 16, 17, 18, 19, 20, 21, 22, 28, 29, 30, 31, 32, 33, 34, 35, 36, 37, 38, 39, 40, 41, 42, 43, 44, 45, 46, 47] (by decide +kernel) (by decide +kernel)
set_option maxRecDepth 20000 in
theorem gX2_fault_X2_lit : GoodIn wsX2_fault (wsV RX2 53 RX2 yX2_lit wsX2_lit) := goodIn_app (goodIn_of _ (by decide +kernel)) ggX2_fault_X2_lit
set_option maxRecDepth 20000 in
theorem ggX2_fault_X2_beganTooSoon : GoodIn wsX2_fault wsX2_beganTooSoon := goodIn_r _ [26, 1, 2, 5, 27, 28, 29, 30, 31, 32, 33, 34, 35, 36, 37, 38, 39, 40, 41, 42, 43, 44, 45, 46, 47] (by decide +kernel) (by decide +kernel)
set_option maxRecDepth 20000 in
theorem gX2_fault_X2_beganTooSoon : GoodIn wsX2_fault (wsV RX2 112 RX2 yX2_beganTooSoon wsX2_beganTooSoon) := goodIn_app (goodIn_of _ (by decide +kernel)) ggX2_fault_X2_beganTooSoon
set_option maxRecDepth 20000 in
theorem ggX2_unpack_X2_low : GoodIn wsX2_unpack wsX2_low := goodIn_r _ [11] (by decide +kernel) (by decide +kernel)
set_option maxRecDepth 20000 in
theorem gX2_unpack_X2_low : GoodIn wsX2_unpack (va_wsS RX2 122 yX2_low wsX2_low) := goodIn_app (goodIn_of _ (by decide +kernel)) ggX2_unpack_X2_low
