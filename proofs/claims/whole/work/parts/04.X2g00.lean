set_option maxRecDepth 20000 in
theorem ggX2_reset_X0_groupsIn : GoodIn wsX2_reset wsX0_groupsIn := goodIn_r _ [14, 15, 30, 31, 32, 33, 34, 35, 36, 37, 38, 39] rfl (by decide +kernel)
set_option maxRecDepth 20000 in
theorem gX2_reset_X0_groupsIn : GoodIn wsX2_reset (wsV RX2 38 RX0 yX0_groupsIn wsX0_groupsIn) := goodIn_app (goodIn_of _ (by decide +kernel)) ggX2_reset_X0_groupsIn
set_option maxRecDepth 20000 in
theorem ggX2_reset_J7_fill_53178 : GoodIn wsX2_reset wsJ7_fill_53178 := goodIn_r _ [19] rfl (by decide +kernel)
set_option maxRecDepth 20000 in
theorem gX2_reset_J7_fill_53178 : GoodIn wsX2_reset (va_wsS RX2 44 yJ7_fill_53178 wsJ7_fill_53178) := goodIn_app (goodIn_of _ (by decide +kernel)) ggX2_reset_J7_fill_53178
set_option maxRecDepth 20000 in
theorem ggX2_lit_X0_groupsIn : GoodIn wsX2_lit wsX0_groupsIn := goodIn_r _ [9, 10, 21, 22, 23, 24, 25, 26, 27, 28, 29, 30] rfl (by decide +kernel)
set_option maxRecDepth 20000 in
theorem gX2_lit_X0_groupsIn : GoodIn wsX2_lit (wsV RX2 38 RX0 yX0_groupsIn wsX0_groupsIn) := goodIn_app (goodIn_of _ (by decide +kernel)) ggX2_lit_X0_groupsIn
set_option maxRecDepth 20000 in
theorem ggX2_look_X2_lit : GoodIn wsX2_look wsX2_lit := goodIn_r _ [13, 6, 1, 3, 14, 15, 16, 17, 18, 19, 20, 21, 22, 23, 24, 25, 26, 27, 28, 29, 30, 31, 32, 33, 34, 35, 36, 37, 38, 39, 40] rfl (by decide +kernel)
set_option maxRecDepth 20000 in
theorem gX2_look_X2_lit : GoodIn wsX2_look (wsV RX2 53 RX2 yX2_lit wsX2_lit) := goodIn_app (goodIn_of _ (by decide +kernel)) ggX2_look_X2_lit
set_option maxRecDepth 20000 in
theorem ggX2_step_X2_hear : GoodIn wsX2_step wsX2_hear := goodIn_r _ [15, 16, 17, 18, 19, 20, 21, 22, 23, 24, 25, 26, 27, 28, 14, 29, 10, 3, 4, 30, 31, 32, 33, 34, 35, 36, 37, 38, 39, 87, 88, 89, 90, 91, 92, 93, 94, 95, 96, 97, 98, 99, 100, 101, 102, 103, 104, 105, 106] rfl (by decide +kernel)
set_option maxRecDepth 20000 in
theorem gX2_step_X2_hear : GoodIn wsX2_step (wsV RX2 64 RX2 yX2_hear wsX2_hear) := goodIn_app (goodIn_of _ (by decide +kernel)) ggX2_step_X2_hear
set_option maxRecDepth 20000 in
theorem ggX2_step_X2_grow : GoodIn wsX2_step wsX2_grow := goodIn_r _ [43, 16, 17, 44, 6, 7, 8, 9, 26, 27, 28, 14, 29, 10, 3, 4, 30, 31, 32, 23, 33, 34, 87, 88, 89, 90, 91, 92, 93, 94, 95, 96, 97, 98, 99, 100, 101, 102, 103, 104, 105, 106] rfl (by decide +kernel)
set_option maxRecDepth 20000 in
theorem gX2_step_X2_grow : GoodIn wsX2_step (wsV RX2 68 RX2 yX2_grow wsX2_grow) := goodIn_app (goodIn_of _ (by decide +kernel)) ggX2_step_X2_grow
set_option maxRecDepth 20000 in
theorem ggX2_step_X2_enter : GoodIn wsX2_step wsX2_enter := goodIn_r _ [48, 16, 10, 1, 17, 44, 18, 5, 3, 4, 30, 31, 32, 23, 33, 34, 87, 88, 89, 90, 91, 92, 93, 94, 95, 96, 97, 98, 99, 100, 101, 102, 103, 104, 105, 106] rfl (by decide +kernel)
set_option maxRecDepth 20000 in
theorem gX2_step_X2_enter : GoodIn wsX2_step (wsV RX2 71 RX2 yX2_enter wsX2_enter) := goodIn_app (goodIn_of _ (by decide +kernel)) ggX2_step_X2_enter
set_option maxRecDepth 20000 in
theorem ggX2_step_X2_following : GoodIn wsX2_step wsX2_following := goodIn_r _ [52, 19, 10, 18, 16, 5, 30, 31, 32, 23, 33, 34, 53, 54, 55, 56, 57, 58, 59, 60, 61, 62, 63, 64, 36, 37, 38, 39, 65, 87, 88, 89, 90, 91, 92, 93, 94, 95, 96, 97, 98, 99, 100, 101, 102, 103, 104, 105, 106] rfl (by decide +kernel)
set_option maxRecDepth 20000 in
theorem gX2_step_X2_following : GoodIn wsX2_step (wsV RX2 80 RX2 yX2_following wsX2_following) := goodIn_app (goodIn_of _ (by decide +kernel)) ggX2_step_X2_following
set_option maxRecDepth 20000 in
theorem ggX2_step_X2_leave : GoodIn wsX2_step wsX2_leave := goodIn_r _ [69, 16, 10, 17, 2, 44, 70, 3, 4, 30, 31, 32, 23, 33, 34, 71, 72, 73, 74, 25, 75, 45, 46, 47, 14, 48, 1, 18, 5, 87, 88, 89, 90, 91, 92, 93, 94, 95, 96, 97, 98, 99, 100, 101, 102, 103, 104, 105, 106] rfl (by decide +kernel)
set_option maxRecDepth 20000 in
theorem gX2_step_X2_leave : GoodIn wsX2_step (wsV RX2 83 RX2 yX2_leave wsX2_leave) := goodIn_app (goodIn_of _ (by decide +kernel)) ggX2_step_X2_leave
set_option maxRecDepth 20000 in
theorem ggX2_step_X2_fault : GoodIn wsX2_step wsX2_fault := goodIn_r _ [79, 16, 17, 80, 1, 44, 81, 18, 2, 26, 27, 28, 14, 29, 10, 3, 4, 30, 31, 32, 23, 33, 34, 82, 83, 84, 85, 86, 87, 88, 89, 90, 91, 92, 93, 94, 95, 96, 97, 98, 99, 100, 101, 102, 103, 104, 105, 106] rfl (by decide +kernel)
set_option maxRecDepth 20000 in
theorem gX2_step_X2_fault : GoodIn wsX2_step (wsV RX2 86 RX2 yX2_fault wsX2_fault) := goodIn_app (goodIn_of _ (by decide +kernel)) ggX2_step_X2_fault
set_option maxRecDepth 20000 in
theorem ggX2_hear_X0_isGroup : GoodIn wsX2_hear wsX0_isGroup := goodIn_r _ [9, 10, 39, 40, 41, 42, 43, 44, 45, 46, 47, 48] rfl (by decide +kernel)
set_option maxRecDepth 20000 in
theorem gX2_hear_X0_isGroup : GoodIn wsX2_hear (wsV RX2 89 RX0 yX0_isGroup wsX0_isGroup) := goodIn_app (goodIn_of _ (by decide +kernel)) ggX2_hear_X0_isGroup
set_option maxRecDepth 20000 in
theorem ggX2_hear_X2_lit : GoodIn wsX2_hear wsX2_lit := goodIn_r _ [15, 1, 16, 17, 18, 19, 20, 21, 8, 22, 23, 29, 30, 31, 32, 33, 34, 35, 36, 37, 38, 39, 40, 41, 42, 43, 44, 45, 46, 47, 48] rfl (by decide +kernel)
set_option maxRecDepth 20000 in
theorem gX2_hear_X2_lit : GoodIn wsX2_hear (wsV RX2 53 RX2 yX2_lit wsX2_lit) := goodIn_app (goodIn_of _ (by decide +kernel)) ggX2_hear_X2_lit
set_option maxRecDepth 20000 in
theorem ggX2_hear_X0_isPlan : GoodIn wsX2_hear wsX0_isPlan := goodIn_r _ [27, 28, 39, 40, 41, 42, 43, 44, 45, 46, 47, 48] rfl (by decide +kernel)
set_option maxRecDepth 20000 in
theorem gX2_hear_X0_isPlan : GoodIn wsX2_hear (wsV RX2 93 RX0 yX0_isPlan wsX0_isPlan) := goodIn_app (goodIn_of _ (by decide +kernel)) ggX2_hear_X0_isPlan
set_option maxRecDepth 20000 in
theorem ggX2_grow_X2_lit : GoodIn wsX2_grow wsX2_lit := goodIn_r _ [12, 1, 13, 14, 15, 16, 17, 18, 19, 20, 21, 22, 23, 24, 25, 26, 27, 28, 29, 30, 31, 32, 33, 34, 35, 36, 37, 38, 39, 40, 41] rfl (by decide +kernel)
set_option maxRecDepth 20000 in
theorem gX2_grow_X2_lit : GoodIn wsX2_grow (wsV RX2 53 RX2 yX2_lit wsX2_lit) := goodIn_app (goodIn_of _ (by decide +kernel)) ggX2_grow_X2_lit
set_option maxRecDepth 20000 in
theorem ggX2_following_X0_groupsIn : GoodIn wsX2_following wsX0_groupsIn := goodIn_r _ [10, 11, 39, 40, 41, 42, 43, 44, 45, 46, 47, 48] rfl (by decide +kernel)
set_option maxRecDepth 20000 in
theorem gX2_following_X0_groupsIn : GoodIn wsX2_following (wsV RX2 38 RX0 yX0_groupsIn wsX0_groupsIn) := goodIn_app (goodIn_of _ (by decide +kernel)) ggX2_following_X0_groupsIn
set_option maxRecDepth 20000 in
theorem ggX2_following_X0_isOver : GoodIn wsX2_following wsX0_isOver := goodIn_r _ [15, 16, 17, 39, 40, 41, 42, 43, 44, 45, 46, 47, 48] rfl (by decide +kernel)
set_option maxRecDepth 20000 in
theorem gX2_following_X0_isOver : GoodIn wsX2_following (wsV RX2 96 RX0 yX0_isOver wsX0_isOver) := goodIn_app (goodIn_of _ (by decide +kernel)) ggX2_following_X0_isOver
set_option maxRecDepth 20000 in
theorem ggX2_following_X0_placeBehind : GoodIn wsX2_following wsX0_placeBehind := goodIn_r _ [21, 22, 23, 24, 25, 9, 26, 27, 28, 7, 8, 10, 11, 39, 40, 41, 42, 43, 44, 45, 46, 47, 48] rfl (by decide +kernel)
set_option maxRecDepth 20000 in
theorem gX2_following_X0_placeBehind : GoodIn wsX2_following (wsV RX2 100 RX0 yX0_placeBehind wsX0_placeBehind) := goodIn_app (goodIn_of _ (by decide +kernel)) ggX2_following_X0_placeBehind
set_option maxRecDepth 20000 in
theorem ggX2_leave_X0_groupsIn : GoodIn wsX2_leave wsX0_groupsIn := goodIn_r _ [13, 14, 39, 40, 41, 42, 43, 44, 45, 46, 47, 48] rfl (by decide +kernel)
set_option maxRecDepth 20000 in
theorem gX2_leave_X0_groupsIn : GoodIn wsX2_leave (wsV RX2 38 RX0 yX0_groupsIn wsX0_groupsIn) := goodIn_app (goodIn_of _ (by decide +kernel)) ggX2_leave_X0_groupsIn
set_option maxRecDepth 20000 in
theorem ggX2_leave_X0_clearing : GoodIn wsX2_leave wsX0_clearing := goodIn_r _ [18, 19, 20, 39, 40, 41, 42, 43, 44, 45, 46, 47, 48] rfl (by decide +kernel)
set_option maxRecDepth 20000 in
theorem gX2_leave_X0_clearing : GoodIn wsX2_leave (wsV RX2 106 RX0 yX0_clearing wsX0_clearing) := goodIn_app (goodIn_of _ (by decide +kernel)) ggX2_leave_X0_clearing
set_option maxRecDepth 20000 in
theorem ggX2_leave_X2_enter : GoodIn wsX2_leave wsX2_enter := goodIn_r _ [25, 1, 2, 26, 3, 5, 27, 28, 7, 8, 9, 10, 11, 12, 13, 14, 29, 30, 31, 32, 33, 34, 35, 36, 37, 38, 39, 40, 41, 42, 43, 44, 45, 46, 47, 48] rfl (by decide +kernel)
set_option maxRecDepth 20000 in
theorem gX2_leave_X2_enter : GoodIn wsX2_leave (wsV RX2 71 RX2 yX2_enter wsX2_enter) := goodIn_app (goodIn_of _ (by decide +kernel)) ggX2_leave_X2_enter
set_option maxRecDepth 20000 in
theorem ggX2_enter_X0_groupsIn : GoodIn wsX2_enter wsX0_groupsIn := goodIn_r _ [14, 15, 26, 27, 28, 29, 30, 31, 32, 33, 34, 35] rfl (by decide +kernel)
set_option maxRecDepth 20000 in
theorem gX2_enter_X0_groupsIn : GoodIn wsX2_enter (wsV RX2 38 RX0 yX0_groupsIn wsX0_groupsIn) := goodIn_app (goodIn_of _ (by decide +kernel)) ggX2_enter_X0_groupsIn
set_option maxRecDepth 20000 in
theorem ggX2_fault_X2_lit : GoodIn wsX2_fault wsX2_lit := goodIn_r _ [13, 1, 14, 15, 16, 17, 18, 19, 20, 21, 22, 28, 29, 30, 31, 32, 33, 34, 35, 36, 37, 38, 39, 40, 41, 42, 43, 44, 45, 46, 47] rfl (by decide +kernel)
set_option maxRecDepth 20000 in
theorem gX2_fault_X2_lit : GoodIn wsX2_fault (wsV RX2 53 RX2 yX2_lit wsX2_lit) := goodIn_app (goodIn_of _ (by decide +kernel)) ggX2_fault_X2_lit
set_option maxRecDepth 20000 in
theorem ggX2_fault_X2_beganTooSoon : GoodIn wsX2_fault wsX2_beganTooSoon := goodIn_r _ [26, 1, 2, 5, 27, 28, 29, 30, 31, 32, 33, 34, 35, 36, 37, 38, 39, 40, 41, 42, 43, 44, 45, 46, 47] rfl (by decide +kernel)
set_option maxRecDepth 20000 in
theorem gX2_fault_X2_beganTooSoon : GoodIn wsX2_fault (wsV RX2 112 RX2 yX2_beganTooSoon wsX2_beganTooSoon) := goodIn_app (goodIn_of _ (by decide +kernel)) ggX2_fault_X2_beganTooSoon
set_option maxRecDepth 20000 in
theorem ggX2_unpack_X2_low : GoodIn wsX2_unpack wsX2_low := goodIn_r _ [11] rfl (by decide +kernel)
set_option maxRecDepth 20000 in
theorem gX2_unpack_X2_low : GoodIn wsX2_unpack (va_wsS RX2 122 yX2_low wsX2_low) := goodIn_app (goodIn_of _ (by decide +kernel)) ggX2_unpack_X2_low
