set_option maxRecDepth 20000 in
theorem ggX2_reset_X0_groupsIn : GoodIn wsX2_reset wsX0_groupsIn := goodIn_r _ [14, 15, 30, 31, 32, 33, 34, 35, 36, 37, 38, 39] (by decide +kernel) (by decide +kernel)
set_option maxRecDepth 20000 in
theorem gX2_reset_X0_groupsIn : GoodIn wsX2_reset (wsV RX2 38 RX0 yX0_groupsIn wsX0_groupsIn) := goodIn_app (goodIn_of _ (by decide +kernel)) ggX2_reset_X0_groupsIn
set_option maxRecDepth 20000 in
theorem ggX2_reset_J7_fill_53178 : GoodIn wsX2_reset wsJ7_fill_53178 := goodIn_r _ [19] (by decide +kernel) (by decide +kernel)
set_option maxRecDepth 20000 in
theorem gX2_reset_J7_fill_53178 : GoodIn wsX2_reset (va_wsS RX2 44 yJ7_fill_53178 wsJ7_fill_53178) := goodIn_app (goodIn_of _ (by decide +kernel)) ggX2_reset_J7_fill_53178
set_option maxRecDepth 20000 in
theorem ggX2_lit_X0_groupsIn : GoodIn wsX2_lit wsX0_groupsIn := goodIn_r _ [9, 10, 21, 22, 23, 24, 25, 26, 27, 28, 29, 30] (by decide +kernel) (by decide +kernel)
set_option maxRecDepth 20000 in
theorem gX2_lit_X0_groupsIn : GoodIn wsX2_lit (wsV RX2 38 RX0 yX0_groupsIn wsX0_groupsIn) := goodIn_app (goodIn_of _ (by decide +kernel)) ggX2_lit_X0_groupsIn
set_option maxRecDepth 20000 in
theorem ggX2_look_X2_lit : GoodIn wsX2_look wsX2_lit := goodIn_r _ [13, 6, 1, 3, 14, 15, 16, 17, 18, 19, 20, 21, 22, 23, 24, 25, 26, 27, 28, 29, 30, 31, 32, 33, 34, 35, 36, 37, 38, 39, 40] (by decide +kernel) (by decide +kernel)
set_option maxRecDepth 20000 in
theorem gX2_look_X2_lit : GoodIn wsX2_look (wsV RX2 53 RX2 yX2_lit wsX2_lit) := goodIn_app (goodIn_of _ (by decide +kernel)) ggX2_look_X2_lit
set_option maxRecDepth 20000 in
theorem ggX2_step_X2_hear : GoodIn wsX2_step wsX2_hear := goodIn_r _ [15, 16, 17, 18, 19, 20, 21, 22, 23, 24, 25, 26, 27, 28, 14, 29, 10, 3, 4, 30, 31, 32, 33, 34, 35, 36, 37, 38, 39, 87, 88, 89, 90, 91, 92, 93, 94, 95, 96, 97, 98, 99, 100, 101, 102, 103, 104, 105, 106] (by decide +kernel) (by decide +kernel)
set_option maxRecDepth 20000 in
theorem gX2_step_X2_hear : GoodIn wsX2_step (wsV RX2 64 RX2 yX2_hear wsX2_hear) := goodIn_app (goodIn_of _ (by decide +kernel)) ggX2_step_X2_hear
set_option maxRecDepth 20000 in
theorem ggX2_step_X2_grow : GoodIn wsX2_step wsX2_grow := goodIn_r _ [43, 16, 17, 44, 6, 7, 8, 9, 26, 27, 28, 14, 29, 10, 3, 4, 30, 31, 32, 23, 33, 34, 87, 88, 89, 90, 91, 92, 93, 94, 95, 96, 97, 98, 99, 100, 101, 102, 103, 104, 105, 106] (by decide +kernel) (by decide +kernel)
set_option maxRecDepth 20000 in
theorem gX2_step_X2_grow : GoodIn wsX2_step (wsV RX2 68 RX2 yX2_grow wsX2_grow) := goodIn_app (goodIn_of _ (by decide +kernel)) ggX2_step_X2_grow
set_option maxRecDepth 20000 in
theorem ggX2_step_X2_enter : GoodIn wsX2_step wsX2_enter := goodIn_r _ [48, 16, 10, 1, 17, 44, 18, 5, 3, 4, 30, 31, 32, 23, 33, 34, 87, 88, 89, 90, 91, 92, 93, 94, 95, 96, 97, 98, 99, 100, 101, 102, 103, 104, 105, 106] (by decide +kernel) (by decide +kernel)
set_option maxRecDepth 20000 in
theorem gX2_step_X2_enter : GoodIn wsX2_step (wsV RX2 71 RX2 yX2_enter wsX2_enter) := goodIn_app (goodIn_of _ (by decide +kernel)) ggX2_step_X2_enter
set_option maxRecDepth 20000 in
theorem ggX2_step_X2_following : GoodIn wsX2_step wsX2_following := goodIn_r _ [52, 19, 10, 18, 16, 5, 30, 31, 32, 23, 33, 34, 53, 54, 55, 56, 57, 58, 59, 60, 61, 62, 63, 64, 36, 37, 38, 39, 65, 87, 88, 89, 90, 91, 92, 93, 94, 95, 96, 97, 98, 99, 100, 101, 102, 103, 104, 105, 106] (by decide +kernel) (by decide +kernel)
set_option maxRecDepth 20000 in
theorem gX2_step_X2_following : GoodIn wsX2_step (wsV RX2 80 RX2 yX2_following wsX2_following) := goodIn_app (goodIn_of _ (by decide +kernel)) ggX2_step_X2_following
