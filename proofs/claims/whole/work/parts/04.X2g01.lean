set_option maxRecDepth 20000 in
theorem ggX2_step_X2_leave : GoodIn wsX2_step wsX2_leave := goodIn_r _ [69, 16, 10, 17, 2, 44, 70, 3, 4, 30, 31, 32, 23, 33, 34, 71, 72, 73, 74, 25, 75, 45, 46, 47, 14, 48, 1, 18, 5, 87, 88, 89, 90, 91, 92, 93, 94, 95, 96, 97, 98, 99, 100, 101, 102, 103, 104, 105, 106] (by decide +kernel) (by decide +kernel)
set_option maxRecDepth 20000 in
theorem gX2_step_X2_leave : GoodIn wsX2_step (wsV RX2 83 RX2 yX2_leave wsX2_leave) := goodIn_app (goodIn_of _ (by decide +kernel)) ggX2_step_X2_leave
set_option maxRecDepth 20000 in
theorem ggX2_step_X2_fault : GoodIn wsX2_step wsX2_fault := goodIn_r _ [79, 16, 17, 80, 1, 44, 81, 18, 2, 26, 27, 28, 14, 29, 10, 3, 4, 30, 31, 32, 23, 33, 34, 82, 83, 84, 85, 86, 87, 88, 89, 90, 91, 92, 93, 94, 95, 96, 97, 98, 99, 100, 101, 102, 103, 104, 105, 106] (by decide +kernel) (by decide +kernel)
set_option maxRecDepth 20000 in
theorem gX2_step_X2_fault : GoodIn wsX2_step (wsV RX2 86 RX2 yX2_fault wsX2_fault) := goodIn_app (goodIn_of _ (by decide +kernel)) ggX2_step_X2_fault
set_option maxRecDepth 20000 in
theorem ggX2_hear_X0_isGroup : GoodIn wsX2_hear wsX0_isGroup := goodIn_r _ [9, 10, 39, 40, 41, 42, 43, 44, 45, 46, 47, 48] (by decide +kernel) (by decide +kernel)
set_option maxRecDepth 20000 in
theorem gX2_hear_X0_isGroup : GoodIn wsX2_hear (wsV RX2 89 RX0 yX0_isGroup wsX0_isGroup) := goodIn_app (goodIn_of _ (by decide +kernel)) ggX2_hear_X0_isGroup
set_option maxRecDepth 20000 in
theorem ggX2_hear_X2_lit : GoodIn wsX2_hear wsX2_lit := goodIn_r _ [15, 1, 16, 17, 18, 19, 20, 21, 8, 22, 23, 29, 30, 31, 32, 33, 34, 35, 36, 37, 38, 39, 40, 41, 42, 43, 44, 45, 46, 47, 48] (by decide +kernel) (by decide +kernel)
set_option maxRecDepth 20000 in
theorem gX2_hear_X2_lit : GoodIn wsX2_hear (wsV RX2 53 RX2 yX2_lit wsX2_lit) := goodIn_app (goodIn_of _ (by decide +kernel)) ggX2_hear_X2_lit
set_option maxRecDepth 20000 in
theorem ggX2_hear_X0_isPlan : GoodIn wsX2_hear wsX0_isPlan := goodIn_r _ [27, 28, 39, 40, 41, 42, 43, 44, 45, 46, 47, 48] (by decide +kernel) (by decide +kernel)
set_option maxRecDepth 20000 in
theorem gX2_hear_X0_isPlan : GoodIn wsX2_hear (wsV RX2 93 RX0 yX0_isPlan wsX0_isPlan) := goodIn_app (goodIn_of _ (by decide +kernel)) ggX2_hear_X0_isPlan
set_option maxRecDepth 20000 in
theorem ggX2_grow_X2_lit : GoodIn wsX2_grow wsX2_lit := goodIn_r _ [12, 1, 13, 14, 15, 16, 17, 18, 19, 20, 21, 22, 23, 24, 25, 26, 27, 28, 29, 30, 31, 32, 33, 34, 35, 36, 37, 38, 39, 40, 41] (by decide +kernel) (by decide +kernel)
set_option maxRecDepth 20000 in
theorem gX2_grow_X2_lit : GoodIn wsX2_grow (wsV RX2 53 RX2 yX2_lit wsX2_lit) := goodIn_app (goodIn_of _ (by decide +kernel)) ggX2_grow_X2_lit
set_option maxRecDepth 20000 in
theorem ggX2_following_X0_groupsIn : GoodIn wsX2_following wsX0_groupsIn := goodIn_r _ [10, 11, 39, 40, 41, 42, 43, 44, 45, 46, 47, 48] (by decide +kernel) (by decide +kernel)
set_option maxRecDepth 20000 in
theorem gX2_following_X0_groupsIn : GoodIn wsX2_following (wsV RX2 38 RX0 yX0_groupsIn wsX0_groupsIn) := goodIn_app (goodIn_of _ (by decide +kernel)) ggX2_following_X0_groupsIn
set_option maxRecDepth 20000 in
theorem ggX2_following_X0_isOver : GoodIn wsX2_following wsX0_isOver := goodIn_r _ [15, 16, 17, 39, 40, 41, 42, 43, 44, 45, 46, 47, 48] (by decide +kernel) (by decide +kernel)
set_option maxRecDepth 20000 in
theorem gX2_following_X0_isOver : GoodIn wsX2_following (wsV RX2 96 RX0 yX0_isOver wsX0_isOver) := goodIn_app (goodIn_of _ (by decide +kernel)) ggX2_following_X0_isOver
