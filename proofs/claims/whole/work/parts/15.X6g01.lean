set_option maxRecDepth 20000 in
theorem ggX6_clash_X6_forgetRun : GoodIn wsX6_clash wsX6_forgetRun := goodIn_r _ [22, 23, 24, 25, 26, 27, 28, 29, 30, 31, 32, 33, 34, 35, 36, 37, 38, 39, 40, 41, 42, 43, 44, 45, 46, 47, 48, 49, 50, 51, 52, 53, 54, 55, 56, 8, 57, 58, 59, 60, 61, 62, 63, 64, 65, 66, 83, 84, 85, 86, 87, 88, 89, 90, 91, 92, 93, 94, 95, 96, 97, 98, 99, 100, 101, 102, 103, 104, 105, 106, 107, 108, 109, 110, 73, 74, 75, 76, 77, 78, 79, 80, 81, 82] (by decide +kernel) (by decide +kernel)
set_option maxRecDepth 20000 in
theorem gX6_clash_X6_forgetRun : GoodIn wsX6_clash (wsV RX6 80 RX6 yX6_forgetRun wsX6_forgetRun) := goodIn_app (goodIn_of _ (by decide +kernel)) ggX6_clash_X6_forgetRun
set_option maxRecDepth 20000 in
theorem ggX6_least_X0_isGroup : GoodIn wsX6_least wsX0_isGroup := goodIn_r _ [10, 11, 67, 68, 69, 70, 71, 72, 73, 74, 75, 76] (by decide +kernel) (by decide +kernel)
set_option maxRecDepth 20000 in
theorem gX6_least_X0_isGroup : GoodIn wsX6_least (wsV RX6 65 RX0 yX0_isGroup wsX0_isGroup) := goodIn_app (goodIn_of _ (by decide +kernel)) ggX6_least_X0_isGroup
set_option maxRecDepth 20000 in
theorem ggX6_least_X6_forgetRun : GoodIn wsX6_least wsX6_forgetRun := goodIn_r _ [16, 17, 18, 19, 20, 21, 22, 23, 24, 25, 26, 27, 28, 29, 30, 31, 32, 33, 34, 35, 36, 37, 38, 39, 40, 41, 42, 43, 44, 45, 46, 47, 48, 49, 50, 9, 51, 52, 53, 54, 55, 56, 57, 58, 59, 60, 77, 78, 79, 80, 81, 82, 83, 84, 85, 86, 87, 88, 89, 90, 91, 92, 93, 94, 95, 96, 97, 98, 99, 100, 101, 102, 103, 104, 67, 68, 69, 70, 71, 72, 73, 74, 75, 76] (by decide +kernel) (by decide +kernel)
set_option maxRecDepth 20000 in
theorem gX6_least_X6_forgetRun : GoodIn wsX6_least (wsV RX6 80 RX6 yX6_forgetRun wsX6_forgetRun) := goodIn_app (goodIn_of _ (by decide +kernel)) ggX6_least_X6_forgetRun
set_option maxRecDepth 20000 in
theorem ggX6_most_X0_isGroup : GoodIn wsX6_most wsX0_isGroup := goodIn_r _ [10, 11, 67, 68, 69, 70, 71, 72, 73, 74, 75, 76] (by decide +kernel) (by decide +kernel)
set_option maxRecDepth 20000 in
theorem gX6_most_X0_isGroup : GoodIn wsX6_most (wsV RX6 65 RX0 yX0_isGroup wsX0_isGroup) := goodIn_app (goodIn_of _ (by decide +kernel)) ggX6_most_X0_isGroup
set_option maxRecDepth 20000 in
theorem ggX6_most_X6_forgetRun : GoodIn wsX6_most wsX6_forgetRun := goodIn_r _ [16, 17, 18, 19, 20, 21, 22, 23, 24, 25, 26, 27, 28, 29, 30, 31, 32, 33, 34, 35, 36, 37, 38, 39, 40, 41, 42, 43, 44, 45, 46, 47, 48, 49, 50, 9, 51, 52, 53, 54, 55, 56, 57, 58, 59, 60, 77, 78, 79, 80, 81, 82, 83, 84, 85, 86, 87, 88, 89, 90, 91, 92, 93, 94, 95, 96, 97, 98, 99, 100, 101, 102, 103, 104, 67, 68, 69, 70, 71, 72, 73, 74, 75, 76] (by decide +kernel) (by decide +kernel)
set_option maxRecDepth 20000 in
theorem gX6_most_X6_forgetRun : GoodIn wsX6_most (wsV RX6 80 RX6 yX6_forgetRun wsX6_forgetRun) := goodIn_app (goodIn_of _ (by decide +kernel)) ggX6_most_X6_forgetRun
set_option maxRecDepth 20000 in
theorem ggX6_unit_X3_collect : GoodIn wsX6_unit wsX3_collect := goodIn_r _ [6, 7, 8, 16, 17, 18, 19, 20, 21] (by decide +kernel) (by decide +kernel)
set_option maxRecDepth 20000 in
theorem gX6_unit_X3_collect : GoodIn wsX6_unit (wsV RX6 92 RX3 yX3_collect wsX3_collect) := goodIn_app (goodIn_of _ (by decide +kernel)) ggX6_unit_X3_collect
set_option maxRecDepth 20000 in
theorem ggX6_read_X3_parse : GoodIn wsX6_read wsX3_parse := goodIn_r _ [9, 10, 11, 12, 13, 14, 8, 15, 16, 17, 18, 19, 20, 21, 22, 23, 24, 25, 26, 27, 28, 29, 30, 31, 32, 33, 34, 35, 36, 37, 38, 110, 111, 112, 113, 114, 115] (by decide +kernel) (by decide +kernel)
set_option maxRecDepth 20000 in
theorem gX6_read_X3_parse : GoodIn wsX6_read (wsV RX6 99 RX3 yX3_parse wsX3_parse) := goodIn_app (goodIn_of _ (by decide +kernel)) ggX6_read_X3_parse
set_option maxRecDepth 20000 in
theorem ggX6_read_X0_addPlan : GoodIn wsX6_read wsX0_addPlan := goodIn_r _ [43, 44, 45, 46, 47, 48, 49, 50, 51, 100, 101, 102, 103, 104, 105, 106, 107, 108, 109, 110, 111, 112, 113, 114, 115] (by decide +kernel) (by decide +kernel)
set_option maxRecDepth 20000 in
theorem gX6_read_X0_addPlan : GoodIn wsX6_read (wsV RX6 103 RX0 yX0_addPlan wsX0_addPlan) := goodIn_app (goodIn_of _ (by decide +kernel)) ggX6_read_X0_addPlan
