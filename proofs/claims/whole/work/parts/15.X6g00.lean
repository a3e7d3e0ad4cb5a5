set_option maxRecDepth 20000 in
theorem ggX6_init_X0_init : GoodIn wsX6_init wsX0_init := goodIn_r _ [26, 27, 2, 3, 28, 29, 30, 31, 32, 33, 34, 35, 36, 126, 127, 128, 129, 130, 131, 132, 133, 134, 135] rfl (by decide +kernel)
set_option maxRecDepth 20000 in
theorem gX6_init_X0_init_n11 : GoodIn wsX6_init (wsX0_init) := ggX6_init_X0_init
set_option maxRecDepth 20000 in
theorem ggX6_init_X3_init : GoodIn wsX6_init wsX3_init := goodIn_r _ [38, 39, 2, 3, 28, 40, 41, 42, 43, 143, 144, 145, 146, 147, 148] rfl (by decide +kernel)
set_option maxRecDepth 20000 in
theorem gX6_init_X3_init_n18 : GoodIn wsX6_init (wsX3_init) := ggX6_init_X3_init
set_option maxRecDepth 20000 in
theorem ggX6_init_X1_init : GoodIn wsX6_init wsX1_init := goodIn_r _ [45, 46, 2, 3, 28, 47, 48, 149, 150, 151] rfl (by decide +kernel)
set_option maxRecDepth 20000 in
theorem gX6_init_X1_init_n25 : GoodIn wsX6_init (wsX1_init) := ggX6_init_X1_init
set_option maxRecDepth 20000 in
theorem ggX6_init_X2_init : GoodIn wsX6_init wsX2_init := goodIn_r _ [51, 52, 2, 3, 28, 53, 54, 152, 153, 154, 155, 156, 157, 158, 159, 160, 161] rfl (by decide +kernel)
set_option maxRecDepth 20000 in
theorem gX6_init_X2_init : GoodIn wsX6_init (wsX2_init) := ggX6_init_X2_init
set_option maxRecDepth 20000 in
theorem ggX6_init_X4_init : GoodIn wsX6_init wsX4_init := goodIn_r _ [57, 58, 2, 3, 59, 28, 60, 61, 62, 63, 64, 65, 66, 67, 68, 69, 70, 71, 72, 17, 18, 73, 74, 75, 76, 77, 78, 79, 80, 81, 50, 51, 52, 53, 54, 162, 163, 164, 165, 166, 167, 168, 169, 170, 171, 172, 173, 174, 175, 176, 177, 178, 179, 180, 152, 153, 154, 155, 156, 157, 158, 159, 160, 161] rfl (by decide +kernel)
set_option maxRecDepth 20000 in
theorem gX6_init_X4_init : GoodIn wsX6_init (wsX4_init) := ggX6_init_X4_init
set_option maxRecDepth 20000 in
theorem ggX6_init_X6_startAnew : GoodIn wsX6_init wsX6_startAnew := goodIn_r _ [86, 7, 11, 87, 88, 89, 90, 6, 91, 92, 93, 29, 30, 31, 32, 33, 34, 94, 95, 96, 97, 98, 99, 100, 85, 101, 15, 102, 24, 19, 103, 104, 105, 106, 23, 107, 108, 69, 59, 109, 110, 111, 112, 18, 113, 114, 115, 116, 117, 118, 119, 54, 53, 120, 121, 122, 123, 124, 125, 136, 137, 138, 139, 140, 141, 142, 143, 144, 145, 146, 147, 148, 126, 127, 128, 129, 130, 131, 132, 133, 134, 135, 149, 150, 151, 162, 163, 164, 165, 166, 167, 168, 169, 170, 171, 172, 173, 174, 175, 176, 152, 153, 154, 155, 156, 157, 158, 159, 160, 161] rfl (by decide +kernel)
set_option maxRecDepth 20000 in
theorem gX6_init_X6_startAnew : GoodIn wsX6_init (wsV RX6 49 RX6 yX6_startAnew wsX6_startAnew) := goodIn_app (goodIn_of _ (by decide +kernel)) ggX6_init_X6_startAnew
set_option maxRecDepth 20000 in
theorem ggX6_clash_X0_isGroup : GoodIn wsX6_clash wsX0_isGroup := goodIn_r _ [9, 10, 73, 74, 75, 76, 77, 78, 79, 80, 81, 82] rfl (by decide +kernel)
set_option maxRecDepth 20000 in
theorem gX6_clash_X0_isGroup : GoodIn wsX6_clash (wsV RX6 65 RX0 yX0_isGroup wsX0_isGroup) := goodIn_app (goodIn_of _ (by decide +kernel)) ggX6_clash_X0_isGroup
set_option maxRecDepth 20000 in
theorem ggX6_clash_X0_bar : GoodIn wsX6_clash wsX0_bar := goodIn_r _ [14, 15, 16, 17, 6, 7, 8, 9, 10, 73, 74, 75, 76, 77, 78, 79, 80, 81, 82] rfl (by decide +kernel)
set_option maxRecDepth 20000 in
theorem gX6_clash_X0_bar : GoodIn wsX6_clash (wsV RX6 76 RX0 yX0_bar wsX0_bar) := goodIn_app (goodIn_of _ (by decide +kernel)) ggX6_clash_X0_bar
set_option maxRecDepth 20000 in
theorem ggX6_clash_X6_forgetRun : GoodIn wsX6_clash wsX6_forgetRun := goodIn_r _ [22, 23, 24, 25, 26, 27, 28, 29, 30, 31, 32, 33, 34, 35, 36, 37, 38, 39, 40, 41, 42, 43, 44, 45, 46, 47, 48, 49, 50, 51, 52, 53, 54, 55, 56, 8, 57, 58, 59, 60, 61, 62, 63, 64, 65, 66, 83, 84, 85, 86, 87, 88, 89, 90, 91, 92, 93, 94, 95, 96, 97, 98, 99, 100, 101, 102, 103, 104, 105, 106, 107, 108, 109, 110, 73, 74, 75, 76, 77, 78, 79, 80, 81, 82] rfl (by decide +kernel)
set_option maxRecDepth 20000 in
theorem gX6_clash_X6_forgetRun : GoodIn wsX6_clash (wsV RX6 80 RX6 yX6_forgetRun wsX6_forgetRun) := goodIn_app (goodIn_of _ (by decide +kernel)) ggX6_clash_X6_forgetRun
set_option maxRecDepth 20000 in
theorem ggX6_least_X0_isGroup : GoodIn wsX6_least wsX0_isGroup := goodIn_r _ [10, 11, 67, 68, 69, 70, 71, 72, 73, 74, 75, 76] rfl (by decide +kernel)
set_option maxRecDepth 20000 in
theorem gX6_least_X0_isGroup : GoodIn wsX6_least (wsV RX6 65 RX0 yX0_isGroup wsX0_isGroup) := goodIn_app (goodIn_of _ (by decide +kernel)) ggX6_least_X0_isGroup
set_option maxRecDepth 20000 in
theorem ggX6_least_X6_forgetRun : GoodIn wsX6_least wsX6_forgetRun := goodIn_r _ [16, 17, 18, 19, 20, 21, 22, 23, 24, 25, 26, 27, 28, 29, 30, 31, 32, 33, 34, 35, 36, 37, 38, 39, 40, 41, 42, 43, 44, 45, 46, 47, 48, 49, 50, 9, 51, 52, 53, 54, 55, 56, 57, 58, 59, 60, 77, 78, 79, 80, 81, 82, 83, 84, 85, 86, 87, 88, 89, 90, 91, 92, 93, 94, 95, 96, 97, 98, 99, 100, 101, 102, 103, 104, 67, 68, 69, 70, 71, 72, 73, 74, 75, 76] rfl (by decide +kernel)
set_option maxRecDepth 20000 in
theorem gX6_least_X6_forgetRun : GoodIn wsX6_least (wsV RX6 80 RX6 yX6_forgetRun wsX6_forgetRun) := goodIn_app (goodIn_of _ (by decide +kernel)) ggX6_least_X6_forgetRun
set_option maxRecDepth 20000 in
theorem ggX6_most_X0_isGroup : GoodIn wsX6_most wsX0_isGroup := goodIn_r _ [10, 11, 67, 68, 69, 70, 71, 72, 73, 74, 75, 76] rfl (by decide +kernel)
set_option maxRecDepth 20000 in
theorem gX6_most_X0_isGroup : GoodIn wsX6_most (wsV RX6 65 RX0 yX0_isGroup wsX0_isGroup) := goodIn_app (goodIn_of _ (by decide +kernel)) ggX6_most_X0_isGroup
set_option maxRecDepth 20000 in
theorem ggX6_most_X6_forgetRun : GoodIn wsX6_most wsX6_forgetRun := goodIn_r _ [16, 17, 18, 19, 20, 21, 22, 23, 24, 25, 26, 27, 28, 29, 30, 31, 32, 33, 34, 35, 36, 37, 38, 39, 40, 41, 42, 43, 44, 45, 46, 47, 48, 49, 50, 9, 51, 52, 53, 54, 55, 56, 57, 58, 59, 60, 77, 78, 79, 80, 81, 82, 83, 84, 85, 86, 87, 88, 89, 90, 91, 92, 93, 94, 95, 96, 97, 98, 99, 100, 101, 102, 103, 104, 67, 68, 69, 70, 71, 72, 73, 74, 75, 76] rfl (by decide +kernel)
set_option maxRecDepth 20000 in
theorem gX6_most_X6_forgetRun : GoodIn wsX6_most (wsV RX6 80 RX6 yX6_forgetRun wsX6_forgetRun) := goodIn_app (goodIn_of _ (by decide +kernel)) ggX6_most_X6_forgetRun
set_option maxRecDepth 20000 in
theorem ggX6_unit_X3_collect : GoodIn wsX6_unit wsX3_collect := goodIn_r _ [6, 7, 8, 16, 17, 18, 19, 20, 21] rfl (by decide +kernel)
set_option maxRecDepth 20000 in
theorem gX6_unit_X3_collect : GoodIn wsX6_unit (wsV RX6 92 RX3 yX3_collect wsX3_collect) := goodIn_app (goodIn_of _ (by decide +kernel)) ggX6_unit_X3_collect
set_option maxRecDepth 20000 in
theorem ggX6_read_X3_parse : GoodIn wsX6_read wsX3_parse := goodIn_r _ [9, 10, 11, 12, 13, 14, 8, 15, 16, 17, 18, 19, 20, 21, 22, 23, 24, 25, 26, 27, 28, 29, 30, 31, 32, 33, 34, 35, 36, 37, 38, 110, 111, 112, 113, 114, 115] rfl (by decide +kernel)
set_option maxRecDepth 20000 in
theorem gX6_read_X3_parse : GoodIn wsX6_read (wsV RX6 99 RX3 yX3_parse wsX3_parse) := goodIn_app (goodIn_of _ (by decide +kernel)) ggX6_read_X3_parse
set_option maxRecDepth 20000 in
theorem ggX6_read_X0_addPlan : GoodIn wsX6_read wsX0_addPlan := goodIn_r _ [43, 44, 45, 46, 47, 48, 49, 50, 51, 100, 101, 102, 103, 104, 105, 106, 107, 108, 109, 110, 111, 112, 113, 114, 115] rfl (by decide +kernel)
set_option maxRecDepth 20000 in
theorem gX6_read_X0_addPlan : GoodIn wsX6_read (wsV RX6 103 RX0 yX0_addPlan wsX0_addPlan) := goodIn_app (goodIn_of _ (by decide +kernel)) ggX6_read_X0_addPlan
set_option maxRecDepth 20000 in
theorem ggX6_read_X6_forgetRun : GoodIn wsX6_read wsX6_forgetRun := goodIn_r _ [56, 57, 58, 59, 60, 61, 62, 63, 64, 65, 66, 67, 68, 69, 70, 71, 72, 73, 74, 75, 76, 77, 78, 79, 80, 81, 82, 83, 84, 85, 86, 87, 88, 89, 90, 42, 91, 45, 92, 93, 94, 95, 96, 97, 98, 99, 116, 117, 118, 119, 120, 121, 122, 123, 124, 125, 126, 127, 128, 129, 130, 131, 132, 133, 134, 135, 136, 137, 138, 139, 140, 141, 142, 143, 100, 101, 102, 103, 104, 105, 106, 107, 108, 109] rfl (by decide +kernel)
set_option maxRecDepth 20000 in
theorem gX6_read_X6_forgetRun : GoodIn wsX6_read (wsV RX6 80 RX6 yX6_forgetRun wsX6_forgetRun) := goodIn_app (goodIn_of _ (by decide +kernel)) ggX6_read_X6_forgetRun
set_option maxRecDepth 20000 in
theorem ggX6_call_X0_isGroup : GoodIn wsX6_call wsX0_isGroup := goodIn_r _ [6, 7, 34, 35, 36, 37, 38, 39, 40, 41, 42, 43] rfl (by decide +kernel)
set_option maxRecDepth 20000 in
theorem gX6_call_X0_isGroup : GoodIn wsX6_call (wsV RX6 65 RX0 yX0_isGroup wsX0_isGroup) := goodIn_app (goodIn_of _ (by decide +kernel)) ggX6_call_X0_isGroup
set_option maxRecDepth 20000 in
theorem ggX6_call_X6_note : GoodIn wsX6_call wsX6_note := goodIn_r _ [12, 13, 14, 15, 16, 17, 18, 19, 20, 21, 22, 23, 24, 25, 26, 27, 28, 29, 30, 31, 32, 33, 44, 45, 46] rfl (by decide +kernel)
set_option maxRecDepth 20000 in
theorem gX6_call_X6_note : GoodIn wsX6_call (wsV RX6 113 RX6 yX6_note wsX6_note) := goodIn_app (goodIn_of _ (by decide +kernel)) ggX6_call_X6_note
set_option maxRecDepth 20000 in
theorem ggX6_plan_X0_isPlan : GoodIn wsX6_plan wsX0_isPlan := goodIn_r _ [7, 8, 35, 36, 37, 38, 39, 40, 41, 42, 43, 44] rfl (by decide +kernel)
set_option maxRecDepth 20000 in
theorem gX6_plan_X0_isPlan : GoodIn wsX6_plan (wsV RX6 117 RX0 yX0_isPlan wsX0_isPlan) := goodIn_app (goodIn_of _ (by decide +kernel)) ggX6_plan_X0_isPlan
set_option maxRecDepth 20000 in
theorem ggX6_plan_X6_note : GoodIn wsX6_plan wsX6_note := goodIn_r _ [13, 14, 15, 16, 17, 18, 19, 20, 21, 22, 23, 24, 25, 26, 27, 28, 29, 30, 31, 32, 33, 34, 45, 46, 47] rfl (by decide +kernel)
set_option maxRecDepth 20000 in
theorem gX6_plan_X6_note : GoodIn wsX6_plan (wsV RX6 113 RX6 yX6_note wsX6_note) := goodIn_app (goodIn_of _ (by decide +kernel)) ggX6_plan_X6_note
set_option maxRecDepth 20000 in
theorem ggX6_second_X1_eventOf : GoodIn wsX6_second wsX1_eventOf := goodIn_r _ [10, 11, 12, 13, 14, 9, 15, 16, 17, 125, 126, 127] rfl (by decide +kernel)
set_option maxRecDepth 20000 in
theorem gX6_second_X1_eventOf : GoodIn wsX6_second (wsV RX6 123 RX1 yX1_eventOf wsX1_eventOf) := goodIn_app (goodIn_of _ (by decide +kernel)) ggX6_second_X1_eventOf
set_option maxRecDepth 20000 in
theorem ggX6_second_X2_step : GoodIn wsX6_second wsX2_step := goodIn_r _ [22, 23, 24, 25, 26, 27, 28, 29, 30, 31, 32, 33, 34, 35, 21, 36, 37, 38, 39, 40, 41, 42, 43, 44, 45, 46, 47, 48, 49, 50, 51, 52, 53, 54, 55, 56, 57, 58, 59, 60, 61, 62, 63, 64, 65, 66, 67, 68, 69, 70, 71, 72, 73, 74, 75, 76, 77, 78, 79, 80, 81, 82, 83, 84, 85, 86, 87, 88, 89, 90, 91, 92, 93, 94, 95, 96, 97, 98, 99, 100, 101, 102, 103, 104, 105, 106, 107, 128, 129, 130, 131, 132, 133, 134, 135, 136, 137, 115, 116, 117, 118, 119, 120, 121, 122, 123, 124] rfl (by decide +kernel)
set_option maxRecDepth 20000 in
theorem gX6_second_X2_step : GoodIn wsX6_second (wsV RX6 126 RX2 yX2_step wsX2_step) := goodIn_app (goodIn_of _ (by decide +kernel)) ggX6_second_X2_step
set_option maxRecDepth 20000 in
theorem ggX6_told_X2_packed : GoodIn wsX6_told wsX2_packed := goodIn_r _ [10, 11, 12, 13, 14, 15, 16, 17, 63, 64, 65, 66, 67, 68, 69, 70, 71, 72] rfl (by decide +kernel)
set_option maxRecDepth 20000 in
theorem gX6_told_X2_packed : GoodIn wsX6_told (wsV RX6 129 RX2 yX2_packed wsX2_packed) := goodIn_app (goodIn_of _ (by decide +kernel)) ggX6_told_X2_packed
set_option maxRecDepth 20000 in
theorem ggX6_told_X4_numberOf : GoodIn wsX6_told wsX4_numberOf := goodIn_r _ [22, 23, 24, 25, 26, 21, 27, 28, 29, 73, 74, 75, 76, 77, 78, 79, 80, 81, 82, 83, 84, 85, 86, 87] rfl (by decide +kernel)
set_option maxRecDepth 20000 in
theorem gX6_told_X4_numberOf : GoodIn wsX6_told (wsV RX6 133 RX4 yX4_numberOf wsX4_numberOf) := goodIn_app (goodIn_of _ (by decide +kernel)) ggX6_told_X4_numberOf
set_option maxRecDepth 20000 in
theorem ggX6_told_X2_look : GoodIn wsX6_told wsX2_look := goodIn_r _ [33, 17, 16, 15, 13, 12, 34, 35, 11, 36, 37, 38, 9, 39, 14, 40, 41, 42, 43, 44, 45, 63, 64, 65, 66, 67, 68, 69, 70, 71, 72, 53, 54, 55, 56, 57, 58, 59, 60, 61, 62] rfl (by decide +kernel)
set_option maxRecDepth 20000 in
theorem gX6_told_X2_look : GoodIn wsX6_told (wsV RX6 137 RX2 yX2_look wsX2_look) := goodIn_app (goodIn_of _ (by decide +kernel)) ggX6_told_X2_look
set_option maxRecDepth 20000 in
theorem ggX6_shown_X0_isGroup : GoodIn wsX6_shown wsX0_isGroup := goodIn_r _ [8, 9, 31, 32, 33, 34, 35, 36, 37, 38, 39, 40] rfl (by decide +kernel)
set_option maxRecDepth 20000 in
theorem gX6_shown_X0_isGroup : GoodIn wsX6_shown (wsV RX6 65 RX0 yX0_isGroup wsX0_isGroup) := goodIn_app (goodIn_of _ (by decide +kernel)) ggX6_shown_X0_isGroup
set_option maxRecDepth 20000 in
theorem ggX6_shown_X2_lit : GoodIn wsX6_shown wsX2_lit := goodIn_r _ [14, 15, 16, 17, 18, 19, 20, 21, 7, 22, 23, 41, 42, 43, 44, 45, 46, 47, 48, 49, 50, 31, 32, 33, 34, 35, 36, 37, 38, 39, 40] rfl (by decide +kernel)
set_option maxRecDepth 20000 in
theorem gX6_shown_X2_lit : GoodIn wsX6_shown (wsV RX6 140 RX2 yX2_lit wsX2_lit) := goodIn_app (goodIn_of _ (by decide +kernel)) ggX6_shown_X2_lit
set_option maxRecDepth 20000 in
theorem ggX6_prove_X4_forget : GoodIn wsX6_prove wsX4_forget := goodIn_r _ [8, 9, 10, 11, 12, 13, 14, 15, 206, 207, 208, 209, 210, 211, 212, 213, 214, 215, 216, 217, 218, 219, 220] rfl (by decide +kernel)
set_option maxRecDepth 20000 in
theorem gX6_prove_X4_forget : GoodIn wsX6_prove (wsV RX6 144 RX4 yX4_forget wsX4_forget) := goodIn_app (goodIn_of _ (by decide +kernel)) ggX6_prove_X4_forget
set_option maxRecDepth 20000 in
theorem ggX6_prove_X4_search : GoodIn wsX6_prove wsX4_search := goodIn_r _ [19, 20, 11, 9, 21, 22, 23, 24, 25, 26, 5, 6, 7, 8, 10, 12, 13, 14, 15, 27, 28, 29, 30, 31, 32, 33, 34, 35, 36, 37, 38, 39, 40, 41, 42, 43, 44, 45, 46, 47, 48, 49, 50, 51, 52, 53, 54, 55, 56, 57, 58, 59, 60, 61, 62, 63, 64, 65, 66, 67, 68, 69, 70, 71, 72, 73, 74, 75, 76, 77, 78, 79, 80, 81, 82, 83, 84, 85, 86, 87, 88, 89, 90, 91, 92, 93, 94, 95, 96, 97, 98, 99, 100, 101, 102, 103, 104, 105, 106, 107, 108, 109, 110, 111, 112, 113, 114, 115, 116, 117, 118, 119, 120, 121, 122, 123, 124, 125, 126, 127, 128, 129, 130, 131, 132, 133, 134, 135, 136, 137, 138, 139, 140, 141, 142, 143, 144, 145, 146, 147, 148, 149, 150, 151, 152, 153, 154, 155, 156, 157, 158, 159, 160, 161, 162, 163, 164, 165, 166, 167, 168, 169, 170, 171, 172, 173, 174, 175, 176, 177, 178, 179, 180, 181, 182, 183, 184, 185, 186, 187, 188, 206, 207, 208, 209, 210, 211, 212, 213, 214, 215, 216, 217, 218, 219, 220, 196, 197, 198, 199, 200, 201, 202, 203, 204, 205, 221, 222, 223, 224, 225, 226, 227, 228, 229, 230, 231, 232, 233, 234] rfl (by decide +kernel)
set_option maxRecDepth 20000 in
theorem gX6_prove_X4_search : GoodIn wsX6_prove (wsV RX6 147 RX4 yX4_search wsX4_search) := goodIn_app (goodIn_of _ (by decide +kernel)) ggX6_prove_X4_search
