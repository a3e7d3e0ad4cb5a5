set_option maxRecDepth 20000 in
theorem ggX4_init_X5_init : GoodIn wsX4_init wsX5_init := goodIn_r _ [23, 24, 2, 3, 5, 25, 26, 27, 28, 50, 51, 52, 53] rfl (by decide +kernel)
set_option maxRecDepth 20000 in
theorem gX4_init_X5_init_n21 : GoodIn wsX4_init (wsX5_init) := ggX4_init_X5_init
set_option maxRecDepth 20000 in
theorem ggX4_init_X2_init : GoodIn wsX4_init wsX2_init := goodIn_r _ [31, 32, 2, 3, 5, 33, 34, 54, 55, 56, 57, 58, 59, 60, 61, 62, 63] rfl (by decide +kernel)
set_option maxRecDepth 20000 in
theorem gX4_init_X2_init : GoodIn wsX4_init (wsX2_init) := ggX4_init_X2_init
set_option maxRecDepth 20000 in
theorem ggX4_forget_J7_fill_53178 : GoodIn wsX4_forget wsJ7_fill_53178 := goodIn_r _ [7] rfl (by decide +kernel)
set_option maxRecDepth 20000 in
theorem gX4_forget_J7_fill_53178 : GoodIn wsX4_forget (va_wsS RX4 58 yJ7_fill_53178 wsJ7_fill_53178) := goodIn_app (goodIn_of _ (by decide +kernel)) ggX4_forget_J7_fill_53178
set_option maxRecDepth 20000 in
theorem ggX4_numberOf_X4_slotOf : GoodIn wsX4_numberOf wsX4_slotOf := goodIn_r _ [6, 7, 1, 8, 9, 10, 11, 12, 13, 14, 15, 16, 17, 18, 19, 20, 21, 22, 23] rfl (by decide +kernel)
set_option maxRecDepth 20000 in
theorem gX4_numberOf_X4_slotOf : GoodIn wsX4_numberOf (wsV RX4 64 RX4 yX4_slotOf wsX4_slotOf) := goodIn_app (goodIn_of _ (by decide +kernel)) ggX4_numberOf_X4_slotOf
set_option maxRecDepth 20000 in
theorem ggX4_search_X4_forget : GoodIn wsX4_search wsX4_forget := goodIn_r _ [13, 3, 14, 2, 15, 16, 17, 18, 181, 182, 183, 184, 185, 186, 187, 188, 189, 190, 191, 192, 193, 194, 195] rfl (by decide +kernel)
set_option maxRecDepth 20000 in
theorem gX4_search_X4_forget : GoodIn wsX4_search (wsV RX4 68 RX4 yX4_forget wsX4_forget) := goodIn_app (goodIn_of _ (by decide +kernel)) ggX4_search_X4_forget
set_option maxRecDepth 20000 in
theorem ggX4_search_X2_reset : GoodIn wsX4_search wsX2_reset := goodIn_r _ [23, 24, 25, 26, 27, 28, 29, 30, 31, 32, 33, 34, 35, 36, 37, 38, 39, 16, 17, 18, 206, 207, 208, 209, 210, 211, 212, 213, 214, 215, 196, 197, 198, 199, 200, 201, 202, 203, 204, 205] rfl (by decide +kernel)
set_option maxRecDepth 20000 in
theorem gX4_search_X2_reset : GoodIn wsX4_search (wsV RX4 71 RX2 yX2_reset wsX2_reset) := goodIn_app (goodIn_of _ (by decide +kernel)) ggX4_search_X2_reset
set_option maxRecDepth 20000 in
theorem ggX4_search_X2_packed : GoodIn wsX4_search wsX2_packed := goodIn_r _ [43, 31, 29, 28, 27, 26, 25, 24, 206, 207, 208, 209, 210, 211, 212, 213, 214, 215] rfl (by decide +kernel)
set_option maxRecDepth 20000 in
theorem gX4_search_X2_packed : GoodIn wsX4_search (wsV RX4 74 RX2 yX2_packed wsX2_packed) := goodIn_app (goodIn_of _ (by decide +kernel)) ggX4_search_X2_packed
set_option maxRecDepth 20000 in
theorem ggX4_search_X4_add : GoodIn wsX4_search wsX4_add := goodIn_r _ [47, 3, 8, 48, 49, 14, 50, 51, 52, 12, 53, 54, 181, 182, 183, 184, 185, 186, 187, 188, 189, 190, 191, 192, 193, 194, 195] rfl (by decide +kernel)
set_option maxRecDepth 20000 in
theorem gX4_search_X4_add : GoodIn wsX4_search (wsV RX4 78 RX4 yX4_add wsX4_add) := goodIn_app (goodIn_of _ (by decide +kernel)) ggX4_search_X4_add
set_option maxRecDepth 20000 in
theorem ggX4_search_X4_expand : GoodIn wsX4_search wsX4_expand := goodIn_r _ [58, 4, 1, 8, 59, 60, 61, 3, 7, 62, 63, 64, 36, 65, 66, 67, 68, 69, 70, 22, 71, 24, 25, 26, 27, 28, 29, 31, 72, 73, 74, 75, 76, 77, 78, 79, 80, 81, 82, 83, 84, 85, 86, 87, 88, 30, 32, 89, 90, 91, 92, 93, 94, 95, 96, 33, 34, 35, 37, 38, 97, 98, 99, 100, 101, 102, 103, 104, 105, 106, 107, 108, 109, 110, 111, 112, 113, 114, 115, 116, 117, 118, 119, 120, 121, 122, 123, 124, 125, 126, 127, 128, 129, 130, 131, 132, 133, 134, 135, 136, 137, 138, 139, 140, 141, 142, 143, 144, 145, 146, 40, 41, 42, 43, 147, 148, 149, 12, 150, 151, 152, 48, 153, 154, 155, 156, 14, 50, 51, 52, 53, 54, 44, 45, 46, 47, 49, 157, 158, 159, 160, 161, 162, 181, 182, 183, 184, 185, 186, 187, 188, 189, 190, 191, 192, 193, 194, 195, 196, 197, 198, 199, 200, 201, 202, 203, 204, 205, 206, 207, 208, 209, 210, 211, 212, 213, 214, 215, 216, 217, 218, 219] rfl (by decide +kernel)
set_option maxRecDepth 20000 in
theorem gX4_search_X4_expand : GoodIn wsX4_search (wsV RX4 82 RX4 yX4_expand wsX4_expand) := goodIn_app (goodIn_of _ (by decide +kernel)) ggX4_search_X4_expand
set_option maxRecDepth 20000 in
theorem ggX4_search_X0_eventCount : GoodIn wsX4_search wsX0_eventCount := goodIn_r _ [65, 66, 67, 196, 197, 198, 199, 200, 201, 202, 203, 204, 205] rfl (by decide +kernel)
set_option maxRecDepth 20000 in
theorem gX4_search_X0_eventCount : GoodIn wsX4_search (wsV RX4 91 RX0 yX0_eventCount wsX0_eventCount) := goodIn_app (goodIn_of _ (by decide +kernel)) ggX4_search_X0_eventCount
set_option maxRecDepth 20000 in
theorem ggX4_search_X5_longestChain : GoodIn wsX4_search wsX5_longestChain := goodIn_r _ [166, 167, 168, 169, 170, 171, 83, 172, 162, 173, 174, 175, 160, 176, 177, 16, 17, 18, 178, 179, 22, 180, 216, 217, 218, 219] rfl (by decide +kernel)
set_option maxRecDepth 20000 in
theorem gX4_search_X5_longestChain : GoodIn wsX4_search (wsV RX4 95 RX5 yX5_longestChain wsX5_longestChain) := goodIn_app (goodIn_of _ (by decide +kernel)) ggX4_search_X5_longestChain
set_option maxRecDepth 20000 in
theorem ggX4_expand_X0_eventCount : GoodIn wsX4_expand wsX0_eventCount := goodIn_r _ [13, 14, 15, 158, 159, 160, 161, 162, 163, 164, 165, 166, 167] rfl (by decide +kernel)
set_option maxRecDepth 20000 in
theorem gX4_expand_X0_eventCount : GoodIn wsX4_expand (wsV RX4 91 RX0 yX0_eventCount wsX0_eventCount) := goodIn_app (goodIn_of _ (by decide +kernel)) ggX4_expand_X0_eventCount
set_option maxRecDepth 20000 in
theorem ggX4_expand_X2_unpack : GoodIn wsX4_expand wsX2_unpack := goodIn_r _ [20, 21, 22, 23, 24, 25, 26, 27, 28, 29, 19, 30, 168, 169, 170, 171, 172, 173, 174, 175, 176, 177] rfl (by decide +kernel)
set_option maxRecDepth 20000 in
theorem gX4_expand_X2_unpack : GoodIn wsX4_expand (wsV RX4 99 RX2 yX2_unpack wsX2_unpack) := goodIn_app (goodIn_of _ (by decide +kernel)) ggX4_expand_X2_unpack
set_option maxRecDepth 20000 in
theorem ggX4_expand_X2_step : GoodIn wsX4_expand wsX2_step := goodIn_r _ [34, 35, 36, 23, 24, 22, 37, 38, 39, 40, 21, 41, 42, 43, 19, 44, 45, 46, 26, 25, 47, 48, 49, 12, 50, 14, 51, 52, 53, 54, 55, 56, 57, 58, 59, 60, 61, 62, 63, 15, 64, 65, 66, 67, 27, 68, 69, 70, 71, 72, 73, 74, 75, 76, 77, 78, 79, 80, 81, 82, 83, 84, 85, 86, 87, 88, 89, 90, 91, 92, 93, 94, 95, 96, 97, 98, 99, 100, 101, 102, 103, 104, 105, 106, 107, 108, 109, 168, 169, 170, 171, 172, 173, 174, 175, 176, 177, 158, 159, 160, 161, 162, 163, 164, 165, 166, 167] rfl (by decide +kernel)
set_option maxRecDepth 20000 in
theorem gX4_expand_X2_step : GoodIn wsX4_expand (wsV RX4 103 RX2 yX2_step wsX2_step) := goodIn_app (goodIn_of _ (by decide +kernel)) ggX4_expand_X2_step
set_option maxRecDepth 20000 in
theorem ggX4_expand_X2_packed : GoodIn wsX4_expand wsX2_packed := goodIn_r _ [113, 27, 26, 25, 24, 23, 22, 21, 168, 169, 170, 171, 172, 173, 174, 175, 176, 177] rfl (by decide +kernel)
set_option maxRecDepth 20000 in
theorem gX4_expand_X2_packed : GoodIn wsX4_expand (wsV RX4 74 RX2 yX2_packed wsX2_packed) := goodIn_app (goodIn_of _ (by decide +kernel)) ggX4_expand_X2_packed
set_option maxRecDepth 20000 in
theorem ggX4_expand_X4_trace : GoodIn wsX4_expand wsX4_trace := goodIn_r _ [118, 119, 120, 121, 143, 144, 145, 146, 147, 148, 149, 150, 151, 152, 153, 154, 155, 156, 157] rfl (by decide +kernel)
set_option maxRecDepth 20000 in
theorem gX4_expand_X4_trace : GoodIn wsX4_expand (wsV RX4 117 RX4 yX4_trace wsX4_trace) := goodIn_app (goodIn_of _ (by decide +kernel)) ggX4_expand_X4_trace
set_option maxRecDepth 20000 in
theorem ggX4_expand_X4_numberOf : GoodIn wsX4_expand wsX4_numberOf := goodIn_r _ [125, 126, 127, 128, 129, 117, 130, 131, 3, 143, 144, 145, 146, 147, 148, 149, 150, 151, 152, 153, 154, 155, 156, 157] rfl (by decide +kernel)
set_option maxRecDepth 20000 in
theorem gX4_expand_X4_numberOf : GoodIn wsX4_expand (wsV RX4 121 RX4 yX4_numberOf wsX4_numberOf) := goodIn_app (goodIn_of _ (by decide +kernel)) ggX4_expand_X4_numberOf
set_option maxRecDepth 20000 in
theorem ggX4_expand_X4_add : GoodIn wsX4_expand wsX4_add := goodIn_r _ [135, 7, 3, 121, 136, 126, 127, 128, 129, 117, 130, 131, 143, 144, 145, 146, 147, 148, 149, 150, 151, 152, 153, 154, 155, 156, 157] rfl (by decide +kernel)
set_option maxRecDepth 20000 in
theorem gX4_expand_X4_add : GoodIn wsX4_expand (wsV RX4 78 RX4 yX4_add wsX4_add) := goodIn_app (goodIn_of _ (by decide +kernel)) ggX4_expand_X4_add
set_option maxRecDepth 20000 in
theorem ggX4_expand_X5_link : GoodIn wsX4_expand wsX5_link := goodIn_r _ [141, 142, 178, 179, 180, 181] rfl (by decide +kernel)
set_option maxRecDepth 20000 in
theorem gX4_expand_X5_link : GoodIn wsX4_expand (wsV RX4 124 RX5 yX5_link wsX5_link) := goodIn_app (goodIn_of _ (by decide +kernel)) ggX4_expand_X5_link
set_option maxRecDepth 20000 in
theorem ggX4_add_X4_slotOf : GoodIn wsX4_add wsX4_slotOf := goodIn_r _ [10, 11, 5, 2, 12, 13, 14, 15, 16, 17, 18, 19, 20, 21, 22, 23, 24, 25, 26] rfl (by decide +kernel)
set_option maxRecDepth 20000 in
theorem gX4_add_X4_slotOf : GoodIn wsX4_add (wsV RX4 64 RX4 yX4_slotOf wsX4_slotOf) := goodIn_app (goodIn_of _ (by decide +kernel)) ggX4_add_X4_slotOf
set_option maxRecDepth 20000 in
theorem ggX4_rowEntry_X2_unpack : GoodIn wsX4_rowEntry wsX2_unpack := goodIn_r _ [14, 15, 16, 17, 18, 19, 20, 21, 22, 23, 13, 24, 60, 61, 62, 63, 64, 65, 66, 67, 68, 69] rfl (by decide +kernel)
set_option maxRecDepth 20000 in
theorem gX4_rowEntry_X2_unpack : GoodIn wsX4_rowEntry (wsV RX4 99 RX2 yX2_unpack wsX2_unpack) := goodIn_app (goodIn_of _ (by decide +kernel)) ggX4_rowEntry_X2_unpack
set_option maxRecDepth 20000 in
theorem ggX4_rowEntry_X4_lookFor : GoodIn wsX4_rowEntry wsX4_lookFor := goodIn_r _ [28] rfl (by decide +kernel)
set_option maxRecDepth 20000 in
theorem gX4_rowEntry_X4_lookFor : GoodIn wsX4_rowEntry (va_wsS RX4 133 yX4_lookFor wsX4_lookFor) := goodIn_app (goodIn_of _ (by decide +kernel)) ggX4_rowEntry_X4_lookFor
set_option maxRecDepth 20000 in
theorem ggX4_rowEntry_X2_look : GoodIn wsX4_rowEntry wsX2_look := goodIn_r _ [32, 15, 16, 17, 19, 20, 33, 34, 21, 35, 36, 37, 13, 38, 18, 39, 40, 41, 42, 43, 44, 60, 61, 62, 63, 64, 65, 66, 67, 68, 69, 70, 71, 72, 73, 74, 75, 76, 77, 78, 79] rfl (by decide +kernel)
set_option maxRecDepth 20000 in
theorem gX4_rowEntry_X2_look : GoodIn wsX4_rowEntry (wsV RX4 136 RX2 yX2_look wsX2_look) := goodIn_app (goodIn_of _ (by decide +kernel)) ggX4_rowEntry_X2_look
