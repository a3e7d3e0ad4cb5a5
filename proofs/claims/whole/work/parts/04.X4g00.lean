set_option maxRecDepth 20000 in
theorem ggX4_init_X5_init : GoodIn wsX4_init wsX5_init := goodIn_r _ [23, 24, 2, 3, 5, 25, 26, 27, 28, 50, 51, 52, 53] (by decide +kernel) (by decide +kernel)
set_option maxRecDepth 20000 in
theorem gX4_init_X5_init_n21 : GoodIn wsX4_init (wsX5_init) := ggX4_init_X5_init
set_option maxRecDepth 20000 in
theorem ggX4_init_X2_init : GoodIn wsX4_init wsX2_init := goodIn_r _ [31, 32, 2, 3, 5, 33, 34, 54, 55, 56, 57, 58, 59, 60, 61, 62, 63] (by decide +kernel) (by decide +kernel)
set_option maxRecDepth 20000 in
theorem gX4_init_X2_init : GoodIn wsX4_init (wsX2_init) := ggX4_init_X2_init
set_option maxRecDepth 20000 in
theorem ggX4_forget_J7_fill_53178 : GoodIn wsX4_forget wsJ7_fill_53178 := goodIn_r _ [7] (by decide +kernel) (by decide +kernel)
set_option maxRecDepth 20000 in
theorem gX4_forget_J7_fill_53178 : GoodIn wsX4_forget (va_wsS RX4 58 yJ7_fill_53178 wsJ7_fill_53178) := goodIn_app (goodIn_of _ (by decide +kernel)) ggX4_forget_J7_fill_53178
set_option maxRecDepth 20000 in
theorem ggX4_numberOf_X4_slotOf : GoodIn wsX4_numberOf wsX4_slotOf := goodIn_r _ [6, 7, 1, 8, 9, 10, 11, 12, 13, 14, 15, 16, 17, 18, 19, 20, 21, 22, 23] (by decide +kernel) (by decide +kernel)
set_option maxRecDepth 20000 in
theorem gX4_numberOf_X4_slotOf : GoodIn wsX4_numberOf (wsV RX4 64 RX4 yX4_slotOf wsX4_slotOf) := goodIn_app (goodIn_of _ (by decide +kernel)) ggX4_numberOf_X4_slotOf
set_option maxRecDepth 20000 in
theorem ggX4_search_X4_forget : GoodIn wsX4_search wsX4_forget := goodIn_r _ [13, 3, 14, 2, 15, 16, 17, 18, 181, 182, 183, 184, 185, 186, 187, 188, 189, 190, 191, 192, 193, 194, 195] (by decide +kernel) (by decide +kernel)
set_option maxRecDepth 20000 in
theorem gX4_search_X4_forget : GoodIn wsX4_search (wsV RX4 68 RX4 yX4_forget wsX4_forget) := goodIn_app (goodIn_of _ (by decide +kernel)) ggX4_search_X4_forget
set_option maxRecDepth 20000 in
theorem ggX4_search_X2_reset : GoodIn wsX4_search wsX2_reset := goodIn_r _ [23, 24, 25, 26, 27, 28, 29, 30, 31, 32, 33, 34, 35, 36, 37, 38, 39, 16, 17, 18, 206, 207, 208, 209, 210, 211, 212, 213, 214, 215, 196, 197, 198, 199, 200, 201, 202, 203, 204, 205] (by decide +kernel) (by decide +kernel)
set_option maxRecDepth 20000 in
theorem gX4_search_X2_reset : GoodIn wsX4_search (wsV RX4 71 RX2 yX2_reset wsX2_reset) := goodIn_app (goodIn_of _ (by decide +kernel)) ggX4_search_X2_reset
set_option maxRecDepth 20000 in
theorem ggX4_search_X2_packed : GoodIn wsX4_search wsX2_packed := goodIn_r _ [43, 31, 29, 28, 27, 26, 25, 24, 206, 207, 208, 209, 210, 211, 212, 213, 214, 215] (by decide +kernel) (by decide +kernel)
set_option maxRecDepth 20000 in
theorem gX4_search_X2_packed : GoodIn wsX4_search (wsV RX4 74 RX2 yX2_packed wsX2_packed) := goodIn_app (goodIn_of _ (by decide +kernel)) ggX4_search_X2_packed
set_option maxRecDepth 20000 in
theorem ggX4_search_X4_add : GoodIn wsX4_search wsX4_add := goodIn_r _ [47, 3, 8, 48, 49, 14, 50, 51, 52, 12, 53, 54, 181, 182, 183, 184, 185, 186, 187, 188, 189, 190, 191, 192, 193, 194, 195] (by decide +kernel) (by decide +kernel)
set_option maxRecDepth 20000 in
theorem gX4_search_X4_add : GoodIn wsX4_search (wsV RX4 78 RX4 yX4_add wsX4_add) := goodIn_app (goodIn_of _ (by decide +kernel)) ggX4_search_X4_add
