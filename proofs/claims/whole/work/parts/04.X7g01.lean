set_option maxRecDepth 20000 in
theorem ggX7_most_X7_isGroup : GoodIn wsX7_most wsX7_isGroup := goodIn_r _ [7, 8, 25, 26, 27, 28, 29, 30, 31, 32, 33, 34, 35, 36, 37, 38, 39, 40, 41, 42, 43, 44, 45, 46, 47, 48, 49, 50, 51, 52, 53, 54, 55] (by decide +kernel) (by decide +kernel)
set_option maxRecDepth 20000 in
theorem gX7_most_X7_isGroup : GoodIn wsX7_most (wsV RX7 106 RX7 yX7_isGroup wsX7_isGroup) := goodIn_app (goodIn_of _ (by decide +kernel)) ggX7_most_X7_isGroup
set_option maxRecDepth 20000 in
theorem ggX7_most_X7_anew : GoodIn wsX7_most wsX7_anew := goodIn_r _ [12, 13, 14, 15, 16, 17, 18, 19, 20, 21, 6, 22, 8, 23, 24, 25, 26, 27, 28, 29, 30, 31, 32, 33, 34, 35, 36, 37, 38, 39, 40, 41, 42, 43, 44, 45, 46, 47, 48, 49, 50, 51, 52, 53, 54, 55] (by decide +kernel) (by decide +kernel)
set_option maxRecDepth 20000 in
theorem gX7_most_X7_anew : GoodIn wsX7_most (wsV RX7 91 RX7 yX7_anew wsX7_anew) := goodIn_app (goodIn_of _ (by decide +kernel)) ggX7_most_X7_anew
set_option maxRecDepth 20000 in
theorem ggX7_isDigit_X7_sign : GoodIn wsX7_isDigit wsX7_sign := goodIn_r _ [5, 6, 7, 8, 9, 10, 11, 12, 13, 14, 15, 16, 17, 18, 19, 20, 21, 22, 23, 24, 25, 26, 27, 28, 29, 30, 31, 32, 33, 34, 35, 36, 37, 38] (by decide +kernel) (by decide +kernel)
set_option maxRecDepth 20000 in
theorem gX7_isDigit_X7_sign : GoodIn wsX7_isDigit (wsV RX7 110 RX7 yX7_sign wsX7_sign) := goodIn_app (goodIn_of _ (by decide +kernel)) ggX7_isDigit_X7_sign
set_option maxRecDepth 20000 in
theorem ggX7_behind_X7_isDigit : GoodIn wsX7_behind wsX7_isDigit := goodIn_r _ [5, 6, 7, 8, 4, 9, 10, 11, 12, 13, 14, 15, 16, 17, 18, 19, 20, 21, 22, 23, 24, 25, 26, 27, 28, 29, 30, 31, 32, 33, 34, 35, 36, 37, 38, 39, 40, 41, 42] (by decide +kernel) (by decide +kernel)
set_option maxRecDepth 20000 in
theorem gX7_behind_X7_isDigit : GoodIn wsX7_behind (wsV RX7 114 RX7 yX7_isDigit wsX7_isDigit) := goodIn_app (goodIn_of _ (by decide +kernel)) ggX7_behind_X7_isDigit
set_option maxRecDepth 20000 in
theorem ggX7_number_X7_isDigit : GoodIn wsX7_number wsX7_isDigit := goodIn_r _ [5, 6, 7, 8, 4, 9, 10, 11, 12, 13, 14, 15, 16, 17, 18, 19, 20, 21, 22, 23, 24, 25, 26, 27, 28, 29, 30, 31, 32, 33, 34, 35, 36, 37, 38, 39, 40, 41, 42] (by decide +kernel) (by decide +kernel)
set_option maxRecDepth 20000 in
theorem gX7_number_X7_isDigit : GoodIn wsX7_number (wsV RX7 114 RX7 yX7_isDigit wsX7_isDigit) := goodIn_app (goodIn_of _ (by decide +kernel)) ggX7_number_X7_isDigit
set_option maxRecDepth 20000 in
theorem ggX7_number_X7_sign : GoodIn wsX7_number wsX7_sign := goodIn_r _ [9, 10, 11, 12, 13, 14, 15, 16, 17, 18, 19, 20, 21, 22, 23, 24, 25, 26, 27, 28, 29, 30, 31, 32, 33, 34, 35, 36, 37, 38, 39, 40, 41, 42] (by decide +kernel) (by decide +kernel)
set_option maxRecDepth 20000 in
theorem gX7_number_X7_sign : GoodIn wsX7_number (wsV RX7 110 RX7 yX7_sign wsX7_sign) := goodIn_app (goodIn_of _ (by decide +kernel)) ggX7_number_X7_sign
set_option maxRecDepth 20000 in
theorem ggX7_phase_X7_sign : GoodIn wsX7_phase wsX7_sign := goodIn_r _ [10, 11, 12, 25, 26, 27, 28, 29, 30, 31, 32, 33, 34, 35, 36, 37, 38, 39, 40, 41, 42, 43, 44, 45, 46, 47, 48, 49, 50, 51, 52, 53, 54, 55] (by decide +kernel) (by decide +kernel)
set_option maxRecDepth 20000 in
theorem gX7_phase_X7_sign : GoodIn wsX7_phase (wsV RX7 110 RX7 yX7_sign wsX7_sign) := goodIn_app (goodIn_of _ (by decide +kernel)) ggX7_phase_X7_sign
