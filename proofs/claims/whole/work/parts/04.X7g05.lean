set_option maxRecDepth 20000 in
theorem ggX7_told_X7_find : GoodIn wsX7_told wsX7_find := goodIn_r _ [24, 25, 26, 5, 27, 28, 29, 30, 31, 32, 33, 34, 35, 36, 37, 38, 39, 40, 41, 42, 43, 44, 45, 46, 47, 48, 49, 50, 51, 52, 53, 54, 55, 56, 57] (by decide +kernel) (by decide +kernel)
set_option maxRecDepth 20000 in
theorem gX7_told_X7_find : GoodIn wsX7_told (wsV RX7 159 RX7 yX7_find wsX7_find) := goodIn_app (goodIn_of _ (by decide +kernel)) ggX7_told_X7_find
set_option maxRecDepth 20000 in
theorem ggX7_shown_X7_isGroup : GoodIn wsX7_shown wsX7_isGroup := goodIn_r _ [7, 8, 24, 25, 26, 27, 28, 29, 30, 31, 32, 33, 34, 35, 36, 37, 38, 39, 40, 41, 42, 43, 44, 45, 46, 47, 48, 49, 50, 51, 52, 53, 54] (by decide +kernel) (by decide +kernel)
set_option maxRecDepth 20000 in
theorem gX7_shown_X7_isGroup : GoodIn wsX7_shown (wsV RX7 106 RX7 yX7_isGroup wsX7_isGroup) := goodIn_app (goodIn_of _ (by decide +kernel)) ggX7_shown_X7_isGroup
set_option maxRecDepth 20000 in
theorem ggX7_shown_X7_take : GoodIn wsX7_shown wsX7_take := goodIn_r _ [12, 13, 14, 24, 25, 26, 27, 28, 29, 30, 31, 32, 33, 34, 35, 36, 37, 38, 39, 40, 41, 42, 43, 44, 45, 46, 47, 48, 49, 50, 51, 52, 53, 54] (by decide +kernel) (by decide +kernel)
set_option maxRecDepth 20000 in
theorem gX7_shown_X7_take : GoodIn wsX7_shown (wsV RX7 150 RX7 yX7_take wsX7_take) := goodIn_app (goodIn_of _ (by decide +kernel)) ggX7_shown_X7_take
set_option maxRecDepth 20000 in
theorem ggX7_shown_X7_shownNow : GoodIn wsX7_shown wsX7_shownNow := goodIn_r _ [18, 13, 19, 20, 21, 6, 22, 23, 24, 25, 26, 27, 28, 29, 30, 31, 32, 33, 34, 35, 36, 37, 38, 39, 40, 41, 42, 43, 44, 45, 46, 47, 48, 49, 50, 51, 52, 53, 54] (by decide +kernel) (by decide +kernel)
set_option maxRecDepth 20000 in
theorem gX7_shown_X7_shownNow : GoodIn wsX7_shown (wsV RX7 136 RX7 yX7_shownNow wsX7_shownNow) := goodIn_app (goodIn_of _ (by decide +kernel)) ggX7_shown_X7_shownNow
set_option maxRecDepth 20000 in
theorem ggX7_prove_X7_first : GoodIn wsX7_prove wsX7_first := goodIn_r _ [12, 13, 5, 4, 14, 68, 69, 70, 71, 72, 73, 74, 75, 76, 77, 78, 79, 80, 81, 82, 83, 84, 85, 86, 87, 88, 89, 90, 91, 92, 93, 94, 95, 96, 97, 98] (by decide +kernel) (by decide +kernel)
set_option maxRecDepth 20000 in
theorem gX7_prove_X7_first : GoodIn wsX7_prove (wsV RX7 103 RX7 yX7_first wsX7_first) := goodIn_app (goodIn_of _ (by decide +kernel)) ggX7_prove_X7_first
set_option maxRecDepth 20000 in
theorem ggX7_prove_X7_add : GoodIn wsX7_prove wsX7_add := goodIn_r _ [18, 19, 3, 13, 20, 21, 68, 69, 70, 71, 72, 73, 74, 75, 76, 77, 78, 79, 80, 81, 82, 83, 84, 85, 86, 87, 88, 89, 90, 91, 92, 93, 94, 95, 96, 97, 98] (by decide +kernel) (by decide +kernel)
set_option maxRecDepth 20000 in
theorem gX7_prove_X7_add : GoodIn wsX7_prove (wsV RX7 168 RX7 yX7_add wsX7_add) := goodIn_app (goodIn_of _ (by decide +kernel)) ggX7_prove_X7_add
set_option maxRecDepth 20000 in
theorem ggX7_prove_X7_load : GoodIn wsX7_prove wsX7_load := goodIn_r _ [25, 13, 19, 68, 69, 70, 71, 72, 73, 74, 75, 76, 77, 78, 79, 80, 81, 82, 83, 84, 85, 86, 87, 88, 89, 90, 91, 92, 93, 94, 95, 96, 97, 98] (by decide +kernel) (by decide +kernel)
set_option maxRecDepth 20000 in
theorem gX7_prove_X7_load : GoodIn wsX7_prove (wsV RX7 172 RX7 yX7_load wsX7_load) := goodIn_app (goodIn_of _ (by decide +kernel)) ggX7_prove_X7_load
