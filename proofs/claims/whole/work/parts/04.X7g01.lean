set_option maxRecDepth 20000 in
theorem ggX7_second_X7_take : GoodIn wsX7_second wsX7_take := goodIn_r _ [10, 5, 4, 52, 53, 54, 55, 56, 57, 58, 59, 60, 61, 62, 63, 64, 65, 66, 67, 68, 69, 70, 71, 72, 73, 74, 75, 76, 77, 78, 79, 80, 81, 82] rfl (by decide +kernel)
set_option maxRecDepth 20000 in
theorem gX7_second_X7_take : GoodIn wsX7_second (wsV RX7 150 RX7 yX7_take wsX7_take) := goodIn_app (goodIn_of _ (by decide +kernel)) ggX7_second_X7_take
set_option maxRecDepth 20000 in
theorem ggX7_second_X7_eventOf : GoodIn wsX7_second wsX7_eventOf := goodIn_r _ [14, 15, 16, 17, 52, 53, 54, 55, 56, 57, 58, 59, 60, 61, 62, 63, 64, 65, 66, 67, 68, 69, 70, 71, 72, 73, 74, 75, 76, 77, 78, 79, 80, 81, 82] rfl (by decide +kernel)
set_option maxRecDepth 20000 in
theorem gX7_second_X7_eventOf : GoodIn wsX7_second (wsV RX7 153 RX7 yX7_eventOf wsX7_eventOf) := goodIn_app (goodIn_of _ (by decide +kernel)) ggX7_second_X7_eventOf
set_option maxRecDepth 20000 in
theorem ggX7_second_X7_go : GoodIn wsX7_second wsX7_go := goodIn_r _ [21, 22, 5, 23, 24, 25, 26, 27, 28, 29, 9, 30, 31, 32, 33, 34, 35, 36, 37, 38, 39, 40, 41, 42, 43, 44, 45, 46, 47, 48, 49, 50, 51, 52, 53, 54, 55, 56, 57, 58, 59, 60, 61, 62, 63, 64, 65, 66, 67, 68, 69, 70, 71, 72, 73, 74, 75, 76, 77, 78, 79, 80, 81, 82] rfl (by decide +kernel)
set_option maxRecDepth 20000 in
theorem gX7_second_X7_go : GoodIn wsX7_second (wsV RX7 156 RX7 yX7_go wsX7_go) := goodIn_app (goodIn_of _ (by decide +kernel)) ggX7_second_X7_go
set_option maxRecDepth 20000 in
theorem ggX7_told_X7_take : GoodIn wsX7_told wsX7_take := goodIn_r _ [10, 5, 11, 27, 28, 29, 30, 31, 32, 33, 34, 35, 36, 37, 38, 39, 40, 41, 42, 43, 44, 45, 46, 47, 48, 49, 50, 51, 52, 53, 54, 55, 56, 57] rfl (by decide +kernel)
set_option maxRecDepth 20000 in
theorem gX7_told_X7_take : GoodIn wsX7_told (wsV RX7 150 RX7 yX7_take wsX7_take) := goodIn_app (goodIn_of _ (by decide +kernel)) ggX7_told_X7_take
set_option maxRecDepth 20000 in
theorem ggX7_told_X7_shownNow : GoodIn wsX7_told wsX7_shownNow := goodIn_r _ [15, 5, 16, 17, 18, 9, 19, 20, 27, 28, 29, 30, 31, 32, 33, 34, 35, 36, 37, 38, 39, 40, 41, 42, 43, 44, 45, 46, 47, 48, 49, 50, 51, 52, 53, 54, 55, 56, 57] rfl (by decide +kernel)
set_option maxRecDepth 20000 in
theorem gX7_told_X7_shownNow : GoodIn wsX7_told (wsV RX7 136 RX7 yX7_shownNow wsX7_shownNow) := goodIn_app (goodIn_of _ (by decide +kernel)) ggX7_told_X7_shownNow
set_option maxRecDepth 20000 in
theorem ggX7_told_X7_find : GoodIn wsX7_told wsX7_find := goodIn_r _ [24, 25, 26, 5, 27, 28, 29, 30, 31, 32, 33, 34, 35, 36, 37, 38, 39, 40, 41, 42, 43, 44, 45, 46, 47, 48, 49, 50, 51, 52, 53, 54, 55, 56, 57] rfl (by decide +kernel)
set_option maxRecDepth 20000 in
theorem gX7_told_X7_find : GoodIn wsX7_told (wsV RX7 159 RX7 yX7_find wsX7_find) := goodIn_app (goodIn_of _ (by decide +kernel)) ggX7_told_X7_find
set_option maxRecDepth 20000 in
theorem ggX7_shown_X7_isGroup : GoodIn wsX7_shown wsX7_isGroup := goodIn_r _ [7, 8, 24, 25, 26, 27, 28, 29, 30, 31, 32, 33, 34, 35, 36, 37, 38, 39, 40, 41, 42, 43, 44, 45, 46, 47, 48, 49, 50, 51, 52, 53, 54] rfl (by decide +kernel)
set_option maxRecDepth 20000 in
theorem gX7_shown_X7_isGroup : GoodIn wsX7_shown (wsV RX7 106 RX7 yX7_isGroup wsX7_isGroup) := goodIn_app (goodIn_of _ (by decide +kernel)) ggX7_shown_X7_isGroup
set_option maxRecDepth 20000 in
theorem ggX7_shown_X7_take : GoodIn wsX7_shown wsX7_take := goodIn_r _ [12, 13, 14, 24, 25, 26, 27, 28, 29, 30, 31, 32, 33, 34, 35, 36, 37, 38, 39, 40, 41, 42, 43, 44, 45, 46, 47, 48, 49, 50, 51, 52, 53, 54] rfl (by decide +kernel)
set_option maxRecDepth 20000 in
theorem gX7_shown_X7_take : GoodIn wsX7_shown (wsV RX7 150 RX7 yX7_take wsX7_take) := goodIn_app (goodIn_of _ (by decide +kernel)) ggX7_shown_X7_take
set_option maxRecDepth 20000 in
theorem ggX7_shown_X7_shownNow : GoodIn wsX7_shown wsX7_shownNow := goodIn_r _ [18, 13, 19, 20, 21, 6, 22, 23, 24, 25, 26, 27, 28, 29, 30, 31, 32, 33, 34, 35, 36, 37, 38, 39, 40, 41, 42, 43, 44, 45, 46, 47, 48, 49, 50, 51, 52, 53, 54] rfl (by decide +kernel)
set_option maxRecDepth 20000 in
theorem gX7_shown_X7_shownNow : GoodIn wsX7_shown (wsV RX7 136 RX7 yX7_shownNow wsX7_shownNow) := goodIn_app (goodIn_of _ (by decide +kernel)) ggX7_shown_X7_shownNow
set_option maxRecDepth 20000 in
theorem ggX7_prove_X7_first : GoodIn wsX7_prove wsX7_first := goodIn_r _ [12, 13, 5, 4, 14, 68, 69, 70, 71, 72, 73, 74, 75, 76, 77, 78, 79, 80, 81, 82, 83, 84, 85, 86, 87, 88, 89, 90, 91, 92, 93, 94, 95, 96, 97, 98] rfl (by decide +kernel)
set_option maxRecDepth 20000 in
theorem gX7_prove_X7_first : GoodIn wsX7_prove (wsV RX7 103 RX7 yX7_first wsX7_first) := goodIn_app (goodIn_of _ (by decide +kernel)) ggX7_prove_X7_first
set_option maxRecDepth 20000 in
theorem ggX7_prove_X7_add : GoodIn wsX7_prove wsX7_add := goodIn_r _ [18, 19, 3, 13, 20, 21, 68, 69, 70, 71, 72, 73, 74, 75, 76, 77, 78, 79, 80, 81, 82, 83, 84, 85, 86, 87, 88, 89, 90, 91, 92, 93, 94, 95, 96, 97, 98] rfl (by decide +kernel)
set_option maxRecDepth 20000 in
theorem gX7_prove_X7_add : GoodIn wsX7_prove (wsV RX7 168 RX7 yX7_add wsX7_add) := goodIn_app (goodIn_of _ (by decide +kernel)) ggX7_prove_X7_add
set_option maxRecDepth 20000 in
theorem ggX7_prove_X7_load : GoodIn wsX7_prove wsX7_load := goodIn_r _ [25, 13, 19, 68, 69, 70, 71, 72, 73, 74, 75, 76, 77, 78, 79, 80, 81, 82, 83, 84, 85, 86, 87, 88, 89, 90, 91, 92, 93, 94, 95, 96, 97, 98] rfl (by decide +kernel)
set_option maxRecDepth 20000 in
theorem gX7_prove_X7_load : GoodIn wsX7_prove (wsV RX7 172 RX7 yX7_load wsX7_load) := goodIn_app (goodIn_of _ (by decide +kernel)) ggX7_prove_X7_load
set_option maxRecDepth 20000 in
theorem ggX7_prove_X7_go : GoodIn wsX7_prove wsX7_go := goodIn_r _ [29, 30, 13, 5, 14, 31, 32, 33, 34, 35, 11, 36, 37, 38, 39, 40, 41, 42, 43, 44, 45, 46, 47, 48, 49, 50, 51, 52, 53, 54, 55, 56, 57, 68, 69, 70, 71, 72, 73, 74, 75, 76, 77, 78, 79, 80, 81, 82, 83, 84, 85, 86, 87, 88, 89, 90, 91, 92, 93, 94, 95, 96, 97, 98] rfl (by decide +kernel)
set_option maxRecDepth 20000 in
theorem gX7_prove_X7_go : GoodIn wsX7_prove (wsV RX7 156 RX7 yX7_go wsX7_go) := goodIn_app (goodIn_of _ (by decide +kernel)) ggX7_prove_X7_go
set_option maxRecDepth 20000 in
theorem ggX7_prove_X7_tellRow : GoodIn wsX7_prove wsX7_tellRow := goodIn_r _ [61, 62, 20, 63, 21, 68, 69, 70, 71, 72, 73, 74, 75, 76, 77, 78, 79, 80, 81, 82, 83, 84, 85, 86, 87, 88, 89, 90, 91, 92, 93, 94, 95, 96, 97, 98] rfl (by decide +kernel)
set_option maxRecDepth 20000 in
theorem gX7_prove_X7_tellRow : GoodIn wsX7_prove (wsV RX7 175 RX7 yX7_tellRow wsX7_tellRow) := goodIn_app (goodIn_of _ (by decide +kernel)) ggX7_prove_X7_tellRow
set_option maxRecDepth 20000 in
theorem ggX7_prove_X7_find : GoodIn wsX7_prove wsX7_find := goodIn_r _ [67, 3, 19, 13, 68, 69, 70, 71, 72, 73, 74, 75, 76, 77, 78, 79, 80, 81, 82, 83, 84, 85, 86, 87, 88, 89, 90, 91, 92, 93, 94, 95, 96, 97, 98] rfl (by decide +kernel)
set_option maxRecDepth 20000 in
theorem gX7_prove_X7_find : GoodIn wsX7_prove (wsV RX7 159 RX7 yX7_find wsX7_find) := goodIn_app (goodIn_of _ (by decide +kernel)) ggX7_prove_X7_find
set_option maxRecDepth 20000 in
theorem ggX7_row_X7_first : GoodIn wsX7_row wsX7_first := goodIn_r _ [10, 5, 11, 12, 13, 46, 47, 48, 49, 50, 51, 52, 53, 54, 55, 56, 57, 58, 59, 60, 61, 62, 63, 64, 65, 66, 67, 68, 69, 70, 71, 72, 73, 74, 75, 76] rfl (by decide +kernel)
set_option maxRecDepth 20000 in
theorem gX7_row_X7_first : GoodIn wsX7_row (wsV RX7 103 RX7 yX7_first wsX7_first) := goodIn_app (goodIn_of _ (by decide +kernel)) ggX7_row_X7_first
set_option maxRecDepth 20000 in
theorem ggX7_row_X7_go : GoodIn wsX7_row wsX7_go := goodIn_r _ [17, 18, 5, 11, 13, 19, 20, 21, 22, 23, 9, 24, 25, 26, 27, 28, 29, 30, 31, 32, 33, 34, 35, 36, 37, 38, 39, 40, 41, 42, 43, 44, 45, 46, 47, 48, 49, 50, 51, 52, 53, 54, 55, 56, 57, 58, 59, 60, 61, 62, 63, 64, 65, 66, 67, 68, 69, 70, 71, 72, 73, 74, 75, 76] rfl (by decide +kernel)
set_option maxRecDepth 20000 in
theorem gX7_row_X7_go : GoodIn wsX7_row (wsV RX7 156 RX7 yX7_go wsX7_go) := goodIn_app (goodIn_of _ (by decide +kernel)) ggX7_row_X7_go
set_option maxRecDepth 20000 in
theorem ggX7_row_X7_shownNow : GoodIn wsX7_row wsX7_shownNow := goodIn_r _ [24, 5, 25, 26, 27, 9, 28, 13, 46, 47, 48, 49, 50, 51, 52, 53, 54, 55, 56, 57, 58, 59, 60, 61, 62, 63, 64, 65, 66, 67, 68, 69, 70, 71, 72, 73, 74, 75, 76] rfl (by decide +kernel)
set_option maxRecDepth 20000 in
theorem gX7_row_X7_shownNow : GoodIn wsX7_row (wsV RX7 136 RX7 yX7_shownNow wsX7_shownNow) := goodIn_app (goodIn_of _ (by decide +kernel)) ggX7_row_X7_shownNow
set_option maxRecDepth 20000 in
theorem ggX7_longest_X7_isGroup : GoodIn wsX7_longest wsX7_isGroup := goodIn_r _ [11, 12, 18, 19, 20, 21, 22, 23, 24, 25, 26, 27, 28, 29, 30, 31, 32, 33, 34, 35, 36, 37, 38, 39, 40, 41, 42, 43, 44, 45, 46, 47, 48] rfl (by decide +kernel)
set_option maxRecDepth 20000 in
theorem gX7_longest_X7_isGroup : GoodIn wsX7_longest (wsV RX7 106 RX7 yX7_isGroup wsX7_isGroup) := goodIn_app (goodIn_of _ (by decide +kernel)) ggX7_longest_X7_isGroup
set_option maxRecDepth 20000 in
theorem ggX7_longest_X7_waitsIn : GoodIn wsX7_longest wsX7_waitsIn := goodIn_r _ [16, 17, 18, 19, 20, 21, 22, 23, 24, 25, 26, 27, 28, 29, 30, 31, 32, 33, 34, 35, 36, 37, 38, 39, 40, 41, 42, 43, 44, 45, 46, 47, 48] rfl (by decide +kernel)
set_option maxRecDepth 20000 in
theorem gX7_longest_X7_waitsIn : GoodIn wsX7_longest (wsV RX7 178 RX7 yX7_waitsIn wsX7_waitsIn) := goodIn_app (goodIn_of _ (by decide +kernel)) ggX7_longest_X7_waitsIn
set_option maxRecDepth 20000 in
theorem ggX7_ring_X7_longest : GoodIn wsX7_ring wsX7_longest := goodIn_r _ [7, 1, 8, 9, 10, 11, 12, 13, 14, 15, 6, 16, 2, 17, 18, 19, 20, 21, 22, 23, 24, 25, 26, 27, 28, 29, 30, 31, 32, 33, 34, 35, 36, 37, 38, 39, 40, 41, 42, 43, 44, 45, 46, 47, 48, 49, 50, 51, 52] rfl (by decide +kernel)
set_option maxRecDepth 20000 in
theorem gX7_ring_X7_longest : GoodIn wsX7_ring (wsV RX7 181 RX7 yX7_longest wsX7_longest) := goodIn_app (goodIn_of _ (by decide +kernel)) ggX7_ring_X7_longest
set_option maxRecDepth 20000 in
theorem ggX7_answered_X7_longest : GoodIn wsX7_answered wsX7_longest := goodIn_r _ [8, 1, 2, 9, 10, 11, 12, 13, 14, 15, 7, 16, 3, 17, 18, 19, 20, 21, 22, 23, 24, 25, 26, 27, 28, 29, 30, 31, 32, 33, 34, 35, 36, 37, 38, 39, 40, 41, 42, 43, 44, 45, 46, 47, 48, 49, 50, 51, 52] rfl (by decide +kernel)
set_option maxRecDepth 20000 in
theorem gX7_answered_X7_longest : GoodIn wsX7_answered (wsV RX7 181 RX7 yX7_longest wsX7_longest) := goodIn_app (goodIn_of _ (by decide +kernel)) ggX7_answered_X7_longest
set_option maxRecDepth 20000 in
theorem ggX7_same_X7_take : GoodIn wsX7_same wsX7_take := goodIn_r _ [9, 10, 11, 59, 60, 61, 62, 63, 64, 65, 66, 67, 68, 69, 70, 71, 72, 73, 74, 75, 76, 77, 78, 79, 80, 81, 82, 83, 84, 85, 86, 87, 88, 89] rfl (by decide +kernel)
set_option maxRecDepth 20000 in
theorem gX7_same_X7_take : GoodIn wsX7_same (wsV RX7 150 RX7 yX7_take wsX7_take) := goodIn_app (goodIn_of _ (by decide +kernel)) ggX7_same_X7_take
set_option maxRecDepth 20000 in
theorem ggX7_same_X7_find : GoodIn wsX7_same wsX7_find := goodIn_r _ [15, 16, 17, 10, 59, 60, 61, 62, 63, 64, 65, 66, 67, 68, 69, 70, 71, 72, 73, 74, 75, 76, 77, 78, 79, 80, 81, 82, 83, 84, 85, 86, 87, 88, 89] rfl (by decide +kernel)
set_option maxRecDepth 20000 in
theorem gX7_same_X7_find : GoodIn wsX7_same (wsV RX7 159 RX7 yX7_find wsX7_find) := goodIn_app (goodIn_of _ (by decide +kernel)) ggX7_same_X7_find
set_option maxRecDepth 20000 in
theorem ggX7_same_X7_eventOf : GoodIn wsX7_same wsX7_eventOf := goodIn_r _ [21, 22, 23, 24, 59, 60, 61, 62, 63, 64, 65, 66, 67, 68, 69, 70, 71, 72, 73, 74, 75, 76, 77, 78, 79, 80, 81, 82, 83, 84, 85, 86, 87, 88, 89] rfl (by decide +kernel)
set_option maxRecDepth 20000 in
theorem gX7_same_X7_eventOf : GoodIn wsX7_same (wsV RX7 153 RX7 yX7_eventOf wsX7_eventOf) := goodIn_app (goodIn_of _ (by decide +kernel)) ggX7_same_X7_eventOf
set_option maxRecDepth 20000 in
theorem ggX7_same_X7_go : GoodIn wsX7_same wsX7_go := goodIn_r _ [28, 29, 10, 30, 31, 32, 33, 34, 35, 36, 8, 37, 38, 39, 40, 41, 42, 43, 44, 45, 46, 47, 48, 49, 50, 51, 52, 53, 54, 55, 56, 57, 58, 59, 60, 61, 62, 63, 64, 65, 66, 67, 68, 69, 70, 71, 72, 73, 74, 75, 76, 77, 78, 79, 80, 81, 82, 83, 84, 85, 86, 87, 88, 89] rfl (by decide +kernel)
set_option maxRecDepth 20000 in
theorem gX7_same_X7_go : GoodIn wsX7_same (wsV RX7 156 RX7 yX7_go wsX7_go) := goodIn_app (goodIn_of _ (by decide +kernel)) ggX7_same_X7_go
