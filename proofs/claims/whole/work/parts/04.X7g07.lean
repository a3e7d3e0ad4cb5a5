set_option maxRecDepth 20000 in
theorem ggX7_longest_X7_waitsIn : GoodIn wsX7_longest wsX7_waitsIn := goodIn_r _ [16, 17, 18, 19, 20, 21, 22, 23, 24, 25, 26, 27, 28, 29, 30, 31, 32, 33, 34, 35, 36, 37, 38, 39, 40, 41, 42, 43, 44, 45, 46, 47, 48] (by decide +kernel) (by decide +kernel)
set_option maxRecDepth 20000 in
theorem gX7_longest_X7_waitsIn : GoodIn wsX7_longest (wsV RX7 178 RX7 yX7_waitsIn wsX7_waitsIn) := goodIn_app (goodIn_of _ (by decide +kernel)) ggX7_longest_X7_waitsIn
set_option maxRecDepth 20000 in
theorem ggX7_ring_X7_longest : GoodIn wsX7_ring wsX7_longest := goodIn_r _ [7, 1, 8, 9, 10, 11, 12, 13, 14, 15, 6, 16, 2, 17, 18, 19, 20, 21, 22, 23, 24, 25, 26, 27, 28, 29, 30, 31, 32, 33, 34, 35, 36, 37, 38, 39, 40, 41, 42, 43, 44, 45, 46, 47, 48, 49, 50, 51, 52] (by decide +kernel) (by decide +kernel)
set_option maxRecDepth 20000 in
theorem gX7_ring_X7_longest : GoodIn wsX7_ring (wsV RX7 181 RX7 yX7_longest wsX7_longest) := goodIn_app (goodIn_of _ (by decide +kernel)) ggX7_ring_X7_longest
set_option maxRecDepth 20000 in
theorem ggX7_answered_X7_longest : GoodIn wsX7_answered wsX7_longest := goodIn_r _ [8, 1, 2, 9, 10, 11, 12, 13, 14, 15, 7, 16, 3, 17, 18, 19, 20, 21, 22, 23, 24, 25, 26, 27, 28, 29, 30, 31, 32, 33, 34, 35, 36, 37, 38, 39, 40, 41, 42, 43, 44, 45, 46, 47, 48, 49, 50, 51, 52] (by decide +kernel) (by decide +kernel)
set_option maxRecDepth 20000 in
theorem gX7_answered_X7_longest : GoodIn wsX7_answered (wsV RX7 181 RX7 yX7_longest wsX7_longest) := goodIn_app (goodIn_of _ (by decide +kernel)) ggX7_answered_X7_longest
set_option maxRecDepth 20000 in
theorem ggX7_same_X7_take : GoodIn wsX7_same wsX7_take := goodIn_r _ [9, 10, 11, 59, 60, 61, 62, 63, 64, 65, 66, 67, 68, 69, 70, 71, 72, 73, 74, 75, 76, 77, 78, 79, 80, 81, 82, 83, 84, 85, 86, 87, 88, 89] (by decide +kernel) (by decide +kernel)
set_option maxRecDepth 20000 in
theorem gX7_same_X7_take : GoodIn wsX7_same (wsV RX7 150 RX7 yX7_take wsX7_take) := goodIn_app (goodIn_of _ (by decide +kernel)) ggX7_same_X7_take
set_option maxRecDepth 20000 in
theorem ggX7_same_X7_find : GoodIn wsX7_same wsX7_find := goodIn_r _ [15, 16, 17, 10, 59, 60, 61, 62, 63, 64, 65, 66, 67, 68, 69, 70, 71, 72, 73, 74, 75, 76, 77, 78, 79, 80, 81, 82, 83, 84, 85, 86, 87, 88, 89] (by decide +kernel) (by decide +kernel)
set_option maxRecDepth 20000 in
theorem gX7_same_X7_find : GoodIn wsX7_same (wsV RX7 159 RX7 yX7_find wsX7_find) := goodIn_app (goodIn_of _ (by decide +kernel)) ggX7_same_X7_find
set_option maxRecDepth 20000 in
theorem ggX7_same_X7_eventOf : GoodIn wsX7_same wsX7_eventOf := goodIn_r _ [21, 22, 23, 24, 59, 60, 61, 62, 63, 64, 65, 66, 67, 68, 69, 70, 71, 72, 73, 74, 75, 76, 77, 78, 79, 80, 81, 82, 83, 84, 85, 86, 87, 88, 89] (by decide +kernel) (by decide +kernel)
set_option maxRecDepth 20000 in
theorem gX7_same_X7_eventOf : GoodIn wsX7_same (wsV RX7 153 RX7 yX7_eventOf wsX7_eventOf) := goodIn_app (goodIn_of _ (by decide +kernel)) ggX7_same_X7_eventOf
set_option maxRecDepth 20000 in
theorem ggX7_same_X7_go : GoodIn wsX7_same wsX7_go := goodIn_r _ [28, 29, 10, 30, 31, 32, 33, 34, 35, 36, 8, 37, 38, 39, 40, 41, 42, 43, 44, 45, 46, 47, 48, 49, 50, 51, 52, 53, 54, 55, 56, 57, 58, 59, 60, 61, 62, 63, 64, 65, 66, 67, 68, 69, 70, 71, 72, 73, 74, 75, 76, 77, 78, 79, 80, 81, 82, 83, 84, 85, 86, 87, 88, 89] (by decide +kernel) (by decide +kernel)
set_option maxRecDepth 20000 in
theorem gX7_same_X7_go : GoodIn wsX7_same (wsV RX7 156 RX7 yX7_go wsX7_go) := goodIn_app (goodIn_of _ (by decide +kernel)) ggX7_same_X7_go
