set_option maxRecDepth 20000 in
theorem ggX6_told_X4_numberOf : GoodIn wsX6_told wsX4_numberOf := goodIn_r _ [22, 23, 24, 25, 26, 21, 27, 28, 29, 73, 74, 75, 76, 77, 78, 79, 80, 81, 82, 83, 84, 85, 86, 87] (by decide +kernel) (by decide +kernel)
set_option maxRecDepth 20000 in
theorem gX6_told_X4_numberOf : GoodIn wsX6_told (wsV RX6 133 RX4 yX4_numberOf wsX4_numberOf) := goodIn_app (goodIn_of _ (by decide +kernel)) ggX6_told_X4_numberOf
set_option maxRecDepth 20000 in
theorem ggX6_told_X2_look : GoodIn wsX6_told wsX2_look := goodIn_r _ [33, 17, 16, 15, 13, 12, 34, 35, 11, 36, 37, 38, 9, 39, 14, 40, 41, 42, 43, 44, 45, 63, 64, 65, 66, 67, 68, 69, 70, 71, 72, 53, 54, 55, 56, 57, 58, 59, 60, 61, 62] (by decide +kernel) (by decide +kernel)
set_option maxRecDepth 20000 in
theorem gX6_told_X2_look : GoodIn wsX6_told (wsV RX6 137 RX2 yX2_look wsX2_look) := goodIn_app (goodIn_of _ (by decide +kernel)) ggX6_told_X2_look
set_option maxRecDepth 20000 in
theorem ggX6_shown_X0_isGroup : GoodIn wsX6_shown wsX0_isGroup := goodIn_r _ [8, 9, 31, 32, 33, 34, 35, 36, 37, 38, 39, 40] (by decide +kernel) (by decide +kernel)
set_option maxRecDepth 20000 in
theorem gX6_shown_X0_isGroup : GoodIn wsX6_shown (wsV RX6 65 RX0 yX0_isGroup wsX0_isGroup) := goodIn_app (goodIn_of _ (by decide +kernel)) ggX6_shown_X0_isGroup
set_option maxRecDepth 20000 in
theorem ggX6_shown_X2_lit : GoodIn wsX6_shown wsX2_lit := goodIn_r _ [14, 15, 16, 17, 18, 19, 20, 21, 7, 22, 23, 41, 42, 43, 44, 45, 46, 47, 48, 49, 50, 31, 32, 33, 34, 35, 36, 37, 38, 39, 40] (by decide +kernel) (by decide +kernel)
set_option maxRecDepth 20000 in
theorem gX6_shown_X2_lit : GoodIn wsX6_shown (wsV RX6 140 RX2 yX2_lit wsX2_lit) := goodIn_app (goodIn_of _ (by decide +kernel)) ggX6_shown_X2_lit
set_option maxRecDepth 20000 in
theorem ggX6_prove_X4_forget : GoodIn wsX6_prove wsX4_forget := goodIn_r _ [8, 9, 10, 11, 12, 13, 14, 15, 206, 207, 208, 209, 210, 211, 212, 213, 214, 215, 216, 217, 218, 219, 220] (by decide +kernel) (by decide +kernel)
set_option maxRecDepth 20000 in
theorem gX6_prove_X4_forget : GoodIn wsX6_prove (wsV RX6 144 RX4 yX4_forget wsX4_forget) := goodIn_app (goodIn_of _ (by decide +kernel)) ggX6_prove_X4_forget
set_option maxRecDepth 20000 in
theorem ggX6_prove_X4_search : GoodIn wsX6_prove wsX4_search := goodIn_r _ [19, 20, 11, 9, 21, 22, 23, 24, 25, 26, 5, 6, 7, 8, 10, 12, 13, 14, 15, 27, 28, 29, 30, 31, 32, 33, 34, 35, 36, 37, 38, 39, 40, 41, 42, 43, 44, 45, 46, 47, 48, 49, 50, 51, 52, 53, 54, 55, 56, 57, 58, 59, 60, 61, 62, 63, 64, 65, 66, 67, 68, 69, 70, 71, 72, 73, 74, 75, 76, 77, 78, 79, 80, 81, 82, 83, 84, 85, 86, 87, 88, 89, 90, 91, 92, 93, 94, 95, 96, 97, 98, 99, 100, 101, 102, 103, 104, 105, 106, 107, 108, 109, 110, 111, 112, 113, 114, 115, 116, 117, 118, 119, 120, 121, 122, 123, 124, 125, 126, 127, 128, 129, 130, 131, 132, 133, 134, 135, 136, 137, 138, 139, 140, 141, 142, 143, 144, 145, 146, 147, 148, 149, 150, 151, 152, 153, 154, 155, 156, 157, 158, 159, 160, 161, 162, 163, 164, 165, 166, 167, 168, 169, 170, 171, 172, 173, 174, 175, 176, 177, 178, 179, 180, 181, 182, 183, 184, 185, 186, 187, 188, 206, 207, 208, 209, 210, 211, 212, 213, 214, 215, 216, 217, 218, 219, 220, 196, 197, 198, 199, 200, 201, 202, 203, 204, 205, 221, 222, 223, 224, 225, 226, 227, 228, 229, 230, 231, 232, 233, 234] (by decide +kernel) (by decide +kernel)
set_option maxRecDepth 20000 in
theorem gX6_prove_X4_search : GoodIn wsX6_prove (wsV RX6 147 RX4 yX4_search wsX4_search) := goodIn_app (goodIn_of _ (by decide +kernel)) ggX6_prove_X4_search
set_option maxRecDepth 20000 in
theorem ggX6_row_X4_rowEntry : GoodIn wsX6_row wsX4_rowEntry := goodIn_r _ [6, 7, 8, 9, 10, 11, 12, 13, 14, 15, 16, 17, 18, 19, 20, 21, 22, 23, 24, 25, 26, 27, 28, 29, 30, 31, 32, 5, 33, 34, 35, 36, 37, 38, 39, 40, 41, 42, 43, 44, 45, 46, 47, 48, 49, 57, 58, 59, 60, 61, 62, 63, 64, 65, 66, 67, 68, 69, 70, 71, 72, 73, 74, 75, 76, 77, 78, 79, 80, 81, 82, 83, 84, 85, 86, 87, 88, 89, 90, 91] (by decide +kernel) (by decide +kernel)
set_option maxRecDepth 20000 in
theorem gX6_row_X4_rowEntry : GoodIn wsX6_row (wsV RX6 153 RX4 yX4_rowEntry wsX4_rowEntry) := goodIn_app (goodIn_of _ (by decide +kernel)) ggX6_row_X4_rowEntry
set_option maxRecDepth 20000 in
theorem ggX6_longest_X0_isGroup : GoodIn wsX6_longest wsX0_isGroup := goodIn_r _ [9, 10, 33, 34, 35, 36, 37, 38, 39, 40, 41, 42] (by decide +kernel) (by decide +kernel)
set_option maxRecDepth 20000 in
theorem gX6_longest_X0_isGroup : GoodIn wsX6_longest (wsV RX6 65 RX0 yX0_isGroup wsX0_isGroup) := goodIn_app (goodIn_of _ (by decide +kernel)) ggX6_longest_X0_isGroup
