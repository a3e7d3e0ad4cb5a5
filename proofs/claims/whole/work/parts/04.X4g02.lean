set_option maxRecDepth 20000 in
theorem ggX4_expand_X4_numberOf : GoodIn wsX4_expand wsX4_numberOf := goodIn_r _ [125, 126, 127, 128, 129, 117, 130, 131, 3, 143, 144, 145, 146, 147, 148, 149, 150, 151, 152, 153, 154, 155, 156, 157] (by decide +kernel) (by decide +kernel)
set_option maxRecDepth 20000 in
theorem gX4_expand_X4_numberOf : GoodIn wsX4_expand (wsV RX4 121 RX4 yX4_numberOf wsX4_numberOf) := goodIn_app (goodIn_of _ (by decide +kernel)) ggX4_expand_X4_numberOf
set_option maxRecDepth 20000 in
theorem ggX4_expand_X4_add : GoodIn wsX4_expand wsX4_add := goodIn_r _ [135, 7, 3, 121, 136, 126, 127, 128, 129, 117, 130, 131, 143, 144, 145, 146, 147, 148, 149, 150, 151, 152, 153, 154, 155, 156, 157] (by decide +kernel) (by decide +kernel)
set_option maxRecDepth 20000 in
theorem gX4_expand_X4_add : GoodIn wsX4_expand (wsV RX4 78 RX4 yX4_add wsX4_add) := goodIn_app (goodIn_of _ (by decide +kernel)) ggX4_expand_X4_add
set_option maxRecDepth 20000 in
theorem ggX4_expand_X5_link : GoodIn wsX4_expand wsX5_link := goodIn_r _ [141, 142, 178, 179, 180, 181] (by decide +kernel) (by decide +kernel)
set_option maxRecDepth 20000 in
theorem gX4_expand_X5_link : GoodIn wsX4_expand (wsV RX4 124 RX5 yX5_link wsX5_link) := goodIn_app (goodIn_of _ (by decide +kernel)) ggX4_expand_X5_link
set_option maxRecDepth 20000 in
theorem ggX4_add_X4_slotOf : GoodIn wsX4_add wsX4_slotOf := goodIn_r _ [10, 11, 5, 2, 12, 13, 14, 15, 16, 17, 18, 19, 20, 21, 22, 23, 24, 25, 26] (by decide +kernel) (by decide +kernel)
set_option maxRecDepth 20000 in
theorem gX4_add_X4_slotOf : GoodIn wsX4_add (wsV RX4 64 RX4 yX4_slotOf wsX4_slotOf) := goodIn_app (goodIn_of _ (by decide +kernel)) ggX4_add_X4_slotOf
set_option maxRecDepth 20000 in
theorem ggX4_rowEntry_X2_unpack : GoodIn wsX4_rowEntry wsX2_unpack := goodIn_r _ [14, 15, 16, 17, 18, 19, 20, 21, 22, 23, 13, 24, 60, 61, 62, 63, 64, 65, 66, 67, 68, 69] (by decide +kernel) (by decide +kernel)
set_option maxRecDepth 20000 in
theorem gX4_rowEntry_X2_unpack : GoodIn wsX4_rowEntry (wsV RX4 99 RX2 yX2_unpack wsX2_unpack) := goodIn_app (goodIn_of _ (by decide +kernel)) ggX4_rowEntry_X2_unpack
set_option maxRecDepth 20000 in
theorem ggX4_rowEntry_X4_lookFor : GoodIn wsX4_rowEntry wsX4_lookFor := goodIn_r _ [28] (by decide +kernel) (by decide +kernel)
set_option maxRecDepth 20000 in
theorem gX4_rowEntry_X4_lookFor : GoodIn wsX4_rowEntry (va_wsS RX4 133 yX4_lookFor wsX4_lookFor) := goodIn_app (goodIn_of _ (by decide +kernel)) ggX4_rowEntry_X4_lookFor
set_option maxRecDepth 20000 in
theorem ggX4_rowEntry_X2_look : GoodIn wsX4_rowEntry wsX2_look := goodIn_r _ [32, 15, 16, 17, 19, 20, 33, 34, 21, 35, 36, 37, 13, 38, 18, 39, 40, 41, 42, 43, 44, 60, 61, 62, 63, 64, 65, 66, 67, 68, 69, 70, 71, 72, 73, 74, 75, 76, 77, 78, 79] (by decide +kernel) (by decide +kernel)
set_option maxRecDepth 20000 in
theorem gX4_rowEntry_X2_look : GoodIn wsX4_rowEntry (wsV RX4 136 RX2 yX2_look wsX2_look) := goodIn_app (goodIn_of _ (by decide +kernel)) ggX4_rowEntry_X2_look
