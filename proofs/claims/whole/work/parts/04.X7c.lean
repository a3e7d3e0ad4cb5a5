theorem dX7_tell_48 : decode cX7_tell 48 = .ok (.getfield 38, 3) := by decide +kernel
theorem dX7_tell_51 : decode cX7_tell 51 = .ok (.aload_n 0, 1) := by decide +kernel
theorem dX7_tell_52 : decode cX7_tell 52 = .ok (.getfield 94, 3) := by decide +kernel
theorem dX7_tell_55 : decode cX7_tell 55 = .ok (.iload_n 1, 1) := by decide +kernel
theorem dX7_tell_56 : decode cX7_tell 56 = .ok (.iastore, 1) := by decide +kernel
theorem dX7_tell_57 : decode cX7_tell 57 = .ok (.aload_n 0, 1) := by decide +kernel
theorem dX7_tell_58 : decode cX7_tell 58 = .ok (.getfield 41, 3) := by decide +kernel
theorem dX7_tell_61 : decode cX7_tell 61 = .ok (.aload_n 0, 1) := by decide +kernel
theorem dX7_tell_62 : decode cX7_tell 62 = .ok (.getfield 94, 3) := by decide +kernel
theorem dX7_tell_65 : decode cX7_tell 65 = .ok (.iload_n 2, 1) := by decide +kernel
theorem dX7_tell_66 : decode cX7_tell 66 = .ok (.iastore, 1) := by decide +kernel
theorem dX7_tell_67 : decode cX7_tell 67 = .ok (.aload_n 0, 1) := by decide +kernel
theorem dX7_tell_68 : decode cX7_tell 68 = .ok (.dup, 1) := by decide +kernel
theorem dX7_tell_69 : decode cX7_tell 69 = .ok (.getfield 94, 3) := by decide +kernel
theorem dX7_tell_72 : decode cX7_tell 72 = .ok (.iconst 1, 1) := by decide +kernel
theorem dX7_tell_73 : decode cX7_tell 73 = .ok (.iadd, 1) := by decide +kernel
theorem dX7_tell_74 : decode cX7_tell 74 = .ok (.putfield 94, 3) := by decide +kernel
theorem dX7_tell_77 : decode cX7_tell 77 = .ok (.iconst 1, 1) := by decide +kernel
theorem dX7_tell_78 : decode cX7_tell 78 = .ok (.ireturn, 1) := by decide +kernel
set_option maxRecDepth 20000 in
theorem ggX7_call_X7_isGroup : GoodIn wsX7_call wsX7_isGroup := goodIn_r _ [6, 7, 16, 17, 18, 19, 20, 21, 22, 23, 24, 25, 26, 27, 28, 29, 30, 31, 32, 33, 34, 35, 36, 37, 38, 39, 40, 41, 42, 43, 44, 45, 46] (by decide +kernel) (by decide +kernel)
set_option maxRecDepth 20000 in
theorem gX7_call_X7_isGroup : GoodIn wsX7_call (wsV RX7 106 RX7 yX7_isGroup wsX7_isGroup) := goodIn_app (goodIn_of _ (by decide +kernel)) ggX7_call_X7_isGroup
set_option maxRecDepth 20000 in
theorem ggX7_call_X7_tell : GoodIn wsX7_call wsX7_tell := goodIn_r _ [11, 12, 13, 14, 15, 16, 17, 18, 19, 20, 21, 22, 23, 24, 25, 26, 27, 28, 29, 30, 31, 32, 33, 34, 35, 36, 37, 38, 39, 40, 41, 42, 43, 44, 45, 46] (by decide +kernel) (by decide +kernel)
set_option maxRecDepth 20000 in
theorem gX7_call_X7_tell : GoodIn wsX7_call (wsV RX7 146 RX7 yX7_tell wsX7_tell) := goodIn_app (goodIn_of _ (by decide +kernel)) ggX7_call_X7_tell
theorem dX7_call_0 : decode cX7_call 0 = .ok (.aload_n 0, 1) := by decide +kernel
theorem dX7_call_1 : decode cX7_call 1 = .ok (.iconst 0, 1) := by decide +kernel
theorem dX7_call_2 : decode cX7_call 2 = .ok (.putfield 79, 3) := by decide +kernel
theorem dX7_call_5 : decode cX7_call 5 = .ok (.aload_n 0, 1) := by decide +kernel
theorem dX7_call_6 : decode cX7_call 6 = .ok (.iload_n 1, 1) := by decide +kernel
theorem dX7_call_7 : decode cX7_call 7 = .ok (.invokevirtual 106, 3) := by decide +kernel
theorem dX7_call_10 : decode cX7_call 10 = .ok (.ifCond .eq 18, 3) := by decide +kernel
theorem dX7_call_13 : decode cX7_call 13 = .ok (.aload_n 0, 1) := by decide +kernel
theorem dX7_call_14 : decode cX7_call 14 = .ok (.iload_n 2, 1) := by decide +kernel
theorem dX7_call_15 : decode cX7_call 15 = .ok (.iconst 1, 1) := by decide +kernel
theorem dX7_call_16 : decode cX7_call 16 = .ok (.iload_n 1, 1) := by decide +kernel
theorem dX7_call_17 : decode cX7_call 17 = .ok (.iadd, 1) := by decide +kernel
theorem dX7_call_18 : decode cX7_call 18 = .ok (.invokevirtual 146, 3) := by decide +kernel
theorem dX7_call_21 : decode cX7_call 21 = .ok (.ifCond .eq 7, 3) := by decide +kernel
theorem dX7_call_24 : decode cX7_call 24 = .ok (.iconst 1, 1) := by decide +kernel
theorem dX7_call_25 : decode cX7_call 25 = .ok (.goto 4, 3) := by decide +kernel
theorem dX7_call_28 : decode cX7_call 28 = .ok (.iconst 0, 1) := by decide +kernel
theorem dX7_call_29 : decode cX7_call 29 = .ok (.ireturn, 1) := by decide +kernel
set_option maxRecDepth 20000 in
theorem ggX7_plan_X7_tell : GoodIn wsX7_plan wsX7_tell := goodIn_r _ [8, 9, 10, 11, 12, 13, 14, 15, 16, 17, 18, 19, 20, 21, 22, 23, 24, 25, 26, 27, 28, 29, 30, 31, 32, 33, 34, 35, 36, 37, 38, 39, 40, 41, 42, 43] (by decide +kernel) (by decide +kernel)
set_option maxRecDepth 20000 in
theorem gX7_plan_X7_tell : GoodIn wsX7_plan (wsV RX7 146 RX7 yX7_tell wsX7_tell) := goodIn_app (goodIn_of _ (by decide +kernel)) ggX7_plan_X7_tell
theorem dX7_plan_0 : decode cX7_plan 0 = .ok (.aload_n 0, 1) := by decide +kernel
theorem dX7_plan_1 : decode cX7_plan 1 = .ok (.iconst 0, 1) := by decide +kernel
theorem dX7_plan_2 : decode cX7_plan 2 = .ok (.putfield 79, 3) := by decide +kernel
theorem dX7_plan_5 : decode cX7_plan 5 = .ok (.iload_n 1, 1) := by decide +kernel
theorem dX7_plan_6 : decode cX7_plan 6 = .ok (.ifCond .lt 31, 3) := by decide +kernel
theorem dX7_plan_9 : decode cX7_plan 9 = .ok (.iload_n 1, 1) := by decide +kernel
theorem dX7_plan_10 : decode cX7_plan 10 = .ok (.aload_n 0, 1) := by decide +kernel
theorem dX7_plan_11 : decode cX7_plan 11 = .ok (.getfield 85, 3) := by decide +kernel
theorem dX7_plan_14 : decode cX7_plan 14 = .ok (.if_icmp .ge 23, 3) := by decide +kernel
theorem dX7_plan_17 : decode cX7_plan 17 = .ok (.aload_n 0, 1) := by decide +kernel
theorem dX7_plan_18 : decode cX7_plan 18 = .ok (.iload_n 2, 1) := by decide +kernel
theorem dX7_plan_19 : decode cX7_plan 19 = .ok (.iconst 1, 1) := by decide +kernel
theorem dX7_plan_20 : decode cX7_plan 20 = .ok (.aload_n 0, 1) := by decide +kernel
theorem dX7_plan_21 : decode cX7_plan 21 = .ok (.getfield 82, 3) := by decide +kernel
theorem dX7_plan_24 : decode cX7_plan 24 = .ok (.iadd, 1) := by decide +kernel
theorem dX7_plan_25 : decode cX7_plan 25 = .ok (.iload_n 1, 1) := by decide +kernel
theorem dX7_plan_26 : decode cX7_plan 26 = .ok (.iadd, 1) := by decide +kernel
theorem dX7_plan_27 : decode cX7_plan 27 = .ok (.invokevirtual 146, 3) := by decide +kernel
theorem dX7_plan_30 : decode cX7_plan 30 = .ok (.ifCond .eq 7, 3) := by decide +kernel
theorem dX7_plan_33 : decode cX7_plan 33 = .ok (.iconst 1, 1) := by decide +kernel
theorem dX7_plan_34 : decode cX7_plan 34 = .ok (.goto 4, 3) := by decide +kernel
theorem dX7_plan_37 : decode cX7_plan 37 = .ok (.iconst 0, 1) := by decide +kernel
theorem dX7_plan_38 : decode cX7_plan 38 = .ok (.ireturn, 1) := by decide +kernel
theorem dX7_eventOf_0 : decode cX7_eventOf 0 = .ok (.iconst 0, 1) := by decide +kernel
theorem dX7_eventOf_1 : decode cX7_eventOf 1 = .ok (.istore_n 2, 1) := by decide +kernel
theorem dX7_eventOf_2 : decode cX7_eventOf 2 = .ok (.iconst 0, 1) := by decide +kernel
theorem dX7_eventOf_3 : decode cX7_eventOf 3 = .ok (.istore_n 3, 1) := by decide +kernel
theorem dX7_eventOf_4 : decode cX7_eventOf 4 = .ok (.iload_n 3, 1) := by decide +kernel
theorem dX7_eventOf_5 : decode cX7_eventOf 5 = .ok (.aload_n 0, 1) := by decide +kernel
theorem dX7_eventOf_6 : decode cX7_eventOf 6 = .ok (.getfield 94, 3) := by decide +kernel
theorem dX7_eventOf_9 : decode cX7_eventOf 9 = .ok (.if_icmp .ge 30, 3) := by decide +kernel
theorem dX7_eventOf_12 : decode cX7_eventOf 12 = .ok (.aload_n 0, 1) := by decide +kernel
theorem dX7_eventOf_13 : decode cX7_eventOf 13 = .ok (.getfield 38, 3) := by decide +kernel
theorem dX7_eventOf_16 : decode cX7_eventOf 16 = .ok (.iload_n 3, 1) := by decide +kernel
theorem dX7_eventOf_17 : decode cX7_eventOf 17 = .ok (.iaload, 1) := by decide +kernel
theorem dX7_eventOf_18 : decode cX7_eventOf 18 = .ok (.iload_n 1, 1) := by decide +kernel
theorem dX7_eventOf_19 : decode cX7_eventOf 19 = .ok (.if_icmp .ne 12, 3) := by decide +kernel
theorem dX7_eventOf_22 : decode cX7_eventOf 22 = .ok (.aload_n 0, 1) := by decide +kernel
theorem dX7_eventOf_23 : decode cX7_eventOf 23 = .ok (.getfield 41, 3) := by decide +kernel
theorem dX7_eventOf_26 : decode cX7_eventOf 26 = .ok (.iload_n 3, 1) := by decide +kernel
theorem dX7_eventOf_27 : decode cX7_eventOf 27 = .ok (.iaload, 1) := by decide +kernel
theorem dX7_eventOf_28 : decode cX7_eventOf 28 = .ok (.goto 4, 3) := by decide +kernel
theorem dX7_eventOf_31 : decode cX7_eventOf 31 = .ok (.iload_n 2, 1) := by decide +kernel
theorem dX7_eventOf_32 : decode cX7_eventOf 32 = .ok (.istore_n 2, 1) := by decide +kernel
theorem dX7_eventOf_33 : decode cX7_eventOf 33 = .ok (.iinc 3 1, 3) := by decide +kernel
theorem dX7_eventOf_36 : decode cX7_eventOf 36 = .ok (.goto (-32), 3) := by decide +kernel
theorem dX7_eventOf_39 : decode cX7_eventOf 39 = .ok (.iload_n 2, 1) := by decide +kernel
theorem dX7_eventOf_40 : decode cX7_eventOf 40 = .ok (.ireturn, 1) := by decide +kernel
theorem dX7_take_0 : decode cX7_take 0 = .ok (.iconst 0, 1) := by decide +kernel
theorem dX7_take_1 : decode cX7_take 1 = .ok (.istore_n 1, 1) := by decide +kernel
theorem dX7_take_2 : decode cX7_take 2 = .ok (.iload_n 1, 1) := by decide +kernel
theorem dX7_take_3 : decode cX7_take 3 = .ok (.bipush 14, 2) := by decide +kernel
theorem dX7_take_5 : decode cX7_take 5 = .ok (.if_icmp .ge 21, 3) := by decide +kernel
theorem dX7_take_8 : decode cX7_take 8 = .ok (.aload_n 0, 1) := by decide +kernel
theorem dX7_take_9 : decode cX7_take 9 = .ok (.getfield 47, 3) := by decide +kernel
theorem dX7_take_12 : decode cX7_take 12 = .ok (.iload_n 1, 1) := by decide +kernel
theorem dX7_take_13 : decode cX7_take 13 = .ok (.aload_n 0, 1) := by decide +kernel
theorem dX7_take_14 : decode cX7_take 14 = .ok (.getfield 44, 3) := by decide +kernel
theorem dX7_take_17 : decode cX7_take 17 = .ok (.iload_n 1, 1) := by decide +kernel
theorem dX7_take_18 : decode cX7_take 18 = .ok (.iaload, 1) := by decide +kernel
theorem dX7_take_19 : decode cX7_take 19 = .ok (.iastore, 1) := by decide +kernel
theorem dX7_take_20 : decode cX7_take 20 = .ok (.iinc 1 1, 3) := by decide +kernel
theorem dX7_take_23 : decode cX7_take 23 = .ok (.goto (-21), 3) := by decide +kernel
theorem dX7_take_26 : decode cX7_take 26 = .ok (.return_, 1) := by decide +kernel
set_option maxRecDepth 20000 in
theorem ggX7_second_X7_take : GoodIn wsX7_second wsX7_take := goodIn_r _ [10, 5, 4, 52, 53, 54, 55, 56, 57, 58, 59, 60, 61, 62, 63, 64, 65, 66, 67, 68, 69, 70, 71, 72, 73, 74, 75, 76, 77, 78, 79, 80, 81, 82] (by decide +kernel) (by decide +kernel)
set_option maxRecDepth 20000 in
theorem gX7_second_X7_take : GoodIn wsX7_second (wsV RX7 150 RX7 yX7_take wsX7_take) := goodIn_app (goodIn_of _ (by decide +kernel)) ggX7_second_X7_take
set_option maxRecDepth 20000 in
theorem ggX7_second_X7_eventOf : GoodIn wsX7_second wsX7_eventOf := goodIn_r _ [14, 15, 16, 17, 52, 53, 54, 55, 56, 57, 58, 59, 60, 61, 62, 63, 64, 65, 66, 67, 68, 69, 70, 71, 72, 73, 74, 75, 76, 77, 78, 79, 80, 81, 82] (by decide +kernel) (by decide +kernel)
set_option maxRecDepth 20000 in
theorem gX7_second_X7_eventOf : GoodIn wsX7_second (wsV RX7 153 RX7 yX7_eventOf wsX7_eventOf) := goodIn_app (goodIn_of _ (by decide +kernel)) ggX7_second_X7_eventOf
set_option maxRecDepth 20000 in
theorem ggX7_second_X7_go : GoodIn wsX7_second wsX7_go := goodIn_r _ [21, 22, 5, 23, 24, 25, 26, 27, 28, 29, 9, 30, 31, 32, 33, 34, 35, 36, 37, 38, 39, 40, 41, 42, 43, 44, 45, 46, 47, 48, 49, 50, 51, 52, 53, 54, 55, 56, 57, 58, 59, 60, 61, 62, 63, 64, 65, 66, 67, 68, 69, 70, 71, 72, 73, 74, 75, 76, 77, 78, 79, 80, 81, 82] (by decide +kernel) (by decide +kernel)
set_option maxRecDepth 20000 in
theorem gX7_second_X7_go : GoodIn wsX7_second (wsV RX7 156 RX7 yX7_go wsX7_go) := goodIn_app (goodIn_of _ (by decide +kernel)) ggX7_second_X7_go
theorem dX7_second_0 : decode cX7_second 0 = .ok (.aload_n 0, 1) := by decide +kernel
theorem dX7_second_1 : decode cX7_second 1 = .ok (.iconst 0, 1) := by decide +kernel
theorem dX7_second_2 : decode cX7_second 2 = .ok (.putfield 79, 3) := by decide +kernel
theorem dX7_second_5 : decode cX7_second 5 = .ok (.aload_n 0, 1) := by decide +kernel
theorem dX7_second_6 : decode cX7_second 6 = .ok (.getfield 85, 3) := by decide +kernel
theorem dX7_second_9 : decode cX7_second 9 = .ok (.ifCond .ne 5, 3) := by decide +kernel
theorem dX7_second_12 : decode cX7_second 12 = .ok (.iconst (-1), 1) := by decide +kernel
theorem dX7_second_13 : decode cX7_second 13 = .ok (.ireturn, 1) := by decide +kernel
theorem dX7_second_14 : decode cX7_second 14 = .ok (.aload_n 0, 1) := by decide +kernel
theorem dX7_second_15 : decode cX7_second 15 = .ok (.invokevirtual 150, 3) := by decide +kernel
theorem dX7_second_18 : decode cX7_second 18 = .ok (.aload_n 0, 1) := by decide +kernel
theorem dX7_second_19 : decode cX7_second 19 = .ok (.dup, 1) := by decide +kernel
theorem dX7_second_20 : decode cX7_second 20 = .ok (.getfield 97, 3) := by decide +kernel
theorem dX7_second_23 : decode cX7_second 23 = .ok (.iconst 1, 1) := by decide +kernel
theorem dX7_second_24 : decode cX7_second 24 = .ok (.iadd, 1) := by decide +kernel
theorem dX7_second_25 : decode cX7_second 25 = .ok (.putfield 97, 3) := by decide +kernel
theorem dX7_second_28 : decode cX7_second 28 = .ok (.aload_n 0, 1) := by decide +kernel
theorem dX7_second_29 : decode cX7_second 29 = .ok (.aload_n 0, 1) := by decide +kernel
theorem dX7_second_30 : decode cX7_second 30 = .ok (.aload_n 0, 1) := by decide +kernel
theorem dX7_second_31 : decode cX7_second 31 = .ok (.getfield 97, 3) := by decide +kernel
theorem dX7_second_34 : decode cX7_second 34 = .ok (.invokevirtual 153, 3) := by decide +kernel
theorem dX7_second_37 : decode cX7_second 37 = .ok (.invokevirtual 156, 3) := by decide +kernel
theorem dX7_second_40 : decode cX7_second 40 = .ok (.istore_n 1, 1) := by decide +kernel
theorem dX7_second_41 : decode cX7_second 41 = .ok (.iconst 0, 1) := by decide +kernel
theorem dX7_second_42 : decode cX7_second 42 = .ok (.istore_n 2, 1) := by decide +kernel
theorem dX7_second_43 : decode cX7_second 43 = .ok (.iload_n 2, 1) := by decide +kernel
theorem dX7_second_44 : decode cX7_second 44 = .ok (.bipush 14, 2) := by decide +kernel
theorem dX7_second_46 : decode cX7_second 46 = .ok (.if_icmp .ge 21, 3) := by decide +kernel
theorem dX7_second_49 : decode cX7_second 49 = .ok (.aload_n 0, 1) := by decide +kernel
theorem dX7_second_50 : decode cX7_second 50 = .ok (.getfield 44, 3) := by decide +kernel
theorem dX7_second_53 : decode cX7_second 53 = .ok (.iload_n 2, 1) := by decide +kernel
theorem dX7_second_54 : decode cX7_second 54 = .ok (.aload_n 0, 1) := by decide +kernel
theorem dX7_second_55 : decode cX7_second 55 = .ok (.getfield 47, 3) := by decide +kernel
theorem dX7_second_58 : decode cX7_second 58 = .ok (.iload_n 2, 1) := by decide +kernel
theorem dX7_second_59 : decode cX7_second 59 = .ok (.iaload, 1) := by decide +kernel
theorem dX7_second_60 : decode cX7_second 60 = .ok (.iastore, 1) := by decide +kernel
theorem dX7_second_61 : decode cX7_second 61 = .ok (.iinc 2 1, 3) := by decide +kernel
theorem dX7_second_64 : decode cX7_second 64 = .ok (.goto (-21), 3) := by decide +kernel
theorem dX7_second_67 : decode cX7_second 67 = .ok (.iload_n 1, 1) := by decide +kernel
theorem dX7_second_68 : decode cX7_second 68 = .ok (.ireturn, 1) := by decide +kernel
set_option maxRecDepth 20000 in
theorem ggX7_told_X7_take : GoodIn wsX7_told wsX7_take := goodIn_r _ [10, 5, 11, 27, 28, 29, 30, 31, 32, 33, 34, 35, 36, 37, 38, 39, 40, 41, 42, 43, 44, 45, 46, 47, 48, 49, 50, 51, 52, 53, 54, 55, 56, 57] (by decide +kernel) (by decide +kernel)
set_option maxRecDepth 20000 in
theorem gX7_told_X7_take : GoodIn wsX7_told (wsV RX7 150 RX7 yX7_take wsX7_take) := goodIn_app (goodIn_of _ (by decide +kernel)) ggX7_told_X7_take
set_option maxRecDepth 20000 in
theorem ggX7_told_X7_shownNow : GoodIn wsX7_told wsX7_shownNow := goodIn_r _ [15, 5, 16, 17, 18, 9, 19, 20, 27, 28, 29, 30, 31, 32, 33, 34, 35, 36, 37, 38, 39, 40, 41, 42, 43, 44, 45, 46, 47, 48, 49, 50, 51, 52, 53, 54, 55, 56, 57] (by decide +kernel) (by decide +kernel)
set_option maxRecDepth 20000 in
theorem gX7_told_X7_shownNow : GoodIn wsX7_told (wsV RX7 136 RX7 yX7_shownNow wsX7_shownNow) := goodIn_app (goodIn_of _ (by decide +kernel)) ggX7_told_X7_shownNow
set_option maxRecDepth 20000 in
theorem ggX7_told_X7_find : GoodIn wsX7_told wsX7_find := goodIn_r _ [24, 25, 26, 5, 27, 28, 29, 30, 31, 32, 33, 34, 35, 36, 37, 38, 39, 40, 41, 42, 43, 44, 45, 46, 47, 48, 49, 50, 51, 52, 53, 54, 55, 56, 57] (by decide +kernel) (by decide +kernel)
set_option maxRecDepth 20000 in
theorem gX7_told_X7_find : GoodIn wsX7_told (wsV RX7 159 RX7 yX7_find wsX7_find) := goodIn_app (goodIn_of _ (by decide +kernel)) ggX7_told_X7_find
theorem dX7_told_0 : decode cX7_told 0 = .ok (.aload_n 0, 1) := by decide +kernel
theorem dX7_told_1 : decode cX7_told 1 = .ok (.iconst 0, 1) := by decide +kernel
theorem dX7_told_2 : decode cX7_told 2 = .ok (.putfield 79, 3) := by decide +kernel
theorem dX7_told_5 : decode cX7_told 5 = .ok (.aload_n 0, 1) := by decide +kernel
theorem dX7_told_6 : decode cX7_told 6 = .ok (.getfield 85, 3) := by decide +kernel
theorem dX7_told_9 : decode cX7_told 9 = .ok (.ifCond .eq 18, 3) := by decide +kernel
theorem dX7_told_12 : decode cX7_told 12 = .ok (.iload_n 1, 1) := by decide +kernel
theorem dX7_told_13 : decode cX7_told 13 = .ok (.ifCond .lt 14, 3) := by decide +kernel
theorem dX7_told_16 : decode cX7_told 16 = .ok (.iload_n 1, 1) := by decide +kernel
theorem dX7_told_17 : decode cX7_told 17 = .ok (.bipush 8, 2) := by decide +kernel
theorem dX7_told_19 : decode cX7_told 19 = .ok (.aload_n 0, 1) := by decide +kernel
theorem dX7_told_20 : decode cX7_told 20 = .ok (.getfield 82, 3) := by decide +kernel
theorem dX7_told_23 : decode cX7_told 23 = .ok (.iadd, 1) := by decide +kernel
theorem dX7_told_24 : decode cX7_told 24 = .ok (.if_icmp .le 5, 3) := by decide +kernel
theorem dX7_told_27 : decode cX7_told 27 = .ok (.iconst (-1), 1) := by decide +kernel
theorem dX7_told_28 : decode cX7_told 28 = .ok (.ireturn, 1) := by decide +kernel
theorem dX7_told_29 : decode cX7_told 29 = .ok (.aload_n 0, 1) := by decide +kernel
theorem dX7_told_30 : decode cX7_told 30 = .ok (.invokevirtual 150, 3) := by decide +kernel
theorem dX7_told_33 : decode cX7_told 33 = .ok (.iload_n 1, 1) := by decide +kernel
theorem dX7_told_34 : decode cX7_told 34 = .ok (.tableswitch 109 0 8 #[50, 55, 62, 69, 76, 83, 91, 99, 104], 50) := by decide +kernel
theorem dX7_told_84 : decode cX7_told 84 = .ok (.aload_n 0, 1) := by decide +kernel
theorem dX7_told_85 : decode cX7_told 85 = .ok (.getfield 97, 3) := by decide +kernel
theorem dX7_told_88 : decode cX7_told 88 = .ok (.ireturn, 1) := by decide +kernel
theorem dX7_told_89 : decode cX7_told 89 = .ok (.aload_n 0, 1) := by decide +kernel
theorem dX7_told_90 : decode cX7_told 90 = .ok (.getfield 47, 3) := by decide +kernel
theorem dX7_told_93 : decode cX7_told 93 = .ok (.iconst 0, 1) := by decide +kernel
theorem dX7_told_94 : decode cX7_told 94 = .ok (.iaload, 1) := by decide +kernel
theorem dX7_told_95 : decode cX7_told 95 = .ok (.ireturn, 1) := by decide +kernel
theorem dX7_told_96 : decode cX7_told 96 = .ok (.aload_n 0, 1) := by decide +kernel
theorem dX7_told_97 : decode cX7_told 97 = .ok (.getfield 47, 3) := by decide +kernel
theorem dX7_told_100 : decode cX7_told 100 = .ok (.iconst 1, 1) := by decide +kernel
theorem dX7_told_101 : decode cX7_told 101 = .ok (.iaload, 1) := by decide +kernel
theorem dX7_told_102 : decode cX7_told 102 = .ok (.ireturn, 1) := by decide +kernel
theorem dX7_told_103 : decode cX7_told 103 = .ok (.aload_n 0, 1) := by decide +kernel
theorem dX7_told_104 : decode cX7_told 104 = .ok (.getfield 47, 3) := by decide +kernel
theorem dX7_told_107 : decode cX7_told 107 = .ok (.iconst 2, 1) := by decide +kernel
theorem dX7_told_108 : decode cX7_told 108 = .ok (.iaload, 1) := by decide +kernel
theorem dX7_told_109 : decode cX7_told 109 = .ok (.ireturn, 1) := by decide +kernel
theorem dX7_told_110 : decode cX7_told 110 = .ok (.aload_n 0, 1) := by decide +kernel
theorem dX7_told_111 : decode cX7_told 111 = .ok (.getfield 47, 3) := by decide +kernel
theorem dX7_told_114 : decode cX7_told 114 = .ok (.iconst 3, 1) := by decide +kernel
theorem dX7_told_115 : decode cX7_told 115 = .ok (.iaload, 1) := by decide +kernel
theorem dX7_told_116 : decode cX7_told 116 = .ok (.ireturn, 1) := by decide +kernel
theorem dX7_told_117 : decode cX7_told 117 = .ok (.aload_n 0, 1) := by decide +kernel
theorem dX7_told_118 : decode cX7_told 118 = .ok (.getfield 47, 3) := by decide +kernel
theorem dX7_told_121 : decode cX7_told 121 = .ok (.bipush 6, 2) := by decide +kernel
theorem dX7_told_123 : decode cX7_told 123 = .ok (.iaload, 1) := by decide +kernel
theorem dX7_told_124 : decode cX7_told 124 = .ok (.ireturn, 1) := by decide +kernel
theorem dX7_told_125 : decode cX7_told 125 = .ok (.aload_n 0, 1) := by decide +kernel
theorem dX7_told_126 : decode cX7_told 126 = .ok (.getfield 47, 3) := by decide +kernel
theorem dX7_told_129 : decode cX7_told 129 = .ok (.bipush 7, 2) := by decide +kernel
theorem dX7_told_131 : decode cX7_told 131 = .ok (.iaload, 1) := by decide +kernel
theorem dX7_told_132 : decode cX7_told 132 = .ok (.ireturn, 1) := by decide +kernel
theorem dX7_told_133 : decode cX7_told 133 = .ok (.aload_n 0, 1) := by decide +kernel
theorem dX7_told_134 : decode cX7_told 134 = .ok (.invokevirtual 136, 3) := by decide +kernel
theorem dX7_told_137 : decode cX7_told 137 = .ok (.ireturn, 1) := by decide +kernel
theorem dX7_told_138 : decode cX7_told 138 = .ok (.aload_n 0, 1) := by decide +kernel
theorem dX7_told_139 : decode cX7_told 139 = .ok (.invokevirtual 159, 3) := by decide +kernel
theorem dX7_told_142 : decode cX7_told 142 = .ok (.ireturn, 1) := by decide +kernel
theorem dX7_told_143 : decode cX7_told 143 = .ok (.aload_n 0, 1) := by decide +kernel
theorem dX7_told_144 : decode cX7_told 144 = .ok (.getfield 47, 3) := by decide +kernel
theorem dX7_told_147 : decode cX7_told 147 = .ok (.bipush 8, 2) := by decide +kernel
theorem dX7_told_149 : decode cX7_told 149 = .ok (.iload_n 1, 1) := by decide +kernel
theorem dX7_told_150 : decode cX7_told 150 = .ok (.iadd, 1) := by decide +kernel
theorem dX7_told_151 : decode cX7_told 151 = .ok (.bipush 9, 2) := by decide +kernel
theorem dX7_told_153 : decode cX7_told 153 = .ok (.isub, 1) := by decide +kernel
theorem dX7_told_154 : decode cX7_told 154 = .ok (.iaload, 1) := by decide +kernel
theorem dX7_told_155 : decode cX7_told 155 = .ok (.ireturn, 1) := by decide +kernel
set_option maxRecDepth 20000 in
theorem ggX7_shown_X7_isGroup : GoodIn wsX7_shown wsX7_isGroup := goodIn_r _ [7, 8, 24, 25, 26, 27, 28, 29, 30, 31, 32, 33, 34, 35, 36, 37, 38, 39, 40, 41, 42, 43, 44, 45, 46, 47, 48, 49, 50, 51, 52, 53, 54] (by decide +kernel) (by decide +kernel)
set_option maxRecDepth 20000 in
theorem gX7_shown_X7_isGroup : GoodIn wsX7_shown (wsV RX7 106 RX7 yX7_isGroup wsX7_isGroup) := goodIn_app (goodIn_of _ (by decide +kernel)) ggX7_shown_X7_isGroup
set_option maxRecDepth 20000 in
theorem ggX7_shown_X7_take : GoodIn wsX7_shown wsX7_take := goodIn_r _ [12, 13, 14, 24, 25, 26, 27, 28, 29, 30, 31, 32, 33, 34, 35, 36, 37, 38, 39, 40, 41, 42, 43, 44, 45, 46, 47, 48, 49, 50, 51, 52, 53, 54] (by decide +kernel) (by decide +kernel)
set_option maxRecDepth 20000 in
theorem gX7_shown_X7_take : GoodIn wsX7_shown (wsV RX7 150 RX7 yX7_take wsX7_take) := goodIn_app (goodIn_of _ (by decide +kernel)) ggX7_shown_X7_take
set_option maxRecDepth 20000 in
theorem ggX7_shown_X7_shownNow : GoodIn wsX7_shown wsX7_shownNow := goodIn_r _ [18, 13, 19, 20, 21, 6, 22, 23, 24, 25, 26, 27, 28, 29, 30, 31, 32, 33, 34, 35, 36, 37, 38, 39, 40, 41, 42, 43, 44, 45, 46, 47, 48, 49, 50, 51, 52, 53, 54] (by decide +kernel) (by decide +kernel)
set_option maxRecDepth 20000 in
theorem gX7_shown_X7_shownNow : GoodIn wsX7_shown (wsV RX7 136 RX7 yX7_shownNow wsX7_shownNow) := goodIn_app (goodIn_of _ (by decide +kernel)) ggX7_shown_X7_shownNow
theorem dX7_shown_0 : decode cX7_shown 0 = .ok (.aload_n 0, 1) := by decide +kernel
theorem dX7_shown_1 : decode cX7_shown 1 = .ok (.iconst 0, 1) := by decide +kernel
theorem dX7_shown_2 : decode cX7_shown 2 = .ok (.putfield 79, 3) := by decide +kernel
theorem dX7_shown_5 : decode cX7_shown 5 = .ok (.aload_n 0, 1) := by decide +kernel
theorem dX7_shown_6 : decode cX7_shown 6 = .ok (.getfield 85, 3) := by decide +kernel
theorem dX7_shown_9 : decode cX7_shown 9 = .ok (.ifCond .eq 11, 3) := by decide +kernel
theorem dX7_shown_12 : decode cX7_shown 12 = .ok (.aload_n 0, 1) := by decide +kernel
theorem dX7_shown_13 : decode cX7_shown 13 = .ok (.iload_n 1, 1) := by decide +kernel
theorem dX7_shown_14 : decode cX7_shown 14 = .ok (.invokevirtual 106, 3) := by decide +kernel
theorem dX7_shown_17 : decode cX7_shown 17 = .ok (.ifCond .ne 5, 3) := by decide +kernel
theorem dX7_shown_20 : decode cX7_shown 20 = .ok (.iconst (-1), 1) := by decide +kernel
theorem dX7_shown_21 : decode cX7_shown 21 = .ok (.ireturn, 1) := by decide +kernel
theorem dX7_shown_22 : decode cX7_shown 22 = .ok (.aload_n 0, 1) := by decide +kernel
theorem dX7_shown_23 : decode cX7_shown 23 = .ok (.invokevirtual 150, 3) := by decide +kernel
theorem dX7_shown_26 : decode cX7_shown 26 = .ok (.aload_n 0, 1) := by decide +kernel
theorem dX7_shown_27 : decode cX7_shown 27 = .ok (.invokevirtual 136, 3) := by decide +kernel
theorem dX7_shown_30 : decode cX7_shown 30 = .ok (.iload_n 1, 1) := by decide +kernel
theorem dX7_shown_31 : decode cX7_shown 31 = .ok (.ishr, 1) := by decide +kernel
theorem dX7_shown_32 : decode cX7_shown 32 = .ok (.iconst 1, 1) := by decide +kernel
theorem dX7_shown_33 : decode cX7_shown 33 = .ok (.iand, 1) := by decide +kernel
theorem dX7_shown_34 : decode cX7_shown 34 = .ok (.ireturn, 1) := by decide +kernel
theorem dX7_find_0 : decode cX7_find 0 = .ok (.iconst 0, 1) := by decide +kernel
theorem dX7_find_1 : decode cX7_find 1 = .ok (.istore_n 1, 1) := by decide +kernel
theorem dX7_find_2 : decode cX7_find 2 = .ok (.iload_n 1, 1) := by decide +kernel
theorem dX7_find_3 : decode cX7_find 3 = .ok (.aload_n 0, 1) := by decide +kernel
theorem dX7_find_4 : decode cX7_find 4 = .ok (.getfield 100, 3) := by decide +kernel
theorem dX7_find_7 : decode cX7_find 7 = .ok (.if_icmp .ge 61, 3) := by decide +kernel
theorem dX7_find_10 : decode cX7_find 10 = .ok (.iconst 1, 1) := by decide +kernel
theorem dX7_find_11 : decode cX7_find 11 = .ok (.istore_n 2, 1) := by decide +kernel
theorem dX7_find_12 : decode cX7_find 12 = .ok (.iconst 0, 1) := by decide +kernel
theorem dX7_find_13 : decode cX7_find 13 = .ok (.istore_n 3, 1) := by decide +kernel
theorem dX7_find_14 : decode cX7_find 14 = .ok (.iload_n 3, 1) := by decide +kernel
theorem dX7_find_15 : decode cX7_find 15 = .ok (.bipush 14, 2) := by decide +kernel
theorem dX7_find_17 : decode cX7_find 17 = .ok (.if_icmp .ge 39, 3) := by decide +kernel
theorem dX7_find_20 : decode cX7_find 20 = .ok (.iload_n 2, 1) := by decide +kernel
theorem dX7_find_21 : decode cX7_find 21 = .ok (.ifCond .eq 35, 3) := by decide +kernel
theorem dX7_find_24 : decode cX7_find 24 = .ok (.aload_n 0, 1) := by decide +kernel
theorem dX7_find_25 : decode cX7_find 25 = .ok (.getfield 57, 3) := by decide +kernel
theorem dX7_find_28 : decode cX7_find 28 = .ok (.bipush 14, 2) := by decide +kernel
theorem dX7_find_30 : decode cX7_find 30 = .ok (.iload_n 1, 1) := by decide +kernel
theorem dX7_find_31 : decode cX7_find 31 = .ok (.imul, 1) := by decide +kernel
theorem dX7_find_32 : decode cX7_find 32 = .ok (.iload_n 3, 1) := by decide +kernel
theorem dX7_find_33 : decode cX7_find 33 = .ok (.iadd, 1) := by decide +kernel
theorem dX7_find_34 : decode cX7_find 34 = .ok (.iaload, 1) := by decide +kernel
theorem dX7_find_35 : decode cX7_find 35 = .ok (.aload_n 0, 1) := by decide +kernel
theorem dX7_find_36 : decode cX7_find 36 = .ok (.getfield 47, 3) := by decide +kernel
theorem dX7_find_39 : decode cX7_find 39 = .ok (.iload_n 3, 1) := by decide +kernel
theorem dX7_find_40 : decode cX7_find 40 = .ok (.iaload, 1) := by decide +kernel
theorem dX7_find_41 : decode cX7_find 41 = .ok (.if_icmp .ne 7, 3) := by decide +kernel
theorem dX7_find_44 : decode cX7_find 44 = .ok (.iconst 1, 1) := by decide +kernel
theorem dX7_find_45 : decode cX7_find 45 = .ok (.goto 4, 3) := by decide +kernel
theorem dX7_find_48 : decode cX7_find 48 = .ok (.iconst 0, 1) := by decide +kernel
theorem dX7_find_49 : decode cX7_find 49 = .ok (.istore_n 2, 1) := by decide +kernel
theorem dX7_find_50 : decode cX7_find 50 = .ok (.iinc 3 1, 3) := by decide +kernel
theorem dX7_find_53 : decode cX7_find 53 = .ok (.goto (-39), 3) := by decide +kernel
theorem dX7_find_56 : decode cX7_find 56 = .ok (.iload_n 2, 1) := by decide +kernel
theorem dX7_find_57 : decode cX7_find 57 = .ok (.ifCond .eq 5, 3) := by decide +kernel
theorem dX7_find_60 : decode cX7_find 60 = .ok (.iload_n 1, 1) := by decide +kernel
theorem dX7_find_61 : decode cX7_find 61 = .ok (.ireturn, 1) := by decide +kernel
theorem dX7_find_62 : decode cX7_find 62 = .ok (.iinc 1 1, 3) := by decide +kernel
theorem dX7_find_65 : decode cX7_find 65 = .ok (.goto (-63), 3) := by decide +kernel
theorem dX7_find_68 : decode cX7_find 68 = .ok (.iconst (-1), 1) := by decide +kernel
theorem dX7_find_69 : decode cX7_find 69 = .ok (.ireturn, 1) := by decide +kernel
theorem dX7_add_0 : decode cX7_add 0 = .ok (.iconst 0, 1) := by decide +kernel
theorem dX7_add_1 : decode cX7_add 1 = .ok (.istore_n 3, 1) := by decide +kernel
theorem dX7_add_2 : decode cX7_add 2 = .ok (.iload_n 3, 1) := by decide +kernel
theorem dX7_add_3 : decode cX7_add 3 = .ok (.bipush 14, 2) := by decide +kernel
theorem dX7_add_5 : decode cX7_add 5 = .ok (.if_icmp .ge 29, 3) := by decide +kernel
theorem dX7_add_8 : decode cX7_add 8 = .ok (.aload_n 0, 1) := by decide +kernel
theorem dX7_add_9 : decode cX7_add 9 = .ok (.getfield 57, 3) := by decide +kernel
theorem dX7_add_12 : decode cX7_add 12 = .ok (.bipush 14, 2) := by decide +kernel
theorem dX7_add_14 : decode cX7_add 14 = .ok (.aload_n 0, 1) := by decide +kernel
theorem dX7_add_15 : decode cX7_add 15 = .ok (.getfield 100, 3) := by decide +kernel
theorem dX7_add_18 : decode cX7_add 18 = .ok (.imul, 1) := by decide +kernel
theorem dX7_add_19 : decode cX7_add 19 = .ok (.iload_n 3, 1) := by decide +kernel
theorem dX7_add_20 : decode cX7_add 20 = .ok (.iadd, 1) := by decide +kernel
theorem dX7_add_21 : decode cX7_add 21 = .ok (.aload_n 0, 1) := by decide +kernel
