set_option maxRecDepth 20000 in
theorem ggX6_init_X0_init : GoodIn wsX6_init wsX0_init := goodIn_r _ [26, 27, 2, 3, 28, 29, 30, 31, 32, 33, 34, 35, 36, 126, 127, 128, 129, 130, 131, 132, 133, 134, 135] (by decide +kernel) (by decide +kernel)
set_option maxRecDepth 20000 in
theorem gX6_init_X0_init_n11 : GoodIn wsX6_init (wsX0_init) := ggX6_init_X0_init
set_option maxRecDepth 20000 in
theorem ggX6_init_X3_init : GoodIn wsX6_init wsX3_init := goodIn_r _ [38, 39, 2, 3, 28, 40, 41, 42, 43, 143, 144, 145, 146, 147, 148] (by decide +kernel) (by decide +kernel)
set_option maxRecDepth 20000 in
theorem gX6_init_X3_init_n18 : GoodIn wsX6_init (wsX3_init) := ggX6_init_X3_init
set_option maxRecDepth 20000 in
theorem ggX6_init_X1_init : GoodIn wsX6_init wsX1_init := goodIn_r _ [45, 46, 2, 3, 28, 47, 48, 149, 150, 151] (by decide +kernel) (by decide +kernel)
set_option maxRecDepth 20000 in
theorem gX6_init_X1_init_n25 : GoodIn wsX6_init (wsX1_init) := ggX6_init_X1_init
set_option maxRecDepth 20000 in
theorem ggX6_init_X2_init : GoodIn wsX6_init wsX2_init := goodIn_r _ [51, 52, 2, 3, 28, 53, 54, 152, 153, 154, 155, 156, 157, 158, 159, 160, 161] (by decide +kernel) (by decide +kernel)
set_option maxRecDepth 20000 in
theorem gX6_init_X2_init : GoodIn wsX6_init (wsX2_init) := ggX6_init_X2_init
set_option maxRecDepth 20000 in
theorem ggX6_init_X4_init : GoodIn wsX6_init wsX4_init := goodIn_r _ [57, 58, 2, 3, 59, 28, 60, 61, 62, 63, 64, 65, 66, 67, 68, 69, 70, 71, 72, 17, 18, 73, 74, 75, 76, 77, 78, 79, 80, 81, 50, 51, 52, 53, 54, 162, 163, 164, 165, 166, 167, 168, 169, 170, 171, 172, 173, 174, 175, 176, 177, 178, 179, 180, 152, 153, 154, 155, 156, 157, 158, 159, 160, 161] (by decide +kernel) (by decide +kernel)
set_option maxRecDepth 20000 in
theorem gX6_init_X4_init : GoodIn wsX6_init (wsX4_init) := ggX6_init_X4_init
set_option maxRecDepth 20000 in
theorem ggX6_init_X6_startAnew : GoodIn wsX6_init wsX6_startAnew := goodIn_r _ [86, 7, 11, 87, 88, 89, 90, 6, 91, 92, 93, 29, 30, 31, 32, 33, 34, 94, 95, 96, 97, 98, 99, 100, 85, 101, 15, 102, 24, 19, 103, 104, 105, 106, 23, 107, 108, 69, 59, 109, 110, 111, 112, 18, 113, 114, 115, 116, 117, 118, 119, 54, 53, 120, 121, 122, 123, 124, 125, 136, 137, 138, 139, 140, 141, 142, 143, 144, 145, 146, 147, 148, 126, 127, 128, 129, 130, 131, 132, 133, 134, 135, 149, 150, 151, 162, 163, 164, 165, 166, 167, 168, 169, 170, 171, 172, 173, 174, 175, 176, 152, 153, 154, 155, 156, 157, 158, 159, 160, 161] (by decide +kernel) (by decide +kernel)
set_option maxRecDepth 20000 in
theorem gX6_init_X6_startAnew : GoodIn wsX6_init (wsV RX6 49 RX6 yX6_startAnew wsX6_startAnew) := goodIn_app (goodIn_of _ (by decide +kernel)) ggX6_init_X6_startAnew
theorem dX6_init_0 : decode cX6_init 0 = .ok (.aload_n 0, 1) := by decide +kernel
theorem dX6_init_1 : decode cX6_init 1 = .ok (.invokespecial 3, 3) := by decide +kernel
theorem dX6_init_4 : decode cX6_init 4 = .ok (.aload_n 0, 1) := by decide +kernel
theorem dX6_init_5 : decode cX6_init 5 = .ok (.new 9, 3) := by decide +kernel
theorem dX6_init_8 : decode cX6_init 8 = .ok (.dup, 1) := by decide +kernel
theorem dX6_init_9 : decode cX6_init 9 = .ok (.invokespecial 11, 3) := by decide +kernel
theorem dX6_init_12 : decode cX6_init 12 = .ok (.putfield 12, 3) := by decide +kernel
theorem dX6_init_15 : decode cX6_init 15 = .ok (.aload_n 0, 1) := by decide +kernel
theorem dX6_init_16 : decode cX6_init 16 = .ok (.new 16, 3) := by decide +kernel
theorem dX6_init_19 : decode cX6_init 19 = .ok (.dup, 1) := by decide +kernel
theorem dX6_init_20 : decode cX6_init 20 = .ok (.invokespecial 18, 3) := by decide +kernel
theorem dX6_init_23 : decode cX6_init 23 = .ok (.putfield 19, 3) := by decide +kernel
theorem dX6_init_26 : decode cX6_init 26 = .ok (.aload_n 0, 1) := by decide +kernel
theorem dX6_init_27 : decode cX6_init 27 = .ok (.new 23, 3) := by decide +kernel
theorem dX6_init_30 : decode cX6_init 30 = .ok (.dup, 1) := by decide +kernel
theorem dX6_init_31 : decode cX6_init 31 = .ok (.invokespecial 25, 3) := by decide +kernel
theorem dX6_init_34 : decode cX6_init 34 = .ok (.putfield 26, 3) := by decide +kernel
theorem dX6_init_37 : decode cX6_init 37 = .ok (.aload_n 0, 1) := by decide +kernel
theorem dX6_init_38 : decode cX6_init 38 = .ok (.new 30, 3) := by decide +kernel
theorem dX6_init_41 : decode cX6_init 41 = .ok (.dup, 1) := by decide +kernel
theorem dX6_init_42 : decode cX6_init 42 = .ok (.aload_n 0, 1) := by decide +kernel
theorem dX6_init_43 : decode cX6_init 43 = .ok (.getfield 12, 3) := by decide +kernel
theorem dX6_init_46 : decode cX6_init 46 = .ok (.invokespecial 32, 3) := by decide +kernel
theorem dX6_init_49 : decode cX6_init 49 = .ok (.putfield 35, 3) := by decide +kernel
theorem dX6_init_52 : decode cX6_init 52 = .ok (.aload_n 0, 1) := by decide +kernel
theorem dX6_init_53 : decode cX6_init 53 = .ok (.new 30, 3) := by decide +kernel
theorem dX6_init_56 : decode cX6_init 56 = .ok (.dup, 1) := by decide +kernel
theorem dX6_init_57 : decode cX6_init 57 = .ok (.aload_n 0, 1) := by decide +kernel
theorem dX6_init_58 : decode cX6_init 58 = .ok (.getfield 12, 3) := by decide +kernel
theorem dX6_init_61 : decode cX6_init 61 = .ok (.invokespecial 32, 3) := by decide +kernel
theorem dX6_init_64 : decode cX6_init 64 = .ok (.putfield 39, 3) := by decide +kernel
theorem dX6_init_67 : decode cX6_init 67 = .ok (.aload_n 0, 1) := by decide +kernel
theorem dX6_init_68 : decode cX6_init 68 = .ok (.new 42, 3) := by decide +kernel
theorem dX6_init_71 : decode cX6_init 71 = .ok (.dup, 1) := by decide +kernel
theorem dX6_init_72 : decode cX6_init 72 = .ok (.aload_n 0, 1) := by decide +kernel
theorem dX6_init_73 : decode cX6_init 73 = .ok (.getfield 12, 3) := by decide +kernel
theorem dX6_init_76 : decode cX6_init 76 = .ok (.invokespecial 44, 3) := by decide +kernel
theorem dX6_init_79 : decode cX6_init 79 = .ok (.putfield 45, 3) := by decide +kernel
theorem dX6_init_82 : decode cX6_init 82 = .ok (.aload_n 0, 1) := by decide +kernel
theorem dX6_init_83 : decode cX6_init 83 = .ok (.iconst 1, 1) := by decide +kernel
theorem dX6_init_84 : decode cX6_init 84 = .ok (.invokevirtual 49, 3) := by decide +kernel
theorem dX6_init_87 : decode cX6_init 87 = .ok (.return_, 1) := by decide +kernel
theorem dX6_begin_0 : decode cX6_begin 0 = .ok (.iload_n 1, 1) := by decide +kernel
theorem dX6_begin_1 : decode cX6_begin 1 = .ok (.ifCond .ge 13, 3) := by decide +kernel
theorem dX6_begin_4 : decode cX6_begin 4 = .ok (.new 53, 3) := by decide +kernel
theorem dX6_begin_7 : decode cX6_begin 7 = .ok (.dup, 1) := by decide +kernel
theorem dX6_begin_8 : decode cX6_begin 8 = .ok (.ldc 55, 2) := by decide +kernel
theorem dX6_begin_10 : decode cX6_begin 10 = .ok (.invokespecial 57, 3) := by decide +kernel
theorem dX6_begin_13 : decode cX6_begin 13 = .ok (.athrow, 1) := by decide +kernel
theorem dX6_begin_14 : decode cX6_begin 14 = .ok (.iload_n 1, 1) := by decide +kernel
theorem dX6_begin_15 : decode cX6_begin 15 = .ok (.ifCond .eq 9, 3) := by decide +kernel
theorem dX6_begin_18 : decode cX6_begin 18 = .ok (.iload_n 1, 1) := by decide +kernel
theorem dX6_begin_19 : decode cX6_begin 19 = .ok (.bipush 6, 2) := by decide +kernel
theorem dX6_begin_21 : decode cX6_begin 21 = .ok (.if_icmp .le 13, 3) := by decide +kernel
theorem dX6_begin_24 : decode cX6_begin 24 = .ok (.new 60, 3) := by decide +kernel
theorem dX6_begin_27 : decode cX6_begin 27 = .ok (.dup, 1) := by decide +kernel
theorem dX6_begin_28 : decode cX6_begin 28 = .ok (.ldc 62, 2) := by decide +kernel
theorem dX6_begin_30 : decode cX6_begin 30 = .ok (.invokespecial 64, 3) := by decide +kernel
theorem dX6_begin_33 : decode cX6_begin 33 = .ok (.athrow, 1) := by decide +kernel
theorem dX6_begin_34 : decode cX6_begin 34 = .ok (.aload_n 0, 1) := by decide +kernel
theorem dX6_begin_35 : decode cX6_begin 35 = .ok (.iload_n 1, 1) := by decide +kernel
theorem dX6_begin_36 : decode cX6_begin 36 = .ok (.invokevirtual 49, 3) := by decide +kernel
theorem dX6_begin_39 : decode cX6_begin 39 = .ok (.return_, 1) := by decide +kernel
set_option maxRecDepth 20000 in
theorem ggX6_clash_X0_isGroup : GoodIn wsX6_clash wsX0_isGroup := goodIn_r _ [9, 10, 73, 74, 75, 76, 77, 78, 79, 80, 81, 82] (by decide +kernel) (by decide +kernel)
set_option maxRecDepth 20000 in
theorem gX6_clash_X0_isGroup : GoodIn wsX6_clash (wsV RX6 65 RX0 yX0_isGroup wsX0_isGroup) := goodIn_app (goodIn_of _ (by decide +kernel)) ggX6_clash_X0_isGroup
set_option maxRecDepth 20000 in
theorem ggX6_clash_X0_bar : GoodIn wsX6_clash wsX0_bar := goodIn_r _ [14, 15, 16, 17, 6, 7, 8, 9, 10, 73, 74, 75, 76, 77, 78, 79, 80, 81, 82] (by decide +kernel) (by decide +kernel)
set_option maxRecDepth 20000 in
theorem gX6_clash_X0_bar : GoodIn wsX6_clash (wsV RX6 76 RX0 yX0_bar wsX0_bar) := goodIn_app (goodIn_of _ (by decide +kernel)) ggX6_clash_X0_bar
set_option maxRecDepth 20000 in
theorem ggX6_clash_X6_forgetRun : GoodIn wsX6_clash wsX6_forgetRun := goodIn_r _ [22, 23, 24, 25, 26, 27, 28, 29, 30, 31, 32, 33, 34, 35, 36, 37, 38, 39, 40, 41, 42, 43, 44, 45, 46, 47, 48, 49, 50, 51, 52, 53, 54, 55, 56, 8, 57, 58, 59, 60, 61, 62, 63, 64, 65, 66, 83, 84, 85, 86, 87, 88, 89, 90, 91, 92, 93, 94, 95, 96, 97, 98, 99, 100, 101, 102, 103, 104, 105, 106, 107, 108, 109, 110, 73, 74, 75, 76, 77, 78, 79, 80, 81, 82] (by decide +kernel) (by decide +kernel)
set_option maxRecDepth 20000 in
theorem gX6_clash_X6_forgetRun : GoodIn wsX6_clash (wsV RX6 80 RX6 yX6_forgetRun wsX6_forgetRun) := goodIn_app (goodIn_of _ (by decide +kernel)) ggX6_clash_X6_forgetRun
theorem dX6_clash_0 : decode cX6_clash 0 = .ok (.aload_n 0, 1) := by decide +kernel
theorem dX6_clash_1 : decode cX6_clash 1 = .ok (.getfield 12, 3) := by decide +kernel
theorem dX6_clash_4 : decode cX6_clash 4 = .ok (.iload_n 1, 1) := by decide +kernel
theorem dX6_clash_5 : decode cX6_clash 5 = .ok (.invokevirtual 65, 3) := by decide +kernel
theorem dX6_clash_8 : decode cX6_clash 8 = .ok (.ifCond .ne 13, 3) := by decide +kernel
theorem dX6_clash_11 : decode cX6_clash 11 = .ok (.new 69, 3) := by decide +kernel
theorem dX6_clash_14 : decode cX6_clash 14 = .ok (.dup, 1) := by decide +kernel
theorem dX6_clash_15 : decode cX6_clash 15 = .ok (.ldc 71, 2) := by decide +kernel
theorem dX6_clash_17 : decode cX6_clash 17 = .ok (.invokespecial 73, 3) := by decide +kernel
theorem dX6_clash_20 : decode cX6_clash 20 = .ok (.athrow, 1) := by decide +kernel
theorem dX6_clash_21 : decode cX6_clash 21 = .ok (.aload_n 0, 1) := by decide +kernel
theorem dX6_clash_22 : decode cX6_clash 22 = .ok (.getfield 12, 3) := by decide +kernel
theorem dX6_clash_25 : decode cX6_clash 25 = .ok (.iload_n 2, 1) := by decide +kernel
theorem dX6_clash_26 : decode cX6_clash 26 = .ok (.invokevirtual 65, 3) := by decide +kernel
theorem dX6_clash_29 : decode cX6_clash 29 = .ok (.ifCond .ne 13, 3) := by decide +kernel
theorem dX6_clash_32 : decode cX6_clash 32 = .ok (.new 69, 3) := by decide +kernel
theorem dX6_clash_35 : decode cX6_clash 35 = .ok (.dup, 1) := by decide +kernel
theorem dX6_clash_36 : decode cX6_clash 36 = .ok (.ldc 74, 2) := by decide +kernel
theorem dX6_clash_38 : decode cX6_clash 38 = .ok (.invokespecial 73, 3) := by decide +kernel
theorem dX6_clash_41 : decode cX6_clash 41 = .ok (.athrow, 1) := by decide +kernel
theorem dX6_clash_42 : decode cX6_clash 42 = .ok (.iload_n 1, 1) := by decide +kernel
theorem dX6_clash_43 : decode cX6_clash 43 = .ok (.iload_n 2, 1) := by decide +kernel
theorem dX6_clash_44 : decode cX6_clash 44 = .ok (.if_icmp .eq 13, 3) := by decide +kernel
theorem dX6_clash_47 : decode cX6_clash 47 = .ok (.iload_n 3, 1) := by decide +kernel
theorem dX6_clash_48 : decode cX6_clash 48 = .ok (.ifCond .lt 9, 3) := by decide +kernel
theorem dX6_clash_51 : decode cX6_clash 51 = .ok (.iload_n 3, 1) := by decide +kernel
theorem dX6_clash_52 : decode cX6_clash 52 = .ok (.bipush 15, 2) := by decide +kernel
theorem dX6_clash_54 : decode cX6_clash 54 = .ok (.if_icmp .le 5, 3) := by decide +kernel
theorem dX6_clash_57 : decode cX6_clash 57 = .ok (.iconst 0, 1) := by decide +kernel
theorem dX6_clash_58 : decode cX6_clash 58 = .ok (.ireturn, 1) := by decide +kernel
theorem dX6_clash_59 : decode cX6_clash 59 = .ok (.aload_n 0, 1) := by decide +kernel
theorem dX6_clash_60 : decode cX6_clash 60 = .ok (.getfield 12, 3) := by decide +kernel
theorem dX6_clash_63 : decode cX6_clash 63 = .ok (.iload_n 1, 1) := by decide +kernel
theorem dX6_clash_64 : decode cX6_clash 64 = .ok (.iload_n 2, 1) := by decide +kernel
theorem dX6_clash_65 : decode cX6_clash 65 = .ok (.iload_n 3, 1) := by decide +kernel
theorem dX6_clash_66 : decode cX6_clash 66 = .ok (.invokevirtual 76, 3) := by decide +kernel
theorem dX6_clash_69 : decode cX6_clash 69 = .ok (.aload_n 0, 1) := by decide +kernel
theorem dX6_clash_70 : decode cX6_clash 70 = .ok (.invokevirtual 80, 3) := by decide +kernel
theorem dX6_clash_73 : decode cX6_clash 73 = .ok (.iconst 1, 1) := by decide +kernel
theorem dX6_clash_74 : decode cX6_clash 74 = .ok (.ireturn, 1) := by decide +kernel
set_option maxRecDepth 20000 in
theorem ggX6_least_X0_isGroup : GoodIn wsX6_least wsX0_isGroup := goodIn_r _ [10, 11, 67, 68, 69, 70, 71, 72, 73, 74, 75, 76] (by decide +kernel) (by decide +kernel)
set_option maxRecDepth 20000 in
theorem gX6_least_X0_isGroup : GoodIn wsX6_least (wsV RX6 65 RX0 yX0_isGroup wsX0_isGroup) := goodIn_app (goodIn_of _ (by decide +kernel)) ggX6_least_X0_isGroup
set_option maxRecDepth 20000 in
theorem ggX6_least_X6_forgetRun : GoodIn wsX6_least wsX6_forgetRun := goodIn_r _ [16, 17, 18, 19, 20, 21, 22, 23, 24, 25, 26, 27, 28, 29, 30, 31, 32, 33, 34, 35, 36, 37, 38, 39, 40, 41, 42, 43, 44, 45, 46, 47, 48, 49, 50, 9, 51, 52, 53, 54, 55, 56, 57, 58, 59, 60, 77, 78, 79, 80, 81, 82, 83, 84, 85, 86, 87, 88, 89, 90, 91, 92, 93, 94, 95, 96, 97, 98, 99, 100, 101, 102, 103, 104, 67, 68, 69, 70, 71, 72, 73, 74, 75, 76] (by decide +kernel) (by decide +kernel)
set_option maxRecDepth 20000 in
theorem gX6_least_X6_forgetRun : GoodIn wsX6_least (wsV RX6 80 RX6 yX6_forgetRun wsX6_forgetRun) := goodIn_app (goodIn_of _ (by decide +kernel)) ggX6_least_X6_forgetRun
theorem dX6_least_0 : decode cX6_least 0 = .ok (.aload_n 0, 1) := by decide +kernel
theorem dX6_least_1 : decode cX6_least 1 = .ok (.getfield 12, 3) := by decide +kernel
theorem dX6_least_4 : decode cX6_least 4 = .ok (.iload_n 1, 1) := by decide +kernel
theorem dX6_least_5 : decode cX6_least 5 = .ok (.invokevirtual 65, 3) := by decide +kernel
theorem dX6_least_8 : decode cX6_least 8 = .ok (.ifCond .ne 13, 3) := by decide +kernel
theorem dX6_least_11 : decode cX6_least 11 = .ok (.new 69, 3) := by decide +kernel
theorem dX6_least_14 : decode cX6_least 14 = .ok (.dup, 1) := by decide +kernel
theorem dX6_least_15 : decode cX6_least 15 = .ok (.ldc 83, 2) := by decide +kernel
theorem dX6_least_17 : decode cX6_least 17 = .ok (.invokespecial 73, 3) := by decide +kernel
theorem dX6_least_20 : decode cX6_least 20 = .ok (.athrow, 1) := by decide +kernel
theorem dX6_least_21 : decode cX6_least 21 = .ok (.iload_n 2, 1) := by decide +kernel
theorem dX6_least_22 : decode cX6_least 22 = .ok (.iconst 1, 1) := by decide +kernel
theorem dX6_least_23 : decode cX6_least 23 = .ok (.if_icmp .lt 9, 3) := by decide +kernel
theorem dX6_least_26 : decode cX6_least 26 = .ok (.iload_n 2, 1) := by decide +kernel
theorem dX6_least_27 : decode cX6_least 27 = .ok (.bipush 15, 2) := by decide +kernel
theorem dX6_least_29 : decode cX6_least 29 = .ok (.if_icmp .le 5, 3) := by decide +kernel
theorem dX6_least_32 : decode cX6_least 32 = .ok (.iconst 0, 1) := by decide +kernel
theorem dX6_least_33 : decode cX6_least 33 = .ok (.ireturn, 1) := by decide +kernel
theorem dX6_least_34 : decode cX6_least 34 = .ok (.aload_n 0, 1) := by decide +kernel
theorem dX6_least_35 : decode cX6_least 35 = .ok (.getfield 12, 3) := by decide +kernel
theorem dX6_least_38 : decode cX6_least 38 = .ok (.getfield 85, 3) := by decide +kernel
theorem dX6_least_41 : decode cX6_least 41 = .ok (.iload_n 1, 1) := by decide +kernel
theorem dX6_least_42 : decode cX6_least 42 = .ok (.iload_n 2, 1) := by decide +kernel
theorem dX6_least_43 : decode cX6_least 43 = .ok (.iastore, 1) := by decide +kernel
theorem dX6_least_44 : decode cX6_least 44 = .ok (.aload_n 0, 1) := by decide +kernel
theorem dX6_least_45 : decode cX6_least 45 = .ok (.invokevirtual 80, 3) := by decide +kernel
theorem dX6_least_48 : decode cX6_least 48 = .ok (.iconst 1, 1) := by decide +kernel
theorem dX6_least_49 : decode cX6_least 49 = .ok (.ireturn, 1) := by decide +kernel
set_option maxRecDepth 20000 in
theorem ggX6_most_X0_isGroup : GoodIn wsX6_most wsX0_isGroup := goodIn_r _ [10, 11, 67, 68, 69, 70, 71, 72, 73, 74, 75, 76] (by decide +kernel) (by decide +kernel)
set_option maxRecDepth 20000 in
theorem gX6_most_X0_isGroup : GoodIn wsX6_most (wsV RX6 65 RX0 yX0_isGroup wsX0_isGroup) := goodIn_app (goodIn_of _ (by decide +kernel)) ggX6_most_X0_isGroup
set_option maxRecDepth 20000 in
theorem ggX6_most_X6_forgetRun : GoodIn wsX6_most wsX6_forgetRun := goodIn_r _ [16, 17, 18, 19, 20, 21, 22, 23, 24, 25, 26, 27, 28, 29, 30, 31, 32, 33, 34, 35, 36, 37, 38, 39, 40, 41, 42, 43, 44, 45, 46, 47, 48, 49, 50, 9, 51, 52, 53, 54, 55, 56, 57, 58, 59, 60, 77, 78, 79, 80, 81, 82, 83, 84, 85, 86, 87, 88, 89, 90, 91, 92, 93, 94, 95, 96, 97, 98, 99, 100, 101, 102, 103, 104, 67, 68, 69, 70, 71, 72, 73, 74, 75, 76] (by decide +kernel) (by decide +kernel)
set_option maxRecDepth 20000 in
theorem gX6_most_X6_forgetRun : GoodIn wsX6_most (wsV RX6 80 RX6 yX6_forgetRun wsX6_forgetRun) := goodIn_app (goodIn_of _ (by decide +kernel)) ggX6_most_X6_forgetRun
theorem dX6_most_0 : decode cX6_most 0 = .ok (.aload_n 0, 1) := by decide +kernel
theorem dX6_most_1 : decode cX6_most 1 = .ok (.getfield 12, 3) := by decide +kernel
theorem dX6_most_4 : decode cX6_most 4 = .ok (.iload_n 1, 1) := by decide +kernel
theorem dX6_most_5 : decode cX6_most 5 = .ok (.invokevirtual 65, 3) := by decide +kernel
theorem dX6_most_8 : decode cX6_most 8 = .ok (.ifCond .ne 13, 3) := by decide +kernel
theorem dX6_most_11 : decode cX6_most 11 = .ok (.new 69, 3) := by decide +kernel
theorem dX6_most_14 : decode cX6_most 14 = .ok (.dup, 1) := by decide +kernel
theorem dX6_most_15 : decode cX6_most 15 = .ok (.ldc 83, 2) := by decide +kernel
theorem dX6_most_17 : decode cX6_most 17 = .ok (.invokespecial 73, 3) := by decide +kernel
theorem dX6_most_20 : decode cX6_most 20 = .ok (.athrow, 1) := by decide +kernel
theorem dX6_most_21 : decode cX6_most 21 = .ok (.iload_n 2, 1) := by decide +kernel
theorem dX6_most_22 : decode cX6_most 22 = .ok (.iconst 1, 1) := by decide +kernel
theorem dX6_most_23 : decode cX6_most 23 = .ok (.if_icmp .lt 9, 3) := by decide +kernel
theorem dX6_most_26 : decode cX6_most 26 = .ok (.iload_n 2, 1) := by decide +kernel
theorem dX6_most_27 : decode cX6_most 27 = .ok (.bipush 31, 2) := by decide +kernel
theorem dX6_most_29 : decode cX6_most 29 = .ok (.if_icmp .le 5, 3) := by decide +kernel
theorem dX6_most_32 : decode cX6_most 32 = .ok (.iconst 0, 1) := by decide +kernel
theorem dX6_most_33 : decode cX6_most 33 = .ok (.ireturn, 1) := by decide +kernel
theorem dX6_most_34 : decode cX6_most 34 = .ok (.aload_n 0, 1) := by decide +kernel
theorem dX6_most_35 : decode cX6_most 35 = .ok (.getfield 12, 3) := by decide +kernel
theorem dX6_most_38 : decode cX6_most 38 = .ok (.getfield 89, 3) := by decide +kernel
theorem dX6_most_41 : decode cX6_most 41 = .ok (.iload_n 1, 1) := by decide +kernel
theorem dX6_most_42 : decode cX6_most 42 = .ok (.iload_n 2, 1) := by decide +kernel
theorem dX6_most_43 : decode cX6_most 43 = .ok (.iastore, 1) := by decide +kernel
theorem dX6_most_44 : decode cX6_most 44 = .ok (.aload_n 0, 1) := by decide +kernel
theorem dX6_most_45 : decode cX6_most 45 = .ok (.invokevirtual 80, 3) := by decide +kernel
theorem dX6_most_48 : decode cX6_most 48 = .ok (.iconst 1, 1) := by decide +kernel
theorem dX6_most_49 : decode cX6_most 49 = .ok (.ireturn, 1) := by decide +kernel
set_option maxRecDepth 20000 in
theorem ggX6_unit_X3_collect : GoodIn wsX6_unit wsX3_collect := goodIn_r _ [6, 7, 8, 16, 17, 18, 19, 20, 21] (by decide +kernel) (by decide +kernel)
set_option maxRecDepth 20000 in
theorem gX6_unit_X3_collect : GoodIn wsX6_unit (wsV RX6 92 RX3 yX3_collect wsX3_collect) := goodIn_app (goodIn_of _ (by decide +kernel)) ggX6_unit_X3_collect
theorem dX6_unit_0 : decode cX6_unit 0 = .ok (.aload_n 0, 1) := by decide +kernel
theorem dX6_unit_1 : decode cX6_unit 1 = .ok (.getfield 19, 3) := by decide +kernel
theorem dX6_unit_4 : decode cX6_unit 4 = .ok (.iload_n 1, 1) := by decide +kernel
theorem dX6_unit_5 : decode cX6_unit 5 = .ok (.invokevirtual 92, 3) := by decide +kernel
theorem dX6_unit_8 : decode cX6_unit 8 = .ok (.ireturn, 1) := by decide +kernel
set_option maxRecDepth 20000 in
theorem ggX6_read_X3_parse : GoodIn wsX6_read wsX3_parse := goodIn_r _ [9, 10, 11, 12, 13, 14, 8, 15, 16, 17, 18, 19, 20, 21, 22, 23, 24, 25, 26, 27, 28, 29, 30, 31, 32, 33, 34, 35, 36, 37, 38, 110, 111, 112, 113, 114, 115] (by decide +kernel) (by decide +kernel)
set_option maxRecDepth 20000 in
theorem gX6_read_X3_parse : GoodIn wsX6_read (wsV RX6 99 RX3 yX3_parse wsX3_parse) := goodIn_app (goodIn_of _ (by decide +kernel)) ggX6_read_X3_parse
set_option maxRecDepth 20000 in
theorem ggX6_read_X0_addPlan : GoodIn wsX6_read wsX0_addPlan := goodIn_r _ [43, 44, 45, 46, 47, 48, 49, 50, 51, 100, 101, 102, 103, 104, 105, 106, 107, 108, 109, 110, 111, 112, 113, 114, 115] (by decide +kernel) (by decide +kernel)
set_option maxRecDepth 20000 in
theorem gX6_read_X0_addPlan : GoodIn wsX6_read (wsV RX6 103 RX0 yX0_addPlan wsX0_addPlan) := goodIn_app (goodIn_of _ (by decide +kernel)) ggX6_read_X0_addPlan
set_option maxRecDepth 20000 in
theorem ggX6_read_X6_forgetRun : GoodIn wsX6_read wsX6_forgetRun := goodIn_r _ [56, 57, 58, 59, 60, 61, 62, 63, 64, 65, 66, 67, 68, 69, 70, 71, 72, 73, 74, 75, 76, 77, 78, 79, 80, 81, 82, 83, 84, 85, 86, 87, 88, 89, 90, 42, 91, 45, 92, 93, 94, 95, 96, 97, 98, 99, 116, 117, 118, 119, 120, 121, 122, 123, 124, 125, 126, 127, 128, 129, 130, 131, 132, 133, 134, 135, 136, 137, 138, 139, 140, 141, 142, 143, 100, 101, 102, 103, 104, 105, 106, 107, 108, 109] (by decide +kernel) (by decide +kernel)
set_option maxRecDepth 20000 in
theorem gX6_read_X6_forgetRun : GoodIn wsX6_read (wsV RX6 80 RX6 yX6_forgetRun wsX6_forgetRun) := goodIn_app (goodIn_of _ (by decide +kernel)) ggX6_read_X6_forgetRun
theorem dX6_read_0 : decode cX6_read 0 = .ok (.aload_n 0, 1) := by decide +kernel
theorem dX6_read_1 : decode cX6_read 1 = .ok (.getfield 19, 3) := by decide +kernel
theorem dX6_read_4 : decode cX6_read 4 = .ok (.aload_n 0, 1) := by decide +kernel
theorem dX6_read_5 : decode cX6_read 5 = .ok (.getfield 12, 3) := by decide +kernel
theorem dX6_read_8 : decode cX6_read 8 = .ok (.getfield 95, 3) := by decide +kernel
theorem dX6_read_11 : decode cX6_read 11 = .ok (.invokevirtual 99, 3) := by decide +kernel
theorem dX6_read_14 : decode cX6_read 14 = .ok (.istore_n 1, 1) := by decide +kernel
theorem dX6_read_15 : decode cX6_read 15 = .ok (.iload_n 1, 1) := by decide +kernel
theorem dX6_read_16 : decode cX6_read 16 = .ok (.ifCond .le 35, 3) := by decide +kernel
theorem dX6_read_19 : decode cX6_read 19 = .ok (.aload_n 0, 1) := by decide +kernel
theorem dX6_read_20 : decode cX6_read 20 = .ok (.getfield 12, 3) := by decide +kernel
theorem dX6_read_23 : decode cX6_read 23 = .ok (.aload_n 0, 1) := by decide +kernel
theorem dX6_read_24 : decode cX6_read 24 = .ok (.getfield 19, 3) := by decide +kernel
theorem dX6_read_27 : decode cX6_read 27 = .ok (.iload_n 1, 1) := by decide +kernel
theorem dX6_read_28 : decode cX6_read 28 = .ok (.invokevirtual 103, 3) := by decide +kernel
theorem dX6_read_31 : decode cX6_read 31 = .ok (.ifCond .eq 10, 3) := by decide +kernel
theorem dX6_read_34 : decode cX6_read 34 = .ok (.aload_n 0, 1) := by decide +kernel
theorem dX6_read_35 : decode cX6_read 35 = .ok (.invokevirtual 80, 3) := by decide +kernel
theorem dX6_read_38 : decode cX6_read 38 = .ok (.goto 13, 3) := by decide +kernel
theorem dX6_read_41 : decode cX6_read 41 = .ok (.iconst (-1), 1) := by decide +kernel
theorem dX6_read_42 : decode cX6_read 42 = .ok (.aload_n 0, 1) := by decide +kernel
theorem dX6_read_43 : decode cX6_read 43 = .ok (.getfield 19, 3) := by decide +kernel
theorem dX6_read_46 : decode cX6_read 46 = .ok (.getfield 107, 3) := by decide +kernel
theorem dX6_read_49 : decode cX6_read 49 = .ok (.isub, 1) := by decide +kernel
theorem dX6_read_50 : decode cX6_read 50 = .ok (.istore_n 1, 1) := by decide +kernel
theorem dX6_read_51 : decode cX6_read 51 = .ok (.aload_n 0, 1) := by decide +kernel
theorem dX6_read_52 : decode cX6_read 52 = .ok (.getfield 19, 3) := by decide +kernel
theorem dX6_read_55 : decode cX6_read 55 = .ok (.iconst 0, 1) := by decide +kernel
theorem dX6_read_56 : decode cX6_read 56 = .ok (.putfield 107, 3) := by decide +kernel
theorem dX6_read_59 : decode cX6_read 59 = .ok (.iload_n 1, 1) := by decide +kernel
theorem dX6_read_60 : decode cX6_read 60 = .ok (.ireturn, 1) := by decide +kernel
theorem dX6_program_0 : decode cX6_program 0 = .ok (.aload_n 0, 1) := by decide +kernel
theorem dX6_program_1 : decode cX6_program 1 = .ok (.getfield 12, 3) := by decide +kernel
theorem dX6_program_4 : decode cX6_program 4 = .ok (.getfield 110, 3) := by decide +kernel
theorem dX6_program_7 : decode cX6_program 7 = .ok (.ireturn, 1) := by decide +kernel
set_option maxRecDepth 20000 in
theorem ggX6_call_X0_isGroup : GoodIn wsX6_call wsX0_isGroup := goodIn_r _ [6, 7, 34, 35, 36, 37, 38, 39, 40, 41, 42, 43] (by decide +kernel) (by decide +kernel)
set_option maxRecDepth 20000 in
theorem gX6_call_X0_isGroup : GoodIn wsX6_call (wsV RX6 65 RX0 yX0_isGroup wsX0_isGroup) := goodIn_app (goodIn_of _ (by decide +kernel)) ggX6_call_X0_isGroup
set_option maxRecDepth 20000 in
theorem ggX6_call_X6_note : GoodIn wsX6_call wsX6_note := goodIn_r _ [12, 13, 14, 15, 16, 17, 18, 19, 20, 21, 22, 23, 24, 25, 26, 27, 28, 29, 30, 31, 32, 33, 44, 45, 46] (by decide +kernel) (by decide +kernel)
set_option maxRecDepth 20000 in
theorem gX6_call_X6_note : GoodIn wsX6_call (wsV RX6 113 RX6 yX6_note wsX6_note) := goodIn_app (goodIn_of _ (by decide +kernel)) ggX6_call_X6_note
theorem dX6_call_0 : decode cX6_call 0 = .ok (.aload_n 0, 1) := by decide +kernel
theorem dX6_call_1 : decode cX6_call 1 = .ok (.getfield 12, 3) := by decide +kernel
theorem dX6_call_4 : decode cX6_call 4 = .ok (.iload_n 1, 1) := by decide +kernel
theorem dX6_call_5 : decode cX6_call 5 = .ok (.invokevirtual 65, 3) := by decide +kernel
theorem dX6_call_8 : decode cX6_call 8 = .ok (.ifCond .eq 18, 3) := by decide +kernel
theorem dX6_call_11 : decode cX6_call 11 = .ok (.aload_n 0, 1) := by decide +kernel
theorem dX6_call_12 : decode cX6_call 12 = .ok (.iconst 1, 1) := by decide +kernel
theorem dX6_call_13 : decode cX6_call 13 = .ok (.iload_n 1, 1) := by decide +kernel
theorem dX6_call_14 : decode cX6_call 14 = .ok (.iadd, 1) := by decide +kernel
theorem dX6_call_15 : decode cX6_call 15 = .ok (.iload_n 2, 1) := by decide +kernel
theorem dX6_call_16 : decode cX6_call 16 = .ok (.invokevirtual 113, 3) := by decide +kernel
theorem dX6_call_19 : decode cX6_call 19 = .ok (.ifCond .eq 7, 3) := by decide +kernel
theorem dX6_call_22 : decode cX6_call 22 = .ok (.iconst 1, 1) := by decide +kernel
theorem dX6_call_23 : decode cX6_call 23 = .ok (.goto 4, 3) := by decide +kernel
theorem dX6_call_26 : decode cX6_call 26 = .ok (.iconst 0, 1) := by decide +kernel
theorem dX6_call_27 : decode cX6_call 27 = .ok (.ireturn, 1) := by decide +kernel
set_option maxRecDepth 20000 in
theorem ggX6_plan_X0_isPlan : GoodIn wsX6_plan wsX0_isPlan := goodIn_r _ [7, 8, 35, 36, 37, 38, 39, 40, 41, 42, 43, 44] (by decide +kernel) (by decide +kernel)
set_option maxRecDepth 20000 in
theorem gX6_plan_X0_isPlan : GoodIn wsX6_plan (wsV RX6 117 RX0 yX0_isPlan wsX0_isPlan) := goodIn_app (goodIn_of _ (by decide +kernel)) ggX6_plan_X0_isPlan
set_option maxRecDepth 20000 in
theorem ggX6_plan_X6_note : GoodIn wsX6_plan wsX6_note := goodIn_r _ [13, 14, 15, 16, 17, 18, 19, 20, 21, 22, 23, 24, 25, 26, 27, 28, 29, 30, 31, 32, 33, 34, 45, 46, 47] (by decide +kernel) (by decide +kernel)
set_option maxRecDepth 20000 in
theorem gX6_plan_X6_note : GoodIn wsX6_plan (wsV RX6 113 RX6 yX6_note wsX6_note) := goodIn_app (goodIn_of _ (by decide +kernel)) ggX6_plan_X6_note
theorem dX6_plan_0 : decode cX6_plan 0 = .ok (.aload_n 0, 1) := by decide +kernel
theorem dX6_plan_1 : decode cX6_plan 1 = .ok (.getfield 12, 3) := by decide +kernel
theorem dX6_plan_4 : decode cX6_plan 4 = .ok (.iload_n 1, 1) := by decide +kernel
theorem dX6_plan_5 : decode cX6_plan 5 = .ok (.invokevirtual 117, 3) := by decide +kernel
theorem dX6_plan_8 : decode cX6_plan 8 = .ok (.ifCond .eq 26, 3) := by decide +kernel
theorem dX6_plan_11 : decode cX6_plan 11 = .ok (.aload_n 0, 1) := by decide +kernel
theorem dX6_plan_12 : decode cX6_plan 12 = .ok (.iconst 1, 1) := by decide +kernel
theorem dX6_plan_13 : decode cX6_plan 13 = .ok (.aload_n 0, 1) := by decide +kernel
theorem dX6_plan_14 : decode cX6_plan 14 = .ok (.getfield 12, 3) := by decide +kernel
theorem dX6_plan_17 : decode cX6_plan 17 = .ok (.getfield 95, 3) := by decide +kernel
theorem dX6_plan_20 : decode cX6_plan 20 = .ok (.iadd, 1) := by decide +kernel
theorem dX6_plan_21 : decode cX6_plan 21 = .ok (.iload_n 1, 1) := by decide +kernel
theorem dX6_plan_22 : decode cX6_plan 22 = .ok (.iadd, 1) := by decide +kernel
theorem dX6_plan_23 : decode cX6_plan 23 = .ok (.iload_n 2, 1) := by decide +kernel
theorem dX6_plan_24 : decode cX6_plan 24 = .ok (.invokevirtual 113, 3) := by decide +kernel
theorem dX6_plan_27 : decode cX6_plan 27 = .ok (.ifCond .eq 7, 3) := by decide +kernel
theorem dX6_plan_30 : decode cX6_plan 30 = .ok (.iconst 1, 1) := by decide +kernel
theorem dX6_plan_31 : decode cX6_plan 31 = .ok (.goto 4, 3) := by decide +kernel
theorem dX6_plan_34 : decode cX6_plan 34 = .ok (.iconst 0, 1) := by decide +kernel
theorem dX6_plan_35 : decode cX6_plan 35 = .ok (.ireturn, 1) := by decide +kernel
set_option maxRecDepth 20000 in
theorem ggX6_second_X1_take : GoodIn wsX6_second wsX1_take := goodIn_r _ [10, 11, 12, 13, 14, 15, 16, 9, 17, 125, 126, 127] (by decide +kernel) (by decide +kernel)
set_option maxRecDepth 20000 in
theorem gX6_second_X1_take : GoodIn wsX6_second (wsV RX6 123 RX1 yX1_take wsX1_take) := goodIn_app (goodIn_of _ (by decide +kernel)) ggX6_second_X1_take
set_option maxRecDepth 20000 in
theorem ggX6_second_X2_step : GoodIn wsX6_second wsX2_step := goodIn_r _ [22, 23, 24, 25, 26, 27, 28, 29, 30, 31, 32, 33, 34, 35, 21, 36, 37, 38, 39, 40, 41, 42, 43, 44, 45, 46, 47, 48, 49, 50, 51, 52, 53, 54, 55, 56, 57, 58, 59, 60, 61, 62, 63, 64, 65, 66, 67, 68, 69, 70, 71, 72, 73, 74, 75, 76, 77, 78, 79, 80, 81, 82, 83, 84, 85, 86, 87, 88, 89, 90, 91, 92, 93, 94, 95, 96, 97, 98, 99, 100, 101, 102, 103, 104, 105, 106, 107, 128, 129, 130, 131, 132, 133, 134, 135, 136, 137, 115, 116, 117, 118, 119, 120, 121, 122, 123, 124] (by decide +kernel) (by decide +kernel)
set_option maxRecDepth 20000 in
theorem gX6_second_X2_step : GoodIn wsX6_second (wsV RX6 126 RX2 yX2_step wsX2_step) := goodIn_app (goodIn_of _ (by decide +kernel)) ggX6_second_X2_step
theorem dX6_second_0 : decode cX6_second 0 = .ok (.aload_n 0, 1) := by decide +kernel
theorem dX6_second_1 : decode cX6_second 1 = .ok (.getfield 12, 3) := by decide +kernel
theorem dX6_second_4 : decode cX6_second 4 = .ok (.getfield 110, 3) := by decide +kernel
theorem dX6_second_7 : decode cX6_second 7 = .ok (.ifCond .ne 5, 3) := by decide +kernel
theorem dX6_second_10 : decode cX6_second 10 = .ok (.iconst (-1), 1) := by decide +kernel
theorem dX6_second_11 : decode cX6_second 11 = .ok (.ireturn, 1) := by decide +kernel
theorem dX6_second_12 : decode cX6_second 12 = .ok (.aload_n 0, 1) := by decide +kernel
theorem dX6_second_13 : decode cX6_second 13 = .ok (.dup, 1) := by decide +kernel
theorem dX6_second_14 : decode cX6_second 14 = .ok (.getfield 120, 3) := by decide +kernel
theorem dX6_second_17 : decode cX6_second 17 = .ok (.iconst 1, 1) := by decide +kernel
theorem dX6_second_18 : decode cX6_second 18 = .ok (.iadd, 1) := by decide +kernel
theorem dX6_second_19 : decode cX6_second 19 = .ok (.putfield 120, 3) := by decide +kernel
theorem dX6_second_22 : decode cX6_second 22 = .ok (.aload_n 0, 1) := by decide +kernel
theorem dX6_second_23 : decode cX6_second 23 = .ok (.getfield 35, 3) := by decide +kernel
theorem dX6_second_26 : decode cX6_second 26 = .ok (.aload_n 0, 1) := by decide +kernel
theorem dX6_second_27 : decode cX6_second 27 = .ok (.getfield 26, 3) := by decide +kernel
theorem dX6_second_30 : decode cX6_second 30 = .ok (.aload_n 0, 1) := by decide +kernel
theorem dX6_second_31 : decode cX6_second 31 = .ok (.getfield 120, 3) := by decide +kernel
theorem dX6_second_34 : decode cX6_second 34 = .ok (.invokevirtual 123, 3) := by decide +kernel
theorem dX6_second_37 : decode cX6_second 37 = .ok (.invokevirtual 126, 3) := by decide +kernel
theorem dX6_second_40 : decode cX6_second 40 = .ok (.ireturn, 1) := by decide +kernel
set_option maxRecDepth 20000 in
theorem ggX6_told_X2_packed : GoodIn wsX6_told wsX2_packed := goodIn_r _ [10, 11, 12, 13, 14, 15, 16, 17, 63, 64, 65, 66, 67, 68, 69, 70, 71, 72] (by decide +kernel) (by decide +kernel)
set_option maxRecDepth 20000 in
theorem gX6_told_X2_packed : GoodIn wsX6_told (wsV RX6 129 RX2 yX2_packed wsX2_packed) := goodIn_app (goodIn_of _ (by decide +kernel)) ggX6_told_X2_packed
set_option maxRecDepth 20000 in
theorem ggX6_told_X4_numberOf : GoodIn wsX6_told wsX4_numberOf := goodIn_r _ [22, 23, 24, 25, 26, 21, 27, 28, 29, 73, 74, 75, 76, 77, 78, 79, 80, 81, 82, 83, 84, 85, 86, 87] (by decide +kernel) (by decide +kernel)
set_option maxRecDepth 20000 in
theorem gX6_told_X4_numberOf : GoodIn wsX6_told (wsV RX6 133 RX4 yX4_numberOf wsX4_numberOf) := goodIn_app (goodIn_of _ (by decide +kernel)) ggX6_told_X4_numberOf
set_option maxRecDepth 20000 in
theorem ggX6_told_X2_look : GoodIn wsX6_told wsX2_look := goodIn_r _ [33, 17, 16, 15, 13, 12, 34, 35, 11, 36, 37, 38, 9, 39, 14, 40, 41, 42, 43, 44, 45, 63, 64, 65, 66, 67, 68, 69, 70, 71, 72, 53, 54, 55, 56, 57, 58, 59, 60, 61, 62] (by decide +kernel) (by decide +kernel)
set_option maxRecDepth 20000 in
theorem gX6_told_X2_look : GoodIn wsX6_told (wsV RX6 137 RX2 yX2_look wsX2_look) := goodIn_app (goodIn_of _ (by decide +kernel)) ggX6_told_X2_look
theorem dX6_told_0 : decode cX6_told 0 = .ok (.aload_n 0, 1) := by decide +kernel
theorem dX6_told_1 : decode cX6_told 1 = .ok (.getfield 12, 3) := by decide +kernel
theorem dX6_told_4 : decode cX6_told 4 = .ok (.getfield 110, 3) := by decide +kernel
theorem dX6_told_7 : decode cX6_told 7 = .ok (.ifCond .ne 5, 3) := by decide +kernel
theorem dX6_told_10 : decode cX6_told 10 = .ok (.iconst (-1), 1) := by decide +kernel
theorem dX6_told_11 : decode cX6_told 11 = .ok (.ireturn, 1) := by decide +kernel
theorem dX6_told_12 : decode cX6_told 12 = .ok (.iload_n 1, 1) := by decide +kernel
theorem dX6_told_13 : decode cX6_told 13 = .ok (.ifCond .ne 8, 3) := by decide +kernel
theorem dX6_told_16 : decode cX6_told 16 = .ok (.aload_n 0, 1) := by decide +kernel
theorem dX6_told_17 : decode cX6_told 17 = .ok (.getfield 120, 3) := by decide +kernel
theorem dX6_told_20 : decode cX6_told 20 = .ok (.ireturn, 1) := by decide +kernel
theorem dX6_told_21 : decode cX6_told 21 = .ok (.iload_n 1, 1) := by decide +kernel
theorem dX6_told_22 : decode cX6_told 22 = .ok (.bipush 8, 2) := by decide +kernel
theorem dX6_told_24 : decode cX6_told 24 = .ok (.if_icmp .ne 18, 3) := by decide +kernel
theorem dX6_told_27 : decode cX6_told 27 = .ok (.aload_n 0, 1) := by decide +kernel
theorem dX6_told_28 : decode cX6_told 28 = .ok (.getfield 45, 3) := by decide +kernel
theorem dX6_told_31 : decode cX6_told 31 = .ok (.aload_n 0, 1) := by decide +kernel
theorem dX6_told_32 : decode cX6_told 32 = .ok (.getfield 35, 3) := by decide +kernel
theorem dX6_told_35 : decode cX6_told 35 = .ok (.invokevirtual 129, 3) := by decide +kernel
theorem dX6_told_38 : decode cX6_told 38 = .ok (.invokevirtual 133, 3) := by decide +kernel
theorem dX6_told_41 : decode cX6_told 41 = .ok (.ireturn, 1) := by decide +kernel
theorem dX6_told_42 : decode cX6_told 42 = .ok (.aload_n 0, 1) := by decide +kernel
theorem dX6_told_43 : decode cX6_told 43 = .ok (.getfield 35, 3) := by decide +kernel
theorem dX6_told_46 : decode cX6_told 46 = .ok (.iload_n 1, 1) := by decide +kernel
theorem dX6_told_47 : decode cX6_told 47 = .ok (.invokevirtual 137, 3) := by decide +kernel
theorem dX6_told_50 : decode cX6_told 50 = .ok (.ireturn, 1) := by decide +kernel
set_option maxRecDepth 20000 in
theorem ggX6_shown_X0_isGroup : GoodIn wsX6_shown wsX0_isGroup := goodIn_r _ [8, 9, 31, 32, 33, 34, 35, 36, 37, 38, 39, 40] (by decide +kernel) (by decide +kernel)
set_option maxRecDepth 20000 in
theorem gX6_shown_X0_isGroup : GoodIn wsX6_shown (wsV RX6 65 RX0 yX0_isGroup wsX0_isGroup) := goodIn_app (goodIn_of _ (by decide +kernel)) ggX6_shown_X0_isGroup
set_option maxRecDepth 20000 in
theorem ggX6_shown_X2_lit : GoodIn wsX6_shown wsX2_lit := goodIn_r _ [14, 15, 16, 17, 18, 19, 20, 21, 7, 22, 23, 41, 42, 43, 44, 45, 46, 47, 48, 49, 50, 31, 32, 33, 34, 35, 36, 37, 38, 39, 40] (by decide +kernel) (by decide +kernel)
set_option maxRecDepth 20000 in
theorem gX6_shown_X2_lit : GoodIn wsX6_shown (wsV RX6 140 RX2 yX2_lit wsX2_lit) := goodIn_app (goodIn_of _ (by decide +kernel)) ggX6_shown_X2_lit
theorem dX6_shown_0 : decode cX6_shown 0 = .ok (.aload_n 0, 1) := by decide +kernel
theorem dX6_shown_1 : decode cX6_shown 1 = .ok (.getfield 12, 3) := by decide +kernel
theorem dX6_shown_4 : decode cX6_shown 4 = .ok (.getfield 110, 3) := by decide +kernel
theorem dX6_shown_7 : decode cX6_shown 7 = .ok (.ifCond .eq 14, 3) := by decide +kernel
theorem dX6_shown_10 : decode cX6_shown 10 = .ok (.aload_n 0, 1) := by decide +kernel
theorem dX6_shown_11 : decode cX6_shown 11 = .ok (.getfield 12, 3) := by decide +kernel
theorem dX6_shown_14 : decode cX6_shown 14 = .ok (.iload_n 1, 1) := by decide +kernel
theorem dX6_shown_15 : decode cX6_shown 15 = .ok (.invokevirtual 65, 3) := by decide +kernel
theorem dX6_shown_18 : decode cX6_shown 18 = .ok (.ifCond .ne 5, 3) := by decide +kernel
theorem dX6_shown_21 : decode cX6_shown 21 = .ok (.iconst (-1), 1) := by decide +kernel
theorem dX6_shown_22 : decode cX6_shown 22 = .ok (.ireturn, 1) := by decide +kernel
theorem dX6_shown_23 : decode cX6_shown 23 = .ok (.aload_n 0, 1) := by decide +kernel
theorem dX6_shown_24 : decode cX6_shown 24 = .ok (.getfield 35, 3) := by decide +kernel
theorem dX6_shown_27 : decode cX6_shown 27 = .ok (.invokevirtual 140, 3) := by decide +kernel
theorem dX6_shown_30 : decode cX6_shown 30 = .ok (.iload_n 1, 1) := by decide +kernel
theorem dX6_shown_31 : decode cX6_shown 31 = .ok (.ishr, 1) := by decide +kernel
theorem dX6_shown_32 : decode cX6_shown 32 = .ok (.iconst 1, 1) := by decide +kernel
theorem dX6_shown_33 : decode cX6_shown 33 = .ok (.iand, 1) := by decide +kernel
theorem dX6_shown_34 : decode cX6_shown 34 = .ok (.ireturn, 1) := by decide +kernel
set_option maxRecDepth 20000 in
theorem ggX6_prove_X4_forget : GoodIn wsX6_prove wsX4_forget := goodIn_r _ [8, 9, 10, 11, 12, 13, 14, 15, 206, 207, 208, 209, 210, 211, 212, 213, 214, 215, 216, 217, 218, 219, 220] (by decide +kernel) (by decide +kernel)
set_option maxRecDepth 20000 in
theorem gX6_prove_X4_forget : GoodIn wsX6_prove (wsV RX6 144 RX4 yX4_forget wsX4_forget) := goodIn_app (goodIn_of _ (by decide +kernel)) ggX6_prove_X4_forget
set_option maxRecDepth 20000 in
theorem ggX6_prove_X4_search : GoodIn wsX6_prove wsX4_search := goodIn_r _ [19, 20, 11, 9, 21, 22, 23, 24, 25, 26, 5, 6, 7, 8, 10, 12, 13, 14, 15, 27, 28, 29, 30, 31, 32, 33, 34, 35, 36, 37, 38, 39, 40, 41, 42, 43, 44, 45, 46, 47, 48, 49, 50, 51, 52, 53, 54, 55, 56, 57, 58, 59, 60, 61, 62, 63, 64, 65, 66, 67, 68, 69, 70, 71, 72, 73, 74, 75, 76, 77, 78, 79, 80, 81, 82, 83, 84, 85, 86, 87, 88, 89, 90, 91, 92, 93, 94, 95, 96, 97, 98, 99, 100, 101, 102, 103, 104, 105, 106, 107, 108, 109, 110, 111, 112, 113, 114, 115, 116, 117, 118, 119, 120, 121, 122, 123, 124, 125, 126, 127, 128, 129, 130, 131, 132, 133, 134, 135, 136, 137, 138, 139, 140, 141, 142, 143, 144, 145, 146, 147, 148, 149, 150, 151, 152, 153, 154, 155, 156, 157, 158, 159, 160, 161, 162, 163, 164, 165, 166, 167, 168, 169, 170, 171, 172, 173, 174, 175, 176, 177, 178, 179, 180, 181, 182, 183, 184, 185, 186, 187, 188, 206, 207, 208, 209, 210, 211, 212, 213, 214, 215, 216, 217, 218, 219, 220, 196, 197, 198, 199, 200, 201, 202, 203, 204, 205, 221, 222, 223, 224, 225, 226, 227, 228, 229, 230, 231, 232, 233, 234] (by decide +kernel) (by decide +kernel)
set_option maxRecDepth 20000 in
theorem gX6_prove_X4_search : GoodIn wsX6_prove (wsV RX6 147 RX4 yX4_search wsX4_search) := goodIn_app (goodIn_of _ (by decide +kernel)) ggX6_prove_X4_search
theorem dX6_prove_0 : decode cX6_prove 0 = .ok (.aload_n 0, 1) := by decide +kernel
theorem dX6_prove_1 : decode cX6_prove 1 = .ok (.getfield 12, 3) := by decide +kernel
theorem dX6_prove_4 : decode cX6_prove 4 = .ok (.getfield 110, 3) := by decide +kernel
theorem dX6_prove_7 : decode cX6_prove 7 = .ok (.ifCond .eq 15, 3) := by decide +kernel
theorem dX6_prove_10 : decode cX6_prove 10 = .ok (.iload_n 1, 1) := by decide +kernel
theorem dX6_prove_11 : decode cX6_prove 11 = .ok (.iconst 1, 1) := by decide +kernel
theorem dX6_prove_12 : decode cX6_prove 12 = .ok (.if_icmp .lt 10, 3) := by decide +kernel
theorem dX6_prove_15 : decode cX6_prove 15 = .ok (.iload_n 1, 1) := by decide +kernel
theorem dX6_prove_16 : decode cX6_prove 16 = .ok (.sipush 400, 3) := by decide +kernel
theorem dX6_prove_19 : decode cX6_prove 19 = .ok (.if_icmp .le 12, 3) := by decide +kernel
theorem dX6_prove_22 : decode cX6_prove 22 = .ok (.aload_n 0, 1) := by decide +kernel
theorem dX6_prove_23 : decode cX6_prove 23 = .ok (.getfield 45, 3) := by decide +kernel
theorem dX6_prove_26 : decode cX6_prove 26 = .ok (.invokevirtual 144, 3) := by decide +kernel
theorem dX6_prove_29 : decode cX6_prove 29 = .ok (.iconst (-1), 1) := by decide +kernel
theorem dX6_prove_30 : decode cX6_prove 30 = .ok (.ireturn, 1) := by decide +kernel
theorem dX6_prove_31 : decode cX6_prove 31 = .ok (.aload_n 0, 1) := by decide +kernel
theorem dX6_prove_32 : decode cX6_prove 32 = .ok (.getfield 45, 3) := by decide +kernel
theorem dX6_prove_35 : decode cX6_prove 35 = .ok (.iload_n 1, 1) := by decide +kernel
theorem dX6_prove_36 : decode cX6_prove 36 = .ok (.invokevirtual 147, 3) := by decide +kernel
theorem dX6_prove_39 : decode cX6_prove 39 = .ok (.ireturn, 1) := by decide +kernel
theorem dX6_states_0 : decode cX6_states 0 = .ok (.aload_n 0, 1) := by decide +kernel
theorem dX6_states_1 : decode cX6_states 1 = .ok (.getfield 45, 3) := by decide +kernel
theorem dX6_states_4 : decode cX6_states 4 = .ok (.getfield 150, 3) := by decide +kernel
theorem dX6_states_7 : decode cX6_states 7 = .ok (.ireturn, 1) := by decide +kernel
set_option maxRecDepth 20000 in
theorem ggX6_row_X4_rowEntry : GoodIn wsX6_row wsX4_rowEntry := goodIn_r _ [6, 7, 8, 9, 10, 11, 12, 13, 14, 15, 16, 17, 18, 19, 20, 21, 22, 23, 24, 25, 26, 27, 28, 29, 30, 31, 32, 5, 33, 34, 35, 36, 37, 38, 39, 40, 41, 42, 43, 44, 45, 46, 47, 48, 49, 57, 58, 59, 60, 61, 62, 63, 64, 65, 66, 67, 68, 69, 70, 71, 72, 73, 74, 75, 76, 77, 78, 79, 80, 81, 82, 83, 84, 85, 86, 87, 88, 89, 90, 91] (by decide +kernel) (by decide +kernel)
set_option maxRecDepth 20000 in
theorem gX6_row_X4_rowEntry : GoodIn wsX6_row (wsV RX6 153 RX4 yX4_rowEntry wsX4_rowEntry) := goodIn_app (goodIn_of _ (by decide +kernel)) ggX6_row_X4_rowEntry
theorem dX6_row_0 : decode cX6_row 0 = .ok (.aload_n 0, 1) := by decide +kernel
theorem dX6_row_1 : decode cX6_row 1 = .ok (.getfield 45, 3) := by decide +kernel
theorem dX6_row_4 : decode cX6_row 4 = .ok (.iload_n 1, 1) := by decide +kernel
theorem dX6_row_5 : decode cX6_row 5 = .ok (.iload_n 2, 1) := by decide +kernel
theorem dX6_row_6 : decode cX6_row 6 = .ok (.invokevirtual 153, 3) := by decide +kernel
theorem dX6_row_9 : decode cX6_row 9 = .ok (.ireturn, 1) := by decide +kernel
set_option maxRecDepth 20000 in
theorem ggX6_longest_X0_isGroup : GoodIn wsX6_longest wsX0_isGroup := goodIn_r _ [9, 10, 33, 34, 35, 36, 37, 38, 39, 40, 41, 42] (by decide +kernel) (by decide +kernel)
set_option maxRecDepth 20000 in
theorem gX6_longest_X0_isGroup : GoodIn wsX6_longest (wsV RX6 65 RX0 yX0_isGroup wsX0_isGroup) := goodIn_app (goodIn_of _ (by decide +kernel)) ggX6_longest_X0_isGroup
theorem dX6_longest_0 : decode cX6_longest 0 = .ok (.aload_n 0, 1) := by decide +kernel
theorem dX6_longest_1 : decode cX6_longest 1 = .ok (.getfield 45, 3) := by decide +kernel
theorem dX6_longest_4 : decode cX6_longest 4 = .ok (.getfield 157, 3) := by decide +kernel
theorem dX6_longest_7 : decode cX6_longest 7 = .ok (.iconst 1, 1) := by decide +kernel
theorem dX6_longest_8 : decode cX6_longest 8 = .ok (.if_icmp .ne 14, 3) := by decide +kernel
theorem dX6_longest_11 : decode cX6_longest 11 = .ok (.aload_n 0, 1) := by decide +kernel
theorem dX6_longest_12 : decode cX6_longest 12 = .ok (.getfield 12, 3) := by decide +kernel
theorem dX6_longest_15 : decode cX6_longest 15 = .ok (.iload_n 1, 1) := by decide +kernel
theorem dX6_longest_16 : decode cX6_longest 16 = .ok (.invokevirtual 65, 3) := by decide +kernel
theorem dX6_longest_19 : decode cX6_longest 19 = .ok (.ifCond .ne 6, 3) := by decide +kernel
theorem dX6_longest_22 : decode cX6_longest 22 = .ok (.bipush (-2), 2) := by decide +kernel
theorem dX6_longest_24 : decode cX6_longest 24 = .ok (.ireturn, 1) := by decide +kernel
theorem dX6_longest_25 : decode cX6_longest 25 = .ok (.aload_n 0, 1) := by decide +kernel
theorem dX6_longest_26 : decode cX6_longest 26 = .ok (.getfield 45, 3) := by decide +kernel
theorem dX6_longest_29 : decode cX6_longest 29 = .ok (.getfield 160, 3) := by decide +kernel
theorem dX6_longest_32 : decode cX6_longest 32 = .ok (.iload_n 1, 1) := by decide +kernel
theorem dX6_longest_33 : decode cX6_longest 33 = .ok (.iaload, 1) := by decide +kernel
theorem dX6_longest_34 : decode cX6_longest 34 = .ok (.ireturn, 1) := by decide +kernel
theorem dX6_ring_0 : decode cX6_ring 0 = .ok (.aload_n 0, 1) := by decide +kernel
theorem dX6_ring_1 : decode cX6_ring 1 = .ok (.getfield 45, 3) := by decide +kernel
theorem dX6_ring_4 : decode cX6_ring 4 = .ok (.getfield 157, 3) := by decide +kernel
theorem dX6_ring_7 : decode cX6_ring 7 = .ok (.iconst 1, 1) := by decide +kernel
theorem dX6_ring_8 : decode cX6_ring 8 = .ok (.if_icmp .ne 7, 3) := by decide +kernel
theorem dX6_ring_11 : decode cX6_ring 11 = .ok (.iload_n 1, 1) := by decide +kernel
theorem dX6_ring_12 : decode cX6_ring 12 = .ok (.ifCond .ge 5, 3) := by decide +kernel
theorem dX6_ring_15 : decode cX6_ring 15 = .ok (.iconst (-1), 1) := by decide +kernel
theorem dX6_ring_16 : decode cX6_ring 16 = .ok (.ireturn, 1) := by decide +kernel
theorem dX6_ring_17 : decode cX6_ring 17 = .ok (.iload_n 1, 1) := by decide +kernel
theorem dX6_ring_18 : decode cX6_ring 18 = .ok (.istore_n 2, 1) := by decide +kernel
theorem dX6_ring_19 : decode cX6_ring 19 = .ok (.iconst 0, 1) := by decide +kernel
theorem dX6_ring_20 : decode cX6_ring 20 = .ok (.istore_n 3, 1) := by decide +kernel
theorem dX6_ring_21 : decode cX6_ring 21 = .ok (.iload_n 3, 1) := by decide +kernel
theorem dX6_ring_22 : decode cX6_ring 22 = .ok (.aload_n 0, 1) := by decide +kernel
theorem dX6_ring_23 : decode cX6_ring 23 = .ok (.getfield 12, 3) := by decide +kernel
theorem dX6_ring_26 : decode cX6_ring 26 = .ok (.getfield 95, 3) := by decide +kernel
theorem dX6_ring_29 : decode cX6_ring 29 = .ok (.if_icmp .ge 31, 3) := by decide +kernel
theorem dX6_ring_32 : decode cX6_ring 32 = .ok (.aload_n 0, 1) := by decide +kernel
theorem dX6_ring_33 : decode cX6_ring 33 = .ok (.getfield 45, 3) := by decide +kernel
theorem dX6_ring_36 : decode cX6_ring 36 = .ok (.getfield 160, 3) := by decide +kernel
theorem dX6_ring_39 : decode cX6_ring 39 = .ok (.iload_n 3, 1) := by decide +kernel
theorem dX6_ring_40 : decode cX6_ring 40 = .ok (.iaload, 1) := by decide +kernel
theorem dX6_ring_41 : decode cX6_ring 41 = .ok (.iconst (-1), 1) := by decide +kernel
theorem dX6_ring_42 : decode cX6_ring 42 = .ok (.if_icmp .ne 12, 3) := by decide +kernel
theorem dX6_ring_45 : decode cX6_ring 45 = .ok (.iload_n 2, 1) := by decide +kernel
theorem dX6_ring_46 : decode cX6_ring 46 = .ok (.ifCond .ne 5, 3) := by decide +kernel
theorem dX6_ring_49 : decode cX6_ring 49 = .ok (.iload_n 3, 1) := by decide +kernel
theorem dX6_ring_50 : decode cX6_ring 50 = .ok (.ireturn, 1) := by decide +kernel
theorem dX6_ring_51 : decode cX6_ring 51 = .ok (.iinc 2 (-1), 3) := by decide +kernel
theorem dX6_ring_54 : decode cX6_ring 54 = .ok (.iinc 3 1, 3) := by decide +kernel
theorem dX6_ring_57 : decode cX6_ring 57 = .ok (.goto (-36), 3) := by decide +kernel
theorem dX6_ring_60 : decode cX6_ring 60 = .ok (.iconst (-1), 1) := by decide +kernel
theorem dX6_ring_61 : decode cX6_ring 61 = .ok (.ireturn, 1) := by decide +kernel
set_option maxRecDepth 20000 in
theorem ggX6_answered_X6_ring : GoodIn wsX6_answered wsX6_ring := goodIn_r _ [7, 1, 2, 8, 9, 10, 11, 12, 13, 14, 15, 16, 17, 18, 19, 20, 21, 22, 23, 24, 25, 26, 27, 28, 29, 30, 31, 32, 33, 34, 35, 36, 37, 38, 39, 40, 41, 42] (by decide +kernel) (by decide +kernel)
set_option maxRecDepth 20000 in
theorem gX6_answered_X6_ring : GoodIn wsX6_answered (wsV RX6 163 RX6 yX6_ring wsX6_ring) := goodIn_app (goodIn_of _ (by decide +kernel)) ggX6_answered_X6_ring
theorem dX6_answered_0 : decode cX6_answered 0 = .ok (.aload_n 0, 1) := by decide +kernel
theorem dX6_answered_1 : decode cX6_answered 1 = .ok (.getfield 45, 3) := by decide +kernel
theorem dX6_answered_4 : decode cX6_answered 4 = .ok (.getfield 157, 3) := by decide +kernel
theorem dX6_answered_7 : decode cX6_answered 7 = .ok (.iconst 1, 1) := by decide +kernel
theorem dX6_answered_8 : decode cX6_answered 8 = .ok (.if_icmp .ne 16, 3) := by decide +kernel
theorem dX6_answered_11 : decode cX6_answered 11 = .ok (.aload_n 0, 1) := by decide +kernel
theorem dX6_answered_12 : decode cX6_answered 12 = .ok (.iconst 0, 1) := by decide +kernel
theorem dX6_answered_13 : decode cX6_answered 13 = .ok (.invokevirtual 163, 3) := by decide +kernel
theorem dX6_answered_16 : decode cX6_answered 16 = .ok (.iconst (-1), 1) := by decide +kernel
theorem dX6_answered_17 : decode cX6_answered 17 = .ok (.if_icmp .ne 7, 3) := by decide +kernel
theorem dX6_answered_20 : decode cX6_answered 20 = .ok (.iconst 1, 1) := by decide +kernel
theorem dX6_answered_21 : decode cX6_answered 21 = .ok (.goto 4, 3) := by decide +kernel
theorem dX6_answered_24 : decode cX6_answered 24 = .ok (.iconst 0, 1) := by decide +kernel
theorem dX6_answered_25 : decode cX6_answered 25 = .ok (.ireturn, 1) := by decide +kernel
set_option maxRecDepth 20000 in
theorem ggX6_same_X2_packed : GoodIn wsX6_same wsX2_packed := goodIn_r _ [13, 14, 15, 16, 17, 18, 19, 20, 166, 167, 168, 169, 170, 171, 172, 173, 174, 175] (by decide +kernel) (by decide +kernel)
set_option maxRecDepth 20000 in
theorem gX6_same_X2_packed : GoodIn wsX6_same (wsV RX6 129 RX2 yX2_packed wsX2_packed) := goodIn_app (goodIn_of _ (by decide +kernel)) ggX6_same_X2_packed
set_option maxRecDepth 20000 in
theorem ggX6_same_X2_unpack : GoodIn wsX6_same wsX2_unpack := goodIn_r _ [24, 20, 19, 18, 17, 16, 15, 14, 25, 26, 12, 27, 166, 167, 168, 169, 170, 171, 172, 173, 174, 175] (by decide +kernel) (by decide +kernel)
set_option maxRecDepth 20000 in
theorem gX6_same_X2_unpack : GoodIn wsX6_same (wsV RX6 166 RX2 yX2_unpack wsX2_unpack) := goodIn_app (goodIn_of _ (by decide +kernel)) ggX6_same_X2_unpack
set_option maxRecDepth 20000 in
theorem ggX6_same_X4_numberOf : GoodIn wsX6_same wsX4_numberOf := goodIn_r _ [32, 33, 34, 35, 36, 31, 37, 38, 39, 151, 152, 153, 154, 155, 156, 157, 158, 159, 160, 161, 162, 163, 164, 165] (by decide +kernel) (by decide +kernel)
set_option maxRecDepth 20000 in
theorem gX6_same_X4_numberOf : GoodIn wsX6_same (wsV RX6 133 RX4 yX4_numberOf wsX4_numberOf) := goodIn_app (goodIn_of _ (by decide +kernel)) ggX6_same_X4_numberOf
set_option maxRecDepth 20000 in
theorem ggX6_same_X1_eventOf : GoodIn wsX6_same wsX1_eventOf := goodIn_r _ [44, 45, 46, 47, 48, 43, 49, 50, 51, 176, 177, 178] (by decide +kernel) (by decide +kernel)
set_option maxRecDepth 20000 in
theorem gX6_same_X1_eventOf : GoodIn wsX6_same (wsV RX6 170 RX1 yX1_eventOf wsX1_eventOf) := goodIn_app (goodIn_of _ (by decide +kernel)) ggX6_same_X1_eventOf
set_option maxRecDepth 20000 in
theorem ggX6_same_X2_step : GoodIn wsX6_same wsX2_step := goodIn_r _ [55, 56, 57, 18, 17, 19, 58, 59, 60, 61, 20, 62, 63, 64, 12, 65, 66, 67, 15, 16, 68, 69, 70, 71, 72, 73, 74, 75, 76, 77, 78, 79, 80, 81, 82, 83, 84, 85, 86, 87, 88, 89, 90, 91, 14, 92, 93, 94, 95, 96, 97, 98, 99, 100, 101, 102, 103, 104, 105, 106, 107, 108, 109, 110, 111, 112, 113, 114, 115, 116, 117, 118, 119, 120, 121, 122, 123, 124, 125, 126, 127, 128, 129, 130, 131, 132, 133, 166, 167, 168, 169, 170, 171, 172, 173, 174, 175, 141, 142, 143, 144, 145, 146, 147, 148, 149, 150] (by decide +kernel) (by decide +kernel)
set_option maxRecDepth 20000 in
theorem gX6_same_X2_step : GoodIn wsX6_same (wsV RX6 126 RX2 yX2_step wsX2_step) := goodIn_app (goodIn_of _ (by decide +kernel)) ggX6_same_X2_step
theorem dX6_same_0 : decode cX6_same 0 = .ok (.aload_n 0, 1) := by decide +kernel
theorem dX6_same_1 : decode cX6_same 1 = .ok (.getfield 12, 3) := by decide +kernel
theorem dX6_same_4 : decode cX6_same 4 = .ok (.getfield 110, 3) := by decide +kernel
theorem dX6_same_7 : decode cX6_same 7 = .ok (.ifCond .eq 23, 3) := by decide +kernel
theorem dX6_same_10 : decode cX6_same 10 = .ok (.aload_n 0, 1) := by decide +kernel
theorem dX6_same_11 : decode cX6_same 11 = .ok (.getfield 45, 3) := by decide +kernel
theorem dX6_same_14 : decode cX6_same 14 = .ok (.getfield 150, 3) := by decide +kernel
theorem dX6_same_17 : decode cX6_same 17 = .ok (.ifCond .eq 13, 3) := by decide +kernel
theorem dX6_same_20 : decode cX6_same 20 = .ok (.iload_n 1, 1) := by decide +kernel
theorem dX6_same_21 : decode cX6_same 21 = .ok (.ifCond .lt 9, 3) := by decide +kernel
theorem dX6_same_24 : decode cX6_same 24 = .ok (.iload_n 1, 1) := by decide +kernel
theorem dX6_same_25 : decode cX6_same 25 = .ok (.bipush 100, 2) := by decide +kernel
theorem dX6_same_27 : decode cX6_same 27 = .ok (.if_icmp .le 5, 3) := by decide +kernel
theorem dX6_same_30 : decode cX6_same 30 = .ok (.iconst 0, 1) := by decide +kernel
theorem dX6_same_31 : decode cX6_same 31 = .ok (.ireturn, 1) := by decide +kernel
theorem dX6_same_32 : decode cX6_same 32 = .ok (.aload_n 0, 1) := by decide +kernel
theorem dX6_same_33 : decode cX6_same 33 = .ok (.getfield 39, 3) := by decide +kernel
theorem dX6_same_36 : decode cX6_same 36 = .ok (.aload_n 0, 1) := by decide +kernel
theorem dX6_same_37 : decode cX6_same 37 = .ok (.getfield 35, 3) := by decide +kernel
theorem dX6_same_40 : decode cX6_same 40 = .ok (.invokevirtual 129, 3) := by decide +kernel
theorem dX6_same_43 : decode cX6_same 43 = .ok (.invokevirtual 166, 3) := by decide +kernel
theorem dX6_same_46 : decode cX6_same 46 = .ok (.aload_n 0, 1) := by decide +kernel
theorem dX6_same_47 : decode cX6_same 47 = .ok (.getfield 45, 3) := by decide +kernel
theorem dX6_same_50 : decode cX6_same 50 = .ok (.aload_n 0, 1) := by decide +kernel
theorem dX6_same_51 : decode cX6_same 51 = .ok (.getfield 39, 3) := by decide +kernel
theorem dX6_same_54 : decode cX6_same 54 = .ok (.invokevirtual 129, 3) := by decide +kernel
theorem dX6_same_57 : decode cX6_same 57 = .ok (.invokevirtual 133, 3) := by decide +kernel
theorem dX6_same_60 : decode cX6_same 60 = .ok (.iconst (-1), 1) := by decide +kernel
theorem dX6_same_61 : decode cX6_same 61 = .ok (.if_icmp .ne 5, 3) := by decide +kernel
theorem dX6_same_64 : decode cX6_same 64 = .ok (.iconst 0, 1) := by decide +kernel
theorem dX6_same_65 : decode cX6_same 65 = .ok (.ireturn, 1) := by decide +kernel
theorem dX6_same_66 : decode cX6_same 66 = .ok (.iconst 1, 1) := by decide +kernel
theorem dX6_same_67 : decode cX6_same 67 = .ok (.istore_n 2, 1) := by decide +kernel
theorem dX6_same_68 : decode cX6_same 68 = .ok (.iload_n 2, 1) := by decide +kernel
theorem dX6_same_69 : decode cX6_same 69 = .ok (.iload_n 1, 1) := by decide +kernel
theorem dX6_same_70 : decode cX6_same 70 = .ok (.if_icmp .gt 52, 3) := by decide +kernel
theorem dX6_same_73 : decode cX6_same 73 = .ok (.aload_n 0, 1) := by decide +kernel
theorem dX6_same_74 : decode cX6_same 74 = .ok (.getfield 39, 3) := by decide +kernel
theorem dX6_same_77 : decode cX6_same 77 = .ok (.aload_n 0, 1) := by decide +kernel
theorem dX6_same_78 : decode cX6_same 78 = .ok (.getfield 26, 3) := by decide +kernel
theorem dX6_same_81 : decode cX6_same 81 = .ok (.aload_n 0, 1) := by decide +kernel
theorem dX6_same_82 : decode cX6_same 82 = .ok (.getfield 120, 3) := by decide +kernel
theorem dX6_same_85 : decode cX6_same 85 = .ok (.iload_n 2, 1) := by decide +kernel
theorem dX6_same_86 : decode cX6_same 86 = .ok (.iadd, 1) := by decide +kernel
theorem dX6_same_87 : decode cX6_same 87 = .ok (.invokevirtual 170, 3) := by decide +kernel
theorem dX6_same_90 : decode cX6_same 90 = .ok (.invokevirtual 126, 3) := by decide +kernel
theorem dX6_same_93 : decode cX6_same 93 = .ok (.ifCond .ne 21, 3) := by decide +kernel
theorem dX6_same_96 : decode cX6_same 96 = .ok (.aload_n 0, 1) := by decide +kernel
theorem dX6_same_97 : decode cX6_same 97 = .ok (.getfield 45, 3) := by decide +kernel
theorem dX6_same_100 : decode cX6_same 100 = .ok (.aload_n 0, 1) := by decide +kernel
theorem dX6_same_101 : decode cX6_same 101 = .ok (.getfield 39, 3) := by decide +kernel
theorem dX6_same_104 : decode cX6_same 104 = .ok (.invokevirtual 129, 3) := by decide +kernel
theorem dX6_same_107 : decode cX6_same 107 = .ok (.invokevirtual 133, 3) := by decide +kernel
theorem dX6_same_110 : decode cX6_same 110 = .ok (.iconst (-1), 1) := by decide +kernel
theorem dX6_same_111 : decode cX6_same 111 = .ok (.if_icmp .ne 5, 3) := by decide +kernel
theorem dX6_same_114 : decode cX6_same 114 = .ok (.iconst 0, 1) := by decide +kernel
theorem dX6_same_115 : decode cX6_same 115 = .ok (.ireturn, 1) := by decide +kernel
theorem dX6_same_116 : decode cX6_same 116 = .ok (.iinc 2 1, 3) := by decide +kernel
theorem dX6_same_119 : decode cX6_same 119 = .ok (.goto (-51), 3) := by decide +kernel
theorem dX6_same_122 : decode cX6_same 122 = .ok (.iconst 1, 1) := by decide +kernel
theorem dX6_same_123 : decode cX6_same 123 = .ok (.ireturn, 1) := by decide +kernel
theorem dX6_from_0 : decode cX6_from 0 = .ok (.lload_n 1, 1) := by decide +kernel
theorem dX6_from_1 : decode cX6_from 1 = .ok (.lconst 0, 1) := by decide +kernel
theorem dX6_from_2 : decode cX6_from 2 = .ok (.lcmp, 1) := by decide +kernel
theorem dX6_from_3 : decode cX6_from 3 = .ok (.ifCond .lt 38, 3) := by decide +kernel
theorem dX6_from_6 : decode cX6_from 6 = .ok (.lload_n 1, 1) := by decide +kernel
theorem dX6_from_7 : decode cX6_from 7 = .ok (.ldc2_w 173, 3) := by decide +kernel
theorem dX6_from_10 : decode cX6_from 10 = .ok (.lcmp, 1) := by decide +kernel
theorem dX6_from_11 : decode cX6_from 11 = .ok (.ifCond .gt 30, 3) := by decide +kernel
theorem dX6_from_14 : decode cX6_from 14 = .ok (.lload_n 3, 1) := by decide +kernel
theorem dX6_from_15 : decode cX6_from 15 = .ok (.lconst 0, 1) := by decide +kernel
theorem dX6_from_16 : decode cX6_from 16 = .ok (.lcmp, 1) := by decide +kernel
theorem dX6_from_17 : decode cX6_from 17 = .ok (.ifCond .lt 24, 3) := by decide +kernel
theorem dX6_from_20 : decode cX6_from 20 = .ok (.lload_n 3, 1) := by decide +kernel
theorem dX6_from_21 : decode cX6_from 21 = .ok (.ldc2_w 173, 3) := by decide +kernel
theorem dX6_from_24 : decode cX6_from 24 = .ok (.lcmp, 1) := by decide +kernel
theorem dX6_from_25 : decode cX6_from 25 = .ok (.ifCond .gt 16, 3) := by decide +kernel
theorem dX6_from_28 : decode cX6_from 28 = .ok (.iload 5, 2) := by decide +kernel
theorem dX6_from_30 : decode cX6_from 30 = .ok (.iconst 1, 1) := by decide +kernel
theorem dX6_from_31 : decode cX6_from 31 = .ok (.if_icmp .lt 10, 3) := by decide +kernel
theorem dX6_from_34 : decode cX6_from 34 = .ok (.iload 5, 2) := by decide +kernel
theorem dX6_from_36 : decode cX6_from 36 = .ok (.bipush 50, 2) := by decide +kernel
theorem dX6_from_38 : decode cX6_from 38 = .ok (.if_icmp .le 5, 3) := by decide +kernel
theorem dX6_from_41 : decode cX6_from 41 = .ok (.iconst (-1), 1) := by decide +kernel
theorem dX6_from_42 : decode cX6_from 42 = .ok (.ireturn, 1) := by decide +kernel
theorem dX6_from_43 : decode cX6_from 43 = .ok (.lload_n 3, 1) := by decide +kernel
theorem dX6_from_44 : decode cX6_from 44 = .ok (.l2i, 1) := by decide +kernel
theorem dX6_from_45 : decode cX6_from 45 = .ok (.iload 5, 2) := by decide +kernel
theorem dX6_from_47 : decode cX6_from 47 = .ok (.iadd, 1) := by decide +kernel
theorem dX6_from_48 : decode cX6_from 48 = .ok (.iconst 1, 1) := by decide +kernel
theorem dX6_from_49 : decode cX6_from 49 = .ok (.isub, 1) := by decide +kernel
theorem dX6_from_50 : decode cX6_from 50 = .ok (.iload 5, 2) := by decide +kernel
theorem dX6_from_52 : decode cX6_from 52 = .ok (.idiv, 1) := by decide +kernel
theorem dX6_from_53 : decode cX6_from 53 = .ok (.istore 6, 2) := by decide +kernel
theorem dX6_from_55 : decode cX6_from 55 = .ok (.lload_n 1, 1) := by decide +kernel
theorem dX6_from_56 : decode cX6_from 56 = .ok (.l2i, 1) := by decide +kernel
theorem dX6_from_57 : decode cX6_from 57 = .ok (.iload 5, 2) := by decide +kernel
theorem dX6_from_59 : decode cX6_from 59 = .ok (.idiv, 1) := by decide +kernel
theorem dX6_from_60 : decode cX6_from 60 = .ok (.istore 7, 2) := by decide +kernel
theorem dX6_from_62 : decode cX6_from 62 = .ok (.iload 6, 2) := by decide +kernel
theorem dX6_from_64 : decode cX6_from 64 = .ok (.iload 7, 2) := by decide +kernel
theorem dX6_from_66 : decode cX6_from 66 = .ok (.if_icmp .le 11, 3) := by decide +kernel
theorem dX6_from_69 : decode cX6_from 69 = .ok (.iload 6, 2) := by decide +kernel
theorem dX6_from_71 : decode cX6_from 71 = .ok (.iload 7, 2) := by decide +kernel
theorem dX6_from_73 : decode cX6_from 73 = .ok (.isub, 1) := by decide +kernel
theorem dX6_from_74 : decode cX6_from 74 = .ok (.goto 4, 3) := by decide +kernel
theorem dX6_from_77 : decode cX6_from 77 = .ok (.iconst 0, 1) := by decide +kernel
theorem dX6_from_78 : decode cX6_from 78 = .ok (.ireturn, 1) := by decide +kernel
set_option maxRecDepth 20000 in
theorem ggX6_startAnew_X0_clear : GoodIn wsX6_startAnew wsX0_clear := goodIn_r _ [8, 9, 10, 11, 12, 13, 14, 15, 16, 17, 18, 19, 20, 72, 73, 74, 75, 76, 77, 78, 79, 80, 81] (by decide +kernel) (by decide +kernel)
set_option maxRecDepth 20000 in
theorem gX6_startAnew_X0_clear : GoodIn wsX6_startAnew (wsV RX6 175 RX0 yX0_clear wsX0_clear) := goodIn_app (goodIn_of _ (by decide +kernel)) ggX6_startAnew_X0_clear
set_option maxRecDepth 20000 in
theorem ggX6_startAnew_X6_forgetRun : GoodIn wsX6_startAnew wsX6_forgetRun := goodIn_r _ [25, 26, 27, 28, 29, 30, 31, 32, 33, 34, 35, 36, 37, 38, 39, 18, 19, 20, 40, 41, 42, 43, 44, 45, 46, 47, 48, 49, 50, 51, 52, 53, 54, 55, 56, 7, 57, 16, 58, 59, 60, 61, 62, 63, 64, 65, 82, 83, 84, 85, 86, 87, 88, 89, 90, 91, 92, 93, 94, 95, 96, 97, 98, 99, 100, 101, 102, 103, 104, 105, 106, 107, 108, 109, 72, 73, 74, 75, 76, 77, 78, 79, 80, 81] (by decide +kernel) (by decide +kernel)
set_option maxRecDepth 20000 in
theorem gX6_startAnew_X6_forgetRun : GoodIn wsX6_startAnew (wsV RX6 80 RX6 yX6_forgetRun wsX6_forgetRun) := goodIn_app (goodIn_of _ (by decide +kernel)) ggX6_startAnew_X6_forgetRun
theorem dX6_startAnew_0 : decode cX6_startAnew 0 = .ok (.aload_n 0, 1) := by decide +kernel
theorem dX6_startAnew_1 : decode cX6_startAnew 1 = .ok (.getfield 12, 3) := by decide +kernel
theorem dX6_startAnew_4 : decode cX6_startAnew 4 = .ok (.iload_n 1, 1) := by decide +kernel
theorem dX6_startAnew_5 : decode cX6_startAnew 5 = .ok (.invokevirtual 175, 3) := by decide +kernel
theorem dX6_startAnew_8 : decode cX6_startAnew 8 = .ok (.aload_n 0, 1) := by decide +kernel
theorem dX6_startAnew_9 : decode cX6_startAnew 9 = .ok (.getfield 19, 3) := by decide +kernel
theorem dX6_startAnew_12 : decode cX6_startAnew 12 = .ok (.iconst 0, 1) := by decide +kernel
theorem dX6_startAnew_13 : decode cX6_startAnew 13 = .ok (.putfield 107, 3) := by decide +kernel
theorem dX6_startAnew_16 : decode cX6_startAnew 16 = .ok (.aload_n 0, 1) := by decide +kernel
theorem dX6_startAnew_17 : decode cX6_startAnew 17 = .ok (.invokevirtual 80, 3) := by decide +kernel
theorem dX6_startAnew_20 : decode cX6_startAnew 20 = .ok (.return_, 1) := by decide +kernel
set_option maxRecDepth 20000 in
theorem ggX6_forgetRun_X4_forget : GoodIn wsX6_forgetRun wsX4_forget := goodIn_r _ [10, 11, 12, 13, 14, 15, 16, 17, 49, 50, 51, 52, 53, 54, 55, 56, 57, 58, 59, 60, 61, 62, 63] (by decide +kernel) (by decide +kernel)
set_option maxRecDepth 20000 in
theorem gX6_forgetRun_X4_forget : GoodIn wsX6_forgetRun (wsV RX6 144 RX4 yX4_forget wsX4_forget) := goodIn_app (goodIn_of _ (by decide +kernel)) ggX6_forgetRun_X4_forget
set_option maxRecDepth 20000 in
theorem ggX6_forgetRun_X2_reset : GoodIn wsX6_forgetRun wsX2_reset := goodIn_r _ [22, 23, 24, 25, 26, 27, 28, 29, 30, 31, 32, 33, 34, 35, 36, 37, 38, 15, 16, 17, 64, 65, 66, 67, 68, 69, 70, 71, 72, 73, 74, 75, 76, 77, 78, 79, 80, 81, 82, 83] (by decide +kernel) (by decide +kernel)
set_option maxRecDepth 20000 in
theorem gX6_forgetRun_X2_reset : GoodIn wsX6_forgetRun (wsV RX6 181 RX2 yX2_reset wsX2_reset) := goodIn_app (goodIn_of _ (by decide +kernel)) ggX6_forgetRun_X2_reset
theorem dX6_forgetRun_0 : decode cX6_forgetRun 0 = .ok (.aload_n 0, 1) := by decide +kernel
theorem dX6_forgetRun_1 : decode cX6_forgetRun 1 = .ok (.getfield 26, 3) := by decide +kernel
theorem dX6_forgetRun_4 : decode cX6_forgetRun 4 = .ok (.iconst 0, 1) := by decide +kernel
theorem dX6_forgetRun_5 : decode cX6_forgetRun 5 = .ok (.putfield 178, 3) := by decide +kernel
theorem dX6_forgetRun_8 : decode cX6_forgetRun 8 = .ok (.aload_n 0, 1) := by decide +kernel
theorem dX6_forgetRun_9 : decode cX6_forgetRun 9 = .ok (.getfield 45, 3) := by decide +kernel
theorem dX6_forgetRun_12 : decode cX6_forgetRun 12 = .ok (.invokevirtual 144, 3) := by decide +kernel
theorem dX6_forgetRun_15 : decode cX6_forgetRun 15 = .ok (.aload_n 0, 1) := by decide +kernel
theorem dX6_forgetRun_16 : decode cX6_forgetRun 16 = .ok (.getfield 35, 3) := by decide +kernel
theorem dX6_forgetRun_19 : decode cX6_forgetRun 19 = .ok (.invokevirtual 181, 3) := by decide +kernel
theorem dX6_forgetRun_22 : decode cX6_forgetRun 22 = .ok (.aload_n 0, 1) := by decide +kernel
theorem dX6_forgetRun_23 : decode cX6_forgetRun 23 = .ok (.iconst 0, 1) := by decide +kernel
theorem dX6_forgetRun_24 : decode cX6_forgetRun 24 = .ok (.putfield 120, 3) := by decide +kernel
theorem dX6_forgetRun_27 : decode cX6_forgetRun 27 = .ok (.return_, 1) := by decide +kernel
set_option maxRecDepth 20000 in
theorem ggX6_note_X1_add : GoodIn wsX6_note wsX1_add := goodIn_r _ [7, 8, 9, 10, 11, 12, 13, 6, 14, 22, 23, 24] (by decide +kernel) (by decide +kernel)
set_option maxRecDepth 20000 in
theorem gX6_note_X1_add : GoodIn wsX6_note (wsV RX6 184 RX1 yX1_add wsX1_add) := goodIn_app (goodIn_of _ (by decide +kernel)) ggX6_note_X1_add
theorem dX6_note_0 : decode cX6_note 0 = .ok (.iload_n 2, 1) := by decide +kernel
theorem dX6_note_1 : decode cX6_note 1 = .ok (.aload_n 0, 1) := by decide +kernel
theorem dX6_note_2 : decode cX6_note 2 = .ok (.getfield 120, 3) := by decide +kernel
theorem dX6_note_5 : decode cX6_note 5 = .ok (.if_icmp .le 19, 3) := by decide +kernel
theorem dX6_note_8 : decode cX6_note 8 = .ok (.aload_n 0, 1) := by decide +kernel
theorem dX6_note_9 : decode cX6_note 9 = .ok (.getfield 26, 3) := by decide +kernel
theorem dX6_note_12 : decode cX6_note 12 = .ok (.iload_n 2, 1) := by decide +kernel
theorem dX6_note_13 : decode cX6_note 13 = .ok (.iload_n 1, 1) := by decide +kernel
theorem dX6_note_14 : decode cX6_note 14 = .ok (.invokevirtual 184, 3) := by decide +kernel
theorem dX6_note_17 : decode cX6_note 17 = .ok (.ifCond .eq 7, 3) := by decide +kernel
theorem dX6_note_20 : decode cX6_note 20 = .ok (.iconst 1, 1) := by decide +kernel
theorem dX6_note_21 : decode cX6_note 21 = .ok (.goto 4, 3) := by decide +kernel
theorem dX6_note_24 : decode cX6_note 24 = .ok (.iconst 0, 1) := by decide +kernel
theorem dX6_note_25 : decode cX6_note 25 = .ok (.ireturn, 1) := by decide +kernel
