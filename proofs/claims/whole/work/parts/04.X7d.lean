theorem dX7_add_22 : decode cX7_add 22 = .ok (.getfield 47, 3) := by decide +kernel
theorem dX7_add_25 : decode cX7_add 25 = .ok (.iload_n 3, 1) := by decide +kernel
theorem dX7_add_26 : decode cX7_add 26 = .ok (.iaload, 1) := by decide +kernel
theorem dX7_add_27 : decode cX7_add 27 = .ok (.iastore, 1) := by decide +kernel
theorem dX7_add_28 : decode cX7_add 28 = .ok (.iinc 3 1, 3) := by decide +kernel
theorem dX7_add_31 : decode cX7_add 31 = .ok (.goto (-29), 3) := by decide +kernel
theorem dX7_add_34 : decode cX7_add 34 = .ok (.aload_n 0, 1) := by decide +kernel
theorem dX7_add_35 : decode cX7_add 35 = .ok (.getfield 60, 3) := by decide +kernel
theorem dX7_add_38 : decode cX7_add 38 = .ok (.aload_n 0, 1) := by decide +kernel
theorem dX7_add_39 : decode cX7_add 39 = .ok (.getfield 100, 3) := by decide +kernel
theorem dX7_add_42 : decode cX7_add 42 = .ok (.iload_n 1, 1) := by decide +kernel
theorem dX7_add_43 : decode cX7_add 43 = .ok (.iastore, 1) := by decide +kernel
theorem dX7_add_44 : decode cX7_add 44 = .ok (.aload_n 0, 1) := by decide +kernel
theorem dX7_add_45 : decode cX7_add 45 = .ok (.getfield 63, 3) := by decide +kernel
theorem dX7_add_48 : decode cX7_add 48 = .ok (.aload_n 0, 1) := by decide +kernel
theorem dX7_add_49 : decode cX7_add 49 = .ok (.getfield 100, 3) := by decide +kernel
theorem dX7_add_52 : decode cX7_add 52 = .ok (.iload_n 2, 1) := by decide +kernel
theorem dX7_add_53 : decode cX7_add 53 = .ok (.iastore, 1) := by decide +kernel
theorem dX7_add_54 : decode cX7_add 54 = .ok (.aload_n 0, 1) := by decide +kernel
theorem dX7_add_55 : decode cX7_add 55 = .ok (.dup, 1) := by decide +kernel
theorem dX7_add_56 : decode cX7_add 56 = .ok (.getfield 100, 3) := by decide +kernel
theorem dX7_add_59 : decode cX7_add 59 = .ok (.iconst 1, 1) := by decide +kernel
theorem dX7_add_60 : decode cX7_add 60 = .ok (.iadd, 1) := by decide +kernel
theorem dX7_add_61 : decode cX7_add 61 = .ok (.putfield 100, 3) := by decide +kernel
theorem dX7_add_64 : decode cX7_add 64 = .ok (.return_, 1) := by decide +kernel
theorem dX7_load_0 : decode cX7_load 0 = .ok (.iconst 0, 1) := by decide +kernel
theorem dX7_load_1 : decode cX7_load 1 = .ok (.istore_n 2, 1) := by decide +kernel
theorem dX7_load_2 : decode cX7_load 2 = .ok (.iload_n 2, 1) := by decide +kernel
theorem dX7_load_3 : decode cX7_load 3 = .ok (.bipush 14, 2) := by decide +kernel
theorem dX7_load_5 : decode cX7_load 5 = .ok (.if_icmp .ge 26, 3) := by decide +kernel
theorem dX7_load_8 : decode cX7_load 8 = .ok (.aload_n 0, 1) := by decide +kernel
theorem dX7_load_9 : decode cX7_load 9 = .ok (.getfield 47, 3) := by decide +kernel
theorem dX7_load_12 : decode cX7_load 12 = .ok (.iload_n 2, 1) := by decide +kernel
theorem dX7_load_13 : decode cX7_load 13 = .ok (.aload_n 0, 1) := by decide +kernel
theorem dX7_load_14 : decode cX7_load 14 = .ok (.getfield 57, 3) := by decide +kernel
theorem dX7_load_17 : decode cX7_load 17 = .ok (.bipush 14, 2) := by decide +kernel
theorem dX7_load_19 : decode cX7_load 19 = .ok (.iload_n 1, 1) := by decide +kernel
theorem dX7_load_20 : decode cX7_load 20 = .ok (.imul, 1) := by decide +kernel
theorem dX7_load_21 : decode cX7_load 21 = .ok (.iload_n 2, 1) := by decide +kernel
theorem dX7_load_22 : decode cX7_load 22 = .ok (.iadd, 1) := by decide +kernel
theorem dX7_load_23 : decode cX7_load 23 = .ok (.iaload, 1) := by decide +kernel
theorem dX7_load_24 : decode cX7_load 24 = .ok (.iastore, 1) := by decide +kernel
theorem dX7_load_25 : decode cX7_load 25 = .ok (.iinc 2 1, 3) := by decide +kernel
theorem dX7_load_28 : decode cX7_load 28 = .ok (.goto (-26), 3) := by decide +kernel
theorem dX7_load_31 : decode cX7_load 31 = .ok (.return_, 1) := by decide +kernel
theorem dX7_tellRow_0 : decode cX7_tellRow 0 = .ok (.aload_n 0, 1) := by decide +kernel
theorem dX7_tellRow_1 : decode cX7_tellRow 1 = .ok (.iconst 1, 1) := by decide +kernel
theorem dX7_tellRow_2 : decode cX7_tellRow 2 = .ok (.putfield 162, 3) := by decide +kernel
theorem dX7_tellRow_5 : decode cX7_tellRow 5 = .ok (.iload_n 1, 1) := by decide +kernel
theorem dX7_tellRow_6 : decode cX7_tellRow 6 = .ok (.istore_n 3, 1) := by decide +kernel
theorem dX7_tellRow_7 : decode cX7_tellRow 7 = .ok (.iload_n 3, 1) := by decide +kernel
theorem dX7_tellRow_8 : decode cX7_tellRow 8 = .ok (.ifCond .le 23, 3) := by decide +kernel
theorem dX7_tellRow_11 : decode cX7_tellRow 11 = .ok (.aload_n 0, 1) := by decide +kernel
theorem dX7_tellRow_12 : decode cX7_tellRow 12 = .ok (.dup, 1) := by decide +kernel
theorem dX7_tellRow_13 : decode cX7_tellRow 13 = .ok (.getfield 162, 3) := by decide +kernel
theorem dX7_tellRow_16 : decode cX7_tellRow 16 = .ok (.iconst 1, 1) := by decide +kernel
theorem dX7_tellRow_17 : decode cX7_tellRow 17 = .ok (.iadd, 1) := by decide +kernel
theorem dX7_tellRow_18 : decode cX7_tellRow 18 = .ok (.putfield 162, 3) := by decide +kernel
theorem dX7_tellRow_21 : decode cX7_tellRow 21 = .ok (.aload_n 0, 1) := by decide +kernel
theorem dX7_tellRow_22 : decode cX7_tellRow 22 = .ok (.getfield 60, 3) := by decide +kernel
theorem dX7_tellRow_25 : decode cX7_tellRow 25 = .ok (.iload_n 3, 1) := by decide +kernel
theorem dX7_tellRow_26 : decode cX7_tellRow 26 = .ok (.iaload, 1) := by decide +kernel
theorem dX7_tellRow_27 : decode cX7_tellRow 27 = .ok (.istore_n 3, 1) := by decide +kernel
theorem dX7_tellRow_28 : decode cX7_tellRow 28 = .ok (.goto (-21), 3) := by decide +kernel
theorem dX7_tellRow_31 : decode cX7_tellRow 31 = .ok (.aload_n 0, 1) := by decide +kernel
theorem dX7_tellRow_32 : decode cX7_tellRow 32 = .ok (.getfield 69, 3) := by decide +kernel
theorem dX7_tellRow_35 : decode cX7_tellRow 35 = .ok (.aload_n 0, 1) := by decide +kernel
theorem dX7_tellRow_36 : decode cX7_tellRow 36 = .ok (.getfield 162, 3) := by decide +kernel
theorem dX7_tellRow_39 : decode cX7_tellRow 39 = .ok (.iconst 1, 1) := by decide +kernel
theorem dX7_tellRow_40 : decode cX7_tellRow 40 = .ok (.isub, 1) := by decide +kernel
theorem dX7_tellRow_41 : decode cX7_tellRow 41 = .ok (.iload_n 2, 1) := by decide +kernel
theorem dX7_tellRow_42 : decode cX7_tellRow 42 = .ok (.iastore, 1) := by decide +kernel
theorem dX7_tellRow_43 : decode cX7_tellRow 43 = .ok (.aload_n 0, 1) := by decide +kernel
theorem dX7_tellRow_44 : decode cX7_tellRow 44 = .ok (.getfield 162, 3) := by decide +kernel
theorem dX7_tellRow_47 : decode cX7_tellRow 47 = .ok (.iconst 2, 1) := by decide +kernel
theorem dX7_tellRow_48 : decode cX7_tellRow 48 = .ok (.isub, 1) := by decide +kernel
theorem dX7_tellRow_49 : decode cX7_tellRow 49 = .ok (.istore_n 3, 1) := by decide +kernel
theorem dX7_tellRow_50 : decode cX7_tellRow 50 = .ok (.iload_n 1, 1) := by decide +kernel
theorem dX7_tellRow_51 : decode cX7_tellRow 51 = .ok (.istore 4, 2) := by decide +kernel
theorem dX7_tellRow_53 : decode cX7_tellRow 53 = .ok (.iload 4, 2) := by decide +kernel
theorem dX7_tellRow_55 : decode cX7_tellRow 55 = .ok (.ifCond .le 31, 3) := by decide +kernel
theorem dX7_tellRow_58 : decode cX7_tellRow 58 = .ok (.aload_n 0, 1) := by decide +kernel
theorem dX7_tellRow_59 : decode cX7_tellRow 59 = .ok (.getfield 69, 3) := by decide +kernel
theorem dX7_tellRow_62 : decode cX7_tellRow 62 = .ok (.iload_n 3, 1) := by decide +kernel
theorem dX7_tellRow_63 : decode cX7_tellRow 63 = .ok (.aload_n 0, 1) := by decide +kernel
theorem dX7_tellRow_64 : decode cX7_tellRow 64 = .ok (.getfield 63, 3) := by decide +kernel
theorem dX7_tellRow_67 : decode cX7_tellRow 67 = .ok (.iload 4, 2) := by decide +kernel
theorem dX7_tellRow_69 : decode cX7_tellRow 69 = .ok (.iaload, 1) := by decide +kernel
theorem dX7_tellRow_70 : decode cX7_tellRow 70 = .ok (.iastore, 1) := by decide +kernel
theorem dX7_tellRow_71 : decode cX7_tellRow 71 = .ok (.iinc 3 (-1), 3) := by decide +kernel
theorem dX7_tellRow_74 : decode cX7_tellRow 74 = .ok (.aload_n 0, 1) := by decide +kernel
theorem dX7_tellRow_75 : decode cX7_tellRow 75 = .ok (.getfield 60, 3) := by decide +kernel
theorem dX7_tellRow_78 : decode cX7_tellRow 78 = .ok (.iload 4, 2) := by decide +kernel
theorem dX7_tellRow_80 : decode cX7_tellRow 80 = .ok (.iaload, 1) := by decide +kernel
theorem dX7_tellRow_81 : decode cX7_tellRow 81 = .ok (.istore 4, 2) := by decide +kernel
theorem dX7_tellRow_83 : decode cX7_tellRow 83 = .ok (.goto (-30), 3) := by decide +kernel
theorem dX7_tellRow_86 : decode cX7_tellRow 86 = .ok (.return_, 1) := by decide +kernel
set_option maxRecDepth 20000 in
theorem ggX7_prove_X7_first : GoodIn wsX7_prove wsX7_first := goodIn_r _ [12, 13, 5, 4, 14, 68, 69, 70, 71, 72, 73, 74, 75, 76, 77, 78, 79, 80, 81, 82, 83, 84, 85, 86, 87, 88, 89, 90, 91, 92, 93, 94, 95, 96, 97, 98] (by decide +kernel) (by decide +kernel)
set_option maxRecDepth 20000 in
theorem gX7_prove_X7_first : GoodIn wsX7_prove (wsV RX7 103 RX7 yX7_first wsX7_first) := goodIn_app (goodIn_of _ (by decide +kernel)) ggX7_prove_X7_first
set_option maxRecDepth 20000 in
theorem ggX7_prove_X7_add : GoodIn wsX7_prove wsX7_add := goodIn_r _ [18, 19, 3, 13, 20, 21, 68, 69, 70, 71, 72, 73, 74, 75, 76, 77, 78, 79, 80, 81, 82, 83, 84, 85, 86, 87, 88, 89, 90, 91, 92, 93, 94, 95, 96, 97, 98] (by decide +kernel) (by decide +kernel)
set_option maxRecDepth 20000 in
theorem gX7_prove_X7_add : GoodIn wsX7_prove (wsV RX7 168 RX7 yX7_add wsX7_add) := goodIn_app (goodIn_of _ (by decide +kernel)) ggX7_prove_X7_add
set_option maxRecDepth 20000 in
theorem ggX7_prove_X7_load : GoodIn wsX7_prove wsX7_load := goodIn_r _ [25, 13, 19, 68, 69, 70, 71, 72, 73, 74, 75, 76, 77, 78, 79, 80, 81, 82, 83, 84, 85, 86, 87, 88, 89, 90, 91, 92, 93, 94, 95, 96, 97, 98] (by decide +kernel) (by decide +kernel)
set_option maxRecDepth 20000 in
theorem gX7_prove_X7_load : GoodIn wsX7_prove (wsV RX7 172 RX7 yX7_load wsX7_load) := goodIn_app (goodIn_of _ (by decide +kernel)) ggX7_prove_X7_load
set_option maxRecDepth 20000 in
theorem ggX7_prove_X7_go : GoodIn wsX7_prove wsX7_go := goodIn_r _ [29, 30, 13, 5, 14, 31, 32, 33, 34, 35, 11, 36, 37, 38, 39, 40, 41, 42, 43, 44, 45, 46, 47, 48, 49, 50, 51, 52, 53, 54, 55, 56, 57, 68, 69, 70, 71, 72, 73, 74, 75, 76, 77, 78, 79, 80, 81, 82, 83, 84, 85, 86, 87, 88, 89, 90, 91, 92, 93, 94, 95, 96, 97, 98] (by decide +kernel) (by decide +kernel)
set_option maxRecDepth 20000 in
theorem gX7_prove_X7_go : GoodIn wsX7_prove (wsV RX7 156 RX7 yX7_go wsX7_go) := goodIn_app (goodIn_of _ (by decide +kernel)) ggX7_prove_X7_go
set_option maxRecDepth 20000 in
theorem ggX7_prove_X7_tellRow : GoodIn wsX7_prove wsX7_tellRow := goodIn_r _ [61, 62, 20, 63, 21, 68, 69, 70, 71, 72, 73, 74, 75, 76, 77, 78, 79, 80, 81, 82, 83, 84, 85, 86, 87, 88, 89, 90, 91, 92, 93, 94, 95, 96, 97, 98] (by decide +kernel) (by decide +kernel)
set_option maxRecDepth 20000 in
theorem gX7_prove_X7_tellRow : GoodIn wsX7_prove (wsV RX7 175 RX7 yX7_tellRow wsX7_tellRow) := goodIn_app (goodIn_of _ (by decide +kernel)) ggX7_prove_X7_tellRow
set_option maxRecDepth 20000 in
theorem ggX7_prove_X7_find : GoodIn wsX7_prove wsX7_find := goodIn_r _ [67, 3, 19, 13, 68, 69, 70, 71, 72, 73, 74, 75, 76, 77, 78, 79, 80, 81, 82, 83, 84, 85, 86, 87, 88, 89, 90, 91, 92, 93, 94, 95, 96, 97, 98] (by decide +kernel) (by decide +kernel)
set_option maxRecDepth 20000 in
theorem gX7_prove_X7_find : GoodIn wsX7_prove (wsV RX7 159 RX7 yX7_find wsX7_find) := goodIn_app (goodIn_of _ (by decide +kernel)) ggX7_prove_X7_find
theorem dX7_prove_0 : decode cX7_prove 0 = .ok (.aload_n 0, 1) := by decide +kernel
theorem dX7_prove_1 : decode cX7_prove 1 = .ok (.iconst 0, 1) := by decide +kernel
theorem dX7_prove_2 : decode cX7_prove 2 = .ok (.putfield 79, 3) := by decide +kernel
theorem dX7_prove_5 : decode cX7_prove 5 = .ok (.aload_n 0, 1) := by decide +kernel
theorem dX7_prove_6 : decode cX7_prove 6 = .ok (.iconst (-1), 1) := by decide +kernel
theorem dX7_prove_7 : decode cX7_prove 7 = .ok (.putfield 53, 3) := by decide +kernel
theorem dX7_prove_10 : decode cX7_prove 10 = .ok (.aload_n 0, 1) := by decide +kernel
theorem dX7_prove_11 : decode cX7_prove 11 = .ok (.iconst 0, 1) := by decide +kernel
theorem dX7_prove_12 : decode cX7_prove 12 = .ok (.putfield 100, 3) := by decide +kernel
theorem dX7_prove_15 : decode cX7_prove 15 = .ok (.iload_n 1, 1) := by decide +kernel
theorem dX7_prove_16 : decode cX7_prove 16 = .ok (.iconst 1, 1) := by decide +kernel
theorem dX7_prove_17 : decode cX7_prove 17 = .ok (.if_icmp .lt 17, 3) := by decide +kernel
theorem dX7_prove_20 : decode cX7_prove 20 = .ok (.iload_n 1, 1) := by decide +kernel
theorem dX7_prove_21 : decode cX7_prove 21 = .ok (.sipush 400, 3) := by decide +kernel
theorem dX7_prove_24 : decode cX7_prove 24 = .ok (.if_icmp .gt 10, 3) := by decide +kernel
theorem dX7_prove_27 : decode cX7_prove 27 = .ok (.aload_n 0, 1) := by decide +kernel
theorem dX7_prove_28 : decode cX7_prove 28 = .ok (.getfield 85, 3) := by decide +kernel
theorem dX7_prove_31 : decode cX7_prove 31 = .ok (.ifCond .ne 5, 3) := by decide +kernel
theorem dX7_prove_34 : decode cX7_prove 34 = .ok (.iconst (-1), 1) := by decide +kernel
theorem dX7_prove_35 : decode cX7_prove 35 = .ok (.ireturn, 1) := by decide +kernel
theorem dX7_prove_36 : decode cX7_prove 36 = .ok (.aload_n 0, 1) := by decide +kernel
theorem dX7_prove_37 : decode cX7_prove 37 = .ok (.iconst 1, 1) := by decide +kernel
theorem dX7_prove_38 : decode cX7_prove 38 = .ok (.aload_n 0, 1) := by decide +kernel
theorem dX7_prove_39 : decode cX7_prove 39 = .ok (.getfield 82, 3) := by decide +kernel
theorem dX7_prove_42 : decode cX7_prove 42 = .ok (.iadd, 1) := by decide +kernel
theorem dX7_prove_43 : decode cX7_prove 43 = .ok (.aload_n 0, 1) := by decide +kernel
theorem dX7_prove_44 : decode cX7_prove 44 = .ok (.getfield 85, 3) := by decide +kernel
theorem dX7_prove_47 : decode cX7_prove 47 = .ok (.iadd, 1) := by decide +kernel
theorem dX7_prove_48 : decode cX7_prove 48 = .ok (.putfield 165, 3) := by decide +kernel
theorem dX7_prove_51 : decode cX7_prove 51 = .ok (.aload_n 0, 1) := by decide +kernel
theorem dX7_prove_52 : decode cX7_prove 52 = .ok (.invokevirtual 103, 3) := by decide +kernel
theorem dX7_prove_55 : decode cX7_prove 55 = .ok (.aload_n 0, 1) := by decide +kernel
theorem dX7_prove_56 : decode cX7_prove 56 = .ok (.iconst 0, 1) := by decide +kernel
theorem dX7_prove_57 : decode cX7_prove 57 = .ok (.iconst 0, 1) := by decide +kernel
theorem dX7_prove_58 : decode cX7_prove 58 = .ok (.invokevirtual 168, 3) := by decide +kernel
theorem dX7_prove_61 : decode cX7_prove 61 = .ok (.iconst 0, 1) := by decide +kernel
theorem dX7_prove_62 : decode cX7_prove 62 = .ok (.istore_n 2, 1) := by decide +kernel
theorem dX7_prove_63 : decode cX7_prove 63 = .ok (.iload_n 2, 1) := by decide +kernel
theorem dX7_prove_64 : decode cX7_prove 64 = .ok (.aload_n 0, 1) := by decide +kernel
theorem dX7_prove_65 : decode cX7_prove 65 = .ok (.getfield 100, 3) := by decide +kernel
theorem dX7_prove_68 : decode cX7_prove 68 = .ok (.if_icmp .ge 107, 3) := by decide +kernel
theorem dX7_prove_71 : decode cX7_prove 71 = .ok (.iconst 0, 1) := by decide +kernel
theorem dX7_prove_72 : decode cX7_prove 72 = .ok (.istore_n 3, 1) := by decide +kernel
theorem dX7_prove_73 : decode cX7_prove 73 = .ok (.iload_n 3, 1) := by decide +kernel
theorem dX7_prove_74 : decode cX7_prove 74 = .ok (.aload_n 0, 1) := by decide +kernel
theorem dX7_prove_75 : decode cX7_prove 75 = .ok (.getfield 165, 3) := by decide +kernel
theorem dX7_prove_78 : decode cX7_prove 78 = .ok (.if_icmp .ge 91, 3) := by decide +kernel
theorem dX7_prove_81 : decode cX7_prove 81 = .ok (.aload_n 0, 1) := by decide +kernel
theorem dX7_prove_82 : decode cX7_prove 82 = .ok (.iload_n 2, 1) := by decide +kernel
theorem dX7_prove_83 : decode cX7_prove 83 = .ok (.invokevirtual 172, 3) := by decide +kernel
theorem dX7_prove_86 : decode cX7_prove 86 = .ok (.aload_n 0, 1) := by decide +kernel
theorem dX7_prove_87 : decode cX7_prove 87 = .ok (.iload_n 3, 1) := by decide +kernel
theorem dX7_prove_88 : decode cX7_prove 88 = .ok (.invokevirtual 156, 3) := by decide +kernel
theorem dX7_prove_91 : decode cX7_prove 91 = .ok (.ifCond .le 16, 3) := by decide +kernel
theorem dX7_prove_94 : decode cX7_prove 94 = .ok (.aload_n 0, 1) := by decide +kernel
theorem dX7_prove_95 : decode cX7_prove 95 = .ok (.iload_n 2, 1) := by decide +kernel
theorem dX7_prove_96 : decode cX7_prove 96 = .ok (.iload_n 3, 1) := by decide +kernel
theorem dX7_prove_97 : decode cX7_prove 97 = .ok (.invokevirtual 175, 3) := by decide +kernel
theorem dX7_prove_100 : decode cX7_prove 100 = .ok (.aload_n 0, 1) := by decide +kernel
theorem dX7_prove_101 : decode cX7_prove 101 = .ok (.iconst 0, 1) := by decide +kernel
theorem dX7_prove_102 : decode cX7_prove 102 = .ok (.putfield 53, 3) := by decide +kernel
theorem dX7_prove_105 : decode cX7_prove 105 = .ok (.iconst 0, 1) := by decide +kernel
theorem dX7_prove_106 : decode cX7_prove 106 = .ok (.ireturn, 1) := by decide +kernel
theorem dX7_prove_107 : decode cX7_prove 107 = .ok (.aload_n 0, 1) := by decide +kernel
theorem dX7_prove_108 : decode cX7_prove 108 = .ok (.invokevirtual 159, 3) := by decide +kernel
theorem dX7_prove_111 : decode cX7_prove 111 = .ok (.istore 4, 2) := by decide +kernel
theorem dX7_prove_113 : decode cX7_prove 113 = .ok (.iload 4, 2) := by decide +kernel
theorem dX7_prove_115 : decode cX7_prove 115 = .ok (.ifCond .ge 18, 3) := by decide +kernel
theorem dX7_prove_118 : decode cX7_prove 118 = .ok (.aload_n 0, 1) := by decide +kernel
theorem dX7_prove_119 : decode cX7_prove 119 = .ok (.getfield 100, 3) := by decide +kernel
theorem dX7_prove_122 : decode cX7_prove 122 = .ok (.iload_n 1, 1) := by decide +kernel
theorem dX7_prove_123 : decode cX7_prove 123 = .ok (.if_icmp .ne 10, 3) := by decide +kernel
theorem dX7_prove_126 : decode cX7_prove 126 = .ok (.aload_n 0, 1) := by decide +kernel
theorem dX7_prove_127 : decode cX7_prove 127 = .ok (.iconst 2, 1) := by decide +kernel
theorem dX7_prove_128 : decode cX7_prove 128 = .ok (.putfield 53, 3) := by decide +kernel
theorem dX7_prove_131 : decode cX7_prove 131 = .ok (.iconst 2, 1) := by decide +kernel
theorem dX7_prove_132 : decode cX7_prove 132 = .ok (.ireturn, 1) := by decide +kernel
theorem dX7_prove_133 : decode cX7_prove 133 = .ok (.iload 4, 2) := by decide +kernel
theorem dX7_prove_135 : decode cX7_prove 135 = .ok (.ifCond .ge 15, 3) := by decide +kernel
theorem dX7_prove_138 : decode cX7_prove 138 = .ok (.aload_n 0, 1) := by decide +kernel
theorem dX7_prove_139 : decode cX7_prove 139 = .ok (.getfield 100, 3) := by decide +kernel
theorem dX7_prove_142 : decode cX7_prove 142 = .ok (.istore 4, 2) := by decide +kernel
theorem dX7_prove_144 : decode cX7_prove 144 = .ok (.aload_n 0, 1) := by decide +kernel
theorem dX7_prove_145 : decode cX7_prove 145 = .ok (.iload_n 2, 1) := by decide +kernel
theorem dX7_prove_146 : decode cX7_prove 146 = .ok (.iload_n 3, 1) := by decide +kernel
theorem dX7_prove_147 : decode cX7_prove 147 = .ok (.invokevirtual 168, 3) := by decide +kernel
theorem dX7_prove_150 : decode cX7_prove 150 = .ok (.aload_n 0, 1) := by decide +kernel
theorem dX7_prove_151 : decode cX7_prove 151 = .ok (.getfield 66, 3) := by decide +kernel
theorem dX7_prove_154 : decode cX7_prove 154 = .ok (.bipush 10, 2) := by decide +kernel
theorem dX7_prove_156 : decode cX7_prove 156 = .ok (.iload_n 2, 1) := by decide +kernel
theorem dX7_prove_157 : decode cX7_prove 157 = .ok (.imul, 1) := by decide +kernel
theorem dX7_prove_158 : decode cX7_prove 158 = .ok (.iload_n 3, 1) := by decide +kernel
theorem dX7_prove_159 : decode cX7_prove 159 = .ok (.iadd, 1) := by decide +kernel
theorem dX7_prove_160 : decode cX7_prove 160 = .ok (.iload 4, 2) := by decide +kernel
theorem dX7_prove_162 : decode cX7_prove 162 = .ok (.iastore, 1) := by decide +kernel
theorem dX7_prove_163 : decode cX7_prove 163 = .ok (.iinc 3 1, 3) := by decide +kernel
theorem dX7_prove_166 : decode cX7_prove 166 = .ok (.goto (-93), 3) := by decide +kernel
theorem dX7_prove_169 : decode cX7_prove 169 = .ok (.iinc 2 1, 3) := by decide +kernel
theorem dX7_prove_172 : decode cX7_prove 172 = .ok (.goto (-109), 3) := by decide +kernel
theorem dX7_prove_175 : decode cX7_prove 175 = .ok (.aload_n 0, 1) := by decide +kernel
theorem dX7_prove_176 : decode cX7_prove 176 = .ok (.iconst 1, 1) := by decide +kernel
theorem dX7_prove_177 : decode cX7_prove 177 = .ok (.putfield 53, 3) := by decide +kernel
theorem dX7_prove_180 : decode cX7_prove 180 = .ok (.iconst 1, 1) := by decide +kernel
theorem dX7_prove_181 : decode cX7_prove 181 = .ok (.ireturn, 1) := by decide +kernel
theorem dX7_states_0 : decode cX7_states 0 = .ok (.aload_n 0, 1) := by decide +kernel
theorem dX7_states_1 : decode cX7_states 1 = .ok (.iconst 0, 1) := by decide +kernel
theorem dX7_states_2 : decode cX7_states 2 = .ok (.putfield 79, 3) := by decide +kernel
theorem dX7_states_5 : decode cX7_states 5 = .ok (.aload_n 0, 1) := by decide +kernel
theorem dX7_states_6 : decode cX7_states 6 = .ok (.getfield 100, 3) := by decide +kernel
theorem dX7_states_9 : decode cX7_states 9 = .ok (.ireturn, 1) := by decide +kernel
set_option maxRecDepth 20000 in
theorem ggX7_row_X7_first : GoodIn wsX7_row wsX7_first := goodIn_r _ [10, 5, 11, 12, 13, 46, 47, 48, 49, 50, 51, 52, 53, 54, 55, 56, 57, 58, 59, 60, 61, 62, 63, 64, 65, 66, 67, 68, 69, 70, 71, 72, 73, 74, 75, 76] (by decide +kernel) (by decide +kernel)
set_option maxRecDepth 20000 in
theorem gX7_row_X7_first : GoodIn wsX7_row (wsV RX7 103 RX7 yX7_first wsX7_first) := goodIn_app (goodIn_of _ (by decide +kernel)) ggX7_row_X7_first
set_option maxRecDepth 20000 in
theorem ggX7_row_X7_go : GoodIn wsX7_row wsX7_go := goodIn_r _ [17, 18, 5, 11, 13, 19, 20, 21, 22, 23, 9, 24, 25, 26, 27, 28, 29, 30, 31, 32, 33, 34, 35, 36, 37, 38, 39, 40, 41, 42, 43, 44, 45, 46, 47, 48, 49, 50, 51, 52, 53, 54, 55, 56, 57, 58, 59, 60, 61, 62, 63, 64, 65, 66, 67, 68, 69, 70, 71, 72, 73, 74, 75, 76] (by decide +kernel) (by decide +kernel)
set_option maxRecDepth 20000 in
theorem gX7_row_X7_go : GoodIn wsX7_row (wsV RX7 156 RX7 yX7_go wsX7_go) := goodIn_app (goodIn_of _ (by decide +kernel)) ggX7_row_X7_go
set_option maxRecDepth 20000 in
theorem ggX7_row_X7_shownNow : GoodIn wsX7_row wsX7_shownNow := goodIn_r _ [24, 5, 25, 26, 27, 9, 28, 13, 46, 47, 48, 49, 50, 51, 52, 53, 54, 55, 56, 57, 58, 59, 60, 61, 62, 63, 64, 65, 66, 67, 68, 69, 70, 71, 72, 73, 74, 75, 76] (by decide +kernel) (by decide +kernel)
set_option maxRecDepth 20000 in
theorem gX7_row_X7_shownNow : GoodIn wsX7_row (wsV RX7 136 RX7 yX7_shownNow wsX7_shownNow) := goodIn_app (goodIn_of _ (by decide +kernel)) ggX7_row_X7_shownNow
theorem dX7_row_0 : decode cX7_row 0 = .ok (.aload_n 0, 1) := by decide +kernel
theorem dX7_row_1 : decode cX7_row 1 = .ok (.iconst 0, 1) := by decide +kernel
theorem dX7_row_2 : decode cX7_row 2 = .ok (.putfield 79, 3) := by decide +kernel
theorem dX7_row_5 : decode cX7_row 5 = .ok (.aload_n 0, 1) := by decide +kernel
theorem dX7_row_6 : decode cX7_row 6 = .ok (.getfield 53, 3) := by decide +kernel
theorem dX7_row_9 : decode cX7_row 9 = .ok (.ifCond .ne 25, 3) := by decide +kernel
theorem dX7_row_12 : decode cX7_row 12 = .ok (.iload_n 1, 1) := by decide +kernel
theorem dX7_row_13 : decode cX7_row 13 = .ok (.ifCond .lt 21, 3) := by decide +kernel
theorem dX7_row_16 : decode cX7_row 16 = .ok (.iload_n 1, 1) := by decide +kernel
theorem dX7_row_17 : decode cX7_row 17 = .ok (.aload_n 0, 1) := by decide +kernel
theorem dX7_row_18 : decode cX7_row 18 = .ok (.getfield 162, 3) := by decide +kernel
theorem dX7_row_21 : decode cX7_row 21 = .ok (.if_icmp .ge 13, 3) := by decide +kernel
theorem dX7_row_24 : decode cX7_row 24 = .ok (.iload_n 2, 1) := by decide +kernel
theorem dX7_row_25 : decode cX7_row 25 = .ok (.ifCond .lt 9, 3) := by decide +kernel
theorem dX7_row_28 : decode cX7_row 28 = .ok (.iload_n 2, 1) := by decide +kernel
theorem dX7_row_29 : decode cX7_row 29 = .ok (.bipush 6, 2) := by decide +kernel
theorem dX7_row_31 : decode cX7_row 31 = .ok (.if_icmp .le 5, 3) := by decide +kernel
theorem dX7_row_34 : decode cX7_row 34 = .ok (.iconst (-1), 1) := by decide +kernel
theorem dX7_row_35 : decode cX7_row 35 = .ok (.ireturn, 1) := by decide +kernel
theorem dX7_row_36 : decode cX7_row 36 = .ok (.aload_n 0, 1) := by decide +kernel
theorem dX7_row_37 : decode cX7_row 37 = .ok (.invokevirtual 103, 3) := by decide +kernel
theorem dX7_row_40 : decode cX7_row 40 = .ok (.iconst 0, 1) := by decide +kernel
theorem dX7_row_41 : decode cX7_row 41 = .ok (.istore_n 3, 1) := by decide +kernel
theorem dX7_row_42 : decode cX7_row 42 = .ok (.iconst 0, 1) := by decide +kernel
theorem dX7_row_43 : decode cX7_row 43 = .ok (.istore 4, 2) := by decide +kernel
theorem dX7_row_45 : decode cX7_row 45 = .ok (.iload 4, 2) := by decide +kernel
theorem dX7_row_47 : decode cX7_row 47 = .ok (.iload_n 1, 1) := by decide +kernel
theorem dX7_row_48 : decode cX7_row 48 = .ok (.if_icmp .gt 21, 3) := by decide +kernel
theorem dX7_row_51 : decode cX7_row 51 = .ok (.aload_n 0, 1) := by decide +kernel
theorem dX7_row_52 : decode cX7_row 52 = .ok (.aload_n 0, 1) := by decide +kernel
theorem dX7_row_53 : decode cX7_row 53 = .ok (.getfield 69, 3) := by decide +kernel
theorem dX7_row_56 : decode cX7_row 56 = .ok (.iload 4, 2) := by decide +kernel
theorem dX7_row_58 : decode cX7_row 58 = .ok (.iaload, 1) := by decide +kernel
theorem dX7_row_59 : decode cX7_row 59 = .ok (.invokevirtual 156, 3) := by decide +kernel
theorem dX7_row_62 : decode cX7_row 62 = .ok (.istore_n 3, 1) := by decide +kernel
theorem dX7_row_63 : decode cX7_row 63 = .ok (.iinc 4 1, 3) := by decide +kernel
theorem dX7_row_66 : decode cX7_row 66 = .ok (.goto (-21), 3) := by decide +kernel
theorem dX7_row_69 : decode cX7_row 69 = .ok (.iload_n 2, 1) := by decide +kernel
theorem dX7_row_70 : decode cX7_row 70 = .ok (.tableswitch 79 0 5 #[38, 45, 52, 59, 64, 71], 38) := by decide +kernel
theorem dX7_row_108 : decode cX7_row 108 = .ok (.aload_n 0, 1) := by decide +kernel
theorem dX7_row_109 : decode cX7_row 109 = .ok (.getfield 69, 3) := by decide +kernel
theorem dX7_row_112 : decode cX7_row 112 = .ok (.iload_n 1, 1) := by decide +kernel
theorem dX7_row_113 : decode cX7_row 113 = .ok (.iaload, 1) := by decide +kernel
theorem dX7_row_114 : decode cX7_row 114 = .ok (.ireturn, 1) := by decide +kernel
theorem dX7_row_115 : decode cX7_row 115 = .ok (.aload_n 0, 1) := by decide +kernel
theorem dX7_row_116 : decode cX7_row 116 = .ok (.getfield 47, 3) := by decide +kernel
theorem dX7_row_119 : decode cX7_row 119 = .ok (.iconst 0, 1) := by decide +kernel
theorem dX7_row_120 : decode cX7_row 120 = .ok (.iaload, 1) := by decide +kernel
theorem dX7_row_121 : decode cX7_row 121 = .ok (.ireturn, 1) := by decide +kernel
theorem dX7_row_122 : decode cX7_row 122 = .ok (.aload_n 0, 1) := by decide +kernel
theorem dX7_row_123 : decode cX7_row 123 = .ok (.getfield 47, 3) := by decide +kernel
theorem dX7_row_126 : decode cX7_row 126 = .ok (.iconst 1, 1) := by decide +kernel
theorem dX7_row_127 : decode cX7_row 127 = .ok (.iaload, 1) := by decide +kernel
theorem dX7_row_128 : decode cX7_row 128 = .ok (.ireturn, 1) := by decide +kernel
theorem dX7_row_129 : decode cX7_row 129 = .ok (.aload_n 0, 1) := by decide +kernel
theorem dX7_row_130 : decode cX7_row 130 = .ok (.invokevirtual 136, 3) := by decide +kernel
theorem dX7_row_133 : decode cX7_row 133 = .ok (.ireturn, 1) := by decide +kernel
theorem dX7_row_134 : decode cX7_row 134 = .ok (.aload_n 0, 1) := by decide +kernel
theorem dX7_row_135 : decode cX7_row 135 = .ok (.getfield 47, 3) := by decide +kernel
theorem dX7_row_138 : decode cX7_row 138 = .ok (.iconst 3, 1) := by decide +kernel
theorem dX7_row_139 : decode cX7_row 139 = .ok (.iaload, 1) := by decide +kernel
theorem dX7_row_140 : decode cX7_row 140 = .ok (.ireturn, 1) := by decide +kernel
theorem dX7_row_141 : decode cX7_row 141 = .ok (.aload_n 0, 1) := by decide +kernel
theorem dX7_row_142 : decode cX7_row 142 = .ok (.getfield 47, 3) := by decide +kernel
theorem dX7_row_145 : decode cX7_row 145 = .ok (.bipush 7, 2) := by decide +kernel
theorem dX7_row_147 : decode cX7_row 147 = .ok (.iaload, 1) := by decide +kernel
theorem dX7_row_148 : decode cX7_row 148 = .ok (.ireturn, 1) := by decide +kernel
theorem dX7_row_149 : decode cX7_row 149 = .ok (.iload_n 3, 1) := by decide +kernel
theorem dX7_row_150 : decode cX7_row 150 = .ok (.ireturn, 1) := by decide +kernel
theorem dX7_waitsIn_0 : decode cX7_waitsIn 0 = .ok (.aload_n 0, 1) := by decide +kernel
theorem dX7_waitsIn_1 : decode cX7_waitsIn 1 = .ok (.getfield 57, 3) := by decide +kernel
theorem dX7_waitsIn_4 : decode cX7_waitsIn 4 = .ok (.bipush 14, 2) := by decide +kernel
theorem dX7_waitsIn_6 : decode cX7_waitsIn 6 = .ok (.iload_n 1, 1) := by decide +kernel
theorem dX7_waitsIn_7 : decode cX7_waitsIn 7 = .ok (.imul, 1) := by decide +kernel
theorem dX7_waitsIn_8 : decode cX7_waitsIn 8 = .ok (.bipush 7, 2) := by decide +kernel
theorem dX7_waitsIn_10 : decode cX7_waitsIn 10 = .ok (.iadd, 1) := by decide +kernel
theorem dX7_waitsIn_11 : decode cX7_waitsIn 11 = .ok (.iaload, 1) := by decide +kernel
theorem dX7_waitsIn_12 : decode cX7_waitsIn 12 = .ok (.iload_n 2, 1) := by decide +kernel
theorem dX7_waitsIn_13 : decode cX7_waitsIn 13 = .ok (.ishr, 1) := by decide +kernel
theorem dX7_waitsIn_14 : decode cX7_waitsIn 14 = .ok (.iconst 1, 1) := by decide +kernel
theorem dX7_waitsIn_15 : decode cX7_waitsIn 15 = .ok (.iand, 1) := by decide +kernel
theorem dX7_waitsIn_16 : decode cX7_waitsIn 16 = .ok (.iconst 1, 1) := by decide +kernel
theorem dX7_waitsIn_17 : decode cX7_waitsIn 17 = .ok (.if_icmp .ne 7, 3) := by decide +kernel
theorem dX7_waitsIn_20 : decode cX7_waitsIn 20 = .ok (.iconst 1, 1) := by decide +kernel
theorem dX7_waitsIn_21 : decode cX7_waitsIn 21 = .ok (.goto 4, 3) := by decide +kernel
