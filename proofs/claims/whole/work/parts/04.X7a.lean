set_option maxRecDepth 20000 in
theorem ggX7_init_X7_begin : GoodIn wsX7_init wsX7_begin := goodIn_r _ [31, 32, 33, 5, 7, 8, 9, 34, 35, 36, 37, 38, 30, 39, 40, 41, 20, 42, 17, 18, 43, 44, 45, 46, 11, 47, 48, 49, 50, 51, 52, 53, 54, 55, 56, 57, 58, 59, 60, 61, 62, 63, 64, 65, 66, 67, 68, 69, 70, 71, 72, 73, 74, 75, 76, 77] (by decide +kernel) (by decide +kernel)
set_option maxRecDepth 20000 in
theorem gX7_init_X7_begin : GoodIn wsX7_init (wsV RX7 75 RX7 yX7_begin wsX7_begin) := goodIn_app (goodIn_of _ (by decide +kernel)) ggX7_init_X7_begin
theorem dX7_init_0 : decode cX7_init 0 = .ok (.aload_n 0, 1) := by decide +kernel
theorem dX7_init_1 : decode cX7_init 1 = .ok (.invokespecial 1, 3) := by decide +kernel
theorem dX7_init_4 : decode cX7_init 4 = .ok (.aload_n 0, 1) := by decide +kernel
theorem dX7_init_5 : decode cX7_init 5 = .ok (.bipush 36, 2) := by decide +kernel
theorem dX7_init_7 : decode cX7_init 7 = .ok (.newarray .boolean, 2) := by decide +kernel
theorem dX7_init_9 : decode cX7_init 9 = .ok (.putfield 7, 3) := by decide +kernel
theorem dX7_init_12 : decode cX7_init 12 = .ok (.aload_n 0, 1) := by decide +kernel
theorem dX7_init_13 : decode cX7_init 13 = .ok (.bipush 36, 2) := by decide +kernel
theorem dX7_init_15 : decode cX7_init 15 = .ok (.newarray .int, 2) := by decide +kernel
theorem dX7_init_17 : decode cX7_init 17 = .ok (.putfield 13, 3) := by decide +kernel
theorem dX7_init_20 : decode cX7_init 20 = .ok (.aload_n 0, 1) := by decide +kernel
theorem dX7_init_21 : decode cX7_init 21 = .ok (.bipush 6, 2) := by decide +kernel
theorem dX7_init_23 : decode cX7_init 23 = .ok (.newarray .int, 2) := by decide +kernel
theorem dX7_init_25 : decode cX7_init 25 = .ok (.putfield 17, 3) := by decide +kernel
theorem dX7_init_28 : decode cX7_init 28 = .ok (.aload_n 0, 1) := by decide +kernel
theorem dX7_init_29 : decode cX7_init 29 = .ok (.bipush 6, 2) := by decide +kernel
theorem dX7_init_31 : decode cX7_init 31 = .ok (.newarray .int, 2) := by decide +kernel
theorem dX7_init_33 : decode cX7_init 33 = .ok (.putfield 20, 3) := by decide +kernel
theorem dX7_init_36 : decode cX7_init 36 = .ok (.aload_n 0, 1) := by decide +kernel
theorem dX7_init_37 : decode cX7_init 37 = .ok (.iconst 3, 1) := by decide +kernel
theorem dX7_init_38 : decode cX7_init 38 = .ok (.newarray .int, 2) := by decide +kernel
theorem dX7_init_40 : decode cX7_init 40 = .ok (.putfield 23, 3) := by decide +kernel
theorem dX7_init_43 : decode cX7_init 43 = .ok (.aload_n 0, 1) := by decide +kernel
theorem dX7_init_44 : decode cX7_init 44 = .ok (.bipush 15, 2) := by decide +kernel
theorem dX7_init_46 : decode cX7_init 46 = .ok (.newarray .int, 2) := by decide +kernel
theorem dX7_init_48 : decode cX7_init 48 = .ok (.putfield 26, 3) := by decide +kernel
theorem dX7_init_51 : decode cX7_init 51 = .ok (.aload_n 0, 1) := by decide +kernel
theorem dX7_init_52 : decode cX7_init 52 = .ok (.bipush 15, 2) := by decide +kernel
theorem dX7_init_54 : decode cX7_init 54 = .ok (.newarray .int, 2) := by decide +kernel
theorem dX7_init_56 : decode cX7_init 56 = .ok (.putfield 29, 3) := by decide +kernel
theorem dX7_init_59 : decode cX7_init 59 = .ok (.aload_n 0, 1) := by decide +kernel
theorem dX7_init_60 : decode cX7_init 60 = .ok (.bipush 15, 2) := by decide +kernel
theorem dX7_init_62 : decode cX7_init 62 = .ok (.newarray .int, 2) := by decide +kernel
theorem dX7_init_64 : decode cX7_init 64 = .ok (.putfield 32, 3) := by decide +kernel
theorem dX7_init_67 : decode cX7_init 67 = .ok (.aload_n 0, 1) := by decide +kernel
theorem dX7_init_68 : decode cX7_init 68 = .ok (.bipush 60, 2) := by decide +kernel
theorem dX7_init_70 : decode cX7_init 70 = .ok (.newarray .int, 2) := by decide +kernel
theorem dX7_init_72 : decode cX7_init 72 = .ok (.putfield 35, 3) := by decide +kernel
theorem dX7_init_75 : decode cX7_init 75 = .ok (.aload_n 0, 1) := by decide +kernel
theorem dX7_init_76 : decode cX7_init 76 = .ok (.bipush 60, 2) := by decide +kernel
theorem dX7_init_78 : decode cX7_init 78 = .ok (.newarray .int, 2) := by decide +kernel
theorem dX7_init_80 : decode cX7_init 80 = .ok (.putfield 38, 3) := by decide +kernel
theorem dX7_init_83 : decode cX7_init 83 = .ok (.aload_n 0, 1) := by decide +kernel
theorem dX7_init_84 : decode cX7_init 84 = .ok (.bipush 60, 2) := by decide +kernel
theorem dX7_init_86 : decode cX7_init 86 = .ok (.newarray .int, 2) := by decide +kernel
theorem dX7_init_88 : decode cX7_init 88 = .ok (.putfield 41, 3) := by decide +kernel
theorem dX7_init_91 : decode cX7_init 91 = .ok (.aload_n 0, 1) := by decide +kernel
theorem dX7_init_92 : decode cX7_init 92 = .ok (.bipush 14, 2) := by decide +kernel
theorem dX7_init_94 : decode cX7_init 94 = .ok (.newarray .int, 2) := by decide +kernel
theorem dX7_init_96 : decode cX7_init 96 = .ok (.putfield 44, 3) := by decide +kernel
theorem dX7_init_99 : decode cX7_init 99 = .ok (.aload_n 0, 1) := by decide +kernel
theorem dX7_init_100 : decode cX7_init 100 = .ok (.bipush 14, 2) := by decide +kernel
theorem dX7_init_102 : decode cX7_init 102 = .ok (.newarray .int, 2) := by decide +kernel
theorem dX7_init_104 : decode cX7_init 104 = .ok (.putfield 47, 3) := by decide +kernel
theorem dX7_init_107 : decode cX7_init 107 = .ok (.aload_n 0, 1) := by decide +kernel
theorem dX7_init_108 : decode cX7_init 108 = .ok (.bipush 14, 2) := by decide +kernel
theorem dX7_init_110 : decode cX7_init 110 = .ok (.newarray .int, 2) := by decide +kernel
theorem dX7_init_112 : decode cX7_init 112 = .ok (.putfield 50, 3) := by decide +kernel
theorem dX7_init_115 : decode cX7_init 115 = .ok (.aload_n 0, 1) := by decide +kernel
theorem dX7_init_116 : decode cX7_init 116 = .ok (.iconst (-1), 1) := by decide +kernel
theorem dX7_init_117 : decode cX7_init 117 = .ok (.putfield 53, 3) := by decide +kernel
theorem dX7_init_120 : decode cX7_init 120 = .ok (.aload_n 0, 1) := by decide +kernel
theorem dX7_init_121 : decode cX7_init 121 = .ok (.sipush 5600, 3) := by decide +kernel
theorem dX7_init_124 : decode cX7_init 124 = .ok (.newarray .int, 2) := by decide +kernel
theorem dX7_init_126 : decode cX7_init 126 = .ok (.putfield 57, 3) := by decide +kernel
theorem dX7_init_129 : decode cX7_init 129 = .ok (.aload_n 0, 1) := by decide +kernel
theorem dX7_init_130 : decode cX7_init 130 = .ok (.sipush 400, 3) := by decide +kernel
theorem dX7_init_133 : decode cX7_init 133 = .ok (.newarray .int, 2) := by decide +kernel
theorem dX7_init_135 : decode cX7_init 135 = .ok (.putfield 60, 3) := by decide +kernel
theorem dX7_init_138 : decode cX7_init 138 = .ok (.aload_n 0, 1) := by decide +kernel
theorem dX7_init_139 : decode cX7_init 139 = .ok (.sipush 400, 3) := by decide +kernel
theorem dX7_init_142 : decode cX7_init 142 = .ok (.newarray .int, 2) := by decide +kernel
theorem dX7_init_144 : decode cX7_init 144 = .ok (.putfield 63, 3) := by decide +kernel
theorem dX7_init_147 : decode cX7_init 147 = .ok (.aload_n 0, 1) := by decide +kernel
theorem dX7_init_148 : decode cX7_init 148 = .ok (.sipush 4000, 3) := by decide +kernel
theorem dX7_init_151 : decode cX7_init 151 = .ok (.newarray .int, 2) := by decide +kernel
theorem dX7_init_153 : decode cX7_init 153 = .ok (.putfield 66, 3) := by decide +kernel
theorem dX7_init_156 : decode cX7_init 156 = .ok (.aload_n 0, 1) := by decide +kernel
theorem dX7_init_157 : decode cX7_init 157 = .ok (.sipush 402, 3) := by decide +kernel
theorem dX7_init_160 : decode cX7_init 160 = .ok (.newarray .int, 2) := by decide +kernel
theorem dX7_init_162 : decode cX7_init 162 = .ok (.putfield 69, 3) := by decide +kernel
theorem dX7_init_165 : decode cX7_init 165 = .ok (.aload_n 0, 1) := by decide +kernel
theorem dX7_init_166 : decode cX7_init 166 = .ok (.sipush 400, 3) := by decide +kernel
theorem dX7_init_169 : decode cX7_init 169 = .ok (.newarray .int, 2) := by decide +kernel
theorem dX7_init_171 : decode cX7_init 171 = .ok (.putfield 72, 3) := by decide +kernel
theorem dX7_init_174 : decode cX7_init 174 = .ok (.aload_n 0, 1) := by decide +kernel
theorem dX7_init_175 : decode cX7_init 175 = .ok (.iconst 1, 1) := by decide +kernel
theorem dX7_init_176 : decode cX7_init 176 = .ok (.invokevirtual 75, 3) := by decide +kernel
theorem dX7_init_179 : decode cX7_init 179 = .ok (.return_, 1) := by decide +kernel
theorem dX7_thrown_0 : decode cX7_thrown 0 = .ok (.aload_n 0, 1) := by decide +kernel
theorem dX7_thrown_1 : decode cX7_thrown 1 = .ok (.getfield 79, 3) := by decide +kernel
theorem dX7_thrown_4 : decode cX7_thrown 4 = .ok (.ireturn, 1) := by decide +kernel
set_option maxRecDepth 20000 in
theorem ggX7_begin_X7_anew : GoodIn wsX7_begin wsX7_anew := goodIn_r _ [13, 14, 15, 16, 17, 18, 19, 20, 21, 22, 12, 23, 2, 7, 24, 25, 26, 27, 28, 29, 30, 31, 32, 33, 34, 35, 36, 37, 38, 39, 40, 41, 42, 43, 44, 45, 46, 47, 48, 49, 50, 51, 52, 53, 54, 55] (by decide +kernel) (by decide +kernel)
set_option maxRecDepth 20000 in
theorem gX7_begin_X7_anew : GoodIn wsX7_begin (wsV RX7 91 RX7 yX7_anew wsX7_anew) := goodIn_app (goodIn_of _ (by decide +kernel)) ggX7_begin_X7_anew
theorem dX7_begin_0 : decode cX7_begin 0 = .ok (.aload_n 0, 1) := by decide +kernel
theorem dX7_begin_1 : decode cX7_begin 1 = .ok (.iload_n 1, 1) := by decide +kernel
theorem dX7_begin_2 : decode cX7_begin 2 = .ok (.ifCond .ge 7, 3) := by decide +kernel
theorem dX7_begin_5 : decode cX7_begin 5 = .ok (.iconst 1, 1) := by decide +kernel
theorem dX7_begin_6 : decode cX7_begin 6 = .ok (.goto 18, 3) := by decide +kernel
theorem dX7_begin_9 : decode cX7_begin 9 = .ok (.iload_n 1, 1) := by decide +kernel
theorem dX7_begin_10 : decode cX7_begin 10 = .ok (.ifCond .eq 9, 3) := by decide +kernel
theorem dX7_begin_13 : decode cX7_begin 13 = .ok (.iload_n 1, 1) := by decide +kernel
theorem dX7_begin_14 : decode cX7_begin 14 = .ok (.bipush 6, 2) := by decide +kernel
theorem dX7_begin_16 : decode cX7_begin 16 = .ok (.if_icmp .le 7, 3) := by decide +kernel
theorem dX7_begin_19 : decode cX7_begin 19 = .ok (.iconst 2, 1) := by decide +kernel
theorem dX7_begin_20 : decode cX7_begin 20 = .ok (.goto 4, 3) := by decide +kernel
theorem dX7_begin_23 : decode cX7_begin 23 = .ok (.iconst 0, 1) := by decide +kernel
theorem dX7_begin_24 : decode cX7_begin 24 = .ok (.putfield 79, 3) := by decide +kernel
theorem dX7_begin_27 : decode cX7_begin 27 = .ok (.aload_n 0, 1) := by decide +kernel
theorem dX7_begin_28 : decode cX7_begin 28 = .ok (.getfield 79, 3) := by decide +kernel
theorem dX7_begin_31 : decode cX7_begin 31 = .ok (.ifCond .le 4, 3) := by decide +kernel
theorem dX7_begin_34 : decode cX7_begin 34 = .ok (.return_, 1) := by decide +kernel
theorem dX7_begin_35 : decode cX7_begin 35 = .ok (.aload_n 0, 1) := by decide +kernel
theorem dX7_begin_36 : decode cX7_begin 36 = .ok (.iload_n 1, 1) := by decide +kernel
theorem dX7_begin_37 : decode cX7_begin 37 = .ok (.putfield 82, 3) := by decide +kernel
theorem dX7_begin_40 : decode cX7_begin 40 = .ok (.iconst 0, 1) := by decide +kernel
theorem dX7_begin_41 : decode cX7_begin 41 = .ok (.istore_n 2, 1) := by decide +kernel
theorem dX7_begin_42 : decode cX7_begin 42 = .ok (.iload_n 2, 1) := by decide +kernel
theorem dX7_begin_43 : decode cX7_begin 43 = .ok (.bipush 36, 2) := by decide +kernel
theorem dX7_begin_45 : decode cX7_begin 45 = .ok (.if_icmp .ge 23, 3) := by decide +kernel
theorem dX7_begin_48 : decode cX7_begin 48 = .ok (.aload_n 0, 1) := by decide +kernel
theorem dX7_begin_49 : decode cX7_begin 49 = .ok (.getfield 7, 3) := by decide +kernel
theorem dX7_begin_52 : decode cX7_begin 52 = .ok (.iload_n 2, 1) := by decide +kernel
theorem dX7_begin_53 : decode cX7_begin 53 = .ok (.iconst 0, 1) := by decide +kernel
theorem dX7_begin_54 : decode cX7_begin 54 = .ok (.bastore, 1) := by decide +kernel
theorem dX7_begin_55 : decode cX7_begin 55 = .ok (.aload_n 0, 1) := by decide +kernel
theorem dX7_begin_56 : decode cX7_begin 56 = .ok (.getfield 13, 3) := by decide +kernel
theorem dX7_begin_59 : decode cX7_begin 59 = .ok (.iload_n 2, 1) := by decide +kernel
theorem dX7_begin_60 : decode cX7_begin 60 = .ok (.iconst 0, 1) := by decide +kernel
theorem dX7_begin_61 : decode cX7_begin 61 = .ok (.iastore, 1) := by decide +kernel
theorem dX7_begin_62 : decode cX7_begin 62 = .ok (.iinc 2 1, 3) := by decide +kernel
theorem dX7_begin_65 : decode cX7_begin 65 = .ok (.goto (-23), 3) := by decide +kernel
theorem dX7_begin_68 : decode cX7_begin 68 = .ok (.iconst 0, 1) := by decide +kernel
theorem dX7_begin_69 : decode cX7_begin 69 = .ok (.istore_n 2, 1) := by decide +kernel
theorem dX7_begin_70 : decode cX7_begin 70 = .ok (.iload_n 2, 1) := by decide +kernel
theorem dX7_begin_71 : decode cX7_begin 71 = .ok (.bipush 6, 2) := by decide +kernel
theorem dX7_begin_73 : decode cX7_begin 73 = .ok (.if_icmp .ge 24, 3) := by decide +kernel
theorem dX7_begin_76 : decode cX7_begin 76 = .ok (.aload_n 0, 1) := by decide +kernel
theorem dX7_begin_77 : decode cX7_begin 77 = .ok (.getfield 17, 3) := by decide +kernel
theorem dX7_begin_80 : decode cX7_begin 80 = .ok (.iload_n 2, 1) := by decide +kernel
theorem dX7_begin_81 : decode cX7_begin 81 = .ok (.iconst 1, 1) := by decide +kernel
theorem dX7_begin_82 : decode cX7_begin 82 = .ok (.iastore, 1) := by decide +kernel
theorem dX7_begin_83 : decode cX7_begin 83 = .ok (.aload_n 0, 1) := by decide +kernel
theorem dX7_begin_84 : decode cX7_begin 84 = .ok (.getfield 20, 3) := by decide +kernel
theorem dX7_begin_87 : decode cX7_begin 87 = .ok (.iload_n 2, 1) := by decide +kernel
theorem dX7_begin_88 : decode cX7_begin 88 = .ok (.bipush 31, 2) := by decide +kernel
theorem dX7_begin_90 : decode cX7_begin 90 = .ok (.iastore, 1) := by decide +kernel
theorem dX7_begin_91 : decode cX7_begin 91 = .ok (.iinc 2 1, 3) := by decide +kernel
theorem dX7_begin_94 : decode cX7_begin 94 = .ok (.goto (-24), 3) := by decide +kernel
theorem dX7_begin_97 : decode cX7_begin 97 = .ok (.aload_n 0, 1) := by decide +kernel
theorem dX7_begin_98 : decode cX7_begin 98 = .ok (.iconst 0, 1) := by decide +kernel
theorem dX7_begin_99 : decode cX7_begin 99 = .ok (.putfield 85, 3) := by decide +kernel
theorem dX7_begin_102 : decode cX7_begin 102 = .ok (.aload_n 0, 1) := by decide +kernel
theorem dX7_begin_103 : decode cX7_begin 103 = .ok (.iconst 0, 1) := by decide +kernel
theorem dX7_begin_104 : decode cX7_begin 104 = .ok (.putfield 88, 3) := by decide +kernel
theorem dX7_begin_107 : decode cX7_begin 107 = .ok (.aload_n 0, 1) := by decide +kernel
theorem dX7_begin_108 : decode cX7_begin 108 = .ok (.invokevirtual 91, 3) := by decide +kernel
theorem dX7_begin_111 : decode cX7_begin 111 = .ok (.return_, 1) := by decide +kernel
set_option maxRecDepth 20000 in
theorem ggX7_anew_X7_first : GoodIn wsX7_anew wsX7_first := goodIn_r _ [11, 6, 12, 13, 14, 15, 16, 17, 18, 19, 20, 21, 22, 23, 24, 25, 26, 27, 28, 29, 30, 31, 32, 33, 34, 35, 36, 37, 38, 39, 40, 41, 42, 43, 44, 45] (by decide +kernel) (by decide +kernel)
set_option maxRecDepth 20000 in
theorem gX7_anew_X7_first : GoodIn wsX7_anew (wsV RX7 103 RX7 yX7_first wsX7_first) := goodIn_app (goodIn_of _ (by decide +kernel)) ggX7_anew_X7_first
theorem dX7_anew_0 : decode cX7_anew 0 = .ok (.aload_n 0, 1) := by decide +kernel
theorem dX7_anew_1 : decode cX7_anew 1 = .ok (.iconst 0, 1) := by decide +kernel
theorem dX7_anew_2 : decode cX7_anew 2 = .ok (.putfield 94, 3) := by decide +kernel
theorem dX7_anew_5 : decode cX7_anew 5 = .ok (.aload_n 0, 1) := by decide +kernel
theorem dX7_anew_6 : decode cX7_anew 6 = .ok (.iconst 0, 1) := by decide +kernel
theorem dX7_anew_7 : decode cX7_anew 7 = .ok (.putfield 97, 3) := by decide +kernel
theorem dX7_anew_10 : decode cX7_anew 10 = .ok (.aload_n 0, 1) := by decide +kernel
theorem dX7_anew_11 : decode cX7_anew 11 = .ok (.iconst (-1), 1) := by decide +kernel
theorem dX7_anew_12 : decode cX7_anew 12 = .ok (.putfield 53, 3) := by decide +kernel
theorem dX7_anew_15 : decode cX7_anew 15 = .ok (.aload_n 0, 1) := by decide +kernel
theorem dX7_anew_16 : decode cX7_anew 16 = .ok (.iconst 0, 1) := by decide +kernel
theorem dX7_anew_17 : decode cX7_anew 17 = .ok (.putfield 100, 3) := by decide +kernel
theorem dX7_anew_20 : decode cX7_anew 20 = .ok (.aload_n 0, 1) := by decide +kernel
theorem dX7_anew_21 : decode cX7_anew 21 = .ok (.invokevirtual 103, 3) := by decide +kernel
theorem dX7_anew_24 : decode cX7_anew 24 = .ok (.iconst 0, 1) := by decide +kernel
theorem dX7_anew_25 : decode cX7_anew 25 = .ok (.istore_n 1, 1) := by decide +kernel
theorem dX7_anew_26 : decode cX7_anew 26 = .ok (.iload_n 1, 1) := by decide +kernel
theorem dX7_anew_27 : decode cX7_anew 27 = .ok (.bipush 14, 2) := by decide +kernel
theorem dX7_anew_29 : decode cX7_anew 29 = .ok (.if_icmp .ge 21, 3) := by decide +kernel
theorem dX7_anew_32 : decode cX7_anew 32 = .ok (.aload_n 0, 1) := by decide +kernel
theorem dX7_anew_33 : decode cX7_anew 33 = .ok (.getfield 44, 3) := by decide +kernel
theorem dX7_anew_36 : decode cX7_anew 36 = .ok (.iload_n 1, 1) := by decide +kernel
theorem dX7_anew_37 : decode cX7_anew 37 = .ok (.aload_n 0, 1) := by decide +kernel
theorem dX7_anew_38 : decode cX7_anew 38 = .ok (.getfield 47, 3) := by decide +kernel
theorem dX7_anew_41 : decode cX7_anew 41 = .ok (.iload_n 1, 1) := by decide +kernel
theorem dX7_anew_42 : decode cX7_anew 42 = .ok (.iaload, 1) := by decide +kernel
theorem dX7_anew_43 : decode cX7_anew 43 = .ok (.iastore, 1) := by decide +kernel
theorem dX7_anew_44 : decode cX7_anew 44 = .ok (.iinc 1 1, 3) := by decide +kernel
theorem dX7_anew_47 : decode cX7_anew 47 = .ok (.goto (-21), 3) := by decide +kernel
theorem dX7_anew_50 : decode cX7_anew 50 = .ok (.return_, 1) := by decide +kernel
theorem dX7_first_0 : decode cX7_first 0 = .ok (.iconst 0, 1) := by decide +kernel
theorem dX7_first_1 : decode cX7_first 1 = .ok (.istore_n 1, 1) := by decide +kernel
theorem dX7_first_2 : decode cX7_first 2 = .ok (.iload_n 1, 1) := by decide +kernel
theorem dX7_first_3 : decode cX7_first 3 = .ok (.bipush 14, 2) := by decide +kernel
theorem dX7_first_5 : decode cX7_first 5 = .ok (.if_icmp .ge 16, 3) := by decide +kernel
theorem dX7_first_8 : decode cX7_first 8 = .ok (.aload_n 0, 1) := by decide +kernel
theorem dX7_first_9 : decode cX7_first 9 = .ok (.getfield 47, 3) := by decide +kernel
theorem dX7_first_12 : decode cX7_first 12 = .ok (.iload_n 1, 1) := by decide +kernel
theorem dX7_first_13 : decode cX7_first 13 = .ok (.iconst 0, 1) := by decide +kernel
theorem dX7_first_14 : decode cX7_first 14 = .ok (.iastore, 1) := by decide +kernel
theorem dX7_first_15 : decode cX7_first 15 = .ok (.iinc 1 1, 3) := by decide +kernel
theorem dX7_first_18 : decode cX7_first 18 = .ok (.goto (-16), 3) := by decide +kernel
theorem dX7_first_21 : decode cX7_first 21 = .ok (.iconst 0, 1) := by decide +kernel
theorem dX7_first_22 : decode cX7_first 22 = .ok (.istore_n 1, 1) := by decide +kernel
theorem dX7_first_23 : decode cX7_first 23 = .ok (.iload_n 1, 1) := by decide +kernel
theorem dX7_first_24 : decode cX7_first 24 = .ok (.aload_n 0, 1) := by decide +kernel
theorem dX7_first_25 : decode cX7_first 25 = .ok (.getfield 82, 3) := by decide +kernel
theorem dX7_first_28 : decode cX7_first 28 = .ok (.if_icmp .ge 45, 3) := by decide +kernel
theorem dX7_first_31 : decode cX7_first 31 = .ok (.aload_n 0, 1) := by decide +kernel
theorem dX7_first_32 : decode cX7_first 32 = .ok (.getfield 85, 3) := by decide +kernel
theorem dX7_first_35 : decode cX7_first 35 = .ok (.ifCond .le 38, 3) := by decide +kernel
theorem dX7_first_38 : decode cX7_first 38 = .ok (.aload_n 0, 1) := by decide +kernel
theorem dX7_first_39 : decode cX7_first 39 = .ok (.getfield 47, 3) := by decide +kernel
theorem dX7_first_42 : decode cX7_first 42 = .ok (.bipush 8, 2) := by decide +kernel
theorem dX7_first_44 : decode cX7_first 44 = .ok (.iload_n 1, 1) := by decide +kernel
theorem dX7_first_45 : decode cX7_first 45 = .ok (.iadd, 1) := by decide +kernel
theorem dX7_first_46 : decode cX7_first 46 = .ok (.aload_n 0, 1) := by decide +kernel
theorem dX7_first_47 : decode cX7_first 47 = .ok (.getfield 26, 3) := by decide +kernel
theorem dX7_first_50 : decode cX7_first 50 = .ok (.iconst 0, 1) := by decide +kernel
theorem dX7_first_51 : decode cX7_first 51 = .ok (.iaload, 1) := by decide +kernel
theorem dX7_first_52 : decode cX7_first 52 = .ok (.iload_n 1, 1) := by decide +kernel
theorem dX7_first_53 : decode cX7_first 53 = .ok (.ishr, 1) := by decide +kernel
theorem dX7_first_54 : decode cX7_first 54 = .ok (.iconst 1, 1) := by decide +kernel
theorem dX7_first_55 : decode cX7_first 55 = .ok (.iand, 1) := by decide +kernel
theorem dX7_first_56 : decode cX7_first 56 = .ok (.iconst 1, 1) := by decide +kernel
theorem dX7_first_57 : decode cX7_first 57 = .ok (.if_icmp .ne 7, 3) := by decide +kernel
theorem dX7_first_60 : decode cX7_first 60 = .ok (.iconst 0, 1) := by decide +kernel
theorem dX7_first_61 : decode cX7_first 61 = .ok (.goto 5, 3) := by decide +kernel
theorem dX7_first_64 : decode cX7_first 64 = .ok (.bipush 15, 2) := by decide +kernel
theorem dX7_first_66 : decode cX7_first 66 = .ok (.iastore, 1) := by decide +kernel
theorem dX7_first_67 : decode cX7_first 67 = .ok (.iinc 1 1, 3) := by decide +kernel
theorem dX7_first_70 : decode cX7_first 70 = .ok (.goto (-47), 3) := by decide +kernel
theorem dX7_first_73 : decode cX7_first 73 = .ok (.return_, 1) := by decide +kernel
theorem dX7_isGroup_0 : decode cX7_isGroup 0 = .ok (.iload_n 1, 1) := by decide +kernel
theorem dX7_isGroup_1 : decode cX7_isGroup 1 = .ok (.ifCond .lt 15, 3) := by decide +kernel
theorem dX7_isGroup_4 : decode cX7_isGroup 4 = .ok (.iload_n 1, 1) := by decide +kernel
theorem dX7_isGroup_5 : decode cX7_isGroup 5 = .ok (.aload_n 0, 1) := by decide +kernel
theorem dX7_isGroup_6 : decode cX7_isGroup 6 = .ok (.getfield 82, 3) := by decide +kernel
theorem dX7_isGroup_9 : decode cX7_isGroup 9 = .ok (.if_icmp .ge 7, 3) := by decide +kernel
theorem dX7_isGroup_12 : decode cX7_isGroup 12 = .ok (.iconst 1, 1) := by decide +kernel
theorem dX7_isGroup_13 : decode cX7_isGroup 13 = .ok (.goto 4, 3) := by decide +kernel
theorem dX7_isGroup_16 : decode cX7_isGroup 16 = .ok (.iconst 0, 1) := by decide +kernel
theorem dX7_isGroup_17 : decode cX7_isGroup 17 = .ok (.ireturn, 1) := by decide +kernel
set_option maxRecDepth 20000 in
theorem ggX7_clash_X7_isGroup : GoodIn wsX7_clash wsX7_isGroup := goodIn_r _ [8, 9, 26, 27, 28, 29, 30, 31, 32, 33, 34, 35, 36, 37, 38, 39, 40, 41, 42, 43, 44, 45, 46, 47, 48, 49, 50, 51, 52, 53, 54, 55, 56] (by decide +kernel) (by decide +kernel)
set_option maxRecDepth 20000 in
theorem gX7_clash_X7_isGroup : GoodIn wsX7_clash (wsV RX7 106 RX7 yX7_isGroup wsX7_isGroup) := goodIn_app (goodIn_of _ (by decide +kernel)) ggX7_clash_X7_isGroup
set_option maxRecDepth 20000 in
theorem ggX7_clash_X7_anew : GoodIn wsX7_clash wsX7_anew := goodIn_r _ [13, 14, 15, 16, 17, 18, 19, 20, 21, 22, 7, 23, 9, 24, 25, 26, 27, 28, 29, 30, 31, 32, 33, 34, 35, 36, 37, 38, 39, 40, 41, 42, 43, 44, 45, 46, 47, 48, 49, 50, 51, 52, 53, 54, 55, 56] (by decide +kernel) (by decide +kernel)
set_option maxRecDepth 20000 in
theorem gX7_clash_X7_anew : GoodIn wsX7_clash (wsV RX7 91 RX7 yX7_anew wsX7_anew) := goodIn_app (goodIn_of _ (by decide +kernel)) ggX7_clash_X7_anew
theorem dX7_clash_0 : decode cX7_clash 0 = .ok (.aload_n 0, 1) := by decide +kernel
theorem dX7_clash_1 : decode cX7_clash 1 = .ok (.aload_n 0, 1) := by decide +kernel
theorem dX7_clash_2 : decode cX7_clash 2 = .ok (.iload_n 1, 1) := by decide +kernel
theorem dX7_clash_3 : decode cX7_clash 3 = .ok (.invokevirtual 106, 3) := by decide +kernel
theorem dX7_clash_6 : decode cX7_clash 6 = .ok (.ifCond .eq 15, 3) := by decide +kernel
theorem dX7_clash_9 : decode cX7_clash 9 = .ok (.aload_n 0, 1) := by decide +kernel
theorem dX7_clash_10 : decode cX7_clash 10 = .ok (.iload_n 2, 1) := by decide +kernel
theorem dX7_clash_11 : decode cX7_clash 11 = .ok (.invokevirtual 106, 3) := by decide +kernel
theorem dX7_clash_14 : decode cX7_clash 14 = .ok (.ifCond .eq 7, 3) := by decide +kernel
theorem dX7_clash_17 : decode cX7_clash 17 = .ok (.iconst 0, 1) := by decide +kernel
theorem dX7_clash_18 : decode cX7_clash 18 = .ok (.goto 4, 3) := by decide +kernel
theorem dX7_clash_21 : decode cX7_clash 21 = .ok (.iconst 1, 1) := by decide +kernel
theorem dX7_clash_22 : decode cX7_clash 22 = .ok (.putfield 79, 3) := by decide +kernel
theorem dX7_clash_25 : decode cX7_clash 25 = .ok (.aload_n 0, 1) := by decide +kernel
theorem dX7_clash_26 : decode cX7_clash 26 = .ok (.getfield 79, 3) := by decide +kernel
theorem dX7_clash_29 : decode cX7_clash 29 = .ok (.ifCond .gt 18, 3) := by decide +kernel
theorem dX7_clash_32 : decode cX7_clash 32 = .ok (.iload_n 1, 1) := by decide +kernel
theorem dX7_clash_33 : decode cX7_clash 33 = .ok (.iload_n 2, 1) := by decide +kernel
theorem dX7_clash_34 : decode cX7_clash 34 = .ok (.if_icmp .eq 13, 3) := by decide +kernel
theorem dX7_clash_37 : decode cX7_clash 37 = .ok (.iload_n 3, 1) := by decide +kernel
theorem dX7_clash_38 : decode cX7_clash 38 = .ok (.ifCond .lt 9, 3) := by decide +kernel
theorem dX7_clash_41 : decode cX7_clash 41 = .ok (.iload_n 3, 1) := by decide +kernel
theorem dX7_clash_42 : decode cX7_clash 42 = .ok (.bipush 15, 2) := by decide +kernel
theorem dX7_clash_44 : decode cX7_clash 44 = .ok (.if_icmp .le 5, 3) := by decide +kernel
theorem dX7_clash_47 : decode cX7_clash 47 = .ok (.iconst 0, 1) := by decide +kernel
theorem dX7_clash_48 : decode cX7_clash 48 = .ok (.ireturn, 1) := by decide +kernel
theorem dX7_clash_49 : decode cX7_clash 49 = .ok (.aload_n 0, 1) := by decide +kernel
theorem dX7_clash_50 : decode cX7_clash 50 = .ok (.getfield 7, 3) := by decide +kernel
theorem dX7_clash_53 : decode cX7_clash 53 = .ok (.bipush 6, 2) := by decide +kernel
theorem dX7_clash_55 : decode cX7_clash 55 = .ok (.iload_n 1, 1) := by decide +kernel
theorem dX7_clash_56 : decode cX7_clash 56 = .ok (.imul, 1) := by decide +kernel
theorem dX7_clash_57 : decode cX7_clash 57 = .ok (.iload_n 2, 1) := by decide +kernel
theorem dX7_clash_58 : decode cX7_clash 58 = .ok (.iadd, 1) := by decide +kernel
theorem dX7_clash_59 : decode cX7_clash 59 = .ok (.iconst 1, 1) := by decide +kernel
theorem dX7_clash_60 : decode cX7_clash 60 = .ok (.bastore, 1) := by decide +kernel
theorem dX7_clash_61 : decode cX7_clash 61 = .ok (.aload_n 0, 1) := by decide +kernel
theorem dX7_clash_62 : decode cX7_clash 62 = .ok (.getfield 7, 3) := by decide +kernel
theorem dX7_clash_65 : decode cX7_clash 65 = .ok (.bipush 6, 2) := by decide +kernel
theorem dX7_clash_67 : decode cX7_clash 67 = .ok (.iload_n 2, 1) := by decide +kernel
theorem dX7_clash_68 : decode cX7_clash 68 = .ok (.imul, 1) := by decide +kernel
theorem dX7_clash_69 : decode cX7_clash 69 = .ok (.iload_n 1, 1) := by decide +kernel
theorem dX7_clash_70 : decode cX7_clash 70 = .ok (.iadd, 1) := by decide +kernel
theorem dX7_clash_71 : decode cX7_clash 71 = .ok (.iconst 1, 1) := by decide +kernel
theorem dX7_clash_72 : decode cX7_clash 72 = .ok (.bastore, 1) := by decide +kernel
theorem dX7_clash_73 : decode cX7_clash 73 = .ok (.aload_n 0, 1) := by decide +kernel
theorem dX7_clash_74 : decode cX7_clash 74 = .ok (.getfield 13, 3) := by decide +kernel
theorem dX7_clash_77 : decode cX7_clash 77 = .ok (.bipush 6, 2) := by decide +kernel
theorem dX7_clash_79 : decode cX7_clash 79 = .ok (.iload_n 1, 1) := by decide +kernel
theorem dX7_clash_80 : decode cX7_clash 80 = .ok (.imul, 1) := by decide +kernel
theorem dX7_clash_81 : decode cX7_clash 81 = .ok (.iload_n 2, 1) := by decide +kernel
theorem dX7_clash_82 : decode cX7_clash 82 = .ok (.iadd, 1) := by decide +kernel
theorem dX7_clash_83 : decode cX7_clash 83 = .ok (.iload_n 3, 1) := by decide +kernel
theorem dX7_clash_84 : decode cX7_clash 84 = .ok (.iastore, 1) := by decide +kernel
theorem dX7_clash_85 : decode cX7_clash 85 = .ok (.aload_n 0, 1) := by decide +kernel
theorem dX7_clash_86 : decode cX7_clash 86 = .ok (.invokevirtual 91, 3) := by decide +kernel
theorem dX7_clash_89 : decode cX7_clash 89 = .ok (.iconst 1, 1) := by decide +kernel
theorem dX7_clash_90 : decode cX7_clash 90 = .ok (.ireturn, 1) := by decide +kernel
set_option maxRecDepth 20000 in
theorem ggX7_least_X7_isGroup : GoodIn wsX7_least wsX7_isGroup := goodIn_r _ [7, 8, 25, 26, 27, 28, 29, 30, 31, 32, 33, 34, 35, 36, 37, 38, 39, 40, 41, 42, 43, 44, 45, 46, 47, 48, 49, 50, 51, 52, 53, 54, 55] (by decide +kernel) (by decide +kernel)
set_option maxRecDepth 20000 in
theorem gX7_least_X7_isGroup : GoodIn wsX7_least (wsV RX7 106 RX7 yX7_isGroup wsX7_isGroup) := goodIn_app (goodIn_of _ (by decide +kernel)) ggX7_least_X7_isGroup
set_option maxRecDepth 20000 in
theorem ggX7_least_X7_anew : GoodIn wsX7_least wsX7_anew := goodIn_r _ [12, 13, 14, 15, 16, 17, 18, 19, 20, 21, 6, 22, 8, 23, 24, 25, 26, 27, 28, 29, 30, 31, 32, 33, 34, 35, 36, 37, 38, 39, 40, 41, 42, 43, 44, 45, 46, 47, 48, 49, 50, 51, 52, 53, 54, 55] (by decide +kernel) (by decide +kernel)
set_option maxRecDepth 20000 in
theorem gX7_least_X7_anew : GoodIn wsX7_least (wsV RX7 91 RX7 yX7_anew wsX7_anew) := goodIn_app (goodIn_of _ (by decide +kernel)) ggX7_least_X7_anew
theorem dX7_least_0 : decode cX7_least 0 = .ok (.aload_n 0, 1) := by decide +kernel
theorem dX7_least_1 : decode cX7_least 1 = .ok (.aload_n 0, 1) := by decide +kernel
theorem dX7_least_2 : decode cX7_least 2 = .ok (.iload_n 1, 1) := by decide +kernel
theorem dX7_least_3 : decode cX7_least 3 = .ok (.invokevirtual 106, 3) := by decide +kernel
theorem dX7_least_6 : decode cX7_least 6 = .ok (.ifCond .eq 7, 3) := by decide +kernel
theorem dX7_least_9 : decode cX7_least 9 = .ok (.iconst 0, 1) := by decide +kernel
theorem dX7_least_10 : decode cX7_least 10 = .ok (.goto 4, 3) := by decide +kernel
theorem dX7_least_13 : decode cX7_least 13 = .ok (.iconst 1, 1) := by decide +kernel
theorem dX7_least_14 : decode cX7_least 14 = .ok (.putfield 79, 3) := by decide +kernel
theorem dX7_least_17 : decode cX7_least 17 = .ok (.aload_n 0, 1) := by decide +kernel
theorem dX7_least_18 : decode cX7_least 18 = .ok (.getfield 79, 3) := by decide +kernel
theorem dX7_least_21 : decode cX7_least 21 = .ok (.ifCond .gt 14, 3) := by decide +kernel
theorem dX7_least_24 : decode cX7_least 24 = .ok (.iload_n 2, 1) := by decide +kernel
theorem dX7_least_25 : decode cX7_least 25 = .ok (.iconst 1, 1) := by decide +kernel
theorem dX7_least_26 : decode cX7_least 26 = .ok (.if_icmp .lt 9, 3) := by decide +kernel
theorem dX7_least_29 : decode cX7_least 29 = .ok (.iload_n 2, 1) := by decide +kernel
theorem dX7_least_30 : decode cX7_least 30 = .ok (.bipush 15, 2) := by decide +kernel
theorem dX7_least_32 : decode cX7_least 32 = .ok (.if_icmp .le 5, 3) := by decide +kernel
theorem dX7_least_35 : decode cX7_least 35 = .ok (.iconst 0, 1) := by decide +kernel
theorem dX7_least_36 : decode cX7_least 36 = .ok (.ireturn, 1) := by decide +kernel
theorem dX7_least_37 : decode cX7_least 37 = .ok (.aload_n 0, 1) := by decide +kernel
theorem dX7_least_38 : decode cX7_least 38 = .ok (.getfield 17, 3) := by decide +kernel
theorem dX7_least_41 : decode cX7_least 41 = .ok (.iload_n 1, 1) := by decide +kernel
theorem dX7_least_42 : decode cX7_least 42 = .ok (.iload_n 2, 1) := by decide +kernel
theorem dX7_least_43 : decode cX7_least 43 = .ok (.iastore, 1) := by decide +kernel
theorem dX7_least_44 : decode cX7_least 44 = .ok (.aload_n 0, 1) := by decide +kernel
theorem dX7_least_45 : decode cX7_least 45 = .ok (.invokevirtual 91, 3) := by decide +kernel
theorem dX7_least_48 : decode cX7_least 48 = .ok (.iconst 1, 1) := by decide +kernel
theorem dX7_least_49 : decode cX7_least 49 = .ok (.ireturn, 1) := by decide +kernel
set_option maxRecDepth 20000 in
theorem ggX7_most_X7_isGroup : GoodIn wsX7_most wsX7_isGroup := goodIn_r _ [7, 8, 25, 26, 27, 28, 29, 30, 31, 32, 33, 34, 35, 36, 37, 38, 39, 40, 41, 42, 43, 44, 45, 46, 47, 48, 49, 50, 51, 52, 53, 54, 55] (by decide +kernel) (by decide +kernel)
set_option maxRecDepth 20000 in
theorem gX7_most_X7_isGroup : GoodIn wsX7_most (wsV RX7 106 RX7 yX7_isGroup wsX7_isGroup) := goodIn_app (goodIn_of _ (by decide +kernel)) ggX7_most_X7_isGroup
set_option maxRecDepth 20000 in
theorem ggX7_most_X7_anew : GoodIn wsX7_most wsX7_anew := goodIn_r _ [12, 13, 14, 15, 16, 17, 18, 19, 20, 21, 6, 22, 8, 23, 24, 25, 26, 27, 28, 29, 30, 31, 32, 33, 34, 35, 36, 37, 38, 39, 40, 41, 42, 43, 44, 45, 46, 47, 48, 49, 50, 51, 52, 53, 54, 55] (by decide +kernel) (by decide +kernel)
set_option maxRecDepth 20000 in
theorem gX7_most_X7_anew : GoodIn wsX7_most (wsV RX7 91 RX7 yX7_anew wsX7_anew) := goodIn_app (goodIn_of _ (by decide +kernel)) ggX7_most_X7_anew
theorem dX7_most_0 : decode cX7_most 0 = .ok (.aload_n 0, 1) := by decide +kernel
theorem dX7_most_1 : decode cX7_most 1 = .ok (.aload_n 0, 1) := by decide +kernel
theorem dX7_most_2 : decode cX7_most 2 = .ok (.iload_n 1, 1) := by decide +kernel
theorem dX7_most_3 : decode cX7_most 3 = .ok (.invokevirtual 106, 3) := by decide +kernel
theorem dX7_most_6 : decode cX7_most 6 = .ok (.ifCond .eq 7, 3) := by decide +kernel
theorem dX7_most_9 : decode cX7_most 9 = .ok (.iconst 0, 1) := by decide +kernel
theorem dX7_most_10 : decode cX7_most 10 = .ok (.goto 4, 3) := by decide +kernel
theorem dX7_most_13 : decode cX7_most 13 = .ok (.iconst 1, 1) := by decide +kernel
theorem dX7_most_14 : decode cX7_most 14 = .ok (.putfield 79, 3) := by decide +kernel
theorem dX7_most_17 : decode cX7_most 17 = .ok (.aload_n 0, 1) := by decide +kernel
theorem dX7_most_18 : decode cX7_most 18 = .ok (.getfield 79, 3) := by decide +kernel
theorem dX7_most_21 : decode cX7_most 21 = .ok (.ifCond .gt 14, 3) := by decide +kernel
theorem dX7_most_24 : decode cX7_most 24 = .ok (.iload_n 2, 1) := by decide +kernel
theorem dX7_most_25 : decode cX7_most 25 = .ok (.iconst 1, 1) := by decide +kernel
theorem dX7_most_26 : decode cX7_most 26 = .ok (.if_icmp .lt 9, 3) := by decide +kernel
theorem dX7_most_29 : decode cX7_most 29 = .ok (.iload_n 2, 1) := by decide +kernel
theorem dX7_most_30 : decode cX7_most 30 = .ok (.bipush 31, 2) := by decide +kernel
theorem dX7_most_32 : decode cX7_most 32 = .ok (.if_icmp .le 5, 3) := by decide +kernel
theorem dX7_most_35 : decode cX7_most 35 = .ok (.iconst 0, 1) := by decide +kernel
theorem dX7_most_36 : decode cX7_most 36 = .ok (.ireturn, 1) := by decide +kernel
theorem dX7_most_37 : decode cX7_most 37 = .ok (.aload_n 0, 1) := by decide +kernel
theorem dX7_most_38 : decode cX7_most 38 = .ok (.getfield 20, 3) := by decide +kernel
theorem dX7_most_41 : decode cX7_most 41 = .ok (.iload_n 1, 1) := by decide +kernel
theorem dX7_most_42 : decode cX7_most 42 = .ok (.iload_n 2, 1) := by decide +kernel
theorem dX7_most_43 : decode cX7_most 43 = .ok (.iastore, 1) := by decide +kernel
theorem dX7_most_44 : decode cX7_most 44 = .ok (.aload_n 0, 1) := by decide +kernel
theorem dX7_most_45 : decode cX7_most 45 = .ok (.invokevirtual 91, 3) := by decide +kernel
theorem dX7_most_48 : decode cX7_most 48 = .ok (.iconst 1, 1) := by decide +kernel
theorem dX7_most_49 : decode cX7_most 49 = .ok (.ireturn, 1) := by decide +kernel
theorem dX7_unit_0 : decode cX7_unit 0 = .ok (.aload_n 0, 1) := by decide +kernel
theorem dX7_unit_1 : decode cX7_unit 1 = .ok (.iconst 0, 1) := by decide +kernel
theorem dX7_unit_2 : decode cX7_unit 2 = .ok (.putfield 79, 3) := by decide +kernel
theorem dX7_unit_5 : decode cX7_unit 5 = .ok (.iload_n 1, 1) := by decide +kernel
theorem dX7_unit_6 : decode cX7_unit 6 = .ok (.bipush 32, 2) := by decide +kernel
theorem dX7_unit_8 : decode cX7_unit 8 = .ok (.if_icmp .lt 18, 3) := by decide +kernel
theorem dX7_unit_11 : decode cX7_unit 11 = .ok (.iload_n 1, 1) := by decide +kernel
theorem dX7_unit_12 : decode cX7_unit 12 = .ok (.bipush 126, 2) := by decide +kernel
theorem dX7_unit_14 : decode cX7_unit 14 = .ok (.if_icmp .gt 12, 3) := by decide +kernel
theorem dX7_unit_17 : decode cX7_unit 17 = .ok (.aload_n 0, 1) := by decide +kernel
theorem dX7_unit_18 : decode cX7_unit 18 = .ok (.getfield 88, 3) := by decide +kernel
theorem dX7_unit_21 : decode cX7_unit 21 = .ok (.bipush 60, 2) := by decide +kernel
theorem dX7_unit_23 : decode cX7_unit 23 = .ok (.if_icmp .ne 5, 3) := by decide +kernel
theorem dX7_unit_26 : decode cX7_unit 26 = .ok (.iconst 0, 1) := by decide +kernel
theorem dX7_unit_27 : decode cX7_unit 27 = .ok (.ireturn, 1) := by decide +kernel
theorem dX7_unit_28 : decode cX7_unit 28 = .ok (.aload_n 0, 1) := by decide +kernel
theorem dX7_unit_29 : decode cX7_unit 29 = .ok (.getfield 35, 3) := by decide +kernel
theorem dX7_unit_32 : decode cX7_unit 32 = .ok (.aload_n 0, 1) := by decide +kernel
theorem dX7_unit_33 : decode cX7_unit 33 = .ok (.getfield 88, 3) := by decide +kernel
theorem dX7_unit_36 : decode cX7_unit 36 = .ok (.iload_n 1, 1) := by decide +kernel
theorem dX7_unit_37 : decode cX7_unit 37 = .ok (.iastore, 1) := by decide +kernel
theorem dX7_unit_38 : decode cX7_unit 38 = .ok (.aload_n 0, 1) := by decide +kernel
theorem dX7_unit_39 : decode cX7_unit 39 = .ok (.dup, 1) := by decide +kernel
theorem dX7_unit_40 : decode cX7_unit 40 = .ok (.getfield 88, 3) := by decide +kernel
theorem dX7_unit_43 : decode cX7_unit 43 = .ok (.iconst 1, 1) := by decide +kernel
theorem dX7_unit_44 : decode cX7_unit 44 = .ok (.iadd, 1) := by decide +kernel
theorem dX7_unit_45 : decode cX7_unit 45 = .ok (.putfield 88, 3) := by decide +kernel
theorem dX7_unit_48 : decode cX7_unit 48 = .ok (.iconst 1, 1) := by decide +kernel
theorem dX7_unit_49 : decode cX7_unit 49 = .ok (.ireturn, 1) := by decide +kernel
theorem dX7_sign_0 : decode cX7_sign 0 = .ok (.iload_n 1, 1) := by decide +kernel
theorem dX7_sign_1 : decode cX7_sign 1 = .ok (.aload_n 0, 1) := by decide +kernel
theorem dX7_sign_2 : decode cX7_sign 2 = .ok (.getfield 88, 3) := by decide +kernel
theorem dX7_sign_5 : decode cX7_sign 5 = .ok (.if_icmp .ge 12, 3) := by decide +kernel
theorem dX7_sign_8 : decode cX7_sign 8 = .ok (.aload_n 0, 1) := by decide +kernel
theorem dX7_sign_9 : decode cX7_sign 9 = .ok (.getfield 35, 3) := by decide +kernel
theorem dX7_sign_12 : decode cX7_sign 12 = .ok (.iload_n 1, 1) := by decide +kernel
theorem dX7_sign_13 : decode cX7_sign 13 = .ok (.iaload, 1) := by decide +kernel
theorem dX7_sign_14 : decode cX7_sign 14 = .ok (.goto 4, 3) := by decide +kernel
theorem dX7_sign_17 : decode cX7_sign 17 = .ok (.iconst (-1), 1) := by decide +kernel
theorem dX7_sign_18 : decode cX7_sign 18 = .ok (.ireturn, 1) := by decide +kernel
set_option maxRecDepth 20000 in
theorem ggX7_isDigit_X7_sign : GoodIn wsX7_isDigit wsX7_sign := goodIn_r _ [5, 6, 7, 8, 9, 10, 11, 12, 13, 14, 15, 16, 17, 18, 19, 20, 21, 22, 23, 24, 25, 26, 27, 28, 29, 30, 31, 32, 33, 34, 35, 36, 37, 38] (by decide +kernel) (by decide +kernel)
set_option maxRecDepth 20000 in
theorem gX7_isDigit_X7_sign : GoodIn wsX7_isDigit (wsV RX7 110 RX7 yX7_sign wsX7_sign) := goodIn_app (goodIn_of _ (by decide +kernel)) ggX7_isDigit_X7_sign
theorem dX7_isDigit_0 : decode cX7_isDigit 0 = .ok (.aload_n 0, 1) := by decide +kernel
theorem dX7_isDigit_1 : decode cX7_isDigit 1 = .ok (.iload_n 1, 1) := by decide +kernel
theorem dX7_isDigit_2 : decode cX7_isDigit 2 = .ok (.invokevirtual 110, 3) := by decide +kernel
theorem dX7_isDigit_5 : decode cX7_isDigit 5 = .ok (.bipush 48, 2) := by decide +kernel
theorem dX7_isDigit_7 : decode cX7_isDigit 7 = .ok (.if_icmp .lt 17, 3) := by decide +kernel
theorem dX7_isDigit_10 : decode cX7_isDigit 10 = .ok (.aload_n 0, 1) := by decide +kernel
theorem dX7_isDigit_11 : decode cX7_isDigit 11 = .ok (.iload_n 1, 1) := by decide +kernel
theorem dX7_isDigit_12 : decode cX7_isDigit 12 = .ok (.invokevirtual 110, 3) := by decide +kernel
theorem dX7_isDigit_15 : decode cX7_isDigit 15 = .ok (.bipush 57, 2) := by decide +kernel
theorem dX7_isDigit_17 : decode cX7_isDigit 17 = .ok (.if_icmp .gt 7, 3) := by decide +kernel
theorem dX7_isDigit_20 : decode cX7_isDigit 20 = .ok (.iconst 1, 1) := by decide +kernel
theorem dX7_isDigit_21 : decode cX7_isDigit 21 = .ok (.goto 4, 3) := by decide +kernel
theorem dX7_isDigit_24 : decode cX7_isDigit 24 = .ok (.iconst 0, 1) := by decide +kernel
theorem dX7_isDigit_25 : decode cX7_isDigit 25 = .ok (.ireturn, 1) := by decide +kernel
set_option maxRecDepth 20000 in
theorem ggX7_behind_X7_isDigit : GoodIn wsX7_behind wsX7_isDigit := goodIn_r _ [5, 6, 7, 8, 4, 9, 10, 11, 12, 13, 14, 15, 16, 17, 18, 19, 20, 21, 22, 23, 24, 25, 26, 27, 28, 29, 30, 31, 32, 33, 34, 35, 36, 37, 38, 39, 40, 41, 42] (by decide +kernel) (by decide +kernel)
set_option maxRecDepth 20000 in
theorem gX7_behind_X7_isDigit : GoodIn wsX7_behind (wsV RX7 114 RX7 yX7_isDigit wsX7_isDigit) := goodIn_app (goodIn_of _ (by decide +kernel)) ggX7_behind_X7_isDigit
theorem dX7_behind_0 : decode cX7_behind 0 = .ok (.iload_n 1, 1) := by decide +kernel
theorem dX7_behind_1 : decode cX7_behind 1 = .ok (.istore_n 2, 1) := by decide +kernel
theorem dX7_behind_2 : decode cX7_behind 2 = .ok (.aload_n 0, 1) := by decide +kernel
theorem dX7_behind_3 : decode cX7_behind 3 = .ok (.iload_n 2, 1) := by decide +kernel
theorem dX7_behind_4 : decode cX7_behind 4 = .ok (.invokevirtual 114, 3) := by decide +kernel
theorem dX7_behind_7 : decode cX7_behind 7 = .ok (.ifCond .eq 9, 3) := by decide +kernel
theorem dX7_behind_10 : decode cX7_behind 10 = .ok (.iinc 2 1, 3) := by decide +kernel
theorem dX7_behind_13 : decode cX7_behind 13 = .ok (.goto (-11), 3) := by decide +kernel
theorem dX7_behind_16 : decode cX7_behind 16 = .ok (.iload_n 2, 1) := by decide +kernel
theorem dX7_behind_17 : decode cX7_behind 17 = .ok (.ireturn, 1) := by decide +kernel
set_option maxRecDepth 20000 in
theorem ggX7_number_X7_isDigit : GoodIn wsX7_number wsX7_isDigit := goodIn_r _ [5, 6, 7, 8, 4, 9, 10, 11, 12, 13, 14, 15, 16, 17, 18, 19, 20, 21, 22, 23, 24, 25, 26, 27, 28, 29, 30, 31, 32, 33, 34, 35, 36, 37, 38, 39, 40, 41, 42] (by decide +kernel) (by decide +kernel)
set_option maxRecDepth 20000 in
theorem gX7_number_X7_isDigit : GoodIn wsX7_number (wsV RX7 114 RX7 yX7_isDigit wsX7_isDigit) := goodIn_app (goodIn_of _ (by decide +kernel)) ggX7_number_X7_isDigit
set_option maxRecDepth 20000 in
theorem ggX7_number_X7_sign : GoodIn wsX7_number wsX7_sign := goodIn_r _ [9, 10, 11, 12, 13, 14, 15, 16, 17, 18, 19, 20, 21, 22, 23, 24, 25, 26, 27, 28, 29, 30, 31, 32, 33, 34, 35, 36, 37, 38, 39, 40, 41, 42] (by decide +kernel) (by decide +kernel)
set_option maxRecDepth 20000 in
theorem gX7_number_X7_sign : GoodIn wsX7_number (wsV RX7 110 RX7 yX7_sign wsX7_sign) := goodIn_app (goodIn_of _ (by decide +kernel)) ggX7_number_X7_sign
theorem dX7_number_0 : decode cX7_number 0 = .ok (.aload_n 0, 1) := by decide +kernel
theorem dX7_number_1 : decode cX7_number 1 = .ok (.iload_n 1, 1) := by decide +kernel
theorem dX7_number_2 : decode cX7_number 2 = .ok (.invokevirtual 114, 3) := by decide +kernel
theorem dX7_number_5 : decode cX7_number 5 = .ok (.ifCond .eq 13, 3) := by decide +kernel
theorem dX7_number_8 : decode cX7_number 8 = .ok (.aload_n 0, 1) := by decide +kernel
theorem dX7_number_9 : decode cX7_number 9 = .ok (.iload_n 1, 1) := by decide +kernel
theorem dX7_number_10 : decode cX7_number 10 = .ok (.invokevirtual 110, 3) := by decide +kernel
theorem dX7_number_13 : decode cX7_number 13 = .ok (.bipush 48, 2) := by decide +kernel
theorem dX7_number_15 : decode cX7_number 15 = .ok (.if_icmp .ne 5, 3) := by decide +kernel
theorem dX7_number_18 : decode cX7_number 18 = .ok (.iconst (-1), 1) := by decide +kernel
theorem dX7_number_19 : decode cX7_number 19 = .ok (.ireturn, 1) := by decide +kernel
theorem dX7_number_20 : decode cX7_number 20 = .ok (.iconst 0, 1) := by decide +kernel
theorem dX7_number_21 : decode cX7_number 21 = .ok (.istore_n 2, 1) := by decide +kernel
theorem dX7_number_22 : decode cX7_number 22 = .ok (.iload_n 1, 1) := by decide +kernel
theorem dX7_number_23 : decode cX7_number 23 = .ok (.istore_n 3, 1) := by decide +kernel
theorem dX7_number_24 : decode cX7_number 24 = .ok (.aload_n 0, 1) := by decide +kernel
theorem dX7_number_25 : decode cX7_number 25 = .ok (.iload_n 3, 1) := by decide +kernel
theorem dX7_number_26 : decode cX7_number 26 = .ok (.invokevirtual 114, 3) := by decide +kernel
theorem dX7_number_29 : decode cX7_number 29 = .ok (.ifCond .eq 35, 3) := by decide +kernel
theorem dX7_number_32 : decode cX7_number 32 = .ok (.iload_n 2, 1) := by decide +kernel
theorem dX7_number_33 : decode cX7_number 33 = .ok (.bipush 99, 2) := by decide +kernel
theorem dX7_number_35 : decode cX7_number 35 = .ok (.if_icmp .le 9, 3) := by decide +kernel
theorem dX7_number_38 : decode cX7_number 38 = .ok (.sipush 1000, 3) := by decide +kernel
theorem dX7_number_41 : decode cX7_number 41 = .ok (.goto 16, 3) := by decide +kernel
theorem dX7_number_44 : decode cX7_number 44 = .ok (.bipush 10, 2) := by decide +kernel
theorem dX7_number_46 : decode cX7_number 46 = .ok (.iload_n 2, 1) := by decide +kernel
theorem dX7_number_47 : decode cX7_number 47 = .ok (.imul, 1) := by decide +kernel
theorem dX7_number_48 : decode cX7_number 48 = .ok (.aload_n 0, 1) := by decide +kernel
theorem dX7_number_49 : decode cX7_number 49 = .ok (.iload_n 3, 1) := by decide +kernel
theorem dX7_number_50 : decode cX7_number 50 = .ok (.invokevirtual 110, 3) := by decide +kernel
theorem dX7_number_53 : decode cX7_number 53 = .ok (.iadd, 1) := by decide +kernel
theorem dX7_number_54 : decode cX7_number 54 = .ok (.bipush 48, 2) := by decide +kernel
theorem dX7_number_56 : decode cX7_number 56 = .ok (.isub, 1) := by decide +kernel
theorem dX7_number_57 : decode cX7_number 57 = .ok (.istore_n 2, 1) := by decide +kernel
theorem dX7_number_58 : decode cX7_number 58 = .ok (.iinc 3 1, 3) := by decide +kernel
theorem dX7_number_61 : decode cX7_number 61 = .ok (.goto (-37), 3) := by decide +kernel
theorem dX7_number_64 : decode cX7_number 64 = .ok (.iload_n 2, 1) := by decide +kernel
theorem dX7_number_65 : decode cX7_number 65 = .ok (.ireturn, 1) := by decide +kernel
set_option maxRecDepth 20000 in
theorem ggX7_phase_X7_sign : GoodIn wsX7_phase wsX7_sign := goodIn_r _ [10, 11, 12, 25, 26, 27, 28, 29, 30, 31, 32, 33, 34, 35, 36, 37, 38, 39, 40, 41, 42, 43, 44, 45, 46, 47, 48, 49, 50, 51, 52, 53, 54, 55] (by decide +kernel) (by decide +kernel)
set_option maxRecDepth 20000 in
theorem gX7_phase_X7_sign : GoodIn wsX7_phase (wsV RX7 110 RX7 yX7_sign wsX7_sign) := goodIn_app (goodIn_of _ (by decide +kernel)) ggX7_phase_X7_sign
set_option maxRecDepth 20000 in
theorem ggX7_phase_X7_number : GoodIn wsX7_phase wsX7_number := goodIn_r _ [16, 17, 18, 19, 9, 20, 6, 7, 8, 10, 11, 12, 25, 26, 27, 28, 29, 30, 31, 32, 33, 34, 35, 36, 37, 38, 39, 40, 41, 42, 43, 44, 45, 46, 47, 48, 49, 50, 51, 52, 53, 54, 55] (by decide +kernel) (by decide +kernel)
set_option maxRecDepth 20000 in
theorem gX7_phase_X7_number : GoodIn wsX7_phase (wsV RX7 120 RX7 yX7_number wsX7_number) := goodIn_app (goodIn_of _ (by decide +kernel)) ggX7_phase_X7_number
set_option maxRecDepth 20000 in
theorem ggX7_phase_X7_behind : GoodIn wsX7_phase wsX7_behind := goodIn_r _ [24, 17, 18, 19, 9, 20, 6, 7, 8, 10, 11, 12, 25, 26, 27, 28, 29, 30, 31, 32, 33, 34, 35, 36, 37, 38, 39, 40, 41, 42, 43, 44, 45, 46, 47, 48, 49, 50, 51, 52, 53, 54, 55] (by decide +kernel) (by decide +kernel)
set_option maxRecDepth 20000 in
theorem gX7_phase_X7_behind : GoodIn wsX7_phase (wsV RX7 123 RX7 yX7_behind wsX7_behind) := goodIn_app (goodIn_of _ (by decide +kernel)) ggX7_phase_X7_behind
theorem dX7_phase_0 : decode cX7_phase 0 = .ok (.iload_n 1, 1) := by decide +kernel
theorem dX7_phase_1 : decode cX7_phase 1 = .ok (.istore_n 3, 1) := by decide +kernel
theorem dX7_phase_2 : decode cX7_phase 2 = .ok (.iconst 0, 1) := by decide +kernel
theorem dX7_phase_3 : decode cX7_phase 3 = .ok (.istore 4, 2) := by decide +kernel
theorem dX7_phase_5 : decode cX7_phase 5 = .ok (.iconst (-1), 1) := by decide +kernel
theorem dX7_phase_6 : decode cX7_phase 6 = .ok (.istore 5, 2) := by decide +kernel
theorem dX7_phase_8 : decode cX7_phase 8 = .ok (.aload_n 0, 1) := by decide +kernel
theorem dX7_phase_9 : decode cX7_phase 9 = .ok (.iload_n 3, 1) := by decide +kernel
theorem dX7_phase_10 : decode cX7_phase 10 = .ok (.invokevirtual 110, 3) := by decide +kernel
theorem dX7_phase_13 : decode cX7_phase 13 = .ok (.bipush 65, 2) := by decide +kernel
theorem dX7_phase_15 : decode cX7_phase 15 = .ok (.if_icmp .lt 56, 3) := by decide +kernel
theorem dX7_phase_18 : decode cX7_phase 18 = .ok (.aload_n 0, 1) := by decide +kernel
theorem dX7_phase_19 : decode cX7_phase 19 = .ok (.iload_n 3, 1) := by decide +kernel
theorem dX7_phase_20 : decode cX7_phase 20 = .ok (.invokevirtual 110, 3) := by decide +kernel
theorem dX7_phase_23 : decode cX7_phase 23 = .ok (.bipush 65, 2) := by decide +kernel
theorem dX7_phase_25 : decode cX7_phase 25 = .ok (.aload_n 0, 1) := by decide +kernel
theorem dX7_phase_26 : decode cX7_phase 26 = .ok (.getfield 82, 3) := by decide +kernel
theorem dX7_phase_29 : decode cX7_phase 29 = .ok (.iadd, 1) := by decide +kernel
theorem dX7_phase_30 : decode cX7_phase 30 = .ok (.if_icmp .ge 41, 3) := by decide +kernel
theorem dX7_phase_33 : decode cX7_phase 33 = .ok (.aload_n 0, 1) := by decide +kernel
theorem dX7_phase_34 : decode cX7_phase 34 = .ok (.iload_n 3, 1) := by decide +kernel
theorem dX7_phase_35 : decode cX7_phase 35 = .ok (.invokevirtual 110, 3) := by decide +kernel
theorem dX7_phase_38 : decode cX7_phase 38 = .ok (.bipush 65, 2) := by decide +kernel
theorem dX7_phase_40 : decode cX7_phase 40 = .ok (.isub, 1) := by decide +kernel
theorem dX7_phase_41 : decode cX7_phase 41 = .ok (.iload 5, 2) := by decide +kernel
theorem dX7_phase_43 : decode cX7_phase 43 = .ok (.if_icmp .le 28, 3) := by decide +kernel
theorem dX7_phase_46 : decode cX7_phase 46 = .ok (.aload_n 0, 1) := by decide +kernel
theorem dX7_phase_47 : decode cX7_phase 47 = .ok (.iload_n 3, 1) := by decide +kernel
theorem dX7_phase_48 : decode cX7_phase 48 = .ok (.invokevirtual 110, 3) := by decide +kernel
theorem dX7_phase_51 : decode cX7_phase 51 = .ok (.bipush 65, 2) := by decide +kernel
theorem dX7_phase_53 : decode cX7_phase 53 = .ok (.isub, 1) := by decide +kernel
theorem dX7_phase_54 : decode cX7_phase 54 = .ok (.istore 5, 2) := by decide +kernel
theorem dX7_phase_56 : decode cX7_phase 56 = .ok (.iload 4, 2) := by decide +kernel
theorem dX7_phase_58 : decode cX7_phase 58 = .ok (.iconst 1, 1) := by decide +kernel
theorem dX7_phase_59 : decode cX7_phase 59 = .ok (.iload 5, 2) := by decide +kernel
theorem dX7_phase_61 : decode cX7_phase 61 = .ok (.ishl, 1) := by decide +kernel
theorem dX7_phase_62 : decode cX7_phase 62 = .ok (.ior, 1) := by decide +kernel
theorem dX7_phase_63 : decode cX7_phase 63 = .ok (.istore 4, 2) := by decide +kernel
theorem dX7_phase_65 : decode cX7_phase 65 = .ok (.iinc 3 1, 3) := by decide +kernel
theorem dX7_phase_68 : decode cX7_phase 68 = .ok (.goto (-60), 3) := by decide +kernel
theorem dX7_phase_71 : decode cX7_phase 71 = .ok (.aload_n 0, 1) := by decide +kernel
theorem dX7_phase_72 : decode cX7_phase 72 = .ok (.iload_n 3, 1) := by decide +kernel
theorem dX7_phase_73 : decode cX7_phase 73 = .ok (.putfield 117, 3) := by decide +kernel
theorem dX7_phase_76 : decode cX7_phase 76 = .ok (.iload 4, 2) := by decide +kernel
theorem dX7_phase_78 : decode cX7_phase 78 = .ok (.ifCond .ne 5, 3) := by decide +kernel
theorem dX7_phase_81 : decode cX7_phase 81 = .ok (.iconst (-1), 1) := by decide +kernel
theorem dX7_phase_82 : decode cX7_phase 82 = .ok (.ireturn, 1) := by decide +kernel
theorem dX7_phase_83 : decode cX7_phase 83 = .ok (.aload_n 0, 1) := by decide +kernel
theorem dX7_phase_84 : decode cX7_phase 84 = .ok (.iload_n 3, 1) := by decide +kernel
theorem dX7_phase_85 : decode cX7_phase 85 = .ok (.invokevirtual 120, 3) := by decide +kernel
theorem dX7_phase_88 : decode cX7_phase 88 = .ok (.istore 6, 2) := by decide +kernel
theorem dX7_phase_90 : decode cX7_phase 90 = .ok (.iload 6, 2) := by decide +kernel
theorem dX7_phase_92 : decode cX7_phase 92 = .ok (.iconst 1, 1) := by decide +kernel
theorem dX7_phase_93 : decode cX7_phase 93 = .ok (.if_icmp .lt 10, 3) := by decide +kernel
theorem dX7_phase_96 : decode cX7_phase 96 = .ok (.iload 6, 2) := by decide +kernel
theorem dX7_phase_98 : decode cX7_phase 98 = .ok (.bipush 15, 2) := by decide +kernel
theorem dX7_phase_100 : decode cX7_phase 100 = .ok (.if_icmp .le 5, 3) := by decide +kernel
theorem dX7_phase_103 : decode cX7_phase 103 = .ok (.iconst (-1), 1) := by decide +kernel
theorem dX7_phase_104 : decode cX7_phase 104 = .ok (.ireturn, 1) := by decide +kernel
theorem dX7_phase_105 : decode cX7_phase 105 = .ok (.aload_n 0, 1) := by decide +kernel
theorem dX7_phase_106 : decode cX7_phase 106 = .ok (.iload_n 3, 1) := by decide +kernel
theorem dX7_phase_107 : decode cX7_phase 107 = .ok (.invokevirtual 123, 3) := by decide +kernel
theorem dX7_phase_110 : decode cX7_phase 110 = .ok (.istore_n 3, 1) := by decide +kernel
theorem dX7_phase_111 : decode cX7_phase 111 = .ok (.aload_n 0, 1) := by decide +kernel
theorem dX7_phase_112 : decode cX7_phase 112 = .ok (.iload_n 3, 1) := by decide +kernel
theorem dX7_phase_113 : decode cX7_phase 113 = .ok (.putfield 117, 3) := by decide +kernel
theorem dX7_phase_116 : decode cX7_phase 116 = .ok (.aload_n 0, 1) := by decide +kernel
theorem dX7_phase_117 : decode cX7_phase 117 = .ok (.iload_n 3, 1) := by decide +kernel
theorem dX7_phase_118 : decode cX7_phase 118 = .ok (.invokevirtual 110, 3) := by decide +kernel
theorem dX7_phase_121 : decode cX7_phase 121 = .ok (.bipush 45, 2) := by decide +kernel
theorem dX7_phase_123 : decode cX7_phase 123 = .ok (.if_icmp .eq 5, 3) := by decide +kernel
theorem dX7_phase_126 : decode cX7_phase 126 = .ok (.iconst (-1), 1) := by decide +kernel
theorem dX7_phase_127 : decode cX7_phase 127 = .ok (.ireturn, 1) := by decide +kernel
theorem dX7_phase_128 : decode cX7_phase 128 = .ok (.iinc 3 1, 3) := by decide +kernel
theorem dX7_phase_131 : decode cX7_phase 131 = .ok (.aload_n 0, 1) := by decide +kernel
theorem dX7_phase_132 : decode cX7_phase 132 = .ok (.iload_n 3, 1) := by decide +kernel
theorem dX7_phase_133 : decode cX7_phase 133 = .ok (.putfield 117, 3) := by decide +kernel
theorem dX7_phase_136 : decode cX7_phase 136 = .ok (.aload_n 0, 1) := by decide +kernel
theorem dX7_phase_137 : decode cX7_phase 137 = .ok (.iload_n 3, 1) := by decide +kernel
theorem dX7_phase_138 : decode cX7_phase 138 = .ok (.invokevirtual 120, 3) := by decide +kernel
theorem dX7_phase_141 : decode cX7_phase 141 = .ok (.istore 7, 2) := by decide +kernel
theorem dX7_phase_143 : decode cX7_phase 143 = .ok (.iload 7, 2) := by decide +kernel
theorem dX7_phase_145 : decode cX7_phase 145 = .ok (.iload 6, 2) := by decide +kernel
theorem dX7_phase_147 : decode cX7_phase 147 = .ok (.if_icmp .lt 10, 3) := by decide +kernel
theorem dX7_phase_150 : decode cX7_phase 150 = .ok (.iload 7, 2) := by decide +kernel
theorem dX7_phase_152 : decode cX7_phase 152 = .ok (.bipush 31, 2) := by decide +kernel
theorem dX7_phase_154 : decode cX7_phase 154 = .ok (.if_icmp .le 5, 3) := by decide +kernel
theorem dX7_phase_157 : decode cX7_phase 157 = .ok (.iconst (-1), 1) := by decide +kernel
theorem dX7_phase_158 : decode cX7_phase 158 = .ok (.ireturn, 1) := by decide +kernel
theorem dX7_phase_159 : decode cX7_phase 159 = .ok (.aload_n 0, 1) := by decide +kernel
theorem dX7_phase_160 : decode cX7_phase 160 = .ok (.getfield 26, 3) := by decide +kernel
theorem dX7_phase_163 : decode cX7_phase 163 = .ok (.iload_n 2, 1) := by decide +kernel
theorem dX7_phase_164 : decode cX7_phase 164 = .ok (.iload 4, 2) := by decide +kernel
theorem dX7_phase_166 : decode cX7_phase 166 = .ok (.iastore, 1) := by decide +kernel
theorem dX7_phase_167 : decode cX7_phase 167 = .ok (.aload_n 0, 1) := by decide +kernel
theorem dX7_phase_168 : decode cX7_phase 168 = .ok (.getfield 29, 3) := by decide +kernel
theorem dX7_phase_171 : decode cX7_phase 171 = .ok (.iload_n 2, 1) := by decide +kernel
theorem dX7_phase_172 : decode cX7_phase 172 = .ok (.iload 6, 2) := by decide +kernel
theorem dX7_phase_174 : decode cX7_phase 174 = .ok (.iastore, 1) := by decide +kernel
theorem dX7_phase_175 : decode cX7_phase 175 = .ok (.aload_n 0, 1) := by decide +kernel
theorem dX7_phase_176 : decode cX7_phase 176 = .ok (.getfield 32, 3) := by decide +kernel
theorem dX7_phase_179 : decode cX7_phase 179 = .ok (.iload_n 2, 1) := by decide +kernel
theorem dX7_phase_180 : decode cX7_phase 180 = .ok (.iload 7, 2) := by decide +kernel
theorem dX7_phase_182 : decode cX7_phase 182 = .ok (.iastore, 1) := by decide +kernel
theorem dX7_phase_183 : decode cX7_phase 183 = .ok (.aload_n 0, 1) := by decide +kernel
theorem dX7_phase_184 : decode cX7_phase 184 = .ok (.iload_n 3, 1) := by decide +kernel
theorem dX7_phase_185 : decode cX7_phase 185 = .ok (.invokevirtual 123, 3) := by decide +kernel
theorem dX7_phase_188 : decode cX7_phase 188 = .ok (.ireturn, 1) := by decide +kernel
set_option maxRecDepth 20000 in
theorem ggX7_read_X7_phase : GoodIn wsX7_read wsX7_phase := goodIn_r _ [13, 14, 7, 4, 5, 6, 15, 16, 17, 12, 18, 2, 19, 20, 21, 22, 23, 24, 25, 26, 27, 28, 29, 30, 31, 46, 47, 48, 49, 50, 51, 52, 53, 54, 55, 56, 57, 58, 59, 60, 61, 62, 63, 64, 65, 66, 67, 68, 69, 70, 71, 72, 73, 74, 75, 76] (by decide +kernel) (by decide +kernel)
set_option maxRecDepth 20000 in
theorem gX7_read_X7_phase : GoodIn wsX7_read (wsV RX7 126 RX7 yX7_phase wsX7_phase) := goodIn_app (goodIn_of _ (by decide +kernel)) ggX7_read_X7_phase
set_option maxRecDepth 20000 in
theorem ggX7_read_X7_sign : GoodIn wsX7_read wsX7_sign := goodIn_r _ [18, 2, 19, 46, 47, 48, 49, 50, 51, 52, 53, 54, 55, 56, 57, 58, 59, 60, 61, 62, 63, 64, 65, 66, 67, 68, 69, 70, 71, 72, 73, 74, 75, 76] (by decide +kernel) (by decide +kernel)
set_option maxRecDepth 20000 in
theorem gX7_read_X7_sign : GoodIn wsX7_read (wsV RX7 110 RX7 yX7_sign wsX7_sign) := goodIn_app (goodIn_of _ (by decide +kernel)) ggX7_read_X7_sign
set_option maxRecDepth 20000 in
theorem ggX7_read_X7_anew : GoodIn wsX7_read wsX7_anew := goodIn_r _ [35, 36, 37, 38, 39, 40, 41, 42, 43, 44, 12, 45, 14, 3, 4, 46, 47, 48, 49, 50, 51, 52, 53, 54, 55, 56, 57, 58, 59, 60, 61, 62, 63, 64, 65, 66, 67, 68, 69, 70, 71, 72, 73, 74, 75, 76] (by decide +kernel) (by decide +kernel)
set_option maxRecDepth 20000 in
theorem gX7_read_X7_anew : GoodIn wsX7_read (wsV RX7 91 RX7 yX7_anew wsX7_anew) := goodIn_app (goodIn_of _ (by decide +kernel)) ggX7_read_X7_anew
theorem dX7_read_0 : decode cX7_read 0 = .ok (.aload_n 0, 1) := by decide +kernel
theorem dX7_read_1 : decode cX7_read 1 = .ok (.iconst 0, 1) := by decide +kernel
theorem dX7_read_2 : decode cX7_read 2 = .ok (.putfield 79, 3) := by decide +kernel
theorem dX7_read_5 : decode cX7_read 5 = .ok (.aload_n 0, 1) := by decide +kernel
theorem dX7_read_6 : decode cX7_read 6 = .ok (.getfield 88, 3) := by decide +kernel
theorem dX7_read_9 : decode cX7_read 9 = .ok (.istore_n 1, 1) := by decide +kernel
theorem dX7_read_10 : decode cX7_read 10 = .ok (.iload_n 1, 1) := by decide +kernel
theorem dX7_read_11 : decode cX7_read 11 = .ok (.istore_n 2, 1) := by decide +kernel
theorem dX7_read_12 : decode cX7_read 12 = .ok (.iconst 0, 1) := by decide +kernel
theorem dX7_read_13 : decode cX7_read 13 = .ok (.istore_n 3, 1) := by decide +kernel
theorem dX7_read_14 : decode cX7_read 14 = .ok (.iconst 0, 1) := by decide +kernel
theorem dX7_read_15 : decode cX7_read 15 = .ok (.istore 4, 2) := by decide +kernel
theorem dX7_read_17 : decode cX7_read 17 = .ok (.iconst 1, 1) := by decide +kernel
theorem dX7_read_18 : decode cX7_read 18 = .ok (.istore 5, 2) := by decide +kernel
theorem dX7_read_20 : decode cX7_read 20 = .ok (.iconst 0, 1) := by decide +kernel
theorem dX7_read_21 : decode cX7_read 21 = .ok (.istore 6, 2) := by decide +kernel
theorem dX7_read_23 : decode cX7_read 23 = .ok (.iload 5, 2) := by decide +kernel
theorem dX7_read_25 : decode cX7_read 25 = .ok (.ifCond .eq 170, 3) := by decide +kernel
theorem dX7_read_28 : decode cX7_read 28 = .ok (.iconst 0, 1) := by decide +kernel
theorem dX7_read_29 : decode cX7_read 29 = .ok (.istore 5, 2) := by decide +kernel
theorem dX7_read_31 : decode cX7_read 31 = .ok (.aload_n 0, 1) := by decide +kernel
theorem dX7_read_32 : decode cX7_read 32 = .ok (.getfield 85, 3) := by decide +kernel
theorem dX7_read_35 : decode cX7_read 35 = .ok (.iconst 3, 1) := by decide +kernel
theorem dX7_read_36 : decode cX7_read 36 = .ok (.if_icmp .ge 14, 3) := by decide +kernel
theorem dX7_read_39 : decode cX7_read 39 = .ok (.iconst 5, 1) := by decide +kernel
theorem dX7_read_40 : decode cX7_read 40 = .ok (.aload_n 0, 1) := by decide +kernel
theorem dX7_read_41 : decode cX7_read 41 = .ok (.getfield 85, 3) := by decide +kernel
theorem dX7_read_44 : decode cX7_read 44 = .ok (.imul, 1) := by decide +kernel
theorem dX7_read_45 : decode cX7_read 45 = .ok (.iload_n 3, 1) := by decide +kernel
theorem dX7_read_46 : decode cX7_read 46 = .ok (.iadd, 1) := by decide +kernel
theorem dX7_read_47 : decode cX7_read 47 = .ok (.goto 5, 3) := by decide +kernel
theorem dX7_read_50 : decode cX7_read 50 = .ok (.bipush 14, 2) := by decide +kernel
theorem dX7_read_52 : decode cX7_read 52 = .ok (.istore 7, 2) := by decide +kernel
theorem dX7_read_54 : decode cX7_read 54 = .ok (.aload_n 0, 1) := by decide +kernel
theorem dX7_read_55 : decode cX7_read 55 = .ok (.getfield 26, 3) := by decide +kernel
theorem dX7_read_58 : decode cX7_read 58 = .ok (.iload 7, 2) := by decide +kernel
theorem dX7_read_60 : decode cX7_read 60 = .ok (.iaload, 1) := by decide +kernel
theorem dX7_read_61 : decode cX7_read 61 = .ok (.istore 8, 2) := by decide +kernel
theorem dX7_read_63 : decode cX7_read 63 = .ok (.aload_n 0, 1) := by decide +kernel
theorem dX7_read_64 : decode cX7_read 64 = .ok (.getfield 29, 3) := by decide +kernel
theorem dX7_read_67 : decode cX7_read 67 = .ok (.iload 7, 2) := by decide +kernel
theorem dX7_read_69 : decode cX7_read 69 = .ok (.iaload, 1) := by decide +kernel
theorem dX7_read_70 : decode cX7_read 70 = .ok (.istore 9, 2) := by decide +kernel
theorem dX7_read_72 : decode cX7_read 72 = .ok (.aload_n 0, 1) := by decide +kernel
theorem dX7_read_73 : decode cX7_read 73 = .ok (.getfield 32, 3) := by decide +kernel
theorem dX7_read_76 : decode cX7_read 76 = .ok (.iload 7, 2) := by decide +kernel
theorem dX7_read_78 : decode cX7_read 78 = .ok (.iaload, 1) := by decide +kernel
theorem dX7_read_79 : decode cX7_read 79 = .ok (.istore 10, 2) := by decide +kernel
theorem dX7_read_81 : decode cX7_read 81 = .ok (.aload_n 0, 1) := by decide +kernel
theorem dX7_read_82 : decode cX7_read 82 = .ok (.iload 4, 2) := by decide +kernel
theorem dX7_read_84 : decode cX7_read 84 = .ok (.iload 7, 2) := by decide +kernel
theorem dX7_read_86 : decode cX7_read 86 = .ok (.invokevirtual 126, 3) := by decide +kernel
theorem dX7_read_89 : decode cX7_read 89 = .ok (.istore 11, 2) := by decide +kernel
theorem dX7_read_91 : decode cX7_read 91 = .ok (.aload_n 0, 1) := by decide +kernel
theorem dX7_read_92 : decode cX7_read 92 = .ok (.getfield 85, 3) := by decide +kernel
theorem dX7_read_95 : decode cX7_read 95 = .ok (.iconst 3, 1) := by decide +kernel
theorem dX7_read_96 : decode cX7_read 96 = .ok (.if_icmp .ne 30, 3) := by decide +kernel
theorem dX7_read_99 : decode cX7_read 99 = .ok (.aload_n 0, 1) := by decide +kernel
theorem dX7_read_100 : decode cX7_read 100 = .ok (.getfield 26, 3) := by decide +kernel
theorem dX7_read_103 : decode cX7_read 103 = .ok (.iload 7, 2) := by decide +kernel
theorem dX7_read_105 : decode cX7_read 105 = .ok (.iload 8, 2) := by decide +kernel
theorem dX7_read_107 : decode cX7_read 107 = .ok (.iastore, 1) := by decide +kernel
theorem dX7_read_108 : decode cX7_read 108 = .ok (.aload_n 0, 1) := by decide +kernel
theorem dX7_read_109 : decode cX7_read 109 = .ok (.getfield 29, 3) := by decide +kernel
theorem dX7_read_112 : decode cX7_read 112 = .ok (.iload 7, 2) := by decide +kernel
theorem dX7_read_114 : decode cX7_read 114 = .ok (.iload 9, 2) := by decide +kernel
theorem dX7_read_116 : decode cX7_read 116 = .ok (.iastore, 1) := by decide +kernel
theorem dX7_read_117 : decode cX7_read 117 = .ok (.aload_n 0, 1) := by decide +kernel
theorem dX7_read_118 : decode cX7_read 118 = .ok (.getfield 32, 3) := by decide +kernel
theorem dX7_read_121 : decode cX7_read 121 = .ok (.iload 7, 2) := by decide +kernel
theorem dX7_read_123 : decode cX7_read 123 = .ok (.iload 10, 2) := by decide +kernel
theorem dX7_read_125 : decode cX7_read 125 = .ok (.iastore, 1) := by decide +kernel
theorem dX7_read_126 : decode cX7_read 126 = .ok (.iload 11, 2) := by decide +kernel
theorem dX7_read_128 : decode cX7_read 128 = .ok (.ifCond .ge 11, 3) := by decide +kernel
theorem dX7_read_131 : decode cX7_read 131 = .ok (.aload_n 0, 1) := by decide +kernel
theorem dX7_read_132 : decode cX7_read 132 = .ok (.getfield 117, 3) := by decide +kernel
theorem dX7_read_135 : decode cX7_read 135 = .ok (.istore_n 2, 1) := by decide +kernel
theorem dX7_read_136 : decode cX7_read 136 = .ok (.goto 56, 3) := by decide +kernel
theorem dX7_read_139 : decode cX7_read 139 = .ok (.iinc 3 1, 3) := by decide +kernel
theorem dX7_read_142 : decode cX7_read 142 = .ok (.iload 11, 2) := by decide +kernel
theorem dX7_read_144 : decode cX7_read 144 = .ok (.istore_n 2, 1) := by decide +kernel
theorem dX7_read_145 : decode cX7_read 145 = .ok (.iload 11, 2) := by decide +kernel
theorem dX7_read_147 : decode cX7_read 147 = .ok (.iload_n 1, 1) := by decide +kernel
theorem dX7_read_148 : decode cX7_read 148 = .ok (.if_icmp .ne 7, 3) := by decide +kernel
theorem dX7_read_151 : decode cX7_read 151 = .ok (.iconst 1, 1) := by decide +kernel
theorem dX7_read_152 : decode cX7_read 152 = .ok (.goto 4, 3) := by decide +kernel
theorem dX7_read_155 : decode cX7_read 155 = .ok (.iconst 0, 1) := by decide +kernel
theorem dX7_read_156 : decode cX7_read 156 = .ok (.istore 6, 2) := by decide +kernel
theorem dX7_read_158 : decode cX7_read 158 = .ok (.iload 6, 2) := by decide +kernel
theorem dX7_read_160 : decode cX7_read 160 = .ok (.ifCond .ne 23, 3) := by decide +kernel
theorem dX7_read_163 : decode cX7_read 163 = .ok (.aload_n 0, 1) := by decide +kernel
theorem dX7_read_164 : decode cX7_read 164 = .ok (.iload 11, 2) := by decide +kernel
theorem dX7_read_166 : decode cX7_read 166 = .ok (.invokevirtual 110, 3) := by decide +kernel
theorem dX7_read_169 : decode cX7_read 169 = .ok (.bipush 59, 2) := by decide +kernel
theorem dX7_read_171 : decode cX7_read 171 = .ok (.if_icmp .ne 12, 3) := by decide +kernel
theorem dX7_read_174 : decode cX7_read 174 = .ok (.iload_n 3, 1) := by decide +kernel
theorem dX7_read_175 : decode cX7_read 175 = .ok (.iconst 5, 1) := by decide +kernel
theorem dX7_read_176 : decode cX7_read 176 = .ok (.if_icmp .ge 7, 3) := by decide +kernel
theorem dX7_read_179 : decode cX7_read 179 = .ok (.iconst 1, 1) := by decide +kernel
theorem dX7_read_180 : decode cX7_read 180 = .ok (.goto 4, 3) := by decide +kernel
theorem dX7_read_183 : decode cX7_read 183 = .ok (.iconst 0, 1) := by decide +kernel
theorem dX7_read_184 : decode cX7_read 184 = .ok (.istore 5, 2) := by decide +kernel
theorem dX7_read_186 : decode cX7_read 186 = .ok (.iload 11, 2) := by decide +kernel
theorem dX7_read_188 : decode cX7_read 188 = .ok (.iconst 1, 1) := by decide +kernel
theorem dX7_read_189 : decode cX7_read 189 = .ok (.iadd, 1) := by decide +kernel
theorem dX7_read_190 : decode cX7_read 190 = .ok (.istore 4, 2) := by decide +kernel
theorem dX7_read_192 : decode cX7_read 192 = .ok (.goto (-169), 3) := by decide +kernel
theorem dX7_read_195 : decode cX7_read 195 = .ok (.aload_n 0, 1) := by decide +kernel
theorem dX7_read_196 : decode cX7_read 196 = .ok (.iconst 0, 1) := by decide +kernel
theorem dX7_read_197 : decode cX7_read 197 = .ok (.putfield 88, 3) := by decide +kernel
theorem dX7_read_200 : decode cX7_read 200 = .ok (.iload 6, 2) := by decide +kernel
theorem dX7_read_202 : decode cX7_read 202 = .ok (.ifCond .eq 11, 3) := by decide +kernel
theorem dX7_read_205 : decode cX7_read 205 = .ok (.aload_n 0, 1) := by decide +kernel
theorem dX7_read_206 : decode cX7_read 206 = .ok (.getfield 85, 3) := by decide +kernel
theorem dX7_read_209 : decode cX7_read 209 = .ok (.iconst 3, 1) := by decide +kernel
theorem dX7_read_210 : decode cX7_read 210 = .ok (.if_icmp .ne 16, 3) := by decide +kernel
theorem dX7_read_213 : decode cX7_read 213 = .ok (.iconst (-1), 1) := by decide +kernel
theorem dX7_read_214 : decode cX7_read 214 = .ok (.iload 6, 2) := by decide +kernel
theorem dX7_read_216 : decode cX7_read 216 = .ok (.ifCond .eq 7, 3) := by decide +kernel
theorem dX7_read_219 : decode cX7_read 219 = .ok (.iload_n 1, 1) := by decide +kernel
theorem dX7_read_220 : decode cX7_read 220 = .ok (.goto 4, 3) := by decide +kernel
theorem dX7_read_223 : decode cX7_read 223 = .ok (.iload_n 2, 1) := by decide +kernel
theorem dX7_read_224 : decode cX7_read 224 = .ok (.isub, 1) := by decide +kernel
theorem dX7_read_225 : decode cX7_read 225 = .ok (.ireturn, 1) := by decide +kernel
theorem dX7_read_226 : decode cX7_read 226 = .ok (.aload_n 0, 1) := by decide +kernel
theorem dX7_read_227 : decode cX7_read 227 = .ok (.getfield 23, 3) := by decide +kernel
theorem dX7_read_230 : decode cX7_read 230 = .ok (.aload_n 0, 1) := by decide +kernel
theorem dX7_read_231 : decode cX7_read 231 = .ok (.getfield 85, 3) := by decide +kernel
theorem dX7_read_234 : decode cX7_read 234 = .ok (.iload_n 3, 1) := by decide +kernel
theorem dX7_read_235 : decode cX7_read 235 = .ok (.iastore, 1) := by decide +kernel
theorem dX7_read_236 : decode cX7_read 236 = .ok (.aload_n 0, 1) := by decide +kernel
theorem dX7_read_237 : decode cX7_read 237 = .ok (.dup, 1) := by decide +kernel
theorem dX7_read_238 : decode cX7_read 238 = .ok (.getfield 85, 3) := by decide +kernel
theorem dX7_read_241 : decode cX7_read 241 = .ok (.iconst 1, 1) := by decide +kernel
theorem dX7_read_242 : decode cX7_read 242 = .ok (.iadd, 1) := by decide +kernel
theorem dX7_read_243 : decode cX7_read 243 = .ok (.putfield 85, 3) := by decide +kernel
theorem dX7_read_246 : decode cX7_read 246 = .ok (.aload_n 0, 1) := by decide +kernel
theorem dX7_read_247 : decode cX7_read 247 = .ok (.invokevirtual 91, 3) := by decide +kernel
theorem dX7_read_250 : decode cX7_read 250 = .ok (.iload_n 3, 1) := by decide +kernel
theorem dX7_read_251 : decode cX7_read 251 = .ok (.ireturn, 1) := by decide +kernel
theorem dX7_program_0 : decode cX7_program 0 = .ok (.aload_n 0, 1) := by decide +kernel
theorem dX7_program_1 : decode cX7_program 1 = .ok (.iconst 0, 1) := by decide +kernel
theorem dX7_program_2 : decode cX7_program 2 = .ok (.putfield 79, 3) := by decide +kernel
theorem dX7_program_5 : decode cX7_program 5 = .ok (.aload_n 0, 1) := by decide +kernel
theorem dX7_program_6 : decode cX7_program 6 = .ok (.getfield 85, 3) := by decide +kernel
theorem dX7_program_9 : decode cX7_program 9 = .ok (.ireturn, 1) := by decide +kernel
theorem dX7_groupsOf_0 : decode cX7_groupsOf 0 = .ok (.aload_n 0, 1) := by decide +kernel
theorem dX7_groupsOf_1 : decode cX7_groupsOf 1 = .ok (.getfield 26, 3) := by decide +kernel
theorem dX7_groupsOf_4 : decode cX7_groupsOf 4 = .ok (.iconst 5, 1) := by decide +kernel
theorem dX7_groupsOf_5 : decode cX7_groupsOf 5 = .ok (.iload_n 1, 1) := by decide +kernel
theorem dX7_groupsOf_6 : decode cX7_groupsOf 6 = .ok (.imul, 1) := by decide +kernel
theorem dX7_groupsOf_7 : decode cX7_groupsOf 7 = .ok (.iload_n 2, 1) := by decide +kernel
theorem dX7_groupsOf_8 : decode cX7_groupsOf 8 = .ok (.iadd, 1) := by decide +kernel
theorem dX7_groupsOf_9 : decode cX7_groupsOf 9 = .ok (.iaload, 1) := by decide +kernel
theorem dX7_groupsOf_10 : decode cX7_groupsOf 10 = .ok (.ireturn, 1) := by decide +kernel
set_option maxRecDepth 20000 in
theorem ggX7_shownNow_X7_groupsOf : GoodIn wsX7_shownNow wsX7_groupsOf := goodIn_r _ [6, 7, 8, 9, 10, 11, 12, 13, 14, 15, 16, 17, 18, 19, 20, 21, 22, 23, 24, 25, 26, 27, 28, 29, 30, 31, 32, 33, 34, 35, 36, 37, 38] (by decide +kernel) (by decide +kernel)
set_option maxRecDepth 20000 in
theorem gX7_shownNow_X7_groupsOf : GoodIn wsX7_shownNow (wsV RX7 130 RX7 yX7_groupsOf wsX7_groupsOf) := goodIn_app (goodIn_of _ (by decide +kernel)) ggX7_shownNow_X7_groupsOf
theorem dX7_shownNow_0 : decode cX7_shownNow 0 = .ok (.aload_n 0, 1) := by decide +kernel
theorem dX7_shownNow_1 : decode cX7_shownNow 1 = .ok (.aload_n 0, 1) := by decide +kernel
theorem dX7_shownNow_2 : decode cX7_shownNow 2 = .ok (.getfield 47, 3) := by decide +kernel
theorem dX7_shownNow_5 : decode cX7_shownNow 5 = .ok (.iconst 0, 1) := by decide +kernel
theorem dX7_shownNow_6 : decode cX7_shownNow 6 = .ok (.iaload, 1) := by decide +kernel
theorem dX7_shownNow_7 : decode cX7_shownNow 7 = .ok (.aload_n 0, 1) := by decide +kernel
theorem dX7_shownNow_8 : decode cX7_shownNow 8 = .ok (.getfield 47, 3) := by decide +kernel
theorem dX7_shownNow_11 : decode cX7_shownNow 11 = .ok (.iconst 1, 1) := by decide +kernel
theorem dX7_shownNow_12 : decode cX7_shownNow 12 = .ok (.iaload, 1) := by decide +kernel
theorem dX7_shownNow_13 : decode cX7_shownNow 13 = .ok (.invokevirtual 130, 3) := by decide +kernel
theorem dX7_shownNow_16 : decode cX7_shownNow 16 = .ok (.istore_n 1, 1) := by decide +kernel
theorem dX7_shownNow_17 : decode cX7_shownNow 17 = .ok (.aload_n 0, 1) := by decide +kernel
theorem dX7_shownNow_18 : decode cX7_shownNow 18 = .ok (.getfield 47, 3) := by decide +kernel
theorem dX7_shownNow_21 : decode cX7_shownNow 21 = .ok (.iconst 3, 1) := by decide +kernel
theorem dX7_shownNow_22 : decode cX7_shownNow 22 = .ok (.iaload, 1) := by decide +kernel
theorem dX7_shownNow_23 : decode cX7_shownNow 23 = .ok (.ifCond .le 24, 3) := by decide +kernel
theorem dX7_shownNow_26 : decode cX7_shownNow 26 = .ok (.iload_n 1, 1) := by decide +kernel
theorem dX7_shownNow_27 : decode cX7_shownNow 27 = .ok (.aload_n 0, 1) := by decide +kernel
theorem dX7_shownNow_28 : decode cX7_shownNow 28 = .ok (.aload_n 0, 1) := by decide +kernel
theorem dX7_shownNow_29 : decode cX7_shownNow 29 = .ok (.getfield 47, 3) := by decide +kernel
theorem dX7_shownNow_32 : decode cX7_shownNow 32 = .ok (.iconst 4, 1) := by decide +kernel
theorem dX7_shownNow_33 : decode cX7_shownNow 33 = .ok (.iaload, 1) := by decide +kernel
theorem dX7_shownNow_34 : decode cX7_shownNow 34 = .ok (.aload_n 0, 1) := by decide +kernel
theorem dX7_shownNow_35 : decode cX7_shownNow 35 = .ok (.getfield 47, 3) := by decide +kernel
theorem dX7_shownNow_38 : decode cX7_shownNow 38 = .ok (.iconst 5, 1) := by decide +kernel
theorem dX7_shownNow_39 : decode cX7_shownNow 39 = .ok (.iaload, 1) := by decide +kernel
theorem dX7_shownNow_40 : decode cX7_shownNow 40 = .ok (.invokevirtual 130, 3) := by decide +kernel
theorem dX7_shownNow_43 : decode cX7_shownNow 43 = .ok (.iand, 1) := by decide +kernel
theorem dX7_shownNow_44 : decode cX7_shownNow 44 = .ok (.goto 4, 3) := by decide +kernel
theorem dX7_shownNow_47 : decode cX7_shownNow 47 = .ok (.iload_n 1, 1) := by decide +kernel
theorem dX7_shownNow_48 : decode cX7_shownNow 48 = .ok (.ireturn, 1) := by decide +kernel
set_option maxRecDepth 20000 in
theorem ggX7_comes_X7_groupsOf : GoodIn wsX7_comes wsX7_groupsOf := goodIn_r _ [7, 8, 9, 10, 11, 12, 13, 14, 15, 16, 17, 18, 19, 20, 21, 22, 23, 24, 25, 26, 27, 28, 29, 30, 31, 32, 33, 34, 35, 36, 37, 38, 39] (by decide +kernel) (by decide +kernel)
set_option maxRecDepth 20000 in
theorem gX7_comes_X7_groupsOf : GoodIn wsX7_comes (wsV RX7 130 RX7 yX7_groupsOf wsX7_groupsOf) := goodIn_app (goodIn_of _ (by decide +kernel)) ggX7_comes_X7_groupsOf
theorem dX7_comes_0 : decode cX7_comes 0 = .ok (.aload_n 0, 1) := by decide +kernel
theorem dX7_comes_1 : decode cX7_comes 1 = .ok (.getfield 47, 3) := by decide +kernel
theorem dX7_comes_4 : decode cX7_comes 4 = .ok (.iconst 4, 1) := by decide +kernel
theorem dX7_comes_5 : decode cX7_comes 5 = .ok (.iaload, 1) := by decide +kernel
theorem dX7_comes_6 : decode cX7_comes 6 = .ok (.istore_n 1, 1) := by decide +kernel
theorem dX7_comes_7 : decode cX7_comes 7 = .ok (.aload_n 0, 1) := by decide +kernel
theorem dX7_comes_8 : decode cX7_comes 8 = .ok (.getfield 47, 3) := by decide +kernel
theorem dX7_comes_11 : decode cX7_comes 11 = .ok (.iconst 5, 1) := by decide +kernel
theorem dX7_comes_12 : decode cX7_comes 12 = .ok (.iaload, 1) := by decide +kernel
theorem dX7_comes_13 : decode cX7_comes 13 = .ok (.istore_n 2, 1) := by decide +kernel
theorem dX7_comes_14 : decode cX7_comes 14 = .ok (.aload_n 0, 1) := by decide +kernel
theorem dX7_comes_15 : decode cX7_comes 15 = .ok (.aload_n 0, 1) := by decide +kernel
theorem dX7_comes_16 : decode cX7_comes 16 = .ok (.getfield 47, 3) := by decide +kernel
theorem dX7_comes_19 : decode cX7_comes 19 = .ok (.iconst 0, 1) := by decide +kernel
theorem dX7_comes_20 : decode cX7_comes 20 = .ok (.iaload, 1) := by decide +kernel
theorem dX7_comes_21 : decode cX7_comes 21 = .ok (.aload_n 0, 1) := by decide +kernel
theorem dX7_comes_22 : decode cX7_comes 22 = .ok (.getfield 47, 3) := by decide +kernel
theorem dX7_comes_25 : decode cX7_comes 25 = .ok (.iconst 1, 1) := by decide +kernel
theorem dX7_comes_26 : decode cX7_comes 26 = .ok (.iaload, 1) := by decide +kernel
theorem dX7_comes_27 : decode cX7_comes 27 = .ok (.invokevirtual 130, 3) := by decide +kernel
theorem dX7_comes_30 : decode cX7_comes 30 = .ok (.istore_n 3, 1) := by decide +kernel
theorem dX7_comes_31 : decode cX7_comes 31 = .ok (.aload_n 0, 1) := by decide +kernel
theorem dX7_comes_32 : decode cX7_comes 32 = .ok (.iload_n 1, 1) := by decide +kernel
theorem dX7_comes_33 : decode cX7_comes 33 = .ok (.iload_n 2, 1) := by decide +kernel
theorem dX7_comes_34 : decode cX7_comes 34 = .ok (.invokevirtual 130, 3) := by decide +kernel
theorem dX7_comes_37 : decode cX7_comes 37 = .ok (.istore 4, 2) := by decide +kernel
theorem dX7_comes_39 : decode cX7_comes 39 = .ok (.iconst 0, 1) := by decide +kernel
theorem dX7_comes_40 : decode cX7_comes 40 = .ok (.istore 5, 2) := by decide +kernel
theorem dX7_comes_42 : decode cX7_comes 42 = .ok (.iload 5, 2) := by decide +kernel
theorem dX7_comes_44 : decode cX7_comes 44 = .ok (.aload_n 0, 1) := by decide +kernel
theorem dX7_comes_45 : decode cX7_comes 45 = .ok (.getfield 82, 3) := by decide +kernel
theorem dX7_comes_48 : decode cX7_comes 48 = .ok (.if_icmp .ge 40, 3) := by decide +kernel
theorem dX7_comes_51 : decode cX7_comes 51 = .ok (.iload 4, 2) := by decide +kernel
theorem dX7_comes_53 : decode cX7_comes 53 = .ok (.iload 5, 2) := by decide +kernel
theorem dX7_comes_55 : decode cX7_comes 55 = .ok (.ishr, 1) := by decide +kernel
theorem dX7_comes_56 : decode cX7_comes 56 = .ok (.iconst 1, 1) := by decide +kernel
theorem dX7_comes_57 : decode cX7_comes 57 = .ok (.iand, 1) := by decide +kernel
theorem dX7_comes_58 : decode cX7_comes 58 = .ok (.iconst 1, 1) := by decide +kernel
theorem dX7_comes_59 : decode cX7_comes 59 = .ok (.if_icmp .ne 23, 3) := by decide +kernel
theorem dX7_comes_62 : decode cX7_comes 62 = .ok (.iload_n 3, 1) := by decide +kernel
theorem dX7_comes_63 : decode cX7_comes 63 = .ok (.iload 5, 2) := by decide +kernel
theorem dX7_comes_65 : decode cX7_comes 65 = .ok (.ishr, 1) := by decide +kernel
theorem dX7_comes_66 : decode cX7_comes 66 = .ok (.iconst 1, 1) := by decide +kernel
theorem dX7_comes_67 : decode cX7_comes 67 = .ok (.iand, 1) := by decide +kernel
theorem dX7_comes_68 : decode cX7_comes 68 = .ok (.ifCond .ne 14, 3) := by decide +kernel
theorem dX7_comes_71 : decode cX7_comes 71 = .ok (.aload_n 0, 1) := by decide +kernel
theorem dX7_comes_72 : decode cX7_comes 72 = .ok (.getfield 47, 3) := by decide +kernel
theorem dX7_comes_75 : decode cX7_comes 75 = .ok (.bipush 8, 2) := by decide +kernel
theorem dX7_comes_77 : decode cX7_comes 77 = .ok (.iload 5, 2) := by decide +kernel
theorem dX7_comes_79 : decode cX7_comes 79 = .ok (.iadd, 1) := by decide +kernel
theorem dX7_comes_80 : decode cX7_comes 80 = .ok (.iconst 0, 1) := by decide +kernel
theorem dX7_comes_81 : decode cX7_comes 81 = .ok (.iastore, 1) := by decide +kernel
theorem dX7_comes_82 : decode cX7_comes 82 = .ok (.iinc 5 1, 3) := by decide +kernel
theorem dX7_comes_85 : decode cX7_comes 85 = .ok (.goto (-43), 3) := by decide +kernel
theorem dX7_comes_88 : decode cX7_comes 88 = .ok (.aload_n 0, 1) := by decide +kernel
theorem dX7_comes_89 : decode cX7_comes 89 = .ok (.getfield 47, 3) := by decide +kernel
theorem dX7_comes_92 : decode cX7_comes 92 = .ok (.bipush 7, 2) := by decide +kernel
theorem dX7_comes_94 : decode cX7_comes 94 = .ok (.aload_n 0, 1) := by decide +kernel
theorem dX7_comes_95 : decode cX7_comes 95 = .ok (.getfield 47, 3) := by decide +kernel
theorem dX7_comes_98 : decode cX7_comes 98 = .ok (.bipush 7, 2) := by decide +kernel
theorem dX7_comes_100 : decode cX7_comes 100 = .ok (.iaload, 1) := by decide +kernel
theorem dX7_comes_101 : decode cX7_comes 101 = .ok (.iload 4, 2) := by decide +kernel
theorem dX7_comes_103 : decode cX7_comes 103 = .ok (.iconst (-1), 1) := by decide +kernel
theorem dX7_comes_104 : decode cX7_comes 104 = .ok (.ixor, 1) := by decide +kernel
theorem dX7_comes_105 : decode cX7_comes 105 = .ok (.iand, 1) := by decide +kernel
theorem dX7_comes_106 : decode cX7_comes 106 = .ok (.iastore, 1) := by decide +kernel
theorem dX7_comes_107 : decode cX7_comes 107 = .ok (.aload_n 0, 1) := by decide +kernel
theorem dX7_comes_108 : decode cX7_comes 108 = .ok (.getfield 47, 3) := by decide +kernel
theorem dX7_comes_111 : decode cX7_comes 111 = .ok (.iconst 0, 1) := by decide +kernel
theorem dX7_comes_112 : decode cX7_comes 112 = .ok (.iload_n 1, 1) := by decide +kernel
theorem dX7_comes_113 : decode cX7_comes 113 = .ok (.iastore, 1) := by decide +kernel
theorem dX7_comes_114 : decode cX7_comes 114 = .ok (.aload_n 0, 1) := by decide +kernel
theorem dX7_comes_115 : decode cX7_comes 115 = .ok (.getfield 47, 3) := by decide +kernel
theorem dX7_comes_118 : decode cX7_comes 118 = .ok (.iconst 1, 1) := by decide +kernel
theorem dX7_comes_119 : decode cX7_comes 119 = .ok (.iload_n 2, 1) := by decide +kernel
theorem dX7_comes_120 : decode cX7_comes 120 = .ok (.iastore, 1) := by decide +kernel
theorem dX7_comes_121 : decode cX7_comes 121 = .ok (.aload_n 0, 1) := by decide +kernel
theorem dX7_comes_122 : decode cX7_comes 122 = .ok (.getfield 47, 3) := by decide +kernel
theorem dX7_comes_125 : decode cX7_comes 125 = .ok (.iconst 2, 1) := by decide +kernel
theorem dX7_comes_126 : decode cX7_comes 126 = .ok (.iconst 0, 1) := by decide +kernel
theorem dX7_comes_127 : decode cX7_comes 127 = .ok (.iastore, 1) := by decide +kernel
theorem dX7_comes_128 : decode cX7_comes 128 = .ok (.aload_n 0, 1) := by decide +kernel
theorem dX7_comes_129 : decode cX7_comes 129 = .ok (.getfield 47, 3) := by decide +kernel
theorem dX7_comes_132 : decode cX7_comes 132 = .ok (.iconst 3, 1) := by decide +kernel
theorem dX7_comes_133 : decode cX7_comes 133 = .ok (.iconst 0, 1) := by decide +kernel
theorem dX7_comes_134 : decode cX7_comes 134 = .ok (.iastore, 1) := by decide +kernel
theorem dX7_comes_135 : decode cX7_comes 135 = .ok (.aload_n 0, 1) := by decide +kernel
theorem dX7_comes_136 : decode cX7_comes 136 = .ok (.getfield 47, 3) := by decide +kernel
theorem dX7_comes_139 : decode cX7_comes 139 = .ok (.iconst 4, 1) := by decide +kernel
theorem dX7_comes_140 : decode cX7_comes 140 = .ok (.iconst 0, 1) := by decide +kernel
theorem dX7_comes_141 : decode cX7_comes 141 = .ok (.iastore, 1) := by decide +kernel
theorem dX7_comes_142 : decode cX7_comes 142 = .ok (.aload_n 0, 1) := by decide +kernel
theorem dX7_comes_143 : decode cX7_comes 143 = .ok (.getfield 47, 3) := by decide +kernel
theorem dX7_comes_146 : decode cX7_comes 146 = .ok (.iconst 5, 1) := by decide +kernel
theorem dX7_comes_147 : decode cX7_comes 147 = .ok (.iconst 0, 1) := by decide +kernel
theorem dX7_comes_148 : decode cX7_comes 148 = .ok (.iastore, 1) := by decide +kernel
theorem dX7_comes_149 : decode cX7_comes 149 = .ok (.return_, 1) := by decide +kernel
set_option maxRecDepth 20000 in
theorem ggX7_end_X7_groupsOf : GoodIn wsX7_end wsX7_groupsOf := goodIn_r _ [10, 11, 16, 17, 18, 19, 20, 21, 22, 23, 24, 25, 26, 27, 28, 29, 30, 31, 32, 33, 34, 35, 36, 37, 38, 39, 40, 41, 42, 43, 44, 45, 46] (by decide +kernel) (by decide +kernel)
set_option maxRecDepth 20000 in
theorem gX7_end_X7_groupsOf : GoodIn wsX7_end (wsV RX7 130 RX7 yX7_groupsOf wsX7_groupsOf) := goodIn_app (goodIn_of _ (by decide +kernel)) ggX7_end_X7_groupsOf
set_option maxRecDepth 20000 in
theorem ggX7_end_X7_comes : GoodIn wsX7_end wsX7_comes := goodIn_r _ [15, 1, 3, 6, 7, 8, 9, 10, 11, 16, 17, 18, 19, 20, 21, 22, 23, 24, 25, 26, 27, 28, 29, 30, 31, 32, 33, 34, 35, 36, 37, 38, 39, 40, 41, 42, 43, 44, 45, 46] (by decide +kernel) (by decide +kernel)
set_option maxRecDepth 20000 in
theorem gX7_end_X7_comes : GoodIn wsX7_end (wsV RX7 133 RX7 yX7_comes wsX7_comes) := goodIn_app (goodIn_of _ (by decide +kernel)) ggX7_end_X7_comes
theorem dX7_end_0 : decode cX7_end 0 = .ok (.aload_n 0, 1) := by decide +kernel
theorem dX7_end_1 : decode cX7_end 1 = .ok (.getfield 47, 3) := by decide +kernel
theorem dX7_end_4 : decode cX7_end 4 = .ok (.iconst 0, 1) := by decide +kernel
theorem dX7_end_5 : decode cX7_end 5 = .ok (.iaload, 1) := by decide +kernel
theorem dX7_end_6 : decode cX7_end 6 = .ok (.istore_n 1, 1) := by decide +kernel
theorem dX7_end_7 : decode cX7_end 7 = .ok (.aload_n 0, 1) := by decide +kernel
theorem dX7_end_8 : decode cX7_end 8 = .ok (.getfield 47, 3) := by decide +kernel
theorem dX7_end_11 : decode cX7_end 11 = .ok (.iconst 1, 1) := by decide +kernel
theorem dX7_end_12 : decode cX7_end 12 = .ok (.iaload, 1) := by decide +kernel
theorem dX7_end_13 : decode cX7_end 13 = .ok (.istore_n 2, 1) := by decide +kernel
theorem dX7_end_14 : decode cX7_end 14 = .ok (.aload_n 0, 1) := by decide +kernel
theorem dX7_end_15 : decode cX7_end 15 = .ok (.getfield 47, 3) := by decide +kernel
theorem dX7_end_18 : decode cX7_end 18 = .ok (.bipush 6, 2) := by decide +kernel
theorem dX7_end_20 : decode cX7_end 20 = .ok (.iaload, 1) := by decide +kernel
theorem dX7_end_21 : decode cX7_end 21 = .ok (.iload_n 1, 1) := by decide +kernel
theorem dX7_end_22 : decode cX7_end 22 = .ok (.if_icmp .eq 16, 3) := by decide +kernel
theorem dX7_end_25 : decode cX7_end 25 = .ok (.aload_n 0, 1) := by decide +kernel
theorem dX7_end_26 : decode cX7_end 26 = .ok (.getfield 47, 3) := by decide +kernel
theorem dX7_end_29 : decode cX7_end 29 = .ok (.bipush 6, 2) := by decide +kernel
theorem dX7_end_31 : decode cX7_end 31 = .ok (.iaload, 1) := by decide +kernel
theorem dX7_end_32 : decode cX7_end 32 = .ok (.istore_n 1, 1) := by decide +kernel
theorem dX7_end_33 : decode cX7_end 33 = .ok (.iconst 0, 1) := by decide +kernel
theorem dX7_end_34 : decode cX7_end 34 = .ok (.istore_n 2, 1) := by decide +kernel
theorem dX7_end_35 : decode cX7_end 35 = .ok (.goto 81, 3) := by decide +kernel
theorem dX7_end_38 : decode cX7_end 38 = .ok (.iconst 1, 1) := by decide +kernel
theorem dX7_end_39 : decode cX7_end 39 = .ok (.istore_n 3, 1) := by decide +kernel
theorem dX7_end_40 : decode cX7_end 40 = .ok (.iload_n 3, 1) := by decide +kernel
theorem dX7_end_41 : decode cX7_end 41 = .ok (.aload_n 0, 1) := by decide +kernel
theorem dX7_end_42 : decode cX7_end 42 = .ok (.getfield 23, 3) := by decide +kernel
theorem dX7_end_45 : decode cX7_end 45 = .ok (.iload_n 1, 1) := by decide +kernel
theorem dX7_end_46 : decode cX7_end 46 = .ok (.iaload, 1) := by decide +kernel
theorem dX7_end_47 : decode cX7_end 47 = .ok (.if_icmp .ge 35, 3) := by decide +kernel
theorem dX7_end_50 : decode cX7_end 50 = .ok (.aload_n 0, 1) := by decide +kernel
theorem dX7_end_51 : decode cX7_end 51 = .ok (.iload_n 1, 1) := by decide +kernel
theorem dX7_end_52 : decode cX7_end 52 = .ok (.iload_n 2, 1) := by decide +kernel
theorem dX7_end_53 : decode cX7_end 53 = .ok (.iload_n 3, 1) := by decide +kernel
theorem dX7_end_54 : decode cX7_end 54 = .ok (.iadd, 1) := by decide +kernel
theorem dX7_end_55 : decode cX7_end 55 = .ok (.aload_n 0, 1) := by decide +kernel
theorem dX7_end_56 : decode cX7_end 56 = .ok (.getfield 23, 3) := by decide +kernel
theorem dX7_end_59 : decode cX7_end 59 = .ok (.iload_n 1, 1) := by decide +kernel
theorem dX7_end_60 : decode cX7_end 60 = .ok (.iaload, 1) := by decide +kernel
theorem dX7_end_61 : decode cX7_end 61 = .ok (.irem, 1) := by decide +kernel
theorem dX7_end_62 : decode cX7_end 62 = .ok (.invokevirtual 130, 3) := by decide +kernel
theorem dX7_end_65 : decode cX7_end 65 = .ok (.aload_n 0, 1) := by decide +kernel
theorem dX7_end_66 : decode cX7_end 66 = .ok (.getfield 47, 3) := by decide +kernel
theorem dX7_end_69 : decode cX7_end 69 = .ok (.bipush 7, 2) := by decide +kernel
theorem dX7_end_71 : decode cX7_end 71 = .ok (.iaload, 1) := by decide +kernel
theorem dX7_end_72 : decode cX7_end 72 = .ok (.iand, 1) := by decide +kernel
theorem dX7_end_73 : decode cX7_end 73 = .ok (.ifCond .ne 9, 3) := by decide +kernel
theorem dX7_end_76 : decode cX7_end 76 = .ok (.iinc 3 1, 3) := by decide +kernel
theorem dX7_end_79 : decode cX7_end 79 = .ok (.goto (-39), 3) := by decide +kernel
theorem dX7_end_82 : decode cX7_end 82 = .ok (.iload_n 3, 1) := by decide +kernel
theorem dX7_end_83 : decode cX7_end 83 = .ok (.aload_n 0, 1) := by decide +kernel
theorem dX7_end_84 : decode cX7_end 84 = .ok (.getfield 23, 3) := by decide +kernel
theorem dX7_end_87 : decode cX7_end 87 = .ok (.iload_n 1, 1) := by decide +kernel
theorem dX7_end_88 : decode cX7_end 88 = .ok (.iaload, 1) := by decide +kernel
theorem dX7_end_89 : decode cX7_end 89 = .ok (.if_icmp .ge 16, 3) := by decide +kernel
theorem dX7_end_92 : decode cX7_end 92 = .ok (.iload_n 2, 1) := by decide +kernel
theorem dX7_end_93 : decode cX7_end 93 = .ok (.iload_n 3, 1) := by decide +kernel
theorem dX7_end_94 : decode cX7_end 94 = .ok (.iadd, 1) := by decide +kernel
theorem dX7_end_95 : decode cX7_end 95 = .ok (.aload_n 0, 1) := by decide +kernel
theorem dX7_end_96 : decode cX7_end 96 = .ok (.getfield 23, 3) := by decide +kernel
theorem dX7_end_99 : decode cX7_end 99 = .ok (.iload_n 1, 1) := by decide +kernel
theorem dX7_end_100 : decode cX7_end 100 = .ok (.iaload, 1) := by decide +kernel
theorem dX7_end_101 : decode cX7_end 101 = .ok (.irem, 1) := by decide +kernel
theorem dX7_end_102 : decode cX7_end 102 = .ok (.goto 13, 3) := by decide +kernel
theorem dX7_end_105 : decode cX7_end 105 = .ok (.iload_n 2, 1) := by decide +kernel
theorem dX7_end_106 : decode cX7_end 106 = .ok (.iconst 1, 1) := by decide +kernel
theorem dX7_end_107 : decode cX7_end 107 = .ok (.iadd, 1) := by decide +kernel
theorem dX7_end_108 : decode cX7_end 108 = .ok (.aload_n 0, 1) := by decide +kernel
theorem dX7_end_109 : decode cX7_end 109 = .ok (.getfield 23, 3) := by decide +kernel
theorem dX7_end_112 : decode cX7_end 112 = .ok (.iload_n 1, 1) := by decide +kernel
theorem dX7_end_113 : decode cX7_end 113 = .ok (.iaload, 1) := by decide +kernel
theorem dX7_end_114 : decode cX7_end 114 = .ok (.irem, 1) := by decide +kernel
theorem dX7_end_115 : decode cX7_end 115 = .ok (.istore_n 2, 1) := by decide +kernel
theorem dX7_end_116 : decode cX7_end 116 = .ok (.iload_n 1, 1) := by decide +kernel
theorem dX7_end_117 : decode cX7_end 117 = .ok (.aload_n 0, 1) := by decide +kernel
theorem dX7_end_118 : decode cX7_end 118 = .ok (.getfield 47, 3) := by decide +kernel
theorem dX7_end_121 : decode cX7_end 121 = .ok (.iconst 0, 1) := by decide +kernel
theorem dX7_end_122 : decode cX7_end 122 = .ok (.iaload, 1) := by decide +kernel
theorem dX7_end_123 : decode cX7_end 123 = .ok (.if_icmp .ne 14, 3) := by decide +kernel
theorem dX7_end_126 : decode cX7_end 126 = .ok (.iload_n 2, 1) := by decide +kernel
theorem dX7_end_127 : decode cX7_end 127 = .ok (.aload_n 0, 1) := by decide +kernel
theorem dX7_end_128 : decode cX7_end 128 = .ok (.getfield 47, 3) := by decide +kernel
theorem dX7_end_131 : decode cX7_end 131 = .ok (.iconst 1, 1) := by decide +kernel
theorem dX7_end_132 : decode cX7_end 132 = .ok (.iaload, 1) := by decide +kernel
theorem dX7_end_133 : decode cX7_end 133 = .ok (.if_icmp .ne 4, 3) := by decide +kernel
theorem dX7_end_136 : decode cX7_end 136 = .ok (.return_, 1) := by decide +kernel
theorem dX7_end_137 : decode cX7_end 137 = .ok (.aload_n 0, 1) := by decide +kernel
theorem dX7_end_138 : decode cX7_end 138 = .ok (.aload_n 0, 1) := by decide +kernel
theorem dX7_end_139 : decode cX7_end 139 = .ok (.getfield 47, 3) := by decide +kernel
theorem dX7_end_142 : decode cX7_end 142 = .ok (.iconst 0, 1) := by decide +kernel
theorem dX7_end_143 : decode cX7_end 143 = .ok (.iaload, 1) := by decide +kernel
theorem dX7_end_144 : decode cX7_end 144 = .ok (.aload_n 0, 1) := by decide +kernel
theorem dX7_end_145 : decode cX7_end 145 = .ok (.getfield 47, 3) := by decide +kernel
theorem dX7_end_148 : decode cX7_end 148 = .ok (.iconst 1, 1) := by decide +kernel
theorem dX7_end_149 : decode cX7_end 149 = .ok (.iaload, 1) := by decide +kernel
theorem dX7_end_150 : decode cX7_end 150 = .ok (.invokevirtual 130, 3) := by decide +kernel
theorem dX7_end_153 : decode cX7_end 153 = .ok (.istore_n 3, 1) := by decide +kernel
theorem dX7_end_154 : decode cX7_end 154 = .ok (.aload_n 0, 1) := by decide +kernel
theorem dX7_end_155 : decode cX7_end 155 = .ok (.iload_n 1, 1) := by decide +kernel
theorem dX7_end_156 : decode cX7_end 156 = .ok (.iload_n 2, 1) := by decide +kernel
theorem dX7_end_157 : decode cX7_end 157 = .ok (.invokevirtual 130, 3) := by decide +kernel
theorem dX7_end_160 : decode cX7_end 160 = .ok (.istore 4, 2) := by decide +kernel
theorem dX7_end_162 : decode cX7_end 162 = .ok (.iconst 0, 1) := by decide +kernel
theorem dX7_end_163 : decode cX7_end 163 = .ok (.istore 5, 2) := by decide +kernel
theorem dX7_end_165 : decode cX7_end 165 = .ok (.iconst 0, 1) := by decide +kernel
theorem dX7_end_166 : decode cX7_end 166 = .ok (.istore 6, 2) := by decide +kernel
theorem dX7_end_168 : decode cX7_end 168 = .ok (.iload 6, 2) := by decide +kernel
theorem dX7_end_170 : decode cX7_end 170 = .ok (.aload_n 0, 1) := by decide +kernel
theorem dX7_end_171 : decode cX7_end 171 = .ok (.getfield 82, 3) := by decide +kernel
theorem dX7_end_174 : decode cX7_end 174 = .ok (.if_icmp .ge 147, 3) := by decide +kernel
theorem dX7_end_177 : decode cX7_end 177 = .ok (.iload_n 3, 1) := by decide +kernel
theorem dX7_end_178 : decode cX7_end 178 = .ok (.iload 6, 2) := by decide +kernel
theorem dX7_end_180 : decode cX7_end 180 = .ok (.ishr, 1) := by decide +kernel
theorem dX7_end_181 : decode cX7_end 181 = .ok (.iconst 1, 1) := by decide +kernel
theorem dX7_end_182 : decode cX7_end 182 = .ok (.iand, 1) := by decide +kernel
theorem dX7_end_183 : decode cX7_end 183 = .ok (.ifCond .eq 132, 3) := by decide +kernel
theorem dX7_end_186 : decode cX7_end 186 = .ok (.iload 4, 2) := by decide +kernel
theorem dX7_end_188 : decode cX7_end 188 = .ok (.iload 6, 2) := by decide +kernel
theorem dX7_end_190 : decode cX7_end 190 = .ok (.ishr, 1) := by decide +kernel
theorem dX7_end_191 : decode cX7_end 191 = .ok (.iconst 1, 1) := by decide +kernel
theorem dX7_end_192 : decode cX7_end 192 = .ok (.iand, 1) := by decide +kernel
theorem dX7_end_193 : decode cX7_end 193 = .ok (.iconst 1, 1) := by decide +kernel
theorem dX7_end_194 : decode cX7_end 194 = .ok (.if_icmp .ne 6, 3) := by decide +kernel
theorem dX7_end_197 : decode cX7_end 197 = .ok (.goto 118, 3) := by decide +kernel
theorem dX7_end_200 : decode cX7_end 200 = .ok (.iconst 0, 1) := by decide +kernel
theorem dX7_end_201 : decode cX7_end 201 = .ok (.istore 7, 2) := by decide +kernel
theorem dX7_end_203 : decode cX7_end 203 = .ok (.iload 7, 2) := by decide +kernel
theorem dX7_end_205 : decode cX7_end 205 = .ok (.aload_n 0, 1) := by decide +kernel
theorem dX7_end_206 : decode cX7_end 206 = .ok (.getfield 82, 3) := by decide +kernel
theorem dX7_end_209 : decode cX7_end 209 = .ok (.if_icmp .ge 95, 3) := by decide +kernel
theorem dX7_end_212 : decode cX7_end 212 = .ok (.iload 4, 2) := by decide +kernel
theorem dX7_end_214 : decode cX7_end 214 = .ok (.iload 7, 2) := by decide +kernel
theorem dX7_end_216 : decode cX7_end 216 = .ok (.ishr, 1) := by decide +kernel
theorem dX7_end_217 : decode cX7_end 217 = .ok (.iconst 1, 1) := by decide +kernel
theorem dX7_end_218 : decode cX7_end 218 = .ok (.iand, 1) := by decide +kernel
theorem dX7_end_219 : decode cX7_end 219 = .ok (.iconst 1, 1) := by decide +kernel
theorem dX7_end_220 : decode cX7_end 220 = .ok (.if_icmp .ne 32, 3) := by decide +kernel
theorem dX7_end_223 : decode cX7_end 223 = .ok (.iload_n 3, 1) := by decide +kernel
theorem dX7_end_224 : decode cX7_end 224 = .ok (.iload 7, 2) := by decide +kernel
theorem dX7_end_226 : decode cX7_end 226 = .ok (.ishr, 1) := by decide +kernel
theorem dX7_end_227 : decode cX7_end 227 = .ok (.iconst 1, 1) := by decide +kernel
theorem dX7_end_228 : decode cX7_end 228 = .ok (.iand, 1) := by decide +kernel
theorem dX7_end_229 : decode cX7_end 229 = .ok (.ifCond .ne 23, 3) := by decide +kernel
theorem dX7_end_232 : decode cX7_end 232 = .ok (.aload_n 0, 1) := by decide +kernel
theorem dX7_end_233 : decode cX7_end 233 = .ok (.getfield 7, 3) := by decide +kernel
theorem dX7_end_236 : decode cX7_end 236 = .ok (.bipush 6, 2) := by decide +kernel
theorem dX7_end_238 : decode cX7_end 238 = .ok (.iload 6, 2) := by decide +kernel
theorem dX7_end_240 : decode cX7_end 240 = .ok (.imul, 1) := by decide +kernel
theorem dX7_end_241 : decode cX7_end 241 = .ok (.iload 7, 2) := by decide +kernel
theorem dX7_end_243 : decode cX7_end 243 = .ok (.iadd, 1) := by decide +kernel
theorem dX7_end_244 : decode cX7_end 244 = .ok (.baload, 1) := by decide +kernel
theorem dX7_end_245 : decode cX7_end 245 = .ok (.ifCond .eq 7, 3) := by decide +kernel
theorem dX7_end_248 : decode cX7_end 248 = .ok (.iconst 1, 1) := by decide +kernel
theorem dX7_end_249 : decode cX7_end 249 = .ok (.goto 4, 3) := by decide +kernel
theorem dX7_end_252 : decode cX7_end 252 = .ok (.iconst 0, 1) := by decide +kernel
theorem dX7_end_253 : decode cX7_end 253 = .ok (.istore 8, 2) := by decide +kernel
theorem dX7_end_255 : decode cX7_end 255 = .ok (.iload 8, 2) := by decide +kernel
theorem dX7_end_257 : decode cX7_end 257 = .ok (.ifCond .eq 37, 3) := by decide +kernel
theorem dX7_end_260 : decode cX7_end 260 = .ok (.aload_n 0, 1) := by decide +kernel
theorem dX7_end_261 : decode cX7_end 261 = .ok (.getfield 13, 3) := by decide +kernel
theorem dX7_end_264 : decode cX7_end 264 = .ok (.bipush 6, 2) := by decide +kernel
theorem dX7_end_266 : decode cX7_end 266 = .ok (.iload 6, 2) := by decide +kernel
theorem dX7_end_268 : decode cX7_end 268 = .ok (.imul, 1) := by decide +kernel
theorem dX7_end_269 : decode cX7_end 269 = .ok (.iload 7, 2) := by decide +kernel
theorem dX7_end_271 : decode cX7_end 271 = .ok (.iadd, 1) := by decide +kernel
theorem dX7_end_272 : decode cX7_end 272 = .ok (.iaload, 1) := by decide +kernel
theorem dX7_end_273 : decode cX7_end 273 = .ok (.iload 5, 2) := by decide +kernel
theorem dX7_end_275 : decode cX7_end 275 = .ok (.if_icmp .le 19, 3) := by decide +kernel
theorem dX7_end_278 : decode cX7_end 278 = .ok (.aload_n 0, 1) := by decide +kernel
theorem dX7_end_279 : decode cX7_end 279 = .ok (.getfield 13, 3) := by decide +kernel
theorem dX7_end_282 : decode cX7_end 282 = .ok (.bipush 6, 2) := by decide +kernel
theorem dX7_end_284 : decode cX7_end 284 = .ok (.iload 6, 2) := by decide +kernel
theorem dX7_end_286 : decode cX7_end 286 = .ok (.imul, 1) := by decide +kernel
theorem dX7_end_287 : decode cX7_end 287 = .ok (.iload 7, 2) := by decide +kernel
theorem dX7_end_289 : decode cX7_end 289 = .ok (.iadd, 1) := by decide +kernel
theorem dX7_end_290 : decode cX7_end 290 = .ok (.iaload, 1) := by decide +kernel
theorem dX7_end_291 : decode cX7_end 291 = .ok (.goto 5, 3) := by decide +kernel
theorem dX7_end_294 : decode cX7_end 294 = .ok (.iload 5, 2) := by decide +kernel
theorem dX7_end_296 : decode cX7_end 296 = .ok (.istore 5, 2) := by decide +kernel
theorem dX7_end_298 : decode cX7_end 298 = .ok (.iinc 7 1, 3) := by decide +kernel
theorem dX7_end_301 : decode cX7_end 301 = .ok (.goto (-98), 3) := by decide +kernel
theorem dX7_end_304 : decode cX7_end 304 = .ok (.aload_n 0, 1) := by decide +kernel
theorem dX7_end_305 : decode cX7_end 305 = .ok (.getfield 47, 3) := by decide +kernel
theorem dX7_end_308 : decode cX7_end 308 = .ok (.bipush 8, 2) := by decide +kernel
theorem dX7_end_310 : decode cX7_end 310 = .ok (.iload 6, 2) := by decide +kernel
theorem dX7_end_312 : decode cX7_end 312 = .ok (.iadd, 1) := by decide +kernel
theorem dX7_end_313 : decode cX7_end 313 = .ok (.iconst 0, 1) := by decide +kernel
theorem dX7_end_314 : decode cX7_end 314 = .ok (.iastore, 1) := by decide +kernel
theorem dX7_end_315 : decode cX7_end 315 = .ok (.iinc 6 1, 3) := by decide +kernel
theorem dX7_end_318 : decode cX7_end 318 = .ok (.goto (-150), 3) := by decide +kernel
theorem dX7_end_321 : decode cX7_end 321 = .ok (.aload_n 0, 1) := by decide +kernel
theorem dX7_end_322 : decode cX7_end 322 = .ok (.getfield 47, 3) := by decide +kernel
theorem dX7_end_325 : decode cX7_end 325 = .ok (.iconst 4, 1) := by decide +kernel
theorem dX7_end_326 : decode cX7_end 326 = .ok (.iload_n 1, 1) := by decide +kernel
theorem dX7_end_327 : decode cX7_end 327 = .ok (.iastore, 1) := by decide +kernel
theorem dX7_end_328 : decode cX7_end 328 = .ok (.aload_n 0, 1) := by decide +kernel
theorem dX7_end_329 : decode cX7_end 329 = .ok (.getfield 47, 3) := by decide +kernel
theorem dX7_end_332 : decode cX7_end 332 = .ok (.iconst 5, 1) := by decide +kernel
theorem dX7_end_333 : decode cX7_end 333 = .ok (.iload_n 2, 1) := by decide +kernel
theorem dX7_end_334 : decode cX7_end 334 = .ok (.iastore, 1) := by decide +kernel
theorem dX7_end_335 : decode cX7_end 335 = .ok (.aload_n 0, 1) := by decide +kernel
theorem dX7_end_336 : decode cX7_end 336 = .ok (.getfield 47, 3) := by decide +kernel
theorem dX7_end_339 : decode cX7_end 339 = .ok (.iconst 3, 1) := by decide +kernel
theorem dX7_end_340 : decode cX7_end 340 = .ok (.iload 5, 2) := by decide +kernel
theorem dX7_end_342 : decode cX7_end 342 = .ok (.iastore, 1) := by decide +kernel
theorem dX7_end_343 : decode cX7_end 343 = .ok (.iload 5, 2) := by decide +kernel
theorem dX7_end_345 : decode cX7_end 345 = .ok (.ifCond .ne 7, 3) := by decide +kernel
theorem dX7_end_348 : decode cX7_end 348 = .ok (.aload_n 0, 1) := by decide +kernel
theorem dX7_end_349 : decode cX7_end 349 = .ok (.invokevirtual 133, 3) := by decide +kernel
theorem dX7_end_352 : decode cX7_end 352 = .ok (.return_, 1) := by decide +kernel
set_option maxRecDepth 20000 in
theorem ggX7_go_X7_shownNow : GoodIn wsX7_go wsX7_shownNow := goodIn_r _ [11, 2, 12, 13, 14, 10, 15, 4, 33, 34, 35, 36, 37, 38, 39, 40, 41, 42, 43, 44, 45, 46, 47, 48, 49, 50, 51, 52, 53, 54, 55, 56, 57, 58, 59, 60, 61, 62, 63] (by decide +kernel) (by decide +kernel)
set_option maxRecDepth 20000 in
theorem gX7_go_X7_shownNow : GoodIn wsX7_go (wsV RX7 136 RX7 yX7_shownNow wsX7_shownNow) := goodIn_app (goodIn_of _ (by decide +kernel)) ggX7_go_X7_shownNow
set_option maxRecDepth 20000 in
theorem ggX7_go_X7_comes : GoodIn wsX7_go wsX7_comes := goodIn_r _ [19, 2, 3, 12, 13, 14, 10, 15, 4, 33, 34, 35, 36, 37, 38, 39, 40, 41, 42, 43, 44, 45, 46, 47, 48, 49, 50, 51, 52, 53, 54, 55, 56, 57, 58, 59, 60, 61, 62, 63] (by decide +kernel) (by decide +kernel)
set_option maxRecDepth 20000 in
theorem gX7_go_X7_comes : GoodIn wsX7_go (wsV RX7 133 RX7 yX7_comes wsX7_comes) := goodIn_app (goodIn_of _ (by decide +kernel)) ggX7_go_X7_comes
set_option maxRecDepth 20000 in
theorem ggX7_go_X7_end : GoodIn wsX7_go wsX7_end := goodIn_r _ [23, 2, 24, 3, 25, 26, 12, 13, 14, 10, 15, 4, 16, 17, 18, 19, 33, 34, 35, 36, 37, 38, 39, 40, 41, 42, 43, 44, 45, 46, 47, 48, 49, 50, 51, 52, 53, 54, 55, 56, 57, 58, 59, 60, 61, 62, 63] (by decide +kernel) (by decide +kernel)
set_option maxRecDepth 20000 in
theorem gX7_go_X7_end : GoodIn wsX7_go (wsV RX7 140 RX7 yX7_end wsX7_end) := goodIn_app (goodIn_of _ (by decide +kernel)) ggX7_go_X7_end
set_option maxRecDepth 20000 in
theorem ggX7_go_X7_fault : GoodIn wsX7_go wsX7_fault := goodIn_r _ [30, 3, 25, 2, 26, 1, 31, 32, 33, 34, 35, 36, 37, 38, 39, 40, 41, 42, 43, 44, 45, 46, 47, 48, 49, 50, 51, 52, 53, 54, 55, 56, 57, 58, 59, 60, 61, 62, 63] (by decide +kernel) (by decide +kernel)
set_option maxRecDepth 20000 in
theorem gX7_go_X7_fault : GoodIn wsX7_go (wsV RX7 143 RX7 yX7_fault wsX7_fault) := goodIn_app (goodIn_of _ (by decide +kernel)) ggX7_go_X7_fault
theorem dX7_go_0 : decode cX7_go 0 = .ok (.iconst 0, 1) := by decide +kernel
theorem dX7_go_1 : decode cX7_go 1 = .ok (.istore_n 2, 1) := by decide +kernel
theorem dX7_go_2 : decode cX7_go 2 = .ok (.iload_n 2, 1) := by decide +kernel
theorem dX7_go_3 : decode cX7_go 3 = .ok (.bipush 14, 2) := by decide +kernel
theorem dX7_go_5 : decode cX7_go 5 = .ok (.if_icmp .ge 21, 3) := by decide +kernel
theorem dX7_go_8 : decode cX7_go 8 = .ok (.aload_n 0, 1) := by decide +kernel
theorem dX7_go_9 : decode cX7_go 9 = .ok (.getfield 50, 3) := by decide +kernel
theorem dX7_go_12 : decode cX7_go 12 = .ok (.iload_n 2, 1) := by decide +kernel
theorem dX7_go_13 : decode cX7_go 13 = .ok (.aload_n 0, 1) := by decide +kernel
theorem dX7_go_14 : decode cX7_go 14 = .ok (.getfield 47, 3) := by decide +kernel
theorem dX7_go_17 : decode cX7_go 17 = .ok (.iload_n 2, 1) := by decide +kernel
theorem dX7_go_18 : decode cX7_go 18 = .ok (.iaload, 1) := by decide +kernel
theorem dX7_go_19 : decode cX7_go 19 = .ok (.iastore, 1) := by decide +kernel
theorem dX7_go_20 : decode cX7_go 20 = .ok (.iinc 2 1, 3) := by decide +kernel
theorem dX7_go_23 : decode cX7_go 23 = .ok (.goto (-21), 3) := by decide +kernel
theorem dX7_go_26 : decode cX7_go 26 = .ok (.aload_n 0, 1) := by decide +kernel
theorem dX7_go_27 : decode cX7_go 27 = .ok (.invokevirtual 136, 3) := by decide +kernel
theorem dX7_go_30 : decode cX7_go 30 = .ok (.istore_n 2, 1) := by decide +kernel
theorem dX7_go_31 : decode cX7_go 31 = .ok (.iload_n 1, 1) := by decide +kernel
theorem dX7_go_32 : decode cX7_go 32 = .ok (.ifCond .le 36, 3) := by decide +kernel
theorem dX7_go_35 : decode cX7_go 35 = .ok (.iload_n 1, 1) := by decide +kernel
theorem dX7_go_36 : decode cX7_go 36 = .ok (.aload_n 0, 1) := by decide +kernel
theorem dX7_go_37 : decode cX7_go 37 = .ok (.getfield 82, 3) := by decide +kernel
theorem dX7_go_40 : decode cX7_go 40 = .ok (.if_icmp .gt 28, 3) := by decide +kernel
theorem dX7_go_43 : decode cX7_go 43 = .ok (.iload_n 2, 1) := by decide +kernel
theorem dX7_go_44 : decode cX7_go 44 = .ok (.iload_n 1, 1) := by decide +kernel
theorem dX7_go_45 : decode cX7_go 45 = .ok (.iconst 1, 1) := by decide +kernel
theorem dX7_go_46 : decode cX7_go 46 = .ok (.isub, 1) := by decide +kernel
theorem dX7_go_47 : decode cX7_go 47 = .ok (.ishr, 1) := by decide +kernel
theorem dX7_go_48 : decode cX7_go 48 = .ok (.iconst 1, 1) := by decide +kernel
theorem dX7_go_49 : decode cX7_go 49 = .ok (.iand, 1) := by decide +kernel
theorem dX7_go_50 : decode cX7_go 50 = .ok (.ifCond .ne 18, 3) := by decide +kernel
theorem dX7_go_53 : decode cX7_go 53 = .ok (.aload_n 0, 1) := by decide +kernel
theorem dX7_go_54 : decode cX7_go 54 = .ok (.getfield 47, 3) := by decide +kernel
theorem dX7_go_57 : decode cX7_go 57 = .ok (.bipush 7, 2) := by decide +kernel
theorem dX7_go_59 : decode cX7_go 59 = .ok (.dup2, 1) := by decide +kernel
theorem dX7_go_60 : decode cX7_go 60 = .ok (.iaload, 1) := by decide +kernel
theorem dX7_go_61 : decode cX7_go 61 = .ok (.iconst 1, 1) := by decide +kernel
theorem dX7_go_62 : decode cX7_go 62 = .ok (.iload_n 1, 1) := by decide +kernel
theorem dX7_go_63 : decode cX7_go 63 = .ok (.iconst 1, 1) := by decide +kernel
theorem dX7_go_64 : decode cX7_go 64 = .ok (.isub, 1) := by decide +kernel
theorem dX7_go_65 : decode cX7_go 65 = .ok (.ishl, 1) := by decide +kernel
theorem dX7_go_66 : decode cX7_go 66 = .ok (.ior, 1) := by decide +kernel
theorem dX7_go_67 : decode cX7_go 67 = .ok (.iastore, 1) := by decide +kernel
theorem dX7_go_68 : decode cX7_go 68 = .ok (.iload_n 1, 1) := by decide +kernel
theorem dX7_go_69 : decode cX7_go 69 = .ok (.aload_n 0, 1) := by decide +kernel
theorem dX7_go_70 : decode cX7_go 70 = .ok (.getfield 82, 3) := by decide +kernel
theorem dX7_go_73 : decode cX7_go 73 = .ok (.if_icmp .le 18, 3) := by decide +kernel
theorem dX7_go_76 : decode cX7_go 76 = .ok (.aload_n 0, 1) := by decide +kernel
theorem dX7_go_77 : decode cX7_go 77 = .ok (.getfield 47, 3) := by decide +kernel
theorem dX7_go_80 : decode cX7_go 80 = .ok (.bipush 6, 2) := by decide +kernel
theorem dX7_go_82 : decode cX7_go 82 = .ok (.iload_n 1, 1) := by decide +kernel
theorem dX7_go_83 : decode cX7_go 83 = .ok (.iconst 1, 1) := by decide +kernel
theorem dX7_go_84 : decode cX7_go 84 = .ok (.isub, 1) := by decide +kernel
theorem dX7_go_85 : decode cX7_go 85 = .ok (.aload_n 0, 1) := by decide +kernel
theorem dX7_go_86 : decode cX7_go 86 = .ok (.getfield 82, 3) := by decide +kernel
theorem dX7_go_89 : decode cX7_go 89 = .ok (.isub, 1) := by decide +kernel
theorem dX7_go_90 : decode cX7_go 90 = .ok (.iastore, 1) := by decide +kernel
theorem dX7_go_91 : decode cX7_go 91 = .ok (.iconst 0, 1) := by decide +kernel
theorem dX7_go_92 : decode cX7_go 92 = .ok (.istore_n 3, 1) := by decide +kernel
theorem dX7_go_93 : decode cX7_go 93 = .ok (.iload_n 3, 1) := by decide +kernel
theorem dX7_go_94 : decode cX7_go 94 = .ok (.aload_n 0, 1) := by decide +kernel
theorem dX7_go_95 : decode cX7_go 95 = .ok (.getfield 82, 3) := by decide +kernel
theorem dX7_go_98 : decode cX7_go 98 = .ok (.if_icmp .ge 84, 3) := by decide +kernel
theorem dX7_go_101 : decode cX7_go 101 = .ok (.iload_n 2, 1) := by decide +kernel
theorem dX7_go_102 : decode cX7_go 102 = .ok (.iload_n 3, 1) := by decide +kernel
theorem dX7_go_103 : decode cX7_go 103 = .ok (.ishr, 1) := by decide +kernel
theorem dX7_go_104 : decode cX7_go 104 = .ok (.iconst 1, 1) := by decide +kernel
theorem dX7_go_105 : decode cX7_go 105 = .ok (.iand, 1) := by decide +kernel
theorem dX7_go_106 : decode cX7_go 106 = .ok (.iconst 1, 1) := by decide +kernel
theorem dX7_go_107 : decode cX7_go 107 = .ok (.if_icmp .ne 8, 3) := by decide +kernel
theorem dX7_go_110 : decode cX7_go 110 = .ok (.bipush 31, 2) := by decide +kernel
theorem dX7_go_112 : decode cX7_go 112 = .ok (.goto 5, 3) := by decide +kernel
theorem dX7_go_115 : decode cX7_go 115 = .ok (.bipush 15, 2) := by decide +kernel
theorem dX7_go_117 : decode cX7_go 117 = .ok (.istore 4, 2) := by decide +kernel
theorem dX7_go_119 : decode cX7_go 119 = .ok (.aload_n 0, 1) := by decide +kernel
theorem dX7_go_120 : decode cX7_go 120 = .ok (.getfield 47, 3) := by decide +kernel
theorem dX7_go_123 : decode cX7_go 123 = .ok (.bipush 8, 2) := by decide +kernel
theorem dX7_go_125 : decode cX7_go 125 = .ok (.iload_n 3, 1) := by decide +kernel
theorem dX7_go_126 : decode cX7_go 126 = .ok (.iadd, 1) := by decide +kernel
theorem dX7_go_127 : decode cX7_go 127 = .ok (.aload_n 0, 1) := by decide +kernel
theorem dX7_go_128 : decode cX7_go 128 = .ok (.getfield 47, 3) := by decide +kernel
theorem dX7_go_131 : decode cX7_go 131 = .ok (.bipush 8, 2) := by decide +kernel
theorem dX7_go_133 : decode cX7_go 133 = .ok (.iload_n 3, 1) := by decide +kernel
theorem dX7_go_134 : decode cX7_go 134 = .ok (.iadd, 1) := by decide +kernel
theorem dX7_go_135 : decode cX7_go 135 = .ok (.iaload, 1) := by decide +kernel
theorem dX7_go_136 : decode cX7_go 136 = .ok (.iload 4, 2) := by decide +kernel
theorem dX7_go_138 : decode cX7_go 138 = .ok (.if_icmp .ge 17, 3) := by decide +kernel
theorem dX7_go_141 : decode cX7_go 141 = .ok (.aload_n 0, 1) := by decide +kernel
theorem dX7_go_142 : decode cX7_go 142 = .ok (.getfield 47, 3) := by decide +kernel
theorem dX7_go_145 : decode cX7_go 145 = .ok (.bipush 8, 2) := by decide +kernel
theorem dX7_go_147 : decode cX7_go 147 = .ok (.iload_n 3, 1) := by decide +kernel
theorem dX7_go_148 : decode cX7_go 148 = .ok (.iadd, 1) := by decide +kernel
theorem dX7_go_149 : decode cX7_go 149 = .ok (.iaload, 1) := by decide +kernel
theorem dX7_go_150 : decode cX7_go 150 = .ok (.iconst 1, 1) := by decide +kernel
theorem dX7_go_151 : decode cX7_go 151 = .ok (.iadd, 1) := by decide +kernel
theorem dX7_go_152 : decode cX7_go 152 = .ok (.goto 5, 3) := by decide +kernel
theorem dX7_go_155 : decode cX7_go 155 = .ok (.iload 4, 2) := by decide +kernel
theorem dX7_go_157 : decode cX7_go 157 = .ok (.iastore, 1) := by decide +kernel
theorem dX7_go_158 : decode cX7_go 158 = .ok (.aload_n 0, 1) := by decide +kernel
theorem dX7_go_159 : decode cX7_go 159 = .ok (.getfield 50, 3) := by decide +kernel
theorem dX7_go_162 : decode cX7_go 162 = .ok (.bipush 8, 2) := by decide +kernel
theorem dX7_go_164 : decode cX7_go 164 = .ok (.iload_n 3, 1) := by decide +kernel
theorem dX7_go_165 : decode cX7_go 165 = .ok (.iadd, 1) := by decide +kernel
theorem dX7_go_166 : decode cX7_go 166 = .ok (.aload_n 0, 1) := by decide +kernel
theorem dX7_go_167 : decode cX7_go 167 = .ok (.getfield 47, 3) := by decide +kernel
theorem dX7_go_170 : decode cX7_go 170 = .ok (.bipush 8, 2) := by decide +kernel
theorem dX7_go_172 : decode cX7_go 172 = .ok (.iload_n 3, 1) := by decide +kernel
theorem dX7_go_173 : decode cX7_go 173 = .ok (.iadd, 1) := by decide +kernel
theorem dX7_go_174 : decode cX7_go 174 = .ok (.iaload, 1) := by decide +kernel
theorem dX7_go_175 : decode cX7_go 175 = .ok (.iastore, 1) := by decide +kernel
theorem dX7_go_176 : decode cX7_go 176 = .ok (.iinc 3 1, 3) := by decide +kernel
theorem dX7_go_179 : decode cX7_go 179 = .ok (.goto (-86), 3) := by decide +kernel
theorem dX7_go_182 : decode cX7_go 182 = .ok (.aload_n 0, 1) := by decide +kernel
theorem dX7_go_183 : decode cX7_go 183 = .ok (.getfield 47, 3) := by decide +kernel
theorem dX7_go_186 : decode cX7_go 186 = .ok (.iconst 3, 1) := by decide +kernel
theorem dX7_go_187 : decode cX7_go 187 = .ok (.iaload, 1) := by decide +kernel
theorem dX7_go_188 : decode cX7_go 188 = .ok (.ifCond .le 29, 3) := by decide +kernel
theorem dX7_go_191 : decode cX7_go 191 = .ok (.aload_n 0, 1) := by decide +kernel
theorem dX7_go_192 : decode cX7_go 192 = .ok (.getfield 47, 3) := by decide +kernel
theorem dX7_go_195 : decode cX7_go 195 = .ok (.iconst 3, 1) := by decide +kernel
theorem dX7_go_196 : decode cX7_go 196 = .ok (.dup2, 1) := by decide +kernel
theorem dX7_go_197 : decode cX7_go 197 = .ok (.iaload, 1) := by decide +kernel
theorem dX7_go_198 : decode cX7_go 198 = .ok (.iconst 1, 1) := by decide +kernel
theorem dX7_go_199 : decode cX7_go 199 = .ok (.isub, 1) := by decide +kernel
