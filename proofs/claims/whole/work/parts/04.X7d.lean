theorem dX7_init_0 : decode cX7_init 0 = .ok (.aload_n 0, 1) := by decide +kernel
theorem dX7_init_1 : decode cX7_init 1 = .ok (.invokespecial 1, 3) := by decide +kernel
theorem dX7_init_4 : decode cX7_init 4 = .ok (.aload_n 0, 1) := by decide +kernel
theorem dX7_init_5 : decode cX7_init 5 = .ok (.bipush 36, 2) := by decide +kernel
theorem dX7_init_7 : decode cX7_init 7 = .ok (.newarray .boolean, 2) := by decide +kernel
theorem dX7_init_9 : decode cX7_init 9 = .ok (.putfield 7, 3) := by decide +kernel
theorem dX7_init_12 : decode cX7_init 12 = .ok (.aload_n 0, 1) := by decide +kernel
theorem dX7_init_13 : decode cX7_init 13 = .ok (.bipush 36, 2) := by decide +kernel
theorem dX7_init_15 : decode cX7_init 15 = .ok (.newarray .int, 2) := by decide +kernel
theorem dX7_init_17 : decode cX7_init 17 = .ok (.putfield 13, 3) := by decide +kernel
theorem dX7_init_20 : decode cX7_init 20 = .ok (.aload_n 0, 1) := by decide +kernel
theorem dX7_init_21 : decode cX7_init 21 = .ok (.bipush 6, 2) := by decide +kernel
theorem dX7_init_23 : decode cX7_init 23 = .ok (.newarray .int, 2) := by decide +kernel
theorem dX7_init_25 : decode cX7_init 25 = .ok (.putfield 17, 3) := by decide +kernel
theorem dX7_init_28 : decode cX7_init 28 = .ok (.aload_n 0, 1) := by decide +kernel
theorem dX7_init_29 : decode cX7_init 29 = .ok (.bipush 6, 2) := by decide +kernel
theorem dX7_init_31 : decode cX7_init 31 = .ok (.newarray .int, 2) := by decide +kernel
theorem dX7_init_33 : decode cX7_init 33 = .ok (.putfield 20, 3) := by decide +kernel
theorem dX7_init_36 : decode cX7_init 36 = .ok (.aload_n 0, 1) := by decide +kernel
theorem dX7_init_37 : decode cX7_init 37 = .ok (.iconst 3, 1) := by decide +kernel
theorem dX7_init_38 : decode cX7_init 38 = .ok (.newarray .int, 2) := by decide +kernel
theorem dX7_init_40 : decode cX7_init 40 = .ok (.putfield 23, 3) := by decide +kernel
theorem dX7_init_43 : decode cX7_init 43 = .ok (.aload_n 0, 1) := by decide +kernel
theorem dX7_init_44 : decode cX7_init 44 = .ok (.bipush 15, 2) := by decide +kernel
theorem dX7_init_46 : decode cX7_init 46 = .ok (.newarray .int, 2) := by decide +kernel
theorem dX7_init_48 : decode cX7_init 48 = .ok (.putfield 26, 3) := by decide +kernel
theorem dX7_init_51 : decode cX7_init 51 = .ok (.aload_n 0, 1) := by decide +kernel
theorem dX7_init_52 : decode cX7_init 52 = .ok (.bipush 15, 2) := by decide +kernel
theorem dX7_init_54 : decode cX7_init 54 = .ok (.newarray .int, 2) := by decide +kernel
theorem dX7_init_56 : decode cX7_init 56 = .ok (.putfield 29, 3) := by decide +kernel
theorem dX7_init_59 : decode cX7_init 59 = .ok (.aload_n 0, 1) := by decide +kernel
theorem dX7_init_60 : decode cX7_init 60 = .ok (.bipush 15, 2) := by decide +kernel
theorem dX7_init_62 : decode cX7_init 62 = .ok (.newarray .int, 2) := by decide +kernel
theorem dX7_init_64 : decode cX7_init 64 = .ok (.putfield 32, 3) := by decide +kernel
theorem dX7_init_67 : decode cX7_init 67 = .ok (.aload_n 0, 1) := by decide +kernel
theorem dX7_init_68 : decode cX7_init 68 = .ok (.bipush 60, 2) := by decide +kernel
theorem dX7_init_70 : decode cX7_init 70 = .ok (.newarray .int, 2) := by decide +kernel
theorem dX7_init_72 : decode cX7_init 72 = .ok (.putfield 35, 3) := by decide +kernel
theorem dX7_init_75 : decode cX7_init 75 = .ok (.aload_n 0, 1) := by decide +kernel
theorem dX7_init_76 : decode cX7_init 76 = .ok (.bipush 60, 2) := by decide +kernel
theorem dX7_init_78 : decode cX7_init 78 = .ok (.newarray .int, 2) := by decide +kernel
theorem dX7_init_80 : decode cX7_init 80 = .ok (.putfield 38, 3) := by decide +kernel
theorem dX7_init_83 : decode cX7_init 83 = .ok (.aload_n 0, 1) := by decide +kernel
theorem dX7_init_84 : decode cX7_init 84 = .ok (.bipush 60, 2) := by decide +kernel
theorem dX7_init_86 : decode cX7_init 86 = .ok (.newarray .int, 2) := by decide +kernel
theorem dX7_init_88 : decode cX7_init 88 = .ok (.putfield 41, 3) := by decide +kernel
theorem dX7_init_91 : decode cX7_init 91 = .ok (.aload_n 0, 1) := by decide +kernel
theorem dX7_init_92 : decode cX7_init 92 = .ok (.bipush 14, 2) := by decide +kernel
theorem dX7_init_94 : decode cX7_init 94 = .ok (.newarray .int, 2) := by decide +kernel
theorem dX7_init_96 : decode cX7_init 96 = .ok (.putfield 44, 3) := by decide +kernel
theorem dX7_init_99 : decode cX7_init 99 = .ok (.aload_n 0, 1) := by decide +kernel
theorem dX7_init_100 : decode cX7_init 100 = .ok (.bipush 14, 2) := by decide +kernel
theorem dX7_init_102 : decode cX7_init 102 = .ok (.newarray .int, 2) := by decide +kernel
theorem dX7_init_104 : decode cX7_init 104 = .ok (.putfield 47, 3) := by decide +kernel
theorem dX7_init_107 : decode cX7_init 107 = .ok (.aload_n 0, 1) := by decide +kernel
theorem dX7_init_108 : decode cX7_init 108 = .ok (.bipush 14, 2) := by decide +kernel
theorem dX7_init_110 : decode cX7_init 110 = .ok (.newarray .int, 2) := by decide +kernel
theorem dX7_init_112 : decode cX7_init 112 = .ok (.putfield 50, 3) := by decide +kernel
theorem dX7_init_115 : decode cX7_init 115 = .ok (.aload_n 0, 1) := by decide +kernel
theorem dX7_init_116 : decode cX7_init 116 = .ok (.iconst (-1), 1) := by decide +kernel
theorem dX7_init_117 : decode cX7_init 117 = .ok (.putfield 53, 3) := by decide +kernel
theorem dX7_init_120 : decode cX7_init 120 = .ok (.aload_n 0, 1) := by decide +kernel
theorem dX7_init_121 : decode cX7_init 121 = .ok (.sipush 5600, 3) := by decide +kernel
theorem dX7_init_124 : decode cX7_init 124 = .ok (.newarray .int, 2) := by decide +kernel
theorem dX7_init_126 : decode cX7_init 126 = .ok (.putfield 57, 3) := by decide +kernel
theorem dX7_init_129 : decode cX7_init 129 = .ok (.aload_n 0, 1) := by decide +kernel
theorem dX7_init_130 : decode cX7_init 130 = .ok (.sipush 400, 3) := by decide +kernel
theorem dX7_init_133 : decode cX7_init 133 = .ok (.newarray .int, 2) := by decide +kernel
theorem dX7_init_135 : decode cX7_init 135 = .ok (.putfield 60, 3) := by decide +kernel
theorem dX7_init_138 : decode cX7_init 138 = .ok (.aload_n 0, 1) := by decide +kernel
theorem dX7_init_139 : decode cX7_init 139 = .ok (.sipush 400, 3) := by decide +kernel
theorem dX7_init_142 : decode cX7_init 142 = .ok (.newarray .int, 2) := by decide +kernel
theorem dX7_init_144 : decode cX7_init 144 = .ok (.putfield 63, 3) := by decide +kernel
theorem dX7_init_147 : decode cX7_init 147 = .ok (.aload_n 0, 1) := by decide +kernel
theorem dX7_init_148 : decode cX7_init 148 = .ok (.sipush 4000, 3) := by decide +kernel
theorem dX7_init_151 : decode cX7_init 151 = .ok (.newarray .int, 2) := by decide +kernel
theorem dX7_init_153 : decode cX7_init 153 = .ok (.putfield 66, 3) := by decide +kernel
theorem dX7_init_156 : decode cX7_init 156 = .ok (.aload_n 0, 1) := by decide +kernel
theorem dX7_init_157 : decode cX7_init 157 = .ok (.sipush 402, 3) := by decide +kernel
theorem dX7_init_160 : decode cX7_init 160 = .ok (.newarray .int, 2) := by decide +kernel
theorem dX7_init_162 : decode cX7_init 162 = .ok (.putfield 69, 3) := by decide +kernel
theorem dX7_init_165 : decode cX7_init 165 = .ok (.aload_n 0, 1) := by decide +kernel
theorem dX7_init_166 : decode cX7_init 166 = .ok (.sipush 400, 3) := by decide +kernel
theorem dX7_init_169 : decode cX7_init 169 = .ok (.newarray .int, 2) := by decide +kernel
theorem dX7_init_171 : decode cX7_init 171 = .ok (.putfield 72, 3) := by decide +kernel
theorem dX7_init_174 : decode cX7_init 174 = .ok (.aload_n 0, 1) := by decide +kernel
theorem dX7_init_175 : decode cX7_init 175 = .ok (.iconst 1, 1) := by decide +kernel
theorem dX7_init_176 : decode cX7_init 176 = .ok (.invokevirtual 75, 3) := by decide +kernel
theorem dX7_init_179 : decode cX7_init 179 = .ok (.return_, 1) := by decide +kernel
theorem dX7_thrown_0 : decode cX7_thrown 0 = .ok (.aload_n 0, 1) := by decide +kernel
theorem dX7_thrown_1 : decode cX7_thrown 1 = .ok (.getfield 79, 3) := by decide +kernel
theorem dX7_thrown_4 : decode cX7_thrown 4 = .ok (.ireturn, 1) := by decide +kernel
theorem dX7_begin_0 : decode cX7_begin 0 = .ok (.aload_n 0, 1) := by decide +kernel
theorem dX7_begin_1 : decode cX7_begin 1 = .ok (.iload_n 1, 1) := by decide +kernel
theorem dX7_begin_2 : decode cX7_begin 2 = .ok (.ifCond .ge 7, 3) := by decide +kernel
theorem dX7_begin_5 : decode cX7_begin 5 = .ok (.iconst 1, 1) := by decide +kernel
theorem dX7_begin_6 : decode cX7_begin 6 = .ok (.goto 18, 3) := by decide +kernel
theorem dX7_begin_9 : decode cX7_begin 9 = .ok (.iload_n 1, 1) := by decide +kernel
theorem dX7_begin_10 : decode cX7_begin 10 = .ok (.ifCond .eq 9, 3) := by decide +kernel
theorem dX7_begin_13 : decode cX7_begin 13 = .ok (.iload_n 1, 1) := by decide +kernel
theorem dX7_begin_14 : decode cX7_begin 14 = .ok (.bipush 6, 2) := by decide +kernel
theorem dX7_begin_16 : decode cX7_begin 16 = .ok (.if_icmp .le 7, 3) := by decide +kernel
theorem dX7_begin_19 : decode cX7_begin 19 = .ok (.iconst 2, 1) := by decide +kernel
theorem dX7_begin_20 : decode cX7_begin 20 = .ok (.goto 4, 3) := by decide +kernel
theorem dX7_begin_23 : decode cX7_begin 23 = .ok (.iconst 0, 1) := by decide +kernel
theorem dX7_begin_24 : decode cX7_begin 24 = .ok (.putfield 79, 3) := by decide +kernel
theorem dX7_begin_27 : decode cX7_begin 27 = .ok (.aload_n 0, 1) := by decide +kernel
theorem dX7_begin_28 : decode cX7_begin 28 = .ok (.getfield 79, 3) := by decide +kernel
theorem dX7_begin_31 : decode cX7_begin 31 = .ok (.ifCond .le 4, 3) := by decide +kernel
theorem dX7_begin_34 : decode cX7_begin 34 = .ok (.return_, 1) := by decide +kernel
theorem dX7_begin_35 : decode cX7_begin 35 = .ok (.aload_n 0, 1) := by decide +kernel
theorem dX7_begin_36 : decode cX7_begin 36 = .ok (.iload_n 1, 1) := by decide +kernel
theorem dX7_begin_37 : decode cX7_begin 37 = .ok (.putfield 82, 3) := by decide +kernel
theorem dX7_begin_40 : decode cX7_begin 40 = .ok (.iconst 0, 1) := by decide +kernel
theorem dX7_begin_41 : decode cX7_begin 41 = .ok (.istore_n 2, 1) := by decide +kernel
theorem dX7_begin_42 : decode cX7_begin 42 = .ok (.iload_n 2, 1) := by decide +kernel
theorem dX7_begin_43 : decode cX7_begin 43 = .ok (.bipush 36, 2) := by decide +kernel
theorem dX7_begin_45 : decode cX7_begin 45 = .ok (.if_icmp .ge 23, 3) := by decide +kernel
theorem dX7_begin_48 : decode cX7_begin 48 = .ok (.aload_n 0, 1) := by decide +kernel
theorem dX7_begin_49 : decode cX7_begin 49 = .ok (.getfield 7, 3) := by decide +kernel
theorem dX7_begin_52 : decode cX7_begin 52 = .ok (.iload_n 2, 1) := by decide +kernel
theorem dX7_begin_53 : decode cX7_begin 53 = .ok (.iconst 0, 1) := by decide +kernel
theorem dX7_begin_54 : decode cX7_begin 54 = .ok (.bastore, 1) := by decide +kernel
theorem dX7_begin_55 : decode cX7_begin 55 = .ok (.aload_n 0, 1) := by decide +kernel
theorem dX7_begin_56 : decode cX7_begin 56 = .ok (.getfield 13, 3) := by decide +kernel
theorem dX7_begin_59 : decode cX7_begin 59 = .ok (.iload_n 2, 1) := by decide +kernel
theorem dX7_begin_60 : decode cX7_begin 60 = .ok (.iconst 0, 1) := by decide +kernel
theorem dX7_begin_61 : decode cX7_begin 61 = .ok (.iastore, 1) := by decide +kernel
theorem dX7_begin_62 : decode cX7_begin 62 = .ok (.iinc 2 1, 3) := by decide +kernel
theorem dX7_begin_65 : decode cX7_begin 65 = .ok (.goto (-23), 3) := by decide +kernel
theorem dX7_begin_68 : decode cX7_begin 68 = .ok (.iconst 0, 1) := by decide +kernel
theorem dX7_begin_69 : decode cX7_begin 69 = .ok (.istore_n 2, 1) := by decide +kernel
theorem dX7_begin_70 : decode cX7_begin 70 = .ok (.iload_n 2, 1) := by decide +kernel
theorem dX7_begin_71 : decode cX7_begin 71 = .ok (.bipush 6, 2) := by decide +kernel
theorem dX7_begin_73 : decode cX7_begin 73 = .ok (.if_icmp .ge 24, 3) := by decide +kernel
theorem dX7_begin_76 : decode cX7_begin 76 = .ok (.aload_n 0, 1) := by decide +kernel
theorem dX7_begin_77 : decode cX7_begin 77 = .ok (.getfield 17, 3) := by decide +kernel
theorem dX7_begin_80 : decode cX7_begin 80 = .ok (.iload_n 2, 1) := by decide +kernel
theorem dX7_begin_81 : decode cX7_begin 81 = .ok (.iconst 1, 1) := by decide +kernel
theorem dX7_begin_82 : decode cX7_begin 82 = .ok (.iastore, 1) := by decide +kernel
theorem dX7_begin_83 : decode cX7_begin 83 = .ok (.aload_n 0, 1) := by decide +kernel
theorem dX7_begin_84 : decode cX7_begin 84 = .ok (.getfield 20, 3) := by decide +kernel
theorem dX7_begin_87 : decode cX7_begin 87 = .ok (.iload_n 2, 1) := by decide +kernel
theorem dX7_begin_88 : decode cX7_begin 88 = .ok (.bipush 31, 2) := by decide +kernel
theorem dX7_begin_90 : decode cX7_begin 90 = .ok (.iastore, 1) := by decide +kernel
theorem dX7_begin_91 : decode cX7_begin 91 = .ok (.iinc 2 1, 3) := by decide +kernel
theorem dX7_begin_94 : decode cX7_begin 94 = .ok (.goto (-24), 3) := by decide +kernel
theorem dX7_begin_97 : decode cX7_begin 97 = .ok (.aload_n 0, 1) := by decide +kernel
theorem dX7_begin_98 : decode cX7_begin 98 = .ok (.iconst 0, 1) := by decide +kernel
theorem dX7_begin_99 : decode cX7_begin 99 = .ok (.putfield 85, 3) := by decide +kernel
theorem dX7_begin_102 : decode cX7_begin 102 = .ok (.aload_n 0, 1) := by decide +kernel
theorem dX7_begin_103 : decode cX7_begin 103 = .ok (.iconst 0, 1) := by decide +kernel
theorem dX7_begin_104 : decode cX7_begin 104 = .ok (.putfield 88, 3) := by decide +kernel
theorem dX7_begin_107 : decode cX7_begin 107 = .ok (.aload_n 0, 1) := by decide +kernel
theorem dX7_begin_108 : decode cX7_begin 108 = .ok (.invokevirtual 91, 3) := by decide +kernel
theorem dX7_begin_111 : decode cX7_begin 111 = .ok (.return_, 1) := by decide +kernel
theorem dX7_anew_0 : decode cX7_anew 0 = .ok (.aload_n 0, 1) := by decide +kernel
theorem dX7_anew_1 : decode cX7_anew 1 = .ok (.iconst 0, 1) := by decide +kernel
theorem dX7_anew_2 : decode cX7_anew 2 = .ok (.putfield 94, 3) := by decide +kernel
theorem dX7_anew_5 : decode cX7_anew 5 = .ok (.aload_n 0, 1) := by decide +kernel
theorem dX7_anew_6 : decode cX7_anew 6 = .ok (.iconst 0, 1) := by decide +kernel
theorem dX7_anew_7 : decode cX7_anew 7 = .ok (.putfield 97, 3) := by decide +kernel
theorem dX7_anew_10 : decode cX7_anew 10 = .ok (.aload_n 0, 1) := by decide +kernel
theorem dX7_anew_11 : decode cX7_anew 11 = .ok (.iconst (-1), 1) := by decide +kernel
theorem dX7_anew_12 : decode cX7_anew 12 = .ok (.putfield 53, 3) := by decide +kernel
theorem dX7_anew_15 : decode cX7_anew 15 = .ok (.aload_n 0, 1) := by decide +kernel
theorem dX7_anew_16 : decode cX7_anew 16 = .ok (.iconst 0, 1) := by decide +kernel
theorem dX7_anew_17 : decode cX7_anew 17 = .ok (.putfield 100, 3) := by decide +kernel
theorem dX7_anew_20 : decode cX7_anew 20 = .ok (.aload_n 0, 1) := by decide +kernel
theorem dX7_anew_21 : decode cX7_anew 21 = .ok (.invokevirtual 103, 3) := by decide +kernel
theorem dX7_anew_24 : decode cX7_anew 24 = .ok (.iconst 0, 1) := by decide +kernel
theorem dX7_anew_25 : decode cX7_anew 25 = .ok (.istore_n 1, 1) := by decide +kernel
theorem dX7_anew_26 : decode cX7_anew 26 = .ok (.iload_n 1, 1) := by decide +kernel
theorem dX7_anew_27 : decode cX7_anew 27 = .ok (.bipush 14, 2) := by decide +kernel
theorem dX7_anew_29 : decode cX7_anew 29 = .ok (.if_icmp .ge 21, 3) := by decide +kernel
theorem dX7_anew_32 : decode cX7_anew 32 = .ok (.aload_n 0, 1) := by decide +kernel
theorem dX7_anew_33 : decode cX7_anew 33 = .ok (.getfield 44, 3) := by decide +kernel
theorem dX7_anew_36 : decode cX7_anew 36 = .ok (.iload_n 1, 1) := by decide +kernel
theorem dX7_anew_37 : decode cX7_anew 37 = .ok (.aload_n 0, 1) := by decide +kernel
theorem dX7_anew_38 : decode cX7_anew 38 = .ok (.getfield 47, 3) := by decide +kernel
theorem dX7_anew_41 : decode cX7_anew 41 = .ok (.iload_n 1, 1) := by decide +kernel
theorem dX7_anew_42 : decode cX7_anew 42 = .ok (.iaload, 1) := by decide +kernel
theorem dX7_anew_43 : decode cX7_anew 43 = .ok (.iastore, 1) := by decide +kernel
theorem dX7_anew_44 : decode cX7_anew 44 = .ok (.iinc 1 1, 3) := by decide +kernel
theorem dX7_anew_47 : decode cX7_anew 47 = .ok (.goto (-21), 3) := by decide +kernel
theorem dX7_anew_50 : decode cX7_anew 50 = .ok (.return_, 1) := by decide +kernel
theorem dX7_first_0 : decode cX7_first 0 = .ok (.iconst 0, 1) := by decide +kernel
theorem dX7_first_1 : decode cX7_first 1 = .ok (.istore_n 1, 1) := by decide +kernel
theorem dX7_first_2 : decode cX7_first 2 = .ok (.iload_n 1, 1) := by decide +kernel
theorem dX7_first_3 : decode cX7_first 3 = .ok (.bipush 14, 2) := by decide +kernel
theorem dX7_first_5 : decode cX7_first 5 = .ok (.if_icmp .ge 16, 3) := by decide +kernel
theorem dX7_first_8 : decode cX7_first 8 = .ok (.aload_n 0, 1) := by decide +kernel
theorem dX7_first_9 : decode cX7_first 9 = .ok (.getfield 47, 3) := by decide +kernel
theorem dX7_first_12 : decode cX7_first 12 = .ok (.iload_n 1, 1) := by decide +kernel
theorem dX7_first_13 : decode cX7_first 13 = .ok (.iconst 0, 1) := by decide +kernel
theorem dX7_first_14 : decode cX7_first 14 = .ok (.iastore, 1) := by decide +kernel
theorem dX7_first_15 : decode cX7_first 15 = .ok (.iinc 1 1, 3) := by decide +kernel
theorem dX7_first_18 : decode cX7_first 18 = .ok (.goto (-16), 3) := by decide +kernel
theorem dX7_first_21 : decode cX7_first 21 = .ok (.iconst 0, 1) := by decide +kernel
theorem dX7_first_22 : decode cX7_first 22 = .ok (.istore_n 1, 1) := by decide +kernel
theorem dX7_first_23 : decode cX7_first 23 = .ok (.iload_n 1, 1) := by decide +kernel
theorem dX7_first_24 : decode cX7_first 24 = .ok (.aload_n 0, 1) := by decide +kernel
theorem dX7_first_25 : decode cX7_first 25 = .ok (.getfield 82, 3) := by decide +kernel
theorem dX7_first_28 : decode cX7_first 28 = .ok (.if_icmp .ge 45, 3) := by decide +kernel
theorem dX7_first_31 : decode cX7_first 31 = .ok (.aload_n 0, 1) := by decide +kernel
theorem dX7_first_32 : decode cX7_first 32 = .ok (.getfield 85, 3) := by decide +kernel
theorem dX7_first_35 : decode cX7_first 35 = .ok (.ifCond .le 38, 3) := by decide +kernel
theorem dX7_first_38 : decode cX7_first 38 = .ok (.aload_n 0, 1) := by decide +kernel
theorem dX7_first_39 : decode cX7_first 39 = .ok (.getfield 47, 3) := by decide +kernel
theorem dX7_first_42 : decode cX7_first 42 = .ok (.bipush 8, 2) := by decide +kernel
theorem dX7_first_44 : decode cX7_first 44 = .ok (.iload_n 1, 1) := by decide +kernel
theorem dX7_first_45 : decode cX7_first 45 = .ok (.iadd, 1) := by decide +kernel
theorem dX7_first_46 : decode cX7_first 46 = .ok (.aload_n 0, 1) := by decide +kernel
theorem dX7_first_47 : decode cX7_first 47 = .ok (.getfield 26, 3) := by decide +kernel
theorem dX7_first_50 : decode cX7_first 50 = .ok (.iconst 0, 1) := by decide +kernel
theorem dX7_first_51 : decode cX7_first 51 = .ok (.iaload, 1) := by decide +kernel
theorem dX7_first_52 : decode cX7_first 52 = .ok (.iload_n 1, 1) := by decide +kernel
theorem dX7_first_53 : decode cX7_first 53 = .ok (.ishr, 1) := by decide +kernel
theorem dX7_first_54 : decode cX7_first 54 = .ok (.iconst 1, 1) := by decide +kernel
theorem dX7_first_55 : decode cX7_first 55 = .ok (.iand, 1) := by decide +kernel
theorem dX7_first_56 : decode cX7_first 56 = .ok (.iconst 1, 1) := by decide +kernel
theorem dX7_first_57 : decode cX7_first 57 = .ok (.if_icmp .ne 7, 3) := by decide +kernel
theorem dX7_first_60 : decode cX7_first 60 = .ok (.iconst 0, 1) := by decide +kernel
theorem dX7_first_61 : decode cX7_first 61 = .ok (.goto 5, 3) := by decide +kernel
theorem dX7_first_64 : decode cX7_first 64 = .ok (.bipush 15, 2) := by decide +kernel
theorem dX7_first_66 : decode cX7_first 66 = .ok (.iastore, 1) := by decide +kernel
theorem dX7_first_67 : decode cX7_first 67 = .ok (.iinc 1 1, 3) := by decide +kernel
theorem dX7_first_70 : decode cX7_first 70 = .ok (.goto (-47), 3) := by decide +kernel
theorem dX7_first_73 : decode cX7_first 73 = .ok (.return_, 1) := by decide +kernel
theorem dX7_isGroup_0 : decode cX7_isGroup 0 = .ok (.iload_n 1, 1) := by decide +kernel
theorem dX7_isGroup_1 : decode cX7_isGroup 1 = .ok (.ifCond .lt 15, 3) := by decide +kernel
theorem dX7_isGroup_4 : decode cX7_isGroup 4 = .ok (.iload_n 1, 1) := by decide +kernel
theorem dX7_isGroup_5 : decode cX7_isGroup 5 = .ok (.aload_n 0, 1) := by decide +kernel
theorem dX7_isGroup_6 : decode cX7_isGroup 6 = .ok (.getfield 82, 3) := by decide +kernel
theorem dX7_isGroup_9 : decode cX7_isGroup 9 = .ok (.if_icmp .ge 7, 3) := by decide +kernel
theorem dX7_isGroup_12 : decode cX7_isGroup 12 = .ok (.iconst 1, 1) := by decide +kernel
theorem dX7_isGroup_13 : decode cX7_isGroup 13 = .ok (.goto 4, 3) := by decide +kernel
theorem dX7_isGroup_16 : decode cX7_isGroup 16 = .ok (.iconst 0, 1) := by decide +kernel
theorem dX7_isGroup_17 : decode cX7_isGroup 17 = .ok (.ireturn, 1) := by decide +kernel
theorem dX7_clash_0 : decode cX7_clash 0 = .ok (.aload_n 0, 1) := by decide +kernel
theorem dX7_clash_1 : decode cX7_clash 1 = .ok (.aload_n 0, 1) := by decide +kernel
theorem dX7_clash_2 : decode cX7_clash 2 = .ok (.iload_n 1, 1) := by decide +kernel
theorem dX7_clash_3 : decode cX7_clash 3 = .ok (.invokevirtual 106, 3) := by decide +kernel
theorem dX7_clash_6 : decode cX7_clash 6 = .ok (.ifCond .eq 15, 3) := by decide +kernel
theorem dX7_clash_9 : decode cX7_clash 9 = .ok (.aload_n 0, 1) := by decide +kernel
theorem dX7_clash_10 : decode cX7_clash 10 = .ok (.iload_n 2, 1) := by decide +kernel
theorem dX7_clash_11 : decode cX7_clash 11 = .ok (.invokevirtual 106, 3) := by decide +kernel
theorem dX7_clash_14 : decode cX7_clash 14 = .ok (.ifCond .eq 7, 3) := by decide +kernel
theorem dX7_clash_17 : decode cX7_clash 17 = .ok (.iconst 0, 1) := by decide +kernel
theorem dX7_clash_18 : decode cX7_clash 18 = .ok (.goto 4, 3) := by decide +kernel
theorem dX7_clash_21 : decode cX7_clash 21 = .ok (.iconst 1, 1) := by decide +kernel
theorem dX7_clash_22 : decode cX7_clash 22 = .ok (.putfield 79, 3) := by decide +kernel
theorem dX7_clash_25 : decode cX7_clash 25 = .ok (.aload_n 0, 1) := by decide +kernel
theorem dX7_clash_26 : decode cX7_clash 26 = .ok (.getfield 79, 3) := by decide +kernel
theorem dX7_clash_29 : decode cX7_clash 29 = .ok (.ifCond .gt 18, 3) := by decide +kernel
theorem dX7_clash_32 : decode cX7_clash 32 = .ok (.iload_n 1, 1) := by decide +kernel
theorem dX7_clash_33 : decode cX7_clash 33 = .ok (.iload_n 2, 1) := by decide +kernel
theorem dX7_clash_34 : decode cX7_clash 34 = .ok (.if_icmp .eq 13, 3) := by decide +kernel
theorem dX7_clash_37 : decode cX7_clash 37 = .ok (.iload_n 3, 1) := by decide +kernel
theorem dX7_clash_38 : decode cX7_clash 38 = .ok (.ifCond .lt 9, 3) := by decide +kernel
theorem dX7_clash_41 : decode cX7_clash 41 = .ok (.iload_n 3, 1) := by decide +kernel
theorem dX7_clash_42 : decode cX7_clash 42 = .ok (.bipush 15, 2) := by decide +kernel
theorem dX7_clash_44 : decode cX7_clash 44 = .ok (.if_icmp .le 5, 3) := by decide +kernel
theorem dX7_clash_47 : decode cX7_clash 47 = .ok (.iconst 0, 1) := by decide +kernel
theorem dX7_clash_48 : decode cX7_clash 48 = .ok (.ireturn, 1) := by decide +kernel
theorem dX7_clash_49 : decode cX7_clash 49 = .ok (.aload_n 0, 1) := by decide +kernel
theorem dX7_clash_50 : decode cX7_clash 50 = .ok (.getfield 7, 3) := by decide +kernel
theorem dX7_clash_53 : decode cX7_clash 53 = .ok (.bipush 6, 2) := by decide +kernel
theorem dX7_clash_55 : decode cX7_clash 55 = .ok (.iload_n 1, 1) := by decide +kernel
theorem dX7_clash_56 : decode cX7_clash 56 = .ok (.imul, 1) := by decide +kernel
theorem dX7_clash_57 : decode cX7_clash 57 = .ok (.iload_n 2, 1) := by decide +kernel
theorem dX7_clash_58 : decode cX7_clash 58 = .ok (.iadd, 1) := by decide +kernel
theorem dX7_clash_59 : decode cX7_clash 59 = .ok (.iconst 1, 1) := by decide +kernel
theorem dX7_clash_60 : decode cX7_clash 60 = .ok (.bastore, 1) := by decide +kernel
theorem dX7_clash_61 : decode cX7_clash 61 = .ok (.aload_n 0, 1) := by decide +kernel
theorem dX7_clash_62 : decode cX7_clash 62 = .ok (.getfield 7, 3) := by decide +kernel
theorem dX7_clash_65 : decode cX7_clash 65 = .ok (.bipush 6, 2) := by decide +kernel
theorem dX7_clash_67 : decode cX7_clash 67 = .ok (.iload_n 2, 1) := by decide +kernel
theorem dX7_clash_68 : decode cX7_clash 68 = .ok (.imul, 1) := by decide +kernel
theorem dX7_clash_69 : decode cX7_clash 69 = .ok (.iload_n 1, 1) := by decide +kernel
theorem dX7_clash_70 : decode cX7_clash 70 = .ok (.iadd, 1) := by decide +kernel
theorem dX7_clash_71 : decode cX7_clash 71 = .ok (.iconst 1, 1) := by decide +kernel
theorem dX7_clash_72 : decode cX7_clash 72 = .ok (.bastore, 1) := by decide +kernel
theorem dX7_clash_73 : decode cX7_clash 73 = .ok (.aload_n 0, 1) := by decide +kernel
theorem dX7_clash_74 : decode cX7_clash 74 = .ok (.getfield 13, 3) := by decide +kernel
theorem dX7_clash_77 : decode cX7_clash 77 = .ok (.bipush 6, 2) := by decide +kernel
theorem dX7_clash_79 : decode cX7_clash 79 = .ok (.iload_n 1, 1) := by decide +kernel
theorem dX7_clash_80 : decode cX7_clash 80 = .ok (.imul, 1) := by decide +kernel
theorem dX7_clash_81 : decode cX7_clash 81 = .ok (.iload_n 2, 1) := by decide +kernel
theorem dX7_clash_82 : decode cX7_clash 82 = .ok (.iadd, 1) := by decide +kernel
theorem dX7_clash_83 : decode cX7_clash 83 = .ok (.iload_n 3, 1) := by decide +kernel
theorem dX7_clash_84 : decode cX7_clash 84 = .ok (.iastore, 1) := by decide +kernel
theorem dX7_clash_85 : decode cX7_clash 85 = .ok (.aload_n 0, 1) := by decide +kernel
theorem dX7_clash_86 : decode cX7_clash 86 = .ok (.invokevirtual 91, 3) := by decide +kernel
theorem dX7_clash_89 : decode cX7_clash 89 = .ok (.iconst 1, 1) := by decide +kernel
theorem dX7_clash_90 : decode cX7_clash 90 = .ok (.ireturn, 1) := by decide +kernel
theorem dX7_least_0 : decode cX7_least 0 = .ok (.aload_n 0, 1) := by decide +kernel
theorem dX7_least_1 : decode cX7_least 1 = .ok (.aload_n 0, 1) := by decide +kernel
theorem dX7_least_2 : decode cX7_least 2 = .ok (.iload_n 1, 1) := by decide +kernel
theorem dX7_least_3 : decode cX7_least 3 = .ok (.invokevirtual 106, 3) := by decide +kernel
theorem dX7_least_6 : decode cX7_least 6 = .ok (.ifCond .eq 7, 3) := by decide +kernel
theorem dX7_least_9 : decode cX7_least 9 = .ok (.iconst 0, 1) := by decide +kernel
theorem dX7_least_10 : decode cX7_least 10 = .ok (.goto 4, 3) := by decide +kernel
theorem dX7_least_13 : decode cX7_least 13 = .ok (.iconst 1, 1) := by decide +kernel
theorem dX7_least_14 : decode cX7_least 14 = .ok (.putfield 79, 3) := by decide +kernel
theorem dX7_least_17 : decode cX7_least 17 = .ok (.aload_n 0, 1) := by decide +kernel
theorem dX7_least_18 : decode cX7_least 18 = .ok (.getfield 79, 3) := by decide +kernel
theorem dX7_least_21 : decode cX7_least 21 = .ok (.ifCond .gt 14, 3) := by decide +kernel
theorem dX7_least_24 : decode cX7_least 24 = .ok (.iload_n 2, 1) := by decide +kernel
theorem dX7_least_25 : decode cX7_least 25 = .ok (.iconst 1, 1) := by decide +kernel
theorem dX7_least_26 : decode cX7_least 26 = .ok (.if_icmp .lt 9, 3) := by decide +kernel
theorem dX7_least_29 : decode cX7_least 29 = .ok (.iload_n 2, 1) := by decide +kernel
theorem dX7_least_30 : decode cX7_least 30 = .ok (.bipush 15, 2) := by decide +kernel
theorem dX7_least_32 : decode cX7_least 32 = .ok (.if_icmp .le 5, 3) := by decide +kernel
theorem dX7_least_35 : decode cX7_least 35 = .ok (.iconst 0, 1) := by decide +kernel
theorem dX7_least_36 : decode cX7_least 36 = .ok (.ireturn, 1) := by decide +kernel
theorem dX7_least_37 : decode cX7_least 37 = .ok (.aload_n 0, 1) := by decide +kernel
theorem dX7_least_38 : decode cX7_least 38 = .ok (.getfield 17, 3) := by decide +kernel
theorem dX7_least_41 : decode cX7_least 41 = .ok (.iload_n 1, 1) := by decide +kernel
theorem dX7_least_42 : decode cX7_least 42 = .ok (.iload_n 2, 1) := by decide +kernel
theorem dX7_least_43 : decode cX7_least 43 = .ok (.iastore, 1) := by decide +kernel
theorem dX7_least_44 : decode cX7_least 44 = .ok (.aload_n 0, 1) := by decide +kernel
theorem dX7_least_45 : decode cX7_least 45 = .ok (.invokevirtual 91, 3) := by decide +kernel
theorem dX7_least_48 : decode cX7_least 48 = .ok (.iconst 1, 1) := by decide +kernel
theorem dX7_least_49 : decode cX7_least 49 = .ok (.ireturn, 1) := by decide +kernel
theorem dX7_most_0 : decode cX7_most 0 = .ok (.aload_n 0, 1) := by decide +kernel
theorem dX7_most_1 : decode cX7_most 1 = .ok (.aload_n 0, 1) := by decide +kernel
theorem dX7_most_2 : decode cX7_most 2 = .ok (.iload_n 1, 1) := by decide +kernel
theorem dX7_most_3 : decode cX7_most 3 = .ok (.invokevirtual 106, 3) := by decide +kernel
theorem dX7_most_6 : decode cX7_most 6 = .ok (.ifCond .eq 7, 3) := by decide +kernel
theorem dX7_most_9 : decode cX7_most 9 = .ok (.iconst 0, 1) := by decide +kernel
theorem dX7_most_10 : decode cX7_most 10 = .ok (.goto 4, 3) := by decide +kernel
theorem dX7_most_13 : decode cX7_most 13 = .ok (.iconst 1, 1) := by decide +kernel
theorem dX7_most_14 : decode cX7_most 14 = .ok (.putfield 79, 3) := by decide +kernel
theorem dX7_most_17 : decode cX7_most 17 = .ok (.aload_n 0, 1) := by decide +kernel
theorem dX7_most_18 : decode cX7_most 18 = .ok (.getfield 79, 3) := by decide +kernel
theorem dX7_most_21 : decode cX7_most 21 = .ok (.ifCond .gt 14, 3) := by decide +kernel
theorem dX7_most_24 : decode cX7_most 24 = .ok (.iload_n 2, 1) := by decide +kernel
theorem dX7_most_25 : decode cX7_most 25 = .ok (.iconst 1, 1) := by decide +kernel
theorem dX7_most_26 : decode cX7_most 26 = .ok (.if_icmp .lt 9, 3) := by decide +kernel
theorem dX7_most_29 : decode cX7_most 29 = .ok (.iload_n 2, 1) := by decide +kernel
theorem dX7_most_30 : decode cX7_most 30 = .ok (.bipush 31, 2) := by decide +kernel
theorem dX7_most_32 : decode cX7_most 32 = .ok (.if_icmp .le 5, 3) := by decide +kernel
theorem dX7_most_35 : decode cX7_most 35 = .ok (.iconst 0, 1) := by decide +kernel
theorem dX7_most_36 : decode cX7_most 36 = .ok (.ireturn, 1) := by decide +kernel
theorem dX7_most_37 : decode cX7_most 37 = .ok (.aload_n 0, 1) := by decide +kernel
theorem dX7_most_38 : decode cX7_most 38 = .ok (.getfield 20, 3) := by decide +kernel
theorem dX7_most_41 : decode cX7_most 41 = .ok (.iload_n 1, 1) := by decide +kernel
theorem dX7_most_42 : decode cX7_most 42 = .ok (.iload_n 2, 1) := by decide +kernel
theorem dX7_most_43 : decode cX7_most 43 = .ok (.iastore, 1) := by decide +kernel
theorem dX7_most_44 : decode cX7_most 44 = .ok (.aload_n 0, 1) := by decide +kernel
theorem dX7_most_45 : decode cX7_most 45 = .ok (.invokevirtual 91, 3) := by decide +kernel
theorem dX7_most_48 : decode cX7_most 48 = .ok (.iconst 1, 1) := by decide +kernel
theorem dX7_most_49 : decode cX7_most 49 = .ok (.ireturn, 1) := by decide +kernel
theorem dX7_unit_0 : decode cX7_unit 0 = .ok (.aload_n 0, 1) := by decide +kernel
theorem dX7_unit_1 : decode cX7_unit 1 = .ok (.iconst 0, 1) := by decide +kernel
theorem dX7_unit_2 : decode cX7_unit 2 = .ok (.putfield 79, 3) := by decide +kernel
theorem dX7_unit_5 : decode cX7_unit 5 = .ok (.iload_n 1, 1) := by decide +kernel
theorem dX7_unit_6 : decode cX7_unit 6 = .ok (.bipush 32, 2) := by decide +kernel
theorem dX7_unit_8 : decode cX7_unit 8 = .ok (.if_icmp .lt 18, 3) := by decide +kernel
theorem dX7_unit_11 : decode cX7_unit 11 = .ok (.iload_n 1, 1) := by decide +kernel
theorem dX7_unit_12 : decode cX7_unit 12 = .ok (.bipush 126, 2) := by decide +kernel
theorem dX7_unit_14 : decode cX7_unit 14 = .ok (.if_icmp .gt 12, 3) := by decide +kernel
theorem dX7_unit_17 : decode cX7_unit 17 = .ok (.aload_n 0, 1) := by decide +kernel
theorem dX7_unit_18 : decode cX7_unit 18 = .ok (.getfield 88, 3) := by decide +kernel
theorem dX7_unit_21 : decode cX7_unit 21 = .ok (.bipush 60, 2) := by decide +kernel
theorem dX7_unit_23 : decode cX7_unit 23 = .ok (.if_icmp .ne 5, 3) := by decide +kernel
theorem dX7_unit_26 : decode cX7_unit 26 = .ok (.iconst 0, 1) := by decide +kernel
theorem dX7_unit_27 : decode cX7_unit 27 = .ok (.ireturn, 1) := by decide +kernel
theorem dX7_unit_28 : decode cX7_unit 28 = .ok (.aload_n 0, 1) := by decide +kernel
theorem dX7_unit_29 : decode cX7_unit 29 = .ok (.getfield 35, 3) := by decide +kernel
theorem dX7_unit_32 : decode cX7_unit 32 = .ok (.aload_n 0, 1) := by decide +kernel
theorem dX7_unit_33 : decode cX7_unit 33 = .ok (.getfield 88, 3) := by decide +kernel
theorem dX7_unit_36 : decode cX7_unit 36 = .ok (.iload_n 1, 1) := by decide +kernel
theorem dX7_unit_37 : decode cX7_unit 37 = .ok (.iastore, 1) := by decide +kernel
theorem dX7_unit_38 : decode cX7_unit 38 = .ok (.aload_n 0, 1) := by decide +kernel
theorem dX7_unit_39 : decode cX7_unit 39 = .ok (.dup, 1) := by decide +kernel
theorem dX7_unit_40 : decode cX7_unit 40 = .ok (.getfield 88, 3) := by decide +kernel
theorem dX7_unit_43 : decode cX7_unit 43 = .ok (.iconst 1, 1) := by decide +kernel
theorem dX7_unit_44 : decode cX7_unit 44 = .ok (.iadd, 1) := by decide +kernel
theorem dX7_unit_45 : decode cX7_unit 45 = .ok (.putfield 88, 3) := by decide +kernel
theorem dX7_unit_48 : decode cX7_unit 48 = .ok (.iconst 1, 1) := by decide +kernel
theorem dX7_unit_49 : decode cX7_unit 49 = .ok (.ireturn, 1) := by decide +kernel
theorem dX7_sign_0 : decode cX7_sign 0 = .ok (.iload_n 1, 1) := by decide +kernel
theorem dX7_sign_1 : decode cX7_sign 1 = .ok (.aload_n 0, 1) := by decide +kernel
theorem dX7_sign_2 : decode cX7_sign 2 = .ok (.getfield 88, 3) := by decide +kernel
theorem dX7_sign_5 : decode cX7_sign 5 = .ok (.if_icmp .ge 12, 3) := by decide +kernel
theorem dX7_sign_8 : decode cX7_sign 8 = .ok (.aload_n 0, 1) := by decide +kernel
theorem dX7_sign_9 : decode cX7_sign 9 = .ok (.getfield 35, 3) := by decide +kernel
theorem dX7_sign_12 : decode cX7_sign 12 = .ok (.iload_n 1, 1) := by decide +kernel
theorem dX7_sign_13 : decode cX7_sign 13 = .ok (.iaload, 1) := by decide +kernel
theorem dX7_sign_14 : decode cX7_sign 14 = .ok (.goto 4, 3) := by decide +kernel
theorem dX7_sign_17 : decode cX7_sign 17 = .ok (.iconst (-1), 1) := by decide +kernel
theorem dX7_sign_18 : decode cX7_sign 18 = .ok (.ireturn, 1) := by decide +kernel
theorem dX7_isDigit_0 : decode cX7_isDigit 0 = .ok (.aload_n 0, 1) := by decide +kernel
theorem dX7_isDigit_1 : decode cX7_isDigit 1 = .ok (.iload_n 1, 1) := by decide +kernel
theorem dX7_isDigit_2 : decode cX7_isDigit 2 = .ok (.invokevirtual 110, 3) := by decide +kernel
theorem dX7_isDigit_5 : decode cX7_isDigit 5 = .ok (.bipush 48, 2) := by decide +kernel
theorem dX7_isDigit_7 : decode cX7_isDigit 7 = .ok (.if_icmp .lt 17, 3) := by decide +kernel
theorem dX7_isDigit_10 : decode cX7_isDigit 10 = .ok (.aload_n 0, 1) := by decide +kernel
theorem dX7_isDigit_11 : decode cX7_isDigit 11 = .ok (.iload_n 1, 1) := by decide +kernel
theorem dX7_isDigit_12 : decode cX7_isDigit 12 = .ok (.invokevirtual 110, 3) := by decide +kernel
theorem dX7_isDigit_15 : decode cX7_isDigit 15 = .ok (.bipush 57, 2) := by decide +kernel
theorem dX7_isDigit_17 : decode cX7_isDigit 17 = .ok (.if_icmp .gt 7, 3) := by decide +kernel
theorem dX7_isDigit_20 : decode cX7_isDigit 20 = .ok (.iconst 1, 1) := by decide +kernel
theorem dX7_isDigit_21 : decode cX7_isDigit 21 = .ok (.goto 4, 3) := by decide +kernel
theorem dX7_isDigit_24 : decode cX7_isDigit 24 = .ok (.iconst 0, 1) := by decide +kernel
theorem dX7_isDigit_25 : decode cX7_isDigit 25 = .ok (.ireturn, 1) := by decide +kernel
theorem dX7_behind_0 : decode cX7_behind 0 = .ok (.iload_n 1, 1) := by decide +kernel
theorem dX7_behind_1 : decode cX7_behind 1 = .ok (.istore_n 2, 1) := by decide +kernel
theorem dX7_behind_2 : decode cX7_behind 2 = .ok (.aload_n 0, 1) := by decide +kernel
theorem dX7_behind_3 : decode cX7_behind 3 = .ok (.iload_n 2, 1) := by decide +kernel
theorem dX7_behind_4 : decode cX7_behind 4 = .ok (.invokevirtual 114, 3) := by decide +kernel
theorem dX7_behind_7 : decode cX7_behind 7 = .ok (.ifCond .eq 9, 3) := by decide +kernel
theorem dX7_behind_10 : decode cX7_behind 10 = .ok (.iinc 2 1, 3) := by decide +kernel
theorem dX7_behind_13 : decode cX7_behind 13 = .ok (.goto (-11), 3) := by decide +kernel
theorem dX7_behind_16 : decode cX7_behind 16 = .ok (.iload_n 2, 1) := by decide +kernel
theorem dX7_behind_17 : decode cX7_behind 17 = .ok (.ireturn, 1) := by decide +kernel
theorem dX7_number_0 : decode cX7_number 0 = .ok (.aload_n 0, 1) := by decide +kernel
theorem dX7_number_1 : decode cX7_number 1 = .ok (.iload_n 1, 1) := by decide +kernel
theorem dX7_number_2 : decode cX7_number 2 = .ok (.invokevirtual 114, 3) := by decide +kernel
theorem dX7_number_5 : decode cX7_number 5 = .ok (.ifCond .eq 13, 3) := by decide +kernel
theorem dX7_number_8 : decode cX7_number 8 = .ok (.aload_n 0, 1) := by decide +kernel
theorem dX7_number_9 : decode cX7_number 9 = .ok (.iload_n 1, 1) := by decide +kernel
theorem dX7_number_10 : decode cX7_number 10 = .ok (.invokevirtual 110, 3) := by decide +kernel
theorem dX7_number_13 : decode cX7_number 13 = .ok (.bipush 48, 2) := by decide +kernel
theorem dX7_number_15 : decode cX7_number 15 = .ok (.if_icmp .ne 5, 3) := by decide +kernel
theorem dX7_number_18 : decode cX7_number 18 = .ok (.iconst (-1), 1) := by decide +kernel
theorem dX7_number_19 : decode cX7_number 19 = .ok (.ireturn, 1) := by decide +kernel
theorem dX7_number_20 : decode cX7_number 20 = .ok (.iconst 0, 1) := by decide +kernel
theorem dX7_number_21 : decode cX7_number 21 = .ok (.istore_n 2, 1) := by decide +kernel
theorem dX7_number_22 : decode cX7_number 22 = .ok (.iload_n 1, 1) := by decide +kernel
theorem dX7_number_23 : decode cX7_number 23 = .ok (.istore_n 3, 1) := by decide +kernel
theorem dX7_number_24 : decode cX7_number 24 = .ok (.aload_n 0, 1) := by decide +kernel
theorem dX7_number_25 : decode cX7_number 25 = .ok (.iload_n 3, 1) := by decide +kernel
theorem dX7_number_26 : decode cX7_number 26 = .ok (.invokevirtual 114, 3) := by decide +kernel
theorem dX7_number_29 : decode cX7_number 29 = .ok (.ifCond .eq 35, 3) := by decide +kernel
theorem dX7_number_32 : decode cX7_number 32 = .ok (.iload_n 2, 1) := by decide +kernel
theorem dX7_number_33 : decode cX7_number 33 = .ok (.bipush 99, 2) := by decide +kernel
theorem dX7_number_35 : decode cX7_number 35 = .ok (.if_icmp .le 9, 3) := by decide +kernel
theorem dX7_number_38 : decode cX7_number 38 = .ok (.sipush 1000, 3) := by decide +kernel
theorem dX7_number_41 : decode cX7_number 41 = .ok (.goto 16, 3) := by decide +kernel
theorem dX7_number_44 : decode cX7_number 44 = .ok (.bipush 10, 2) := by decide +kernel
theorem dX7_number_46 : decode cX7_number 46 = .ok (.iload_n 2, 1) := by decide +kernel
theorem dX7_number_47 : decode cX7_number 47 = .ok (.imul, 1) := by decide +kernel
theorem dX7_number_48 : decode cX7_number 48 = .ok (.aload_n 0, 1) := by decide +kernel
theorem dX7_number_49 : decode cX7_number 49 = .ok (.iload_n 3, 1) := by decide +kernel
theorem dX7_number_50 : decode cX7_number 50 = .ok (.invokevirtual 110, 3) := by decide +kernel
theorem dX7_number_53 : decode cX7_number 53 = .ok (.iadd, 1) := by decide +kernel
theorem dX7_number_54 : decode cX7_number 54 = .ok (.bipush 48, 2) := by decide +kernel
theorem dX7_number_56 : decode cX7_number 56 = .ok (.isub, 1) := by decide +kernel
theorem dX7_number_57 : decode cX7_number 57 = .ok (.istore_n 2, 1) := by decide +kernel
theorem dX7_number_58 : decode cX7_number 58 = .ok (.iinc 3 1, 3) := by decide +kernel
theorem dX7_number_61 : decode cX7_number 61 = .ok (.goto (-37), 3) := by decide +kernel
theorem dX7_number_64 : decode cX7_number 64 = .ok (.iload_n 2, 1) := by decide +kernel
theorem dX7_number_65 : decode cX7_number 65 = .ok (.ireturn, 1) := by decide +kernel
theorem dX7_phase_0 : decode cX7_phase 0 = .ok (.iload_n 1, 1) := by decide +kernel
theorem dX7_phase_1 : decode cX7_phase 1 = .ok (.istore_n 3, 1) := by decide +kernel
theorem dX7_phase_2 : decode cX7_phase 2 = .ok (.iconst 0, 1) := by decide +kernel
theorem dX7_phase_3 : decode cX7_phase 3 = .ok (.istore 4, 2) := by decide +kernel
theorem dX7_phase_5 : decode cX7_phase 5 = .ok (.iconst (-1), 1) := by decide +kernel
theorem dX7_phase_6 : decode cX7_phase 6 = .ok (.istore 5, 2) := by decide +kernel
theorem dX7_phase_8 : decode cX7_phase 8 = .ok (.aload_n 0, 1) := by decide +kernel
theorem dX7_phase_9 : decode cX7_phase 9 = .ok (.iload_n 3, 1) := by decide +kernel
theorem dX7_phase_10 : decode cX7_phase 10 = .ok (.invokevirtual 110, 3) := by decide +kernel
theorem dX7_phase_13 : decode cX7_phase 13 = .ok (.bipush 65, 2) := by decide +kernel
theorem dX7_phase_15 : decode cX7_phase 15 = .ok (.if_icmp .lt 56, 3) := by decide +kernel
theorem dX7_phase_18 : decode cX7_phase 18 = .ok (.aload_n 0, 1) := by decide +kernel
theorem dX7_phase_19 : decode cX7_phase 19 = .ok (.iload_n 3, 1) := by decide +kernel
theorem dX7_phase_20 : decode cX7_phase 20 = .ok (.invokevirtual 110, 3) := by decide +kernel
theorem dX7_phase_23 : decode cX7_phase 23 = .ok (.bipush 65, 2) := by decide +kernel
theorem dX7_phase_25 : decode cX7_phase 25 = .ok (.aload_n 0, 1) := by decide +kernel
theorem dX7_phase_26 : decode cX7_phase 26 = .ok (.getfield 82, 3) := by decide +kernel
theorem dX7_phase_29 : decode cX7_phase 29 = .ok (.iadd, 1) := by decide +kernel
theorem dX7_phase_30 : decode cX7_phase 30 = .ok (.if_icmp .ge 41, 3) := by decide +kernel
theorem dX7_phase_33 : decode cX7_phase 33 = .ok (.aload_n 0, 1) := by decide +kernel
theorem dX7_phase_34 : decode cX7_phase 34 = .ok (.iload_n 3, 1) := by decide +kernel
theorem dX7_phase_35 : decode cX7_phase 35 = .ok (.invokevirtual 110, 3) := by decide +kernel
theorem dX7_phase_38 : decode cX7_phase 38 = .ok (.bipush 65, 2) := by decide +kernel
theorem dX7_phase_40 : decode cX7_phase 40 = .ok (.isub, 1) := by decide +kernel
theorem dX7_phase_41 : decode cX7_phase 41 = .ok (.iload 5, 2) := by decide +kernel
theorem dX7_phase_43 : decode cX7_phase 43 = .ok (.if_icmp .le 28, 3) := by decide +kernel
theorem dX7_phase_46 : decode cX7_phase 46 = .ok (.aload_n 0, 1) := by decide +kernel
theorem dX7_phase_47 : decode cX7_phase 47 = .ok (.iload_n 3, 1) := by decide +kernel
theorem dX7_phase_48 : decode cX7_phase 48 = .ok (.invokevirtual 110, 3) := by decide +kernel
theorem dX7_phase_51 : decode cX7_phase 51 = .ok (.bipush 65, 2) := by decide +kernel
theorem dX7_phase_53 : decode cX7_phase 53 = .ok (.isub, 1) := by decide +kernel
theorem dX7_phase_54 : decode cX7_phase 54 = .ok (.istore 5, 2) := by decide +kernel
theorem dX7_phase_56 : decode cX7_phase 56 = .ok (.iload 4, 2) := by decide +kernel
theorem dX7_phase_58 : decode cX7_phase 58 = .ok (.iconst 1, 1) := by decide +kernel
theorem dX7_phase_59 : decode cX7_phase 59 = .ok (.iload 5, 2) := by decide +kernel
theorem dX7_phase_61 : decode cX7_phase 61 = .ok (.ishl, 1) := by decide +kernel
theorem dX7_phase_62 : decode cX7_phase 62 = .ok (.ior, 1) := by decide +kernel
theorem dX7_phase_63 : decode cX7_phase 63 = .ok (.istore 4, 2) := by decide +kernel
theorem dX7_phase_65 : decode cX7_phase 65 = .ok (.iinc 3 1, 3) := by decide +kernel
theorem dX7_phase_68 : decode cX7_phase 68 = .ok (.goto (-60), 3) := by decide +kernel
theorem dX7_phase_71 : decode cX7_phase 71 = .ok (.aload_n 0, 1) := by decide +kernel
theorem dX7_phase_72 : decode cX7_phase 72 = .ok (.iload_n 3, 1) := by decide +kernel
theorem dX7_phase_73 : decode cX7_phase 73 = .ok (.putfield 117, 3) := by decide +kernel
theorem dX7_phase_76 : decode cX7_phase 76 = .ok (.iload 4, 2) := by decide +kernel
theorem dX7_phase_78 : decode cX7_phase 78 = .ok (.ifCond .ne 5, 3) := by decide +kernel
theorem dX7_phase_81 : decode cX7_phase 81 = .ok (.iconst (-1), 1) := by decide +kernel
theorem dX7_phase_82 : decode cX7_phase 82 = .ok (.ireturn, 1) := by decide +kernel
theorem dX7_phase_83 : decode cX7_phase 83 = .ok (.aload_n 0, 1) := by decide +kernel
theorem dX7_phase_84 : decode cX7_phase 84 = .ok (.iload_n 3, 1) := by decide +kernel
theorem dX7_phase_85 : decode cX7_phase 85 = .ok (.invokevirtual 120, 3) := by decide +kernel
theorem dX7_phase_88 : decode cX7_phase 88 = .ok (.istore 6, 2) := by decide +kernel
theorem dX7_phase_90 : decode cX7_phase 90 = .ok (.iload 6, 2) := by decide +kernel
theorem dX7_phase_92 : decode cX7_phase 92 = .ok (.iconst 1, 1) := by decide +kernel
theorem dX7_phase_93 : decode cX7_phase 93 = .ok (.if_icmp .lt 10, 3) := by decide +kernel
theorem dX7_phase_96 : decode cX7_phase 96 = .ok (.iload 6, 2) := by decide +kernel
theorem dX7_phase_98 : decode cX7_phase 98 = .ok (.bipush 15, 2) := by decide +kernel
theorem dX7_phase_100 : decode cX7_phase 100 = .ok (.if_icmp .le 5, 3) := by decide +kernel
theorem dX7_phase_103 : decode cX7_phase 103 = .ok (.iconst (-1), 1) := by decide +kernel
theorem dX7_phase_104 : decode cX7_phase 104 = .ok (.ireturn, 1) := by decide +kernel
theorem dX7_phase_105 : decode cX7_phase 105 = .ok (.aload_n 0, 1) := by decide +kernel
theorem dX7_phase_106 : decode cX7_phase 106 = .ok (.iload_n 3, 1) := by decide +kernel
theorem dX7_phase_107 : decode cX7_phase 107 = .ok (.invokevirtual 123, 3) := by decide +kernel
theorem dX7_phase_110 : decode cX7_phase 110 = .ok (.istore_n 3, 1) := by decide +kernel
theorem dX7_phase_111 : decode cX7_phase 111 = .ok (.aload_n 0, 1) := by decide +kernel
theorem dX7_phase_112 : decode cX7_phase 112 = .ok (.iload_n 3, 1) := by decide +kernel
theorem dX7_phase_113 : decode cX7_phase 113 = .ok (.putfield 117, 3) := by decide +kernel
theorem dX7_phase_116 : decode cX7_phase 116 = .ok (.aload_n 0, 1) := by decide +kernel
theorem dX7_phase_117 : decode cX7_phase 117 = .ok (.iload_n 3, 1) := by decide +kernel
theorem dX7_phase_118 : decode cX7_phase 118 = .ok (.invokevirtual 110, 3) := by decide +kernel
theorem dX7_phase_121 : decode cX7_phase 121 = .ok (.bipush 45, 2) := by decide +kernel
theorem dX7_phase_123 : decode cX7_phase 123 = .ok (.if_icmp .eq 5, 3) := by decide +kernel
theorem dX7_phase_126 : decode cX7_phase 126 = .ok (.iconst (-1), 1) := by decide +kernel
theorem dX7_phase_127 : decode cX7_phase 127 = .ok (.ireturn, 1) := by decide +kernel
theorem dX7_phase_128 : decode cX7_phase 128 = .ok (.iinc 3 1, 3) := by decide +kernel
theorem dX7_phase_131 : decode cX7_phase 131 = .ok (.aload_n 0, 1) := by decide +kernel
theorem dX7_phase_132 : decode cX7_phase 132 = .ok (.iload_n 3, 1) := by decide +kernel
theorem dX7_phase_133 : decode cX7_phase 133 = .ok (.putfield 117, 3) := by decide +kernel
theorem dX7_phase_136 : decode cX7_phase 136 = .ok (.aload_n 0, 1) := by decide +kernel
theorem dX7_phase_137 : decode cX7_phase 137 = .ok (.iload_n 3, 1) := by decide +kernel
theorem dX7_phase_138 : decode cX7_phase 138 = .ok (.invokevirtual 120, 3) := by decide +kernel
theorem dX7_phase_141 : decode cX7_phase 141 = .ok (.istore 7, 2) := by decide +kernel
theorem dX7_phase_143 : decode cX7_phase 143 = .ok (.iload 7, 2) := by decide +kernel
theorem dX7_phase_145 : decode cX7_phase 145 = .ok (.iload 6, 2) := by decide +kernel
theorem dX7_phase_147 : decode cX7_phase 147 = .ok (.if_icmp .lt 10, 3) := by decide +kernel
theorem dX7_phase_150 : decode cX7_phase 150 = .ok (.iload 7, 2) := by decide +kernel
theorem dX7_phase_152 : decode cX7_phase 152 = .ok (.bipush 31, 2) := by decide +kernel
theorem dX7_phase_154 : decode cX7_phase 154 = .ok (.if_icmp .le 5, 3) := by decide +kernel
theorem dX7_phase_157 : decode cX7_phase 157 = .ok (.iconst (-1), 1) := by decide +kernel
theorem dX7_phase_158 : decode cX7_phase 158 = .ok (.ireturn, 1) := by decide +kernel
theorem dX7_phase_159 : decode cX7_phase 159 = .ok (.aload_n 0, 1) := by decide +kernel
theorem dX7_phase_160 : decode cX7_phase 160 = .ok (.getfield 26, 3) := by decide +kernel
theorem dX7_phase_163 : decode cX7_phase 163 = .ok (.iload_n 2, 1) := by decide +kernel
theorem dX7_phase_164 : decode cX7_phase 164 = .ok (.iload 4, 2) := by decide +kernel
theorem dX7_phase_166 : decode cX7_phase 166 = .ok (.iastore, 1) := by decide +kernel
theorem dX7_phase_167 : decode cX7_phase 167 = .ok (.aload_n 0, 1) := by decide +kernel
theorem dX7_phase_168 : decode cX7_phase 168 = .ok (.getfield 29, 3) := by decide +kernel
theorem dX7_phase_171 : decode cX7_phase 171 = .ok (.iload_n 2, 1) := by decide +kernel
theorem dX7_phase_172 : decode cX7_phase 172 = .ok (.iload 6, 2) := by decide +kernel
theorem dX7_phase_174 : decode cX7_phase 174 = .ok (.iastore, 1) := by decide +kernel
theorem dX7_phase_175 : decode cX7_phase 175 = .ok (.aload_n 0, 1) := by decide +kernel
theorem dX7_phase_176 : decode cX7_phase 176 = .ok (.getfield 32, 3) := by decide +kernel
theorem dX7_phase_179 : decode cX7_phase 179 = .ok (.iload_n 2, 1) := by decide +kernel
theorem dX7_phase_180 : decode cX7_phase 180 = .ok (.iload 7, 2) := by decide +kernel
theorem dX7_phase_182 : decode cX7_phase 182 = .ok (.iastore, 1) := by decide +kernel
theorem dX7_phase_183 : decode cX7_phase 183 = .ok (.aload_n 0, 1) := by decide +kernel
theorem dX7_phase_184 : decode cX7_phase 184 = .ok (.iload_n 3, 1) := by decide +kernel
theorem dX7_phase_185 : decode cX7_phase 185 = .ok (.invokevirtual 123, 3) := by decide +kernel
theorem dX7_phase_188 : decode cX7_phase 188 = .ok (.ireturn, 1) := by decide +kernel
theorem dX7_read_0 : decode cX7_read 0 = .ok (.aload_n 0, 1) := by decide +kernel
theorem dX7_read_1 : decode cX7_read 1 = .ok (.iconst 0, 1) := by decide +kernel
theorem dX7_read_2 : decode cX7_read 2 = .ok (.putfield 79, 3) := by decide +kernel
theorem dX7_read_5 : decode cX7_read 5 = .ok (.aload_n 0, 1) := by decide +kernel
theorem dX7_read_6 : decode cX7_read 6 = .ok (.getfield 88, 3) := by decide +kernel
theorem dX7_read_9 : decode cX7_read 9 = .ok (.istore_n 1, 1) := by decide +kernel
theorem dX7_read_10 : decode cX7_read 10 = .ok (.iload_n 1, 1) := by decide +kernel
theorem dX7_read_11 : decode cX7_read 11 = .ok (.istore_n 2, 1) := by decide +kernel
theorem dX7_read_12 : decode cX7_read 12 = .ok (.iconst 0, 1) := by decide +kernel
theorem dX7_read_13 : decode cX7_read 13 = .ok (.istore_n 3, 1) := by decide +kernel
theorem dX7_read_14 : decode cX7_read 14 = .ok (.iconst 0, 1) := by decide +kernel
theorem dX7_read_15 : decode cX7_read 15 = .ok (.istore 4, 2) := by decide +kernel
theorem dX7_read_17 : decode cX7_read 17 = .ok (.iconst 1, 1) := by decide +kernel
theorem dX7_read_18 : decode cX7_read 18 = .ok (.istore 5, 2) := by decide +kernel
theorem dX7_read_20 : decode cX7_read 20 = .ok (.iconst 0, 1) := by decide +kernel
theorem dX7_read_21 : decode cX7_read 21 = .ok (.istore 6, 2) := by decide +kernel
theorem dX7_read_23 : decode cX7_read 23 = .ok (.iload 5, 2) := by decide +kernel
theorem dX7_read_25 : decode cX7_read 25 = .ok (.ifCond .eq 170, 3) := by decide +kernel
theorem dX7_read_28 : decode cX7_read 28 = .ok (.iconst 0, 1) := by decide +kernel
theorem dX7_read_29 : decode cX7_read 29 = .ok (.istore 5, 2) := by decide +kernel
theorem dX7_read_31 : decode cX7_read 31 = .ok (.aload_n 0, 1) := by decide +kernel
theorem dX7_read_32 : decode cX7_read 32 = .ok (.getfield 85, 3) := by decide +kernel
theorem dX7_read_35 : decode cX7_read 35 = .ok (.iconst 3, 1) := by decide +kernel
theorem dX7_read_36 : decode cX7_read 36 = .ok (.if_icmp .ge 14, 3) := by decide +kernel
theorem dX7_read_39 : decode cX7_read 39 = .ok (.iconst 5, 1) := by decide +kernel
theorem dX7_read_40 : decode cX7_read 40 = .ok (.aload_n 0, 1) := by decide +kernel
theorem dX7_read_41 : decode cX7_read 41 = .ok (.getfield 85, 3) := by decide +kernel
theorem dX7_read_44 : decode cX7_read 44 = .ok (.imul, 1) := by decide +kernel
theorem dX7_read_45 : decode cX7_read 45 = .ok (.iload_n 3, 1) := by decide +kernel
theorem dX7_read_46 : decode cX7_read 46 = .ok (.iadd, 1) := by decide +kernel
theorem dX7_read_47 : decode cX7_read 47 = .ok (.goto 5, 3) := by decide +kernel
theorem dX7_read_50 : decode cX7_read 50 = .ok (.bipush 14, 2) := by decide +kernel
theorem dX7_read_52 : decode cX7_read 52 = .ok (.istore 7, 2) := by decide +kernel
theorem dX7_read_54 : decode cX7_read 54 = .ok (.aload_n 0, 1) := by decide +kernel
theorem dX7_read_55 : decode cX7_read 55 = .ok (.getfield 26, 3) := by decide +kernel
theorem dX7_read_58 : decode cX7_read 58 = .ok (.iload 7, 2) := by decide +kernel
theorem dX7_read_60 : decode cX7_read 60 = .ok (.iaload, 1) := by decide +kernel
theorem dX7_read_61 : decode cX7_read 61 = .ok (.istore 8, 2) := by decide +kernel
theorem dX7_read_63 : decode cX7_read 63 = .ok (.aload_n 0, 1) := by decide +kernel
theorem dX7_read_64 : decode cX7_read 64 = .ok (.getfield 29, 3) := by decide +kernel
theorem dX7_read_67 : decode cX7_read 67 = .ok (.iload 7, 2) := by decide +kernel
theorem dX7_read_69 : decode cX7_read 69 = .ok (.iaload, 1) := by decide +kernel
theorem dX7_read_70 : decode cX7_read 70 = .ok (.istore 9, 2) := by decide +kernel
theorem dX7_read_72 : decode cX7_read 72 = .ok (.aload_n 0, 1) := by decide +kernel
theorem dX7_read_73 : decode cX7_read 73 = .ok (.getfield 32, 3) := by decide +kernel
theorem dX7_read_76 : decode cX7_read 76 = .ok (.iload 7, 2) := by decide +kernel
theorem dX7_read_78 : decode cX7_read 78 = .ok (.iaload, 1) := by decide +kernel
theorem dX7_read_79 : decode cX7_read 79 = .ok (.istore 10, 2) := by decide +kernel
theorem dX7_read_81 : decode cX7_read 81 = .ok (.aload_n 0, 1) := by decide +kernel
theorem dX7_read_82 : decode cX7_read 82 = .ok (.iload 4, 2) := by decide +kernel
theorem dX7_read_84 : decode cX7_read 84 = .ok (.iload 7, 2) := by decide +kernel
theorem dX7_read_86 : decode cX7_read 86 = .ok (.invokevirtual 126, 3) := by decide +kernel
theorem dX7_read_89 : decode cX7_read 89 = .ok (.istore 11, 2) := by decide +kernel
theorem dX7_read_91 : decode cX7_read 91 = .ok (.aload_n 0, 1) := by decide +kernel
theorem dX7_read_92 : decode cX7_read 92 = .ok (.getfield 85, 3) := by decide +kernel
theorem dX7_read_95 : decode cX7_read 95 = .ok (.iconst 3, 1) := by decide +kernel
theorem dX7_read_96 : decode cX7_read 96 = .ok (.if_icmp .ne 30, 3) := by decide +kernel
theorem dX7_read_99 : decode cX7_read 99 = .ok (.aload_n 0, 1) := by decide +kernel
theorem dX7_read_100 : decode cX7_read 100 = .ok (.getfield 26, 3) := by decide +kernel
theorem dX7_read_103 : decode cX7_read 103 = .ok (.iload 7, 2) := by decide +kernel
theorem dX7_read_105 : decode cX7_read 105 = .ok (.iload 8, 2) := by decide +kernel
theorem dX7_read_107 : decode cX7_read 107 = .ok (.iastore, 1) := by decide +kernel
theorem dX7_read_108 : decode cX7_read 108 = .ok (.aload_n 0, 1) := by decide +kernel
theorem dX7_read_109 : decode cX7_read 109 = .ok (.getfield 29, 3) := by decide +kernel
theorem dX7_read_112 : decode cX7_read 112 = .ok (.iload 7, 2) := by decide +kernel
theorem dX7_read_114 : decode cX7_read 114 = .ok (.iload 9, 2) := by decide +kernel
theorem dX7_read_116 : decode cX7_read 116 = .ok (.iastore, 1) := by decide +kernel
theorem dX7_read_117 : decode cX7_read 117 = .ok (.aload_n 0, 1) := by decide +kernel
theorem dX7_read_118 : decode cX7_read 118 = .ok (.getfield 32, 3) := by decide +kernel
theorem dX7_read_121 : decode cX7_read 121 = .ok (.iload 7, 2) := by decide +kernel
theorem dX7_read_123 : decode cX7_read 123 = .ok (.iload 10, 2) := by decide +kernel
theorem dX7_read_125 : decode cX7_read 125 = .ok (.iastore, 1) := by decide +kernel
theorem dX7_read_126 : decode cX7_read 126 = .ok (.iload 11, 2) := by decide +kernel
theorem dX7_read_128 : decode cX7_read 128 = .ok (.ifCond .ge 11, 3) := by decide +kernel
theorem dX7_read_131 : decode cX7_read 131 = .ok (.aload_n 0, 1) := by decide +kernel
theorem dX7_read_132 : decode cX7_read 132 = .ok (.getfield 117, 3) := by decide +kernel
theorem dX7_read_135 : decode cX7_read 135 = .ok (.istore_n 2, 1) := by decide +kernel
theorem dX7_read_136 : decode cX7_read 136 = .ok (.goto 56, 3) := by decide +kernel
theorem dX7_read_139 : decode cX7_read 139 = .ok (.iinc 3 1, 3) := by decide +kernel
theorem dX7_read_142 : decode cX7_read 142 = .ok (.iload 11, 2) := by decide +kernel
theorem dX7_read_144 : decode cX7_read 144 = .ok (.istore_n 2, 1) := by decide +kernel
theorem dX7_read_145 : decode cX7_read 145 = .ok (.iload 11, 2) := by decide +kernel
theorem dX7_read_147 : decode cX7_read 147 = .ok (.iload_n 1, 1) := by decide +kernel
theorem dX7_read_148 : decode cX7_read 148 = .ok (.if_icmp .ne 7, 3) := by decide +kernel
theorem dX7_read_151 : decode cX7_read 151 = .ok (.iconst 1, 1) := by decide +kernel
theorem dX7_read_152 : decode cX7_read 152 = .ok (.goto 4, 3) := by decide +kernel
theorem dX7_read_155 : decode cX7_read 155 = .ok (.iconst 0, 1) := by decide +kernel
theorem dX7_read_156 : decode cX7_read 156 = .ok (.istore 6, 2) := by decide +kernel
theorem dX7_read_158 : decode cX7_read 158 = .ok (.iload 6, 2) := by decide +kernel
theorem dX7_read_160 : decode cX7_read 160 = .ok (.ifCond .ne 23, 3) := by decide +kernel
theorem dX7_read_163 : decode cX7_read 163 = .ok (.aload_n 0, 1) := by decide +kernel
theorem dX7_read_164 : decode cX7_read 164 = .ok (.iload 11, 2) := by decide +kernel
theorem dX7_read_166 : decode cX7_read 166 = .ok (.invokevirtual 110, 3) := by decide +kernel
theorem dX7_read_169 : decode cX7_read 169 = .ok (.bipush 59, 2) := by decide +kernel
theorem dX7_read_171 : decode cX7_read 171 = .ok (.if_icmp .ne 12, 3) := by decide +kernel
theorem dX7_read_174 : decode cX7_read 174 = .ok (.iload_n 3, 1) := by decide +kernel
theorem dX7_read_175 : decode cX7_read 175 = .ok (.iconst 5, 1) := by decide +kernel
theorem dX7_read_176 : decode cX7_read 176 = .ok (.if_icmp .ge 7, 3) := by decide +kernel
theorem dX7_read_179 : decode cX7_read 179 = .ok (.iconst 1, 1) := by decide +kernel
theorem dX7_read_180 : decode cX7_read 180 = .ok (.goto 4, 3) := by decide +kernel
theorem dX7_read_183 : decode cX7_read 183 = .ok (.iconst 0, 1) := by decide +kernel
theorem dX7_read_184 : decode cX7_read 184 = .ok (.istore 5, 2) := by decide +kernel
theorem dX7_read_186 : decode cX7_read 186 = .ok (.iload 11, 2) := by decide +kernel
theorem dX7_read_188 : decode cX7_read 188 = .ok (.iconst 1, 1) := by decide +kernel
theorem dX7_read_189 : decode cX7_read 189 = .ok (.iadd, 1) := by decide +kernel
theorem dX7_read_190 : decode cX7_read 190 = .ok (.istore 4, 2) := by decide +kernel
theorem dX7_read_192 : decode cX7_read 192 = .ok (.goto (-169), 3) := by decide +kernel
theorem dX7_read_195 : decode cX7_read 195 = .ok (.aload_n 0, 1) := by decide +kernel
theorem dX7_read_196 : decode cX7_read 196 = .ok (.iconst 0, 1) := by decide +kernel
theorem dX7_read_197 : decode cX7_read 197 = .ok (.putfield 88, 3) := by decide +kernel
theorem dX7_read_200 : decode cX7_read 200 = .ok (.iload 6, 2) := by decide +kernel
theorem dX7_read_202 : decode cX7_read 202 = .ok (.ifCond .eq 11, 3) := by decide +kernel
theorem dX7_read_205 : decode cX7_read 205 = .ok (.aload_n 0, 1) := by decide +kernel
theorem dX7_read_206 : decode cX7_read 206 = .ok (.getfield 85, 3) := by decide +kernel
theorem dX7_read_209 : decode cX7_read 209 = .ok (.iconst 3, 1) := by decide +kernel
theorem dX7_read_210 : decode cX7_read 210 = .ok (.if_icmp .ne 16, 3) := by decide +kernel
theorem dX7_read_213 : decode cX7_read 213 = .ok (.iconst (-1), 1) := by decide +kernel
theorem dX7_read_214 : decode cX7_read 214 = .ok (.iload 6, 2) := by decide +kernel
theorem dX7_read_216 : decode cX7_read 216 = .ok (.ifCond .eq 7, 3) := by decide +kernel
theorem dX7_read_219 : decode cX7_read 219 = .ok (.iload_n 1, 1) := by decide +kernel
theorem dX7_read_220 : decode cX7_read 220 = .ok (.goto 4, 3) := by decide +kernel
theorem dX7_read_223 : decode cX7_read 223 = .ok (.iload_n 2, 1) := by decide +kernel
theorem dX7_read_224 : decode cX7_read 224 = .ok (.isub, 1) := by decide +kernel
theorem dX7_read_225 : decode cX7_read 225 = .ok (.ireturn, 1) := by decide +kernel
theorem dX7_read_226 : decode cX7_read 226 = .ok (.aload_n 0, 1) := by decide +kernel
theorem dX7_read_227 : decode cX7_read 227 = .ok (.getfield 23, 3) := by decide +kernel
theorem dX7_read_230 : decode cX7_read 230 = .ok (.aload_n 0, 1) := by decide +kernel
theorem dX7_read_231 : decode cX7_read 231 = .ok (.getfield 85, 3) := by decide +kernel
theorem dX7_read_234 : decode cX7_read 234 = .ok (.iload_n 3, 1) := by decide +kernel
theorem dX7_read_235 : decode cX7_read 235 = .ok (.iastore, 1) := by decide +kernel
theorem dX7_read_236 : decode cX7_read 236 = .ok (.aload_n 0, 1) := by decide +kernel
theorem dX7_read_237 : decode cX7_read 237 = .ok (.dup, 1) := by decide +kernel
theorem dX7_read_238 : decode cX7_read 238 = .ok (.getfield 85, 3) := by decide +kernel
theorem dX7_read_241 : decode cX7_read 241 = .ok (.iconst 1, 1) := by decide +kernel
theorem dX7_read_242 : decode cX7_read 242 = .ok (.iadd, 1) := by decide +kernel
theorem dX7_read_243 : decode cX7_read 243 = .ok (.putfield 85, 3) := by decide +kernel
theorem dX7_read_246 : decode cX7_read 246 = .ok (.aload_n 0, 1) := by decide +kernel
theorem dX7_read_247 : decode cX7_read 247 = .ok (.invokevirtual 91, 3) := by decide +kernel
theorem dX7_read_250 : decode cX7_read 250 = .ok (.iload_n 3, 1) := by decide +kernel
theorem dX7_read_251 : decode cX7_read 251 = .ok (.ireturn, 1) := by decide +kernel
theorem dX7_program_0 : decode cX7_program 0 = .ok (.aload_n 0, 1) := by decide +kernel
theorem dX7_program_1 : decode cX7_program 1 = .ok (.iconst 0, 1) := by decide +kernel
theorem dX7_program_2 : decode cX7_program 2 = .ok (.putfield 79, 3) := by decide +kernel
theorem dX7_program_5 : decode cX7_program 5 = .ok (.aload_n 0, 1) := by decide +kernel
theorem dX7_program_6 : decode cX7_program 6 = .ok (.getfield 85, 3) := by decide +kernel
theorem dX7_program_9 : decode cX7_program 9 = .ok (.ireturn, 1) := by decide +kernel
theorem dX7_groupsOf_0 : decode cX7_groupsOf 0 = .ok (.aload_n 0, 1) := by decide +kernel
theorem dX7_groupsOf_1 : decode cX7_groupsOf 1 = .ok (.getfield 26, 3) := by decide +kernel
theorem dX7_groupsOf_4 : decode cX7_groupsOf 4 = .ok (.iconst 5, 1) := by decide +kernel
theorem dX7_groupsOf_5 : decode cX7_groupsOf 5 = .ok (.iload_n 1, 1) := by decide +kernel
theorem dX7_groupsOf_6 : decode cX7_groupsOf 6 = .ok (.imul, 1) := by decide +kernel
theorem dX7_groupsOf_7 : decode cX7_groupsOf 7 = .ok (.iload_n 2, 1) := by decide +kernel
theorem dX7_groupsOf_8 : decode cX7_groupsOf 8 = .ok (.iadd, 1) := by decide +kernel
theorem dX7_groupsOf_9 : decode cX7_groupsOf 9 = .ok (.iaload, 1) := by decide +kernel
theorem dX7_groupsOf_10 : decode cX7_groupsOf 10 = .ok (.ireturn, 1) := by decide +kernel
theorem dX7_shownNow_0 : decode cX7_shownNow 0 = .ok (.aload_n 0, 1) := by decide +kernel
theorem dX7_shownNow_1 : decode cX7_shownNow 1 = .ok (.aload_n 0, 1) := by decide +kernel
theorem dX7_shownNow_2 : decode cX7_shownNow 2 = .ok (.getfield 47, 3) := by decide +kernel
theorem dX7_shownNow_5 : decode cX7_shownNow 5 = .ok (.iconst 0, 1) := by decide +kernel
theorem dX7_shownNow_6 : decode cX7_shownNow 6 = .ok (.iaload, 1) := by decide +kernel
theorem dX7_shownNow_7 : decode cX7_shownNow 7 = .ok (.aload_n 0, 1) := by decide +kernel
theorem dX7_shownNow_8 : decode cX7_shownNow 8 = .ok (.getfield 47, 3) := by decide +kernel
theorem dX7_shownNow_11 : decode cX7_shownNow 11 = .ok (.iconst 1, 1) := by decide +kernel
theorem dX7_shownNow_12 : decode cX7_shownNow 12 = .ok (.iaload, 1) := by decide +kernel
theorem dX7_shownNow_13 : decode cX7_shownNow 13 = .ok (.invokevirtual 130, 3) := by decide +kernel
theorem dX7_shownNow_16 : decode cX7_shownNow 16 = .ok (.istore_n 1, 1) := by decide +kernel
theorem dX7_shownNow_17 : decode cX7_shownNow 17 = .ok (.aload_n 0, 1) := by decide +kernel
theorem dX7_shownNow_18 : decode cX7_shownNow 18 = .ok (.getfield 47, 3) := by decide +kernel
theorem dX7_shownNow_21 : decode cX7_shownNow 21 = .ok (.iconst 3, 1) := by decide +kernel
theorem dX7_shownNow_22 : decode cX7_shownNow 22 = .ok (.iaload, 1) := by decide +kernel
theorem dX7_shownNow_23 : decode cX7_shownNow 23 = .ok (.ifCond .le 24, 3) := by decide +kernel
theorem dX7_shownNow_26 : decode cX7_shownNow 26 = .ok (.iload_n 1, 1) := by decide +kernel
theorem dX7_shownNow_27 : decode cX7_shownNow 27 = .ok (.aload_n 0, 1) := by decide +kernel
theorem dX7_shownNow_28 : decode cX7_shownNow 28 = .ok (.aload_n 0, 1) := by decide +kernel
theorem dX7_shownNow_29 : decode cX7_shownNow 29 = .ok (.getfield 47, 3) := by decide +kernel
theorem dX7_shownNow_32 : decode cX7_shownNow 32 = .ok (.iconst 4, 1) := by decide +kernel
theorem dX7_shownNow_33 : decode cX7_shownNow 33 = .ok (.iaload, 1) := by decide +kernel
theorem dX7_shownNow_34 : decode cX7_shownNow 34 = .ok (.aload_n 0, 1) := by decide +kernel
theorem dX7_shownNow_35 : decode cX7_shownNow 35 = .ok (.getfield 47, 3) := by decide +kernel
theorem dX7_shownNow_38 : decode cX7_shownNow 38 = .ok (.iconst 5, 1) := by decide +kernel
theorem dX7_shownNow_39 : decode cX7_shownNow 39 = .ok (.iaload, 1) := by decide +kernel
theorem dX7_shownNow_40 : decode cX7_shownNow 40 = .ok (.invokevirtual 130, 3) := by decide +kernel
theorem dX7_shownNow_43 : decode cX7_shownNow 43 = .ok (.iand, 1) := by decide +kernel
theorem dX7_shownNow_44 : decode cX7_shownNow 44 = .ok (.goto 4, 3) := by decide +kernel
theorem dX7_shownNow_47 : decode cX7_shownNow 47 = .ok (.iload_n 1, 1) := by decide +kernel
theorem dX7_shownNow_48 : decode cX7_shownNow 48 = .ok (.ireturn, 1) := by decide +kernel
theorem dX7_comes_0 : decode cX7_comes 0 = .ok (.aload_n 0, 1) := by decide +kernel
theorem dX7_comes_1 : decode cX7_comes 1 = .ok (.getfield 47, 3) := by decide +kernel
theorem dX7_comes_4 : decode cX7_comes 4 = .ok (.iconst 4, 1) := by decide +kernel
theorem dX7_comes_5 : decode cX7_comes 5 = .ok (.iaload, 1) := by decide +kernel
theorem dX7_comes_6 : decode cX7_comes 6 = .ok (.istore_n 1, 1) := by decide +kernel
theorem dX7_comes_7 : decode cX7_comes 7 = .ok (.aload_n 0, 1) := by decide +kernel
theorem dX7_comes_8 : decode cX7_comes 8 = .ok (.getfield 47, 3) := by decide +kernel
theorem dX7_comes_11 : decode cX7_comes 11 = .ok (.iconst 5, 1) := by decide +kernel
theorem dX7_comes_12 : decode cX7_comes 12 = .ok (.iaload, 1) := by decide +kernel
theorem dX7_comes_13 : decode cX7_comes 13 = .ok (.istore_n 2, 1) := by decide +kernel
theorem dX7_comes_14 : decode cX7_comes 14 = .ok (.aload_n 0, 1) := by decide +kernel
theorem dX7_comes_15 : decode cX7_comes 15 = .ok (.aload_n 0, 1) := by decide +kernel
theorem dX7_comes_16 : decode cX7_comes 16 = .ok (.getfield 47, 3) := by decide +kernel
theorem dX7_comes_19 : decode cX7_comes 19 = .ok (.iconst 0, 1) := by decide +kernel
theorem dX7_comes_20 : decode cX7_comes 20 = .ok (.iaload, 1) := by decide +kernel
theorem dX7_comes_21 : decode cX7_comes 21 = .ok (.aload_n 0, 1) := by decide +kernel
theorem dX7_comes_22 : decode cX7_comes 22 = .ok (.getfield 47, 3) := by decide +kernel
theorem dX7_comes_25 : decode cX7_comes 25 = .ok (.iconst 1, 1) := by decide +kernel
theorem dX7_comes_26 : decode cX7_comes 26 = .ok (.iaload, 1) := by decide +kernel
theorem dX7_comes_27 : decode cX7_comes 27 = .ok (.invokevirtual 130, 3) := by decide +kernel
theorem dX7_comes_30 : decode cX7_comes 30 = .ok (.istore_n 3, 1) := by decide +kernel
theorem dX7_comes_31 : decode cX7_comes 31 = .ok (.aload_n 0, 1) := by decide +kernel
theorem dX7_comes_32 : decode cX7_comes 32 = .ok (.iload_n 1, 1) := by decide +kernel
theorem dX7_comes_33 : decode cX7_comes 33 = .ok (.iload_n 2, 1) := by decide +kernel
theorem dX7_comes_34 : decode cX7_comes 34 = .ok (.invokevirtual 130, 3) := by decide +kernel
theorem dX7_comes_37 : decode cX7_comes 37 = .ok (.istore 4, 2) := by decide +kernel
theorem dX7_comes_39 : decode cX7_comes 39 = .ok (.iconst 0, 1) := by decide +kernel
theorem dX7_comes_40 : decode cX7_comes 40 = .ok (.istore 5, 2) := by decide +kernel
theorem dX7_comes_42 : decode cX7_comes 42 = .ok (.iload 5, 2) := by decide +kernel
theorem dX7_comes_44 : decode cX7_comes 44 = .ok (.aload_n 0, 1) := by decide +kernel
theorem dX7_comes_45 : decode cX7_comes 45 = .ok (.getfield 82, 3) := by decide +kernel
theorem dX7_comes_48 : decode cX7_comes 48 = .ok (.if_icmp .ge 40, 3) := by decide +kernel
theorem dX7_comes_51 : decode cX7_comes 51 = .ok (.iload 4, 2) := by decide +kernel
theorem dX7_comes_53 : decode cX7_comes 53 = .ok (.iload 5, 2) := by decide +kernel
theorem dX7_comes_55 : decode cX7_comes 55 = .ok (.ishr, 1) := by decide +kernel
theorem dX7_comes_56 : decode cX7_comes 56 = .ok (.iconst 1, 1) := by decide +kernel
theorem dX7_comes_57 : decode cX7_comes 57 = .ok (.iand, 1) := by decide +kernel
theorem dX7_comes_58 : decode cX7_comes 58 = .ok (.iconst 1, 1) := by decide +kernel
theorem dX7_comes_59 : decode cX7_comes 59 = .ok (.if_icmp .ne 23, 3) := by decide +kernel
theorem dX7_comes_62 : decode cX7_comes 62 = .ok (.iload_n 3, 1) := by decide +kernel
theorem dX7_comes_63 : decode cX7_comes 63 = .ok (.iload 5, 2) := by decide +kernel
theorem dX7_comes_65 : decode cX7_comes 65 = .ok (.ishr, 1) := by decide +kernel
theorem dX7_comes_66 : decode cX7_comes 66 = .ok (.iconst 1, 1) := by decide +kernel
theorem dX7_comes_67 : decode cX7_comes 67 = .ok (.iand, 1) := by decide +kernel
theorem dX7_comes_68 : decode cX7_comes 68 = .ok (.ifCond .ne 14, 3) := by decide +kernel
theorem dX7_comes_71 : decode cX7_comes 71 = .ok (.aload_n 0, 1) := by decide +kernel
theorem dX7_comes_72 : decode cX7_comes 72 = .ok (.getfield 47, 3) := by decide +kernel
theorem dX7_comes_75 : decode cX7_comes 75 = .ok (.bipush 8, 2) := by decide +kernel
theorem dX7_comes_77 : decode cX7_comes 77 = .ok (.iload 5, 2) := by decide +kernel
theorem dX7_comes_79 : decode cX7_comes 79 = .ok (.iadd, 1) := by decide +kernel
theorem dX7_comes_80 : decode cX7_comes 80 = .ok (.iconst 0, 1) := by decide +kernel
theorem dX7_comes_81 : decode cX7_comes 81 = .ok (.iastore, 1) := by decide +kernel
theorem dX7_comes_82 : decode cX7_comes 82 = .ok (.iinc 5 1, 3) := by decide +kernel
theorem dX7_comes_85 : decode cX7_comes 85 = .ok (.goto (-43), 3) := by decide +kernel
theorem dX7_comes_88 : decode cX7_comes 88 = .ok (.aload_n 0, 1) := by decide +kernel
theorem dX7_comes_89 : decode cX7_comes 89 = .ok (.getfield 47, 3) := by decide +kernel
theorem dX7_comes_92 : decode cX7_comes 92 = .ok (.bipush 7, 2) := by decide +kernel
theorem dX7_comes_94 : decode cX7_comes 94 = .ok (.aload_n 0, 1) := by decide +kernel
theorem dX7_comes_95 : decode cX7_comes 95 = .ok (.getfield 47, 3) := by decide +kernel
theorem dX7_comes_98 : decode cX7_comes 98 = .ok (.bipush 7, 2) := by decide +kernel
theorem dX7_comes_100 : decode cX7_comes 100 = .ok (.iaload, 1) := by decide +kernel
theorem dX7_comes_101 : decode cX7_comes 101 = .ok (.iload 4, 2) := by decide +kernel
theorem dX7_comes_103 : decode cX7_comes 103 = .ok (.iconst (-1), 1) := by decide +kernel
theorem dX7_comes_104 : decode cX7_comes 104 = .ok (.ixor, 1) := by decide +kernel
theorem dX7_comes_105 : decode cX7_comes 105 = .ok (.iand, 1) := by decide +kernel
theorem dX7_comes_106 : decode cX7_comes 106 = .ok (.iastore, 1) := by decide +kernel
theorem dX7_comes_107 : decode cX7_comes 107 = .ok (.aload_n 0, 1) := by decide +kernel
theorem dX7_comes_108 : decode cX7_comes 108 = .ok (.getfield 47, 3) := by decide +kernel
theorem dX7_comes_111 : decode cX7_comes 111 = .ok (.iconst 0, 1) := by decide +kernel
theorem dX7_comes_112 : decode cX7_comes 112 = .ok (.iload_n 1, 1) := by decide +kernel
theorem dX7_comes_113 : decode cX7_comes 113 = .ok (.iastore, 1) := by decide +kernel
theorem dX7_comes_114 : decode cX7_comes 114 = .ok (.aload_n 0, 1) := by decide +kernel
theorem dX7_comes_115 : decode cX7_comes 115 = .ok (.getfield 47, 3) := by decide +kernel
theorem dX7_comes_118 : decode cX7_comes 118 = .ok (.iconst 1, 1) := by decide +kernel
theorem dX7_comes_119 : decode cX7_comes 119 = .ok (.iload_n 2, 1) := by decide +kernel
theorem dX7_comes_120 : decode cX7_comes 120 = .ok (.iastore, 1) := by decide +kernel
theorem dX7_comes_121 : decode cX7_comes 121 = .ok (.aload_n 0, 1) := by decide +kernel
theorem dX7_comes_122 : decode cX7_comes 122 = .ok (.getfield 47, 3) := by decide +kernel
theorem dX7_comes_125 : decode cX7_comes 125 = .ok (.iconst 2, 1) := by decide +kernel
theorem dX7_comes_126 : decode cX7_comes 126 = .ok (.iconst 0, 1) := by decide +kernel
theorem dX7_comes_127 : decode cX7_comes 127 = .ok (.iastore, 1) := by decide +kernel
theorem dX7_comes_128 : decode cX7_comes 128 = .ok (.aload_n 0, 1) := by decide +kernel
theorem dX7_comes_129 : decode cX7_comes 129 = .ok (.getfield 47, 3) := by decide +kernel
theorem dX7_comes_132 : decode cX7_comes 132 = .ok (.iconst 3, 1) := by decide +kernel
theorem dX7_comes_133 : decode cX7_comes 133 = .ok (.iconst 0, 1) := by decide +kernel
theorem dX7_comes_134 : decode cX7_comes 134 = .ok (.iastore, 1) := by decide +kernel
theorem dX7_comes_135 : decode cX7_comes 135 = .ok (.aload_n 0, 1) := by decide +kernel
theorem dX7_comes_136 : decode cX7_comes 136 = .ok (.getfield 47, 3) := by decide +kernel
theorem dX7_comes_139 : decode cX7_comes 139 = .ok (.iconst 4, 1) := by decide +kernel
theorem dX7_comes_140 : decode cX7_comes 140 = .ok (.iconst 0, 1) := by decide +kernel
theorem dX7_comes_141 : decode cX7_comes 141 = .ok (.iastore, 1) := by decide +kernel
theorem dX7_comes_142 : decode cX7_comes 142 = .ok (.aload_n 0, 1) := by decide +kernel
theorem dX7_comes_143 : decode cX7_comes 143 = .ok (.getfield 47, 3) := by decide +kernel
theorem dX7_comes_146 : decode cX7_comes 146 = .ok (.iconst 5, 1) := by decide +kernel
theorem dX7_comes_147 : decode cX7_comes 147 = .ok (.iconst 0, 1) := by decide +kernel
theorem dX7_comes_148 : decode cX7_comes 148 = .ok (.iastore, 1) := by decide +kernel
theorem dX7_comes_149 : decode cX7_comes 149 = .ok (.return_, 1) := by decide +kernel
theorem dX7_end_0 : decode cX7_end 0 = .ok (.aload_n 0, 1) := by decide +kernel
theorem dX7_end_1 : decode cX7_end 1 = .ok (.getfield 47, 3) := by decide +kernel
theorem dX7_end_4 : decode cX7_end 4 = .ok (.iconst 0, 1) := by decide +kernel
theorem dX7_end_5 : decode cX7_end 5 = .ok (.iaload, 1) := by decide +kernel
theorem dX7_end_6 : decode cX7_end 6 = .ok (.istore_n 1, 1) := by decide +kernel
theorem dX7_end_7 : decode cX7_end 7 = .ok (.aload_n 0, 1) := by decide +kernel
theorem dX7_end_8 : decode cX7_end 8 = .ok (.getfield 47, 3) := by decide +kernel
theorem dX7_end_11 : decode cX7_end 11 = .ok (.iconst 1, 1) := by decide +kernel
theorem dX7_end_12 : decode cX7_end 12 = .ok (.iaload, 1) := by decide +kernel
theorem dX7_end_13 : decode cX7_end 13 = .ok (.istore_n 2, 1) := by decide +kernel
theorem dX7_end_14 : decode cX7_end 14 = .ok (.aload_n 0, 1) := by decide +kernel
theorem dX7_end_15 : decode cX7_end 15 = .ok (.getfield 47, 3) := by decide +kernel
theorem dX7_end_18 : decode cX7_end 18 = .ok (.bipush 6, 2) := by decide +kernel
theorem dX7_end_20 : decode cX7_end 20 = .ok (.iaload, 1) := by decide +kernel
theorem dX7_end_21 : decode cX7_end 21 = .ok (.iload_n 1, 1) := by decide +kernel
theorem dX7_end_22 : decode cX7_end 22 = .ok (.if_icmp .eq 16, 3) := by decide +kernel
theorem dX7_end_25 : decode cX7_end 25 = .ok (.aload_n 0, 1) := by decide +kernel
theorem dX7_end_26 : decode cX7_end 26 = .ok (.getfield 47, 3) := by decide +kernel
theorem dX7_end_29 : decode cX7_end 29 = .ok (.bipush 6, 2) := by decide +kernel
theorem dX7_end_31 : decode cX7_end 31 = .ok (.iaload, 1) := by decide +kernel
theorem dX7_end_32 : decode cX7_end 32 = .ok (.istore_n 1, 1) := by decide +kernel
theorem dX7_end_33 : decode cX7_end 33 = .ok (.iconst 0, 1) := by decide +kernel
theorem dX7_end_34 : decode cX7_end 34 = .ok (.istore_n 2, 1) := by decide +kernel
theorem dX7_end_35 : decode cX7_end 35 = .ok (.goto 81, 3) := by decide +kernel
theorem dX7_end_38 : decode cX7_end 38 = .ok (.iconst 1, 1) := by decide +kernel
theorem dX7_end_39 : decode cX7_end 39 = .ok (.istore_n 3, 1) := by decide +kernel
theorem dX7_end_40 : decode cX7_end 40 = .ok (.iload_n 3, 1) := by decide +kernel
theorem dX7_end_41 : decode cX7_end 41 = .ok (.aload_n 0, 1) := by decide +kernel
theorem dX7_end_42 : decode cX7_end 42 = .ok (.getfield 23, 3) := by decide +kernel
theorem dX7_end_45 : decode cX7_end 45 = .ok (.iload_n 1, 1) := by decide +kernel
theorem dX7_end_46 : decode cX7_end 46 = .ok (.iaload, 1) := by decide +kernel
theorem dX7_end_47 : decode cX7_end 47 = .ok (.if_icmp .ge 35, 3) := by decide +kernel
theorem dX7_end_50 : decode cX7_end 50 = .ok (.aload_n 0, 1) := by decide +kernel
theorem dX7_end_51 : decode cX7_end 51 = .ok (.iload_n 1, 1) := by decide +kernel
theorem dX7_end_52 : decode cX7_end 52 = .ok (.iload_n 2, 1) := by decide +kernel
theorem dX7_end_53 : decode cX7_end 53 = .ok (.iload_n 3, 1) := by decide +kernel
theorem dX7_end_54 : decode cX7_end 54 = .ok (.iadd, 1) := by decide +kernel
theorem dX7_end_55 : decode cX7_end 55 = .ok (.aload_n 0, 1) := by decide +kernel
theorem dX7_end_56 : decode cX7_end 56 = .ok (.getfield 23, 3) := by decide +kernel
theorem dX7_end_59 : decode cX7_end 59 = .ok (.iload_n 1, 1) := by decide +kernel
theorem dX7_end_60 : decode cX7_end 60 = .ok (.iaload, 1) := by decide +kernel
theorem dX7_end_61 : decode cX7_end 61 = .ok (.irem, 1) := by decide +kernel
theorem dX7_end_62 : decode cX7_end 62 = .ok (.invokevirtual 130, 3) := by decide +kernel
theorem dX7_end_65 : decode cX7_end 65 = .ok (.aload_n 0, 1) := by decide +kernel
theorem dX7_end_66 : decode cX7_end 66 = .ok (.getfield 47, 3) := by decide +kernel
theorem dX7_end_69 : decode cX7_end 69 = .ok (.bipush 7, 2) := by decide +kernel
theorem dX7_end_71 : decode cX7_end 71 = .ok (.iaload, 1) := by decide +kernel
theorem dX7_end_72 : decode cX7_end 72 = .ok (.iand, 1) := by decide +kernel
theorem dX7_end_73 : decode cX7_end 73 = .ok (.ifCond .ne 9, 3) := by decide +kernel
theorem dX7_end_76 : decode cX7_end 76 = .ok (.iinc 3 1, 3) := by decide +kernel
theorem dX7_end_79 : decode cX7_end 79 = .ok (.goto (-39), 3) := by decide +kernel
theorem dX7_end_82 : decode cX7_end 82 = .ok (.iload_n 3, 1) := by decide +kernel
theorem dX7_end_83 : decode cX7_end 83 = .ok (.aload_n 0, 1) := by decide +kernel
theorem dX7_end_84 : decode cX7_end 84 = .ok (.getfield 23, 3) := by decide +kernel
theorem dX7_end_87 : decode cX7_end 87 = .ok (.iload_n 1, 1) := by decide +kernel
theorem dX7_end_88 : decode cX7_end 88 = .ok (.iaload, 1) := by decide +kernel
theorem dX7_end_89 : decode cX7_end 89 = .ok (.if_icmp .ge 16, 3) := by decide +kernel
theorem dX7_end_92 : decode cX7_end 92 = .ok (.iload_n 2, 1) := by decide +kernel
theorem dX7_end_93 : decode cX7_end 93 = .ok (.iload_n 3, 1) := by decide +kernel
theorem dX7_end_94 : decode cX7_end 94 = .ok (.iadd, 1) := by decide +kernel
theorem dX7_end_95 : decode cX7_end 95 = .ok (.aload_n 0, 1) := by decide +kernel
theorem dX7_end_96 : decode cX7_end 96 = .ok (.getfield 23, 3) := by decide +kernel
theorem dX7_end_99 : decode cX7_end 99 = .ok (.iload_n 1, 1) := by decide +kernel
theorem dX7_end_100 : decode cX7_end 100 = .ok (.iaload, 1) := by decide +kernel
theorem dX7_end_101 : decode cX7_end 101 = .ok (.irem, 1) := by decide +kernel
theorem dX7_end_102 : decode cX7_end 102 = .ok (.goto 13, 3) := by decide +kernel
theorem dX7_end_105 : decode cX7_end 105 = .ok (.iload_n 2, 1) := by decide +kernel
theorem dX7_end_106 : decode cX7_end 106 = .ok (.iconst 1, 1) := by decide +kernel
theorem dX7_end_107 : decode cX7_end 107 = .ok (.iadd, 1) := by decide +kernel
theorem dX7_end_108 : decode cX7_end 108 = .ok (.aload_n 0, 1) := by decide +kernel
theorem dX7_end_109 : decode cX7_end 109 = .ok (.getfield 23, 3) := by decide +kernel
theorem dX7_end_112 : decode cX7_end 112 = .ok (.iload_n 1, 1) := by decide +kernel
theorem dX7_end_113 : decode cX7_end 113 = .ok (.iaload, 1) := by decide +kernel
theorem dX7_end_114 : decode cX7_end 114 = .ok (.irem, 1) := by decide +kernel
theorem dX7_end_115 : decode cX7_end 115 = .ok (.istore_n 2, 1) := by decide +kernel
theorem dX7_end_116 : decode cX7_end 116 = .ok (.iload_n 1, 1) := by decide +kernel
theorem dX7_end_117 : decode cX7_end 117 = .ok (.aload_n 0, 1) := by decide +kernel
theorem dX7_end_118 : decode cX7_end 118 = .ok (.getfield 47, 3) := by decide +kernel
theorem dX7_end_121 : decode cX7_end 121 = .ok (.iconst 0, 1) := by decide +kernel
theorem dX7_end_122 : decode cX7_end 122 = .ok (.iaload, 1) := by decide +kernel
theorem dX7_end_123 : decode cX7_end 123 = .ok (.if_icmp .ne 14, 3) := by decide +kernel
theorem dX7_end_126 : decode cX7_end 126 = .ok (.iload_n 2, 1) := by decide +kernel
theorem dX7_end_127 : decode cX7_end 127 = .ok (.aload_n 0, 1) := by decide +kernel
theorem dX7_end_128 : decode cX7_end 128 = .ok (.getfield 47, 3) := by decide +kernel
theorem dX7_end_131 : decode cX7_end 131 = .ok (.iconst 1, 1) := by decide +kernel
theorem dX7_end_132 : decode cX7_end 132 = .ok (.iaload, 1) := by decide +kernel
theorem dX7_end_133 : decode cX7_end 133 = .ok (.if_icmp .ne 4, 3) := by decide +kernel
theorem dX7_end_136 : decode cX7_end 136 = .ok (.return_, 1) := by decide +kernel
theorem dX7_end_137 : decode cX7_end 137 = .ok (.aload_n 0, 1) := by decide +kernel
theorem dX7_end_138 : decode cX7_end 138 = .ok (.aload_n 0, 1) := by decide +kernel
theorem dX7_end_139 : decode cX7_end 139 = .ok (.getfield 47, 3) := by decide +kernel
theorem dX7_end_142 : decode cX7_end 142 = .ok (.iconst 0, 1) := by decide +kernel
theorem dX7_end_143 : decode cX7_end 143 = .ok (.iaload, 1) := by decide +kernel
theorem dX7_end_144 : decode cX7_end 144 = .ok (.aload_n 0, 1) := by decide +kernel
theorem dX7_end_145 : decode cX7_end 145 = .ok (.getfield 47, 3) := by decide +kernel
theorem dX7_end_148 : decode cX7_end 148 = .ok (.iconst 1, 1) := by decide +kernel
theorem dX7_end_149 : decode cX7_end 149 = .ok (.iaload, 1) := by decide +kernel
theorem dX7_end_150 : decode cX7_end 150 = .ok (.invokevirtual 130, 3) := by decide +kernel
theorem dX7_end_153 : decode cX7_end 153 = .ok (.istore_n 3, 1) := by decide +kernel
theorem dX7_end_154 : decode cX7_end 154 = .ok (.aload_n 0, 1) := by decide +kernel
theorem dX7_end_155 : decode cX7_end 155 = .ok (.iload_n 1, 1) := by decide +kernel
theorem dX7_end_156 : decode cX7_end 156 = .ok (.iload_n 2, 1) := by decide +kernel
theorem dX7_end_157 : decode cX7_end 157 = .ok (.invokevirtual 130, 3) := by decide +kernel
theorem dX7_end_160 : decode cX7_end 160 = .ok (.istore 4, 2) := by decide +kernel
theorem dX7_end_162 : decode cX7_end 162 = .ok (.iconst 0, 1) := by decide +kernel
theorem dX7_end_163 : decode cX7_end 163 = .ok (.istore 5, 2) := by decide +kernel
theorem dX7_end_165 : decode cX7_end 165 = .ok (.iconst 0, 1) := by decide +kernel
theorem dX7_end_166 : decode cX7_end 166 = .ok (.istore 6, 2) := by decide +kernel
theorem dX7_end_168 : decode cX7_end 168 = .ok (.iload 6, 2) := by decide +kernel
theorem dX7_end_170 : decode cX7_end 170 = .ok (.aload_n 0, 1) := by decide +kernel
theorem dX7_end_171 : decode cX7_end 171 = .ok (.getfield 82, 3) := by decide +kernel
theorem dX7_end_174 : decode cX7_end 174 = .ok (.if_icmp .ge 147, 3) := by decide +kernel
theorem dX7_end_177 : decode cX7_end 177 = .ok (.iload_n 3, 1) := by decide +kernel
theorem dX7_end_178 : decode cX7_end 178 = .ok (.iload 6, 2) := by decide +kernel
theorem dX7_end_180 : decode cX7_end 180 = .ok (.ishr, 1) := by decide +kernel
theorem dX7_end_181 : decode cX7_end 181 = .ok (.iconst 1, 1) := by decide +kernel
theorem dX7_end_182 : decode cX7_end 182 = .ok (.iand, 1) := by decide +kernel
theorem dX7_end_183 : decode cX7_end 183 = .ok (.ifCond .eq 132, 3) := by decide +kernel
theorem dX7_end_186 : decode cX7_end 186 = .ok (.iload 4, 2) := by decide +kernel
theorem dX7_end_188 : decode cX7_end 188 = .ok (.iload 6, 2) := by decide +kernel
theorem dX7_end_190 : decode cX7_end 190 = .ok (.ishr, 1) := by decide +kernel
theorem dX7_end_191 : decode cX7_end 191 = .ok (.iconst 1, 1) := by decide +kernel
theorem dX7_end_192 : decode cX7_end 192 = .ok (.iand, 1) := by decide +kernel
theorem dX7_end_193 : decode cX7_end 193 = .ok (.iconst 1, 1) := by decide +kernel
theorem dX7_end_194 : decode cX7_end 194 = .ok (.if_icmp .ne 6, 3) := by decide +kernel
theorem dX7_end_197 : decode cX7_end 197 = .ok (.goto 118, 3) := by decide +kernel
theorem dX7_end_200 : decode cX7_end 200 = .ok (.iconst 0, 1) := by decide +kernel
theorem dX7_end_201 : decode cX7_end 201 = .ok (.istore 7, 2) := by decide +kernel
theorem dX7_end_203 : decode cX7_end 203 = .ok (.iload 7, 2) := by decide +kernel
theorem dX7_end_205 : decode cX7_end 205 = .ok (.aload_n 0, 1) := by decide +kernel
theorem dX7_end_206 : decode cX7_end 206 = .ok (.getfield 82, 3) := by decide +kernel
theorem dX7_end_209 : decode cX7_end 209 = .ok (.if_icmp .ge 95, 3) := by decide +kernel
theorem dX7_end_212 : decode cX7_end 212 = .ok (.iload 4, 2) := by decide +kernel
theorem dX7_end_214 : decode cX7_end 214 = .ok (.iload 7, 2) := by decide +kernel
theorem dX7_end_216 : decode cX7_end 216 = .ok (.ishr, 1) := by decide +kernel
theorem dX7_end_217 : decode cX7_end 217 = .ok (.iconst 1, 1) := by decide +kernel
theorem dX7_end_218 : decode cX7_end 218 = .ok (.iand, 1) := by decide +kernel
theorem dX7_end_219 : decode cX7_end 219 = .ok (.iconst 1, 1) := by decide +kernel
theorem dX7_end_220 : decode cX7_end 220 = .ok (.if_icmp .ne 32, 3) := by decide +kernel
theorem dX7_end_223 : decode cX7_end 223 = .ok (.iload_n 3, 1) := by decide +kernel
theorem dX7_end_224 : decode cX7_end 224 = .ok (.iload 7, 2) := by decide +kernel
theorem dX7_end_226 : decode cX7_end 226 = .ok (.ishr, 1) := by decide +kernel
theorem dX7_end_227 : decode cX7_end 227 = .ok (.iconst 1, 1) := by decide +kernel
theorem dX7_end_228 : decode cX7_end 228 = .ok (.iand, 1) := by decide +kernel
theorem dX7_end_229 : decode cX7_end 229 = .ok (.ifCond .ne 23, 3) := by decide +kernel
theorem dX7_end_232 : decode cX7_end 232 = .ok (.aload_n 0, 1) := by decide +kernel
theorem dX7_end_233 : decode cX7_end 233 = .ok (.getfield 7, 3) := by decide +kernel
theorem dX7_end_236 : decode cX7_end 236 = .ok (.bipush 6, 2) := by decide +kernel
theorem dX7_end_238 : decode cX7_end 238 = .ok (.iload 6, 2) := by decide +kernel
theorem dX7_end_240 : decode cX7_end 240 = .ok (.imul, 1) := by decide +kernel
theorem dX7_end_241 : decode cX7_end 241 = .ok (.iload 7, 2) := by decide +kernel
theorem dX7_end_243 : decode cX7_end 243 = .ok (.iadd, 1) := by decide +kernel
theorem dX7_end_244 : decode cX7_end 244 = .ok (.baload, 1) := by decide +kernel
theorem dX7_end_245 : decode cX7_end 245 = .ok (.ifCond .eq 7, 3) := by decide +kernel
theorem dX7_end_248 : decode cX7_end 248 = .ok (.iconst 1, 1) := by decide +kernel
theorem dX7_end_249 : decode cX7_end 249 = .ok (.goto 4, 3) := by decide +kernel
theorem dX7_end_252 : decode cX7_end 252 = .ok (.iconst 0, 1) := by decide +kernel
theorem dX7_end_253 : decode cX7_end 253 = .ok (.istore 8, 2) := by decide +kernel
theorem dX7_end_255 : decode cX7_end 255 = .ok (.iload 8, 2) := by decide +kernel
theorem dX7_end_257 : decode cX7_end 257 = .ok (.ifCond .eq 37, 3) := by decide +kernel
theorem dX7_end_260 : decode cX7_end 260 = .ok (.aload_n 0, 1) := by decide +kernel
theorem dX7_end_261 : decode cX7_end 261 = .ok (.getfield 13, 3) := by decide +kernel
theorem dX7_end_264 : decode cX7_end 264 = .ok (.bipush 6, 2) := by decide +kernel
theorem dX7_end_266 : decode cX7_end 266 = .ok (.iload 6, 2) := by decide +kernel
theorem dX7_end_268 : decode cX7_end 268 = .ok (.imul, 1) := by decide +kernel
theorem dX7_end_269 : decode cX7_end 269 = .ok (.iload 7, 2) := by decide +kernel
theorem dX7_end_271 : decode cX7_end 271 = .ok (.iadd, 1) := by decide +kernel
theorem dX7_end_272 : decode cX7_end 272 = .ok (.iaload, 1) := by decide +kernel
theorem dX7_end_273 : decode cX7_end 273 = .ok (.iload 5, 2) := by decide +kernel
theorem dX7_end_275 : decode cX7_end 275 = .ok (.if_icmp .le 19, 3) := by decide +kernel
theorem dX7_end_278 : decode cX7_end 278 = .ok (.aload_n 0, 1) := by decide +kernel
theorem dX7_end_279 : decode cX7_end 279 = .ok (.getfield 13, 3) := by decide +kernel
theorem dX7_end_282 : decode cX7_end 282 = .ok (.bipush 6, 2) := by decide +kernel
theorem dX7_end_284 : decode cX7_end 284 = .ok (.iload 6, 2) := by decide +kernel
theorem dX7_end_286 : decode cX7_end 286 = .ok (.imul, 1) := by decide +kernel
theorem dX7_end_287 : decode cX7_end 287 = .ok (.iload 7, 2) := by decide +kernel
theorem dX7_end_289 : decode cX7_end 289 = .ok (.iadd, 1) := by decide +kernel
theorem dX7_end_290 : decode cX7_end 290 = .ok (.iaload, 1) := by decide +kernel
theorem dX7_end_291 : decode cX7_end 291 = .ok (.goto 5, 3) := by decide +kernel
theorem dX7_end_294 : decode cX7_end 294 = .ok (.iload 5, 2) := by decide +kernel
theorem dX7_end_296 : decode cX7_end 296 = .ok (.istore 5, 2) := by decide +kernel
theorem dX7_end_298 : decode cX7_end 298 = .ok (.iinc 7 1, 3) := by decide +kernel
theorem dX7_end_301 : decode cX7_end 301 = .ok (.goto (-98), 3) := by decide +kernel
theorem dX7_end_304 : decode cX7_end 304 = .ok (.aload_n 0, 1) := by decide +kernel
theorem dX7_end_305 : decode cX7_end 305 = .ok (.getfield 47, 3) := by decide +kernel
theorem dX7_end_308 : decode cX7_end 308 = .ok (.bipush 8, 2) := by decide +kernel
theorem dX7_end_310 : decode cX7_end 310 = .ok (.iload 6, 2) := by decide +kernel
theorem dX7_end_312 : decode cX7_end 312 = .ok (.iadd, 1) := by decide +kernel
theorem dX7_end_313 : decode cX7_end 313 = .ok (.iconst 0, 1) := by decide +kernel
theorem dX7_end_314 : decode cX7_end 314 = .ok (.iastore, 1) := by decide +kernel
theorem dX7_end_315 : decode cX7_end 315 = .ok (.iinc 6 1, 3) := by decide +kernel
theorem dX7_end_318 : decode cX7_end 318 = .ok (.goto (-150), 3) := by decide +kernel
theorem dX7_end_321 : decode cX7_end 321 = .ok (.aload_n 0, 1) := by decide +kernel
theorem dX7_end_322 : decode cX7_end 322 = .ok (.getfield 47, 3) := by decide +kernel
theorem dX7_end_325 : decode cX7_end 325 = .ok (.iconst 4, 1) := by decide +kernel
theorem dX7_end_326 : decode cX7_end 326 = .ok (.iload_n 1, 1) := by decide +kernel
theorem dX7_end_327 : decode cX7_end 327 = .ok (.iastore, 1) := by decide +kernel
theorem dX7_end_328 : decode cX7_end 328 = .ok (.aload_n 0, 1) := by decide +kernel
theorem dX7_end_329 : decode cX7_end 329 = .ok (.getfield 47, 3) := by decide +kernel
theorem dX7_end_332 : decode cX7_end 332 = .ok (.iconst 5, 1) := by decide +kernel
theorem dX7_end_333 : decode cX7_end 333 = .ok (.iload_n 2, 1) := by decide +kernel
theorem dX7_end_334 : decode cX7_end 334 = .ok (.iastore, 1) := by decide +kernel
theorem dX7_end_335 : decode cX7_end 335 = .ok (.aload_n 0, 1) := by decide +kernel
theorem dX7_end_336 : decode cX7_end 336 = .ok (.getfield 47, 3) := by decide +kernel
theorem dX7_end_339 : decode cX7_end 339 = .ok (.iconst 3, 1) := by decide +kernel
theorem dX7_end_340 : decode cX7_end 340 = .ok (.iload 5, 2) := by decide +kernel
theorem dX7_end_342 : decode cX7_end 342 = .ok (.iastore, 1) := by decide +kernel
theorem dX7_end_343 : decode cX7_end 343 = .ok (.iload 5, 2) := by decide +kernel
theorem dX7_end_345 : decode cX7_end 345 = .ok (.ifCond .ne 7, 3) := by decide +kernel
theorem dX7_end_348 : decode cX7_end 348 = .ok (.aload_n 0, 1) := by decide +kernel
theorem dX7_end_349 : decode cX7_end 349 = .ok (.invokevirtual 133, 3) := by decide +kernel
theorem dX7_end_352 : decode cX7_end 352 = .ok (.return_, 1) := by decide +kernel
theorem dX7_go_0 : decode cX7_go 0 = .ok (.iconst 0, 1) := by decide +kernel
theorem dX7_go_1 : decode cX7_go 1 = .ok (.istore_n 2, 1) := by decide +kernel
theorem dX7_go_2 : decode cX7_go 2 = .ok (.iload_n 2, 1) := by decide +kernel
theorem dX7_go_3 : decode cX7_go 3 = .ok (.bipush 14, 2) := by decide +kernel
theorem dX7_go_5 : decode cX7_go 5 = .ok (.if_icmp .ge 21, 3) := by decide +kernel
theorem dX7_go_8 : decode cX7_go 8 = .ok (.aload_n 0, 1) := by decide +kernel
theorem dX7_go_9 : decode cX7_go 9 = .ok (.getfield 50, 3) := by decide +kernel
theorem dX7_go_12 : decode cX7_go 12 = .ok (.iload_n 2, 1) := by decide +kernel
theorem dX7_go_13 : decode cX7_go 13 = .ok (.aload_n 0, 1) := by decide +kernel
theorem dX7_go_14 : decode cX7_go 14 = .ok (.getfield 47, 3) := by decide +kernel
theorem dX7_go_17 : decode cX7_go 17 = .ok (.iload_n 2, 1) := by decide +kernel
theorem dX7_go_18 : decode cX7_go 18 = .ok (.iaload, 1) := by decide +kernel
theorem dX7_go_19 : decode cX7_go 19 = .ok (.iastore, 1) := by decide +kernel
theorem dX7_go_20 : decode cX7_go 20 = .ok (.iinc 2 1, 3) := by decide +kernel
theorem dX7_go_23 : decode cX7_go 23 = .ok (.goto (-21), 3) := by decide +kernel
theorem dX7_go_26 : decode cX7_go 26 = .ok (.aload_n 0, 1) := by decide +kernel
theorem dX7_go_27 : decode cX7_go 27 = .ok (.invokevirtual 136, 3) := by decide +kernel
theorem dX7_go_30 : decode cX7_go 30 = .ok (.istore_n 2, 1) := by decide +kernel
theorem dX7_go_31 : decode cX7_go 31 = .ok (.iload_n 1, 1) := by decide +kernel
theorem dX7_go_32 : decode cX7_go 32 = .ok (.ifCond .le 36, 3) := by decide +kernel
theorem dX7_go_35 : decode cX7_go 35 = .ok (.iload_n 1, 1) := by decide +kernel
theorem dX7_go_36 : decode cX7_go 36 = .ok (.aload_n 0, 1) := by decide +kernel
theorem dX7_go_37 : decode cX7_go 37 = .ok (.getfield 82, 3) := by decide +kernel
theorem dX7_go_40 : decode cX7_go 40 = .ok (.if_icmp .gt 28, 3) := by decide +kernel
theorem dX7_go_43 : decode cX7_go 43 = .ok (.iload_n 2, 1) := by decide +kernel
theorem dX7_go_44 : decode cX7_go 44 = .ok (.iload_n 1, 1) := by decide +kernel
theorem dX7_go_45 : decode cX7_go 45 = .ok (.iconst 1, 1) := by decide +kernel
theorem dX7_go_46 : decode cX7_go 46 = .ok (.isub, 1) := by decide +kernel
theorem dX7_go_47 : decode cX7_go 47 = .ok (.ishr, 1) := by decide +kernel
theorem dX7_go_48 : decode cX7_go 48 = .ok (.iconst 1, 1) := by decide +kernel
theorem dX7_go_49 : decode cX7_go 49 = .ok (.iand, 1) := by decide +kernel
theorem dX7_go_50 : decode cX7_go 50 = .ok (.ifCond .ne 18, 3) := by decide +kernel
theorem dX7_go_53 : decode cX7_go 53 = .ok (.aload_n 0, 1) := by decide +kernel
theorem dX7_go_54 : decode cX7_go 54 = .ok (.getfield 47, 3) := by decide +kernel
theorem dX7_go_57 : decode cX7_go 57 = .ok (.bipush 7, 2) := by decide +kernel
theorem dX7_go_59 : decode cX7_go 59 = .ok (.dup2, 1) := by decide +kernel
theorem dX7_go_60 : decode cX7_go 60 = .ok (.iaload, 1) := by decide +kernel
theorem dX7_go_61 : decode cX7_go 61 = .ok (.iconst 1, 1) := by decide +kernel
theorem dX7_go_62 : decode cX7_go 62 = .ok (.iload_n 1, 1) := by decide +kernel
theorem dX7_go_63 : decode cX7_go 63 = .ok (.iconst 1, 1) := by decide +kernel
theorem dX7_go_64 : decode cX7_go 64 = .ok (.isub, 1) := by decide +kernel
theorem dX7_go_65 : decode cX7_go 65 = .ok (.ishl, 1) := by decide +kernel
theorem dX7_go_66 : decode cX7_go 66 = .ok (.ior, 1) := by decide +kernel
theorem dX7_go_67 : decode cX7_go 67 = .ok (.iastore, 1) := by decide +kernel
theorem dX7_go_68 : decode cX7_go 68 = .ok (.iload_n 1, 1) := by decide +kernel
theorem dX7_go_69 : decode cX7_go 69 = .ok (.aload_n 0, 1) := by decide +kernel
theorem dX7_go_70 : decode cX7_go 70 = .ok (.getfield 82, 3) := by decide +kernel
theorem dX7_go_73 : decode cX7_go 73 = .ok (.if_icmp .le 18, 3) := by decide +kernel
theorem dX7_go_76 : decode cX7_go 76 = .ok (.aload_n 0, 1) := by decide +kernel
theorem dX7_go_77 : decode cX7_go 77 = .ok (.getfield 47, 3) := by decide +kernel
theorem dX7_go_80 : decode cX7_go 80 = .ok (.bipush 6, 2) := by decide +kernel
theorem dX7_go_82 : decode cX7_go 82 = .ok (.iload_n 1, 1) := by decide +kernel
theorem dX7_go_83 : decode cX7_go 83 = .ok (.iconst 1, 1) := by decide +kernel
theorem dX7_go_84 : decode cX7_go 84 = .ok (.isub, 1) := by decide +kernel
theorem dX7_go_85 : decode cX7_go 85 = .ok (.aload_n 0, 1) := by decide +kernel
theorem dX7_go_86 : decode cX7_go 86 = .ok (.getfield 82, 3) := by decide +kernel
theorem dX7_go_89 : decode cX7_go 89 = .ok (.isub, 1) := by decide +kernel
theorem dX7_go_90 : decode cX7_go 90 = .ok (.iastore, 1) := by decide +kernel
theorem dX7_go_91 : decode cX7_go 91 = .ok (.iconst 0, 1) := by decide +kernel
theorem dX7_go_92 : decode cX7_go 92 = .ok (.istore_n 3, 1) := by decide +kernel
theorem dX7_go_93 : decode cX7_go 93 = .ok (.iload_n 3, 1) := by decide +kernel
theorem dX7_go_94 : decode cX7_go 94 = .ok (.aload_n 0, 1) := by decide +kernel
theorem dX7_go_95 : decode cX7_go 95 = .ok (.getfield 82, 3) := by decide +kernel
theorem dX7_go_98 : decode cX7_go 98 = .ok (.if_icmp .ge 84, 3) := by decide +kernel
theorem dX7_go_101 : decode cX7_go 101 = .ok (.iload_n 2, 1) := by decide +kernel
theorem dX7_go_102 : decode cX7_go 102 = .ok (.iload_n 3, 1) := by decide +kernel
theorem dX7_go_103 : decode cX7_go 103 = .ok (.ishr, 1) := by decide +kernel
theorem dX7_go_104 : decode cX7_go 104 = .ok (.iconst 1, 1) := by decide +kernel
theorem dX7_go_105 : decode cX7_go 105 = .ok (.iand, 1) := by decide +kernel
theorem dX7_go_106 : decode cX7_go 106 = .ok (.iconst 1, 1) := by decide +kernel
theorem dX7_go_107 : decode cX7_go 107 = .ok (.if_icmp .ne 8, 3) := by decide +kernel
theorem dX7_go_110 : decode cX7_go 110 = .ok (.bipush 31, 2) := by decide +kernel
theorem dX7_go_112 : decode cX7_go 112 = .ok (.goto 5, 3) := by decide +kernel
theorem dX7_go_115 : decode cX7_go 115 = .ok (.bipush 15, 2) := by decide +kernel
theorem dX7_go_117 : decode cX7_go 117 = .ok (.istore 4, 2) := by decide +kernel
theorem dX7_go_119 : decode cX7_go 119 = .ok (.aload_n 0, 1) := by decide +kernel
theorem dX7_go_120 : decode cX7_go 120 = .ok (.getfield 47, 3) := by decide +kernel
theorem dX7_go_123 : decode cX7_go 123 = .ok (.bipush 8, 2) := by decide +kernel
theorem dX7_go_125 : decode cX7_go 125 = .ok (.iload_n 3, 1) := by decide +kernel
theorem dX7_go_126 : decode cX7_go 126 = .ok (.iadd, 1) := by decide +kernel
theorem dX7_go_127 : decode cX7_go 127 = .ok (.aload_n 0, 1) := by decide +kernel
theorem dX7_go_128 : decode cX7_go 128 = .ok (.getfield 47, 3) := by decide +kernel
theorem dX7_go_131 : decode cX7_go 131 = .ok (.bipush 8, 2) := by decide +kernel
theorem dX7_go_133 : decode cX7_go 133 = .ok (.iload_n 3, 1) := by decide +kernel
theorem dX7_go_134 : decode cX7_go 134 = .ok (.iadd, 1) := by decide +kernel
theorem dX7_go_135 : decode cX7_go 135 = .ok (.iaload, 1) := by decide +kernel
theorem dX7_go_136 : decode cX7_go 136 = .ok (.iload 4, 2) := by decide +kernel
theorem dX7_go_138 : decode cX7_go 138 = .ok (.if_icmp .ge 17, 3) := by decide +kernel
theorem dX7_go_141 : decode cX7_go 141 = .ok (.aload_n 0, 1) := by decide +kernel
theorem dX7_go_142 : decode cX7_go 142 = .ok (.getfield 47, 3) := by decide +kernel
theorem dX7_go_145 : decode cX7_go 145 = .ok (.bipush 8, 2) := by decide +kernel
theorem dX7_go_147 : decode cX7_go 147 = .ok (.iload_n 3, 1) := by decide +kernel
theorem dX7_go_148 : decode cX7_go 148 = .ok (.iadd, 1) := by decide +kernel
theorem dX7_go_149 : decode cX7_go 149 = .ok (.iaload, 1) := by decide +kernel
theorem dX7_go_150 : decode cX7_go 150 = .ok (.iconst 1, 1) := by decide +kernel
theorem dX7_go_151 : decode cX7_go 151 = .ok (.iadd, 1) := by decide +kernel
theorem dX7_go_152 : decode cX7_go 152 = .ok (.goto 5, 3) := by decide +kernel
theorem dX7_go_155 : decode cX7_go 155 = .ok (.iload 4, 2) := by decide +kernel
theorem dX7_go_157 : decode cX7_go 157 = .ok (.iastore, 1) := by decide +kernel
theorem dX7_go_158 : decode cX7_go 158 = .ok (.aload_n 0, 1) := by decide +kernel
theorem dX7_go_159 : decode cX7_go 159 = .ok (.getfield 50, 3) := by decide +kernel
theorem dX7_go_162 : decode cX7_go 162 = .ok (.bipush 8, 2) := by decide +kernel
theorem dX7_go_164 : decode cX7_go 164 = .ok (.iload_n 3, 1) := by decide +kernel
theorem dX7_go_165 : decode cX7_go 165 = .ok (.iadd, 1) := by decide +kernel
theorem dX7_go_166 : decode cX7_go 166 = .ok (.aload_n 0, 1) := by decide +kernel
theorem dX7_go_167 : decode cX7_go 167 = .ok (.getfield 47, 3) := by decide +kernel
theorem dX7_go_170 : decode cX7_go 170 = .ok (.bipush 8, 2) := by decide +kernel
theorem dX7_go_172 : decode cX7_go 172 = .ok (.iload_n 3, 1) := by decide +kernel
theorem dX7_go_173 : decode cX7_go 173 = .ok (.iadd, 1) := by decide +kernel
theorem dX7_go_174 : decode cX7_go 174 = .ok (.iaload, 1) := by decide +kernel
theorem dX7_go_175 : decode cX7_go 175 = .ok (.iastore, 1) := by decide +kernel
theorem dX7_go_176 : decode cX7_go 176 = .ok (.iinc 3 1, 3) := by decide +kernel
theorem dX7_go_179 : decode cX7_go 179 = .ok (.goto (-86), 3) := by decide +kernel
theorem dX7_go_182 : decode cX7_go 182 = .ok (.aload_n 0, 1) := by decide +kernel
theorem dX7_go_183 : decode cX7_go 183 = .ok (.getfield 47, 3) := by decide +kernel
theorem dX7_go_186 : decode cX7_go 186 = .ok (.iconst 3, 1) := by decide +kernel
theorem dX7_go_187 : decode cX7_go 187 = .ok (.iaload, 1) := by decide +kernel
theorem dX7_go_188 : decode cX7_go 188 = .ok (.ifCond .le 29, 3) := by decide +kernel
theorem dX7_go_191 : decode cX7_go 191 = .ok (.aload_n 0, 1) := by decide +kernel
theorem dX7_go_192 : decode cX7_go 192 = .ok (.getfield 47, 3) := by decide +kernel
theorem dX7_go_195 : decode cX7_go 195 = .ok (.iconst 3, 1) := by decide +kernel
theorem dX7_go_196 : decode cX7_go 196 = .ok (.dup2, 1) := by decide +kernel
theorem dX7_go_197 : decode cX7_go 197 = .ok (.iaload, 1) := by decide +kernel
theorem dX7_go_198 : decode cX7_go 198 = .ok (.iconst 1, 1) := by decide +kernel
theorem dX7_go_199 : decode cX7_go 199 = .ok (.isub, 1) := by decide +kernel
theorem dX7_go_200 : decode cX7_go 200 = .ok (.iastore, 1) := by decide +kernel
theorem dX7_go_201 : decode cX7_go 201 = .ok (.aload_n 0, 1) := by decide +kernel
theorem dX7_go_202 : decode cX7_go 202 = .ok (.getfield 47, 3) := by decide +kernel
theorem dX7_go_205 : decode cX7_go 205 = .ok (.iconst 3, 1) := by decide +kernel
theorem dX7_go_206 : decode cX7_go 206 = .ok (.iaload, 1) := by decide +kernel
theorem dX7_go_207 : decode cX7_go 207 = .ok (.ifCond .ne 137, 3) := by decide +kernel
theorem dX7_go_210 : decode cX7_go 210 = .ok (.aload_n 0, 1) := by decide +kernel
theorem dX7_go_211 : decode cX7_go 211 = .ok (.invokevirtual 133, 3) := by decide +kernel
theorem dX7_go_214 : decode cX7_go 214 = .ok (.goto 130, 3) := by decide +kernel
theorem dX7_go_217 : decode cX7_go 217 = .ok (.iconst 5, 1) := by decide +kernel
theorem dX7_go_218 : decode cX7_go 218 = .ok (.aload_n 0, 1) := by decide +kernel
theorem dX7_go_219 : decode cX7_go 219 = .ok (.getfield 47, 3) := by decide +kernel
theorem dX7_go_222 : decode cX7_go 222 = .ok (.iconst 0, 1) := by decide +kernel
theorem dX7_go_223 : decode cX7_go 223 = .ok (.iaload, 1) := by decide +kernel
theorem dX7_go_224 : decode cX7_go 224 = .ok (.imul, 1) := by decide +kernel
theorem dX7_go_225 : decode cX7_go 225 = .ok (.aload_n 0, 1) := by decide +kernel
theorem dX7_go_226 : decode cX7_go 226 = .ok (.getfield 47, 3) := by decide +kernel
theorem dX7_go_229 : decode cX7_go 229 = .ok (.iconst 1, 1) := by decide +kernel
theorem dX7_go_230 : decode cX7_go 230 = .ok (.iaload, 1) := by decide +kernel
theorem dX7_go_231 : decode cX7_go 231 = .ok (.iadd, 1) := by decide +kernel
theorem dX7_go_232 : decode cX7_go 232 = .ok (.istore_n 3, 1) := by decide +kernel
theorem dX7_go_233 : decode cX7_go 233 = .ok (.aload_n 0, 1) := by decide +kernel
theorem dX7_go_234 : decode cX7_go 234 = .ok (.getfield 47, 3) := by decide +kernel
theorem dX7_go_237 : decode cX7_go 237 = .ok (.iconst 2, 1) := by decide +kernel
theorem dX7_go_238 : decode cX7_go 238 = .ok (.aload_n 0, 1) := by decide +kernel
theorem dX7_go_239 : decode cX7_go 239 = .ok (.getfield 47, 3) := by decide +kernel
theorem dX7_go_242 : decode cX7_go 242 = .ok (.iconst 2, 1) := by decide +kernel
theorem dX7_go_243 : decode cX7_go 243 = .ok (.iaload, 1) := by decide +kernel
theorem dX7_go_244 : decode cX7_go 244 = .ok (.bipush 31, 2) := by decide +kernel
theorem dX7_go_246 : decode cX7_go 246 = .ok (.if_icmp .ge 14, 3) := by decide +kernel
theorem dX7_go_249 : decode cX7_go 249 = .ok (.aload_n 0, 1) := by decide +kernel
theorem dX7_go_250 : decode cX7_go 250 = .ok (.getfield 47, 3) := by decide +kernel
theorem dX7_go_253 : decode cX7_go 253 = .ok (.iconst 2, 1) := by decide +kernel
theorem dX7_go_254 : decode cX7_go 254 = .ok (.iaload, 1) := by decide +kernel
theorem dX7_go_255 : decode cX7_go 255 = .ok (.iconst 1, 1) := by decide +kernel
theorem dX7_go_256 : decode cX7_go 256 = .ok (.iadd, 1) := by decide +kernel
theorem dX7_go_257 : decode cX7_go 257 = .ok (.goto 5, 3) := by decide +kernel
theorem dX7_go_260 : decode cX7_go 260 = .ok (.bipush 31, 2) := by decide +kernel
theorem dX7_go_262 : decode cX7_go 262 = .ok (.iastore, 1) := by decide +kernel
theorem dX7_go_263 : decode cX7_go 263 = .ok (.aload_n 0, 1) := by decide +kernel
theorem dX7_go_264 : decode cX7_go 264 = .ok (.getfield 47, 3) := by decide +kernel
theorem dX7_go_267 : decode cX7_go 267 = .ok (.bipush 7, 2) := by decide +kernel
theorem dX7_go_269 : decode cX7_go 269 = .ok (.iaload, 1) := by decide +kernel
theorem dX7_go_270 : decode cX7_go 270 = .ok (.aload_n 0, 1) := by decide +kernel
theorem dX7_go_271 : decode cX7_go 271 = .ok (.getfield 26, 3) := by decide +kernel
theorem dX7_go_274 : decode cX7_go 274 = .ok (.iload_n 3, 1) := by decide +kernel
theorem dX7_go_275 : decode cX7_go 275 = .ok (.iaload, 1) := by decide +kernel
theorem dX7_go_276 : decode cX7_go 276 = .ok (.iconst (-1), 1) := by decide +kernel
theorem dX7_go_277 : decode cX7_go 277 = .ok (.ixor, 1) := by decide +kernel
theorem dX7_go_278 : decode cX7_go 278 = .ok (.iand, 1) := by decide +kernel
theorem dX7_go_279 : decode cX7_go 279 = .ok (.ifCond .ne 19, 3) := by decide +kernel
theorem dX7_go_282 : decode cX7_go 282 = .ok (.aload_n 0, 1) := by decide +kernel
theorem dX7_go_283 : decode cX7_go 283 = .ok (.getfield 47, 3) := by decide +kernel
theorem dX7_go_286 : decode cX7_go 286 = .ok (.bipush 6, 2) := by decide +kernel
theorem dX7_go_288 : decode cX7_go 288 = .ok (.iaload, 1) := by decide +kernel
theorem dX7_go_289 : decode cX7_go 289 = .ok (.aload_n 0, 1) := by decide +kernel
theorem dX7_go_290 : decode cX7_go 290 = .ok (.getfield 47, 3) := by decide +kernel
theorem dX7_go_293 : decode cX7_go 293 = .ok (.iconst 0, 1) := by decide +kernel
theorem dX7_go_294 : decode cX7_go 294 = .ok (.iaload, 1) := by decide +kernel
theorem dX7_go_295 : decode cX7_go 295 = .ok (.if_icmp .eq 7, 3) := by decide +kernel
theorem dX7_go_298 : decode cX7_go 298 = .ok (.iconst 1, 1) := by decide +kernel
theorem dX7_go_299 : decode cX7_go 299 = .ok (.goto 4, 3) := by decide +kernel
theorem dX7_go_302 : decode cX7_go 302 = .ok (.iconst 0, 1) := by decide +kernel
theorem dX7_go_303 : decode cX7_go 303 = .ok (.istore 4, 2) := by decide +kernel
theorem dX7_go_305 : decode cX7_go 305 = .ok (.aload_n 0, 1) := by decide +kernel
theorem dX7_go_306 : decode cX7_go 306 = .ok (.getfield 47, 3) := by decide +kernel
theorem dX7_go_309 : decode cX7_go 309 = .ok (.iconst 2, 1) := by decide +kernel
theorem dX7_go_310 : decode cX7_go 310 = .ok (.iaload, 1) := by decide +kernel
theorem dX7_go_311 : decode cX7_go 311 = .ok (.aload_n 0, 1) := by decide +kernel
theorem dX7_go_312 : decode cX7_go 312 = .ok (.getfield 32, 3) := by decide +kernel
theorem dX7_go_315 : decode cX7_go 315 = .ok (.iload_n 3, 1) := by decide +kernel
theorem dX7_go_316 : decode cX7_go 316 = .ok (.iaload, 1) := by decide +kernel
theorem dX7_go_317 : decode cX7_go 317 = .ok (.if_icmp .ge 23, 3) := by decide +kernel
theorem dX7_go_320 : decode cX7_go 320 = .ok (.aload_n 0, 1) := by decide +kernel
theorem dX7_go_321 : decode cX7_go 321 = .ok (.getfield 47, 3) := by decide +kernel
theorem dX7_go_324 : decode cX7_go 324 = .ok (.iconst 2, 1) := by decide +kernel
theorem dX7_go_325 : decode cX7_go 325 = .ok (.iaload, 1) := by decide +kernel
theorem dX7_go_326 : decode cX7_go 326 = .ok (.aload_n 0, 1) := by decide +kernel
theorem dX7_go_327 : decode cX7_go 327 = .ok (.getfield 29, 3) := by decide +kernel
theorem dX7_go_330 : decode cX7_go 330 = .ok (.iload_n 3, 1) := by decide +kernel
theorem dX7_go_331 : decode cX7_go 331 = .ok (.iaload, 1) := by decide +kernel
theorem dX7_go_332 : decode cX7_go 332 = .ok (.if_icmp .lt 12, 3) := by decide +kernel
theorem dX7_go_335 : decode cX7_go 335 = .ok (.iload 4, 2) := by decide +kernel
theorem dX7_go_337 : decode cX7_go 337 = .ok (.ifCond .eq 7, 3) := by decide +kernel
theorem dX7_go_340 : decode cX7_go 340 = .ok (.aload_n 0, 1) := by decide +kernel
theorem dX7_go_341 : decode cX7_go 341 = .ok (.invokevirtual 140, 3) := by decide +kernel
theorem dX7_go_344 : decode cX7_go 344 = .ok (.aload_n 0, 1) := by decide +kernel
theorem dX7_go_345 : decode cX7_go 345 = .ok (.iload_n 2, 1) := by decide +kernel
theorem dX7_go_346 : decode cX7_go 346 = .ok (.aload_n 0, 1) := by decide +kernel
theorem dX7_go_347 : decode cX7_go 347 = .ok (.invokevirtual 136, 3) := by decide +kernel
theorem dX7_go_350 : decode cX7_go 350 = .ok (.invokevirtual 143, 3) := by decide +kernel
theorem dX7_go_353 : decode cX7_go 353 = .ok (.ireturn, 1) := by decide +kernel
theorem dX7_fault_0 : decode cX7_fault 0 = .ok (.iconst 0, 1) := by decide +kernel
theorem dX7_fault_1 : decode cX7_fault 1 = .ok (.istore_n 3, 1) := by decide +kernel
theorem dX7_fault_2 : decode cX7_fault 2 = .ok (.iload_n 3, 1) := by decide +kernel
theorem dX7_fault_3 : decode cX7_fault 3 = .ok (.aload_n 0, 1) := by decide +kernel
theorem dX7_fault_4 : decode cX7_fault 4 = .ok (.getfield 82, 3) := by decide +kernel
theorem dX7_fault_7 : decode cX7_fault 7 = .ok (.if_icmp .ge 58, 3) := by decide +kernel
theorem dX7_fault_10 : decode cX7_fault 10 = .ok (.iconst 0, 1) := by decide +kernel
theorem dX7_fault_11 : decode cX7_fault 11 = .ok (.istore 4, 2) := by decide +kernel
theorem dX7_fault_13 : decode cX7_fault 13 = .ok (.iload 4, 2) := by decide +kernel
theorem dX7_fault_15 : decode cX7_fault 15 = .ok (.aload_n 0, 1) := by decide +kernel
theorem dX7_fault_16 : decode cX7_fault 16 = .ok (.getfield 82, 3) := by decide +kernel
theorem dX7_fault_19 : decode cX7_fault 19 = .ok (.if_icmp .ge 40, 3) := by decide +kernel
theorem dX7_fault_22 : decode cX7_fault 22 = .ok (.aload_n 0, 1) := by decide +kernel
theorem dX7_fault_23 : decode cX7_fault 23 = .ok (.getfield 7, 3) := by decide +kernel
theorem dX7_fault_26 : decode cX7_fault 26 = .ok (.bipush 6, 2) := by decide +kernel
theorem dX7_fault_28 : decode cX7_fault 28 = .ok (.iload_n 3, 1) := by decide +kernel
theorem dX7_fault_29 : decode cX7_fault 29 = .ok (.imul, 1) := by decide +kernel
theorem dX7_fault_30 : decode cX7_fault 30 = .ok (.iload 4, 2) := by decide +kernel
theorem dX7_fault_32 : decode cX7_fault 32 = .ok (.iadd, 1) := by decide +kernel
theorem dX7_fault_33 : decode cX7_fault 33 = .ok (.baload, 1) := by decide +kernel
theorem dX7_fault_34 : decode cX7_fault 34 = .ok (.ifCond .eq 19, 3) := by decide +kernel
theorem dX7_fault_37 : decode cX7_fault 37 = .ok (.iload_n 2, 1) := by decide +kernel
theorem dX7_fault_38 : decode cX7_fault 38 = .ok (.iload_n 3, 1) := by decide +kernel
theorem dX7_fault_39 : decode cX7_fault 39 = .ok (.ishr, 1) := by decide +kernel
theorem dX7_fault_40 : decode cX7_fault 40 = .ok (.iload_n 2, 1) := by decide +kernel
theorem dX7_fault_41 : decode cX7_fault 41 = .ok (.iload 4, 2) := by decide +kernel
theorem dX7_fault_43 : decode cX7_fault 43 = .ok (.ishr, 1) := by decide +kernel
theorem dX7_fault_44 : decode cX7_fault 44 = .ok (.iand, 1) := by decide +kernel
theorem dX7_fault_45 : decode cX7_fault 45 = .ok (.iconst 1, 1) := by decide +kernel
theorem dX7_fault_46 : decode cX7_fault 46 = .ok (.iand, 1) := by decide +kernel
theorem dX7_fault_47 : decode cX7_fault 47 = .ok (.iconst 1, 1) := by decide +kernel
theorem dX7_fault_48 : decode cX7_fault 48 = .ok (.if_icmp .ne 5, 3) := by decide +kernel
theorem dX7_fault_51 : decode cX7_fault 51 = .ok (.iconst 1, 1) := by decide +kernel
theorem dX7_fault_52 : decode cX7_fault 52 = .ok (.ireturn, 1) := by decide +kernel
theorem dX7_fault_53 : decode cX7_fault 53 = .ok (.iinc 4 1, 3) := by decide +kernel
theorem dX7_fault_56 : decode cX7_fault 56 = .ok (.goto (-43), 3) := by decide +kernel
theorem dX7_fault_59 : decode cX7_fault 59 = .ok (.iinc 3 1, 3) := by decide +kernel
theorem dX7_fault_62 : decode cX7_fault 62 = .ok (.goto (-60), 3) := by decide +kernel
theorem dX7_fault_65 : decode cX7_fault 65 = .ok (.iconst 0, 1) := by decide +kernel
theorem dX7_fault_66 : decode cX7_fault 66 = .ok (.istore_n 3, 1) := by decide +kernel
theorem dX7_fault_67 : decode cX7_fault 67 = .ok (.iload_n 3, 1) := by decide +kernel
theorem dX7_fault_68 : decode cX7_fault 68 = .ok (.aload_n 0, 1) := by decide +kernel
theorem dX7_fault_69 : decode cX7_fault 69 = .ok (.getfield 82, 3) := by decide +kernel
theorem dX7_fault_72 : decode cX7_fault 72 = .ok (.if_icmp .ge 98, 3) := by decide +kernel
theorem dX7_fault_75 : decode cX7_fault 75 = .ok (.iload_n 2, 1) := by decide +kernel
theorem dX7_fault_76 : decode cX7_fault 76 = .ok (.iload_n 3, 1) := by decide +kernel
theorem dX7_fault_77 : decode cX7_fault 77 = .ok (.ishr, 1) := by decide +kernel
theorem dX7_fault_78 : decode cX7_fault 78 = .ok (.iconst 1, 1) := by decide +kernel
theorem dX7_fault_79 : decode cX7_fault 79 = .ok (.iand, 1) := by decide +kernel
theorem dX7_fault_80 : decode cX7_fault 80 = .ok (.ifCond .eq 84, 3) := by decide +kernel
theorem dX7_fault_83 : decode cX7_fault 83 = .ok (.iload_n 1, 1) := by decide +kernel
theorem dX7_fault_84 : decode cX7_fault 84 = .ok (.iload_n 3, 1) := by decide +kernel
theorem dX7_fault_85 : decode cX7_fault 85 = .ok (.ishr, 1) := by decide +kernel
theorem dX7_fault_86 : decode cX7_fault 86 = .ok (.iconst 1, 1) := by decide +kernel
theorem dX7_fault_87 : decode cX7_fault 87 = .ok (.iand, 1) := by decide +kernel
theorem dX7_fault_88 : decode cX7_fault 88 = .ok (.iconst 1, 1) := by decide +kernel
theorem dX7_fault_89 : decode cX7_fault 89 = .ok (.if_icmp .ne 6, 3) := by decide +kernel
theorem dX7_fault_92 : decode cX7_fault 92 = .ok (.goto 72, 3) := by decide +kernel
theorem dX7_fault_95 : decode cX7_fault 95 = .ok (.iconst 0, 1) := by decide +kernel
theorem dX7_fault_96 : decode cX7_fault 96 = .ok (.istore 4, 2) := by decide +kernel
theorem dX7_fault_98 : decode cX7_fault 98 = .ok (.iload 4, 2) := by decide +kernel
theorem dX7_fault_100 : decode cX7_fault 100 = .ok (.aload_n 0, 1) := by decide +kernel
theorem dX7_fault_101 : decode cX7_fault 101 = .ok (.getfield 82, 3) := by decide +kernel
theorem dX7_fault_104 : decode cX7_fault 104 = .ok (.if_icmp .ge 60, 3) := by decide +kernel
theorem dX7_fault_107 : decode cX7_fault 107 = .ok (.aload_n 0, 1) := by decide +kernel
theorem dX7_fault_108 : decode cX7_fault 108 = .ok (.getfield 7, 3) := by decide +kernel
theorem dX7_fault_111 : decode cX7_fault 111 = .ok (.bipush 6, 2) := by decide +kernel
theorem dX7_fault_113 : decode cX7_fault 113 = .ok (.iload 4, 2) := by decide +kernel
theorem dX7_fault_115 : decode cX7_fault 115 = .ok (.imul, 1) := by decide +kernel
theorem dX7_fault_116 : decode cX7_fault 116 = .ok (.iload_n 3, 1) := by decide +kernel
theorem dX7_fault_117 : decode cX7_fault 117 = .ok (.iadd, 1) := by decide +kernel
theorem dX7_fault_118 : decode cX7_fault 118 = .ok (.baload, 1) := by decide +kernel
theorem dX7_fault_119 : decode cX7_fault 119 = .ok (.ifCond .eq 39, 3) := by decide +kernel
theorem dX7_fault_122 : decode cX7_fault 122 = .ok (.iload_n 2, 1) := by decide +kernel
theorem dX7_fault_123 : decode cX7_fault 123 = .ok (.iload 4, 2) := by decide +kernel
theorem dX7_fault_125 : decode cX7_fault 125 = .ok (.ishr, 1) := by decide +kernel
theorem dX7_fault_126 : decode cX7_fault 126 = .ok (.iconst 1, 1) := by decide +kernel
theorem dX7_fault_127 : decode cX7_fault 127 = .ok (.iand, 1) := by decide +kernel
theorem dX7_fault_128 : decode cX7_fault 128 = .ok (.ifCond .ne 30, 3) := by decide +kernel
theorem dX7_fault_131 : decode cX7_fault 131 = .ok (.aload_n 0, 1) := by decide +kernel
theorem dX7_fault_132 : decode cX7_fault 132 = .ok (.getfield 47, 3) := by decide +kernel
theorem dX7_fault_135 : decode cX7_fault 135 = .ok (.bipush 8, 2) := by decide +kernel
theorem dX7_fault_137 : decode cX7_fault 137 = .ok (.iload 4, 2) := by decide +kernel
theorem dX7_fault_139 : decode cX7_fault 139 = .ok (.iadd, 1) := by decide +kernel
theorem dX7_fault_140 : decode cX7_fault 140 = .ok (.iaload, 1) := by decide +kernel
theorem dX7_fault_141 : decode cX7_fault 141 = .ok (.aload_n 0, 1) := by decide +kernel
theorem dX7_fault_142 : decode cX7_fault 142 = .ok (.getfield 13, 3) := by decide +kernel
theorem dX7_fault_145 : decode cX7_fault 145 = .ok (.bipush 6, 2) := by decide +kernel
theorem dX7_fault_147 : decode cX7_fault 147 = .ok (.iload 4, 2) := by decide +kernel
theorem dX7_fault_149 : decode cX7_fault 149 = .ok (.imul, 1) := by decide +kernel
theorem dX7_fault_150 : decode cX7_fault 150 = .ok (.iload_n 3, 1) := by decide +kernel
theorem dX7_fault_151 : decode cX7_fault 151 = .ok (.iadd, 1) := by decide +kernel
theorem dX7_fault_152 : decode cX7_fault 152 = .ok (.iaload, 1) := by decide +kernel
theorem dX7_fault_153 : decode cX7_fault 153 = .ok (.if_icmp .ge 5, 3) := by decide +kernel
theorem dX7_fault_156 : decode cX7_fault 156 = .ok (.iconst 2, 1) := by decide +kernel
theorem dX7_fault_157 : decode cX7_fault 157 = .ok (.ireturn, 1) := by decide +kernel
theorem dX7_fault_158 : decode cX7_fault 158 = .ok (.iinc 4 1, 3) := by decide +kernel
theorem dX7_fault_161 : decode cX7_fault 161 = .ok (.goto (-63), 3) := by decide +kernel
theorem dX7_fault_164 : decode cX7_fault 164 = .ok (.iinc 3 1, 3) := by decide +kernel
theorem dX7_fault_167 : decode cX7_fault 167 = .ok (.goto (-100), 3) := by decide +kernel
theorem dX7_fault_170 : decode cX7_fault 170 = .ok (.iconst 0, 1) := by decide +kernel
theorem dX7_fault_171 : decode cX7_fault 171 = .ok (.istore_n 3, 1) := by decide +kernel
theorem dX7_fault_172 : decode cX7_fault 172 = .ok (.iload_n 3, 1) := by decide +kernel
theorem dX7_fault_173 : decode cX7_fault 173 = .ok (.aload_n 0, 1) := by decide +kernel
theorem dX7_fault_174 : decode cX7_fault 174 = .ok (.getfield 82, 3) := by decide +kernel
theorem dX7_fault_177 : decode cX7_fault 177 = .ok (.if_icmp .ge 46, 3) := by decide +kernel
theorem dX7_fault_180 : decode cX7_fault 180 = .ok (.iload_n 1, 1) := by decide +kernel
theorem dX7_fault_181 : decode cX7_fault 181 = .ok (.iload_n 3, 1) := by decide +kernel
theorem dX7_fault_182 : decode cX7_fault 182 = .ok (.ishr, 1) := by decide +kernel
theorem dX7_fault_183 : decode cX7_fault 183 = .ok (.iconst 1, 1) := by decide +kernel
theorem dX7_fault_184 : decode cX7_fault 184 = .ok (.iand, 1) := by decide +kernel
theorem dX7_fault_185 : decode cX7_fault 185 = .ok (.iconst 1, 1) := by decide +kernel
theorem dX7_fault_186 : decode cX7_fault 186 = .ok (.if_icmp .ne 31, 3) := by decide +kernel
theorem dX7_fault_189 : decode cX7_fault 189 = .ok (.iload_n 2, 1) := by decide +kernel
theorem dX7_fault_190 : decode cX7_fault 190 = .ok (.iload_n 3, 1) := by decide +kernel
theorem dX7_fault_191 : decode cX7_fault 191 = .ok (.ishr, 1) := by decide +kernel
theorem dX7_fault_192 : decode cX7_fault 192 = .ok (.iconst 1, 1) := by decide +kernel
theorem dX7_fault_193 : decode cX7_fault 193 = .ok (.iand, 1) := by decide +kernel
theorem dX7_fault_194 : decode cX7_fault 194 = .ok (.ifCond .ne 23, 3) := by decide +kernel
theorem dX7_fault_197 : decode cX7_fault 197 = .ok (.aload_n 0, 1) := by decide +kernel
theorem dX7_fault_198 : decode cX7_fault 198 = .ok (.getfield 50, 3) := by decide +kernel
theorem dX7_fault_201 : decode cX7_fault 201 = .ok (.bipush 8, 2) := by decide +kernel
theorem dX7_fault_203 : decode cX7_fault 203 = .ok (.iload_n 3, 1) := by decide +kernel
theorem dX7_fault_204 : decode cX7_fault 204 = .ok (.iadd, 1) := by decide +kernel
theorem dX7_fault_205 : decode cX7_fault 205 = .ok (.iaload, 1) := by decide +kernel
theorem dX7_fault_206 : decode cX7_fault 206 = .ok (.aload_n 0, 1) := by decide +kernel
theorem dX7_fault_207 : decode cX7_fault 207 = .ok (.getfield 17, 3) := by decide +kernel
theorem dX7_fault_210 : decode cX7_fault 210 = .ok (.iload_n 3, 1) := by decide +kernel
theorem dX7_fault_211 : decode cX7_fault 211 = .ok (.iaload, 1) := by decide +kernel
theorem dX7_fault_212 : decode cX7_fault 212 = .ok (.if_icmp .ge 5, 3) := by decide +kernel
theorem dX7_fault_215 : decode cX7_fault 215 = .ok (.iconst 3, 1) := by decide +kernel
theorem dX7_fault_216 : decode cX7_fault 216 = .ok (.ireturn, 1) := by decide +kernel
theorem dX7_fault_217 : decode cX7_fault 217 = .ok (.iinc 3 1, 3) := by decide +kernel
theorem dX7_fault_220 : decode cX7_fault 220 = .ok (.goto (-48), 3) := by decide +kernel
theorem dX7_fault_223 : decode cX7_fault 223 = .ok (.iconst 0, 1) := by decide +kernel
theorem dX7_fault_224 : decode cX7_fault 224 = .ok (.istore_n 3, 1) := by decide +kernel
theorem dX7_fault_225 : decode cX7_fault 225 = .ok (.iload_n 3, 1) := by decide +kernel
theorem dX7_fault_226 : decode cX7_fault 226 = .ok (.aload_n 0, 1) := by decide +kernel
theorem dX7_fault_227 : decode cX7_fault 227 = .ok (.getfield 82, 3) := by decide +kernel
theorem dX7_fault_230 : decode cX7_fault 230 = .ok (.if_icmp .ge 89, 3) := by decide +kernel
theorem dX7_fault_233 : decode cX7_fault 233 = .ok (.iload_n 2, 1) := by decide +kernel
theorem dX7_fault_234 : decode cX7_fault 234 = .ok (.iload_n 3, 1) := by decide +kernel
theorem dX7_fault_235 : decode cX7_fault 235 = .ok (.ishr, 1) := by decide +kernel
theorem dX7_fault_236 : decode cX7_fault 236 = .ok (.iconst 1, 1) := by decide +kernel
theorem dX7_fault_237 : decode cX7_fault 237 = .ok (.iand, 1) := by decide +kernel
theorem dX7_fault_238 : decode cX7_fault 238 = .ok (.ifCond .eq 75, 3) := by decide +kernel
theorem dX7_fault_241 : decode cX7_fault 241 = .ok (.aload_n 0, 1) := by decide +kernel
theorem dX7_fault_242 : decode cX7_fault 242 = .ok (.getfield 47, 3) := by decide +kernel
theorem dX7_fault_245 : decode cX7_fault 245 = .ok (.bipush 8, 2) := by decide +kernel
theorem dX7_fault_247 : decode cX7_fault 247 = .ok (.iload_n 3, 1) := by decide +kernel
theorem dX7_fault_248 : decode cX7_fault 248 = .ok (.iadd, 1) := by decide +kernel
theorem dX7_fault_249 : decode cX7_fault 249 = .ok (.iaload, 1) := by decide +kernel
theorem dX7_fault_250 : decode cX7_fault 250 = .ok (.aload_n 0, 1) := by decide +kernel
theorem dX7_fault_251 : decode cX7_fault 251 = .ok (.getfield 20, 3) := by decide +kernel
theorem dX7_fault_254 : decode cX7_fault 254 = .ok (.iload_n 3, 1) := by decide +kernel
theorem dX7_fault_255 : decode cX7_fault 255 = .ok (.iaload, 1) := by decide +kernel
theorem dX7_fault_256 : decode cX7_fault 256 = .ok (.if_icmp .gt 6, 3) := by decide +kernel
theorem dX7_fault_259 : decode cX7_fault 259 = .ok (.goto 54, 3) := by decide +kernel
theorem dX7_fault_262 : decode cX7_fault 262 = .ok (.iconst 0, 1) := by decide +kernel
theorem dX7_fault_263 : decode cX7_fault 263 = .ok (.istore 4, 2) := by decide +kernel
theorem dX7_fault_265 : decode cX7_fault 265 = .ok (.iload 4, 2) := by decide +kernel
theorem dX7_fault_267 : decode cX7_fault 267 = .ok (.aload_n 0, 1) := by decide +kernel
theorem dX7_fault_268 : decode cX7_fault 268 = .ok (.getfield 82, 3) := by decide +kernel
theorem dX7_fault_271 : decode cX7_fault 271 = .ok (.if_icmp .ge 42, 3) := by decide +kernel
theorem dX7_fault_274 : decode cX7_fault 274 = .ok (.aload_n 0, 1) := by decide +kernel
theorem dX7_fault_275 : decode cX7_fault 275 = .ok (.getfield 7, 3) := by decide +kernel
theorem dX7_fault_278 : decode cX7_fault 278 = .ok (.bipush 6, 2) := by decide +kernel
theorem dX7_fault_280 : decode cX7_fault 280 = .ok (.iload_n 3, 1) := by decide +kernel
theorem dX7_fault_281 : decode cX7_fault 281 = .ok (.imul, 1) := by decide +kernel
theorem dX7_fault_282 : decode cX7_fault 282 = .ok (.iload 4, 2) := by decide +kernel
theorem dX7_fault_284 : decode cX7_fault 284 = .ok (.iadd, 1) := by decide +kernel
theorem dX7_fault_285 : decode cX7_fault 285 = .ok (.baload, 1) := by decide +kernel
theorem dX7_fault_286 : decode cX7_fault 286 = .ok (.ifCond .eq 21, 3) := by decide +kernel
theorem dX7_fault_289 : decode cX7_fault 289 = .ok (.aload_n 0, 1) := by decide +kernel
theorem dX7_fault_290 : decode cX7_fault 290 = .ok (.getfield 47, 3) := by decide +kernel
theorem dX7_fault_293 : decode cX7_fault 293 = .ok (.bipush 7, 2) := by decide +kernel
theorem dX7_fault_295 : decode cX7_fault 295 = .ok (.iaload, 1) := by decide +kernel
theorem dX7_fault_296 : decode cX7_fault 296 = .ok (.iload 4, 2) := by decide +kernel
theorem dX7_fault_298 : decode cX7_fault 298 = .ok (.ishr, 1) := by decide +kernel
theorem dX7_fault_299 : decode cX7_fault 299 = .ok (.iconst 1, 1) := by decide +kernel
theorem dX7_fault_300 : decode cX7_fault 300 = .ok (.iand, 1) := by decide +kernel
theorem dX7_fault_301 : decode cX7_fault 301 = .ok (.iconst 1, 1) := by decide +kernel
theorem dX7_fault_302 : decode cX7_fault 302 = .ok (.if_icmp .ne 5, 3) := by decide +kernel
theorem dX7_fault_305 : decode cX7_fault 305 = .ok (.iconst 4, 1) := by decide +kernel
theorem dX7_fault_306 : decode cX7_fault 306 = .ok (.ireturn, 1) := by decide +kernel
theorem dX7_fault_307 : decode cX7_fault 307 = .ok (.iinc 4 1, 3) := by decide +kernel
theorem dX7_fault_310 : decode cX7_fault 310 = .ok (.goto (-45), 3) := by decide +kernel
theorem dX7_fault_313 : decode cX7_fault 313 = .ok (.iinc 3 1, 3) := by decide +kernel
theorem dX7_fault_316 : decode cX7_fault 316 = .ok (.goto (-91), 3) := by decide +kernel
theorem dX7_fault_319 : decode cX7_fault 319 = .ok (.iconst 0, 1) := by decide +kernel
theorem dX7_fault_320 : decode cX7_fault 320 = .ok (.ireturn, 1) := by decide +kernel
theorem dX7_tell_0 : decode cX7_tell 0 = .ok (.iload_n 1, 1) := by decide +kernel
theorem dX7_tell_1 : decode cX7_tell 1 = .ok (.aload_n 0, 1) := by decide +kernel
theorem dX7_tell_2 : decode cX7_tell 2 = .ok (.getfield 97, 3) := by decide +kernel
theorem dX7_tell_5 : decode cX7_tell 5 = .ok (.if_icmp .le 12, 3) := by decide +kernel
theorem dX7_tell_8 : decode cX7_tell 8 = .ok (.aload_n 0, 1) := by decide +kernel
theorem dX7_tell_9 : decode cX7_tell 9 = .ok (.getfield 94, 3) := by decide +kernel
theorem dX7_tell_12 : decode cX7_tell 12 = .ok (.bipush 60, 2) := by decide +kernel
theorem dX7_tell_14 : decode cX7_tell 14 = .ok (.if_icmp .ne 5, 3) := by decide +kernel
theorem dX7_tell_17 : decode cX7_tell 17 = .ok (.iconst 0, 1) := by decide +kernel
theorem dX7_tell_18 : decode cX7_tell 18 = .ok (.ireturn, 1) := by decide +kernel
theorem dX7_tell_19 : decode cX7_tell 19 = .ok (.iconst 0, 1) := by decide +kernel
theorem dX7_tell_20 : decode cX7_tell 20 = .ok (.istore_n 3, 1) := by decide +kernel
theorem dX7_tell_21 : decode cX7_tell 21 = .ok (.iload_n 3, 1) := by decide +kernel
theorem dX7_tell_22 : decode cX7_tell 22 = .ok (.aload_n 0, 1) := by decide +kernel
theorem dX7_tell_23 : decode cX7_tell 23 = .ok (.getfield 94, 3) := by decide +kernel
theorem dX7_tell_26 : decode cX7_tell 26 = .ok (.if_icmp .ge 21, 3) := by decide +kernel
theorem dX7_tell_29 : decode cX7_tell 29 = .ok (.aload_n 0, 1) := by decide +kernel
theorem dX7_tell_30 : decode cX7_tell 30 = .ok (.getfield 38, 3) := by decide +kernel
theorem dX7_tell_33 : decode cX7_tell 33 = .ok (.iload_n 3, 1) := by decide +kernel
theorem dX7_tell_34 : decode cX7_tell 34 = .ok (.iaload, 1) := by decide +kernel
theorem dX7_tell_35 : decode cX7_tell 35 = .ok (.iload_n 1, 1) := by decide +kernel
theorem dX7_tell_36 : decode cX7_tell 36 = .ok (.if_icmp .ne 5, 3) := by decide +kernel
theorem dX7_tell_39 : decode cX7_tell 39 = .ok (.iconst 0, 1) := by decide +kernel
theorem dX7_tell_40 : decode cX7_tell 40 = .ok (.ireturn, 1) := by decide +kernel
theorem dX7_tell_41 : decode cX7_tell 41 = .ok (.iinc 3 1, 3) := by decide +kernel
theorem dX7_tell_44 : decode cX7_tell 44 = .ok (.goto (-23), 3) := by decide +kernel
theorem dX7_tell_47 : decode cX7_tell 47 = .ok (.aload_n 0, 1) := by decide +kernel
theorem dX7_tell_48 : decode cX7_tell 48 = .ok (.getfield 38, 3) := by decide +kernel
theorem dX7_tell_51 : decode cX7_tell 51 = .ok (.aload_n 0, 1) := by decide +kernel
theorem dX7_tell_52 : decode cX7_tell 52 = .ok (.getfield 94, 3) := by decide +kernel
theorem dX7_tell_55 : decode cX7_tell 55 = .ok (.iload_n 1, 1) := by decide +kernel
theorem dX7_tell_56 : decode cX7_tell 56 = .ok (.iastore, 1) := by decide +kernel
theorem dX7_tell_57 : decode cX7_tell 57 = .ok (.aload_n 0, 1) := by decide +kernel
theorem dX7_tell_58 : decode cX7_tell 58 = .ok (.getfield 41, 3) := by decide +kernel
theorem dX7_tell_61 : decode cX7_tell 61 = .ok (.aload_n 0, 1) := by decide +kernel
theorem dX7_tell_62 : decode cX7_tell 62 = .ok (.getfield 94, 3) := by decide +kernel
theorem dX7_tell_65 : decode cX7_tell 65 = .ok (.iload_n 2, 1) := by decide +kernel
theorem dX7_tell_66 : decode cX7_tell 66 = .ok (.iastore, 1) := by decide +kernel
theorem dX7_tell_67 : decode cX7_tell 67 = .ok (.aload_n 0, 1) := by decide +kernel
theorem dX7_tell_68 : decode cX7_tell 68 = .ok (.dup, 1) := by decide +kernel
theorem dX7_tell_69 : decode cX7_tell 69 = .ok (.getfield 94, 3) := by decide +kernel
theorem dX7_tell_72 : decode cX7_tell 72 = .ok (.iconst 1, 1) := by decide +kernel
theorem dX7_tell_73 : decode cX7_tell 73 = .ok (.iadd, 1) := by decide +kernel
theorem dX7_tell_74 : decode cX7_tell 74 = .ok (.putfield 94, 3) := by decide +kernel
theorem dX7_tell_77 : decode cX7_tell 77 = .ok (.iconst 1, 1) := by decide +kernel
theorem dX7_tell_78 : decode cX7_tell 78 = .ok (.ireturn, 1) := by decide +kernel
theorem dX7_call_0 : decode cX7_call 0 = .ok (.aload_n 0, 1) := by decide +kernel
theorem dX7_call_1 : decode cX7_call 1 = .ok (.iconst 0, 1) := by decide +kernel
theorem dX7_call_2 : decode cX7_call 2 = .ok (.putfield 79, 3) := by decide +kernel
theorem dX7_call_5 : decode cX7_call 5 = .ok (.aload_n 0, 1) := by decide +kernel
theorem dX7_call_6 : decode cX7_call 6 = .ok (.iload_n 1, 1) := by decide +kernel
theorem dX7_call_7 : decode cX7_call 7 = .ok (.invokevirtual 106, 3) := by decide +kernel
theorem dX7_call_10 : decode cX7_call 10 = .ok (.ifCond .eq 18, 3) := by decide +kernel
theorem dX7_call_13 : decode cX7_call 13 = .ok (.aload_n 0, 1) := by decide +kernel
theorem dX7_call_14 : decode cX7_call 14 = .ok (.iload_n 2, 1) := by decide +kernel
theorem dX7_call_15 : decode cX7_call 15 = .ok (.iconst 1, 1) := by decide +kernel
theorem dX7_call_16 : decode cX7_call 16 = .ok (.iload_n 1, 1) := by decide +kernel
theorem dX7_call_17 : decode cX7_call 17 = .ok (.iadd, 1) := by decide +kernel
theorem dX7_call_18 : decode cX7_call 18 = .ok (.invokevirtual 146, 3) := by decide +kernel
theorem dX7_call_21 : decode cX7_call 21 = .ok (.ifCond .eq 7, 3) := by decide +kernel
theorem dX7_call_24 : decode cX7_call 24 = .ok (.iconst 1, 1) := by decide +kernel
theorem dX7_call_25 : decode cX7_call 25 = .ok (.goto 4, 3) := by decide +kernel
theorem dX7_call_28 : decode cX7_call 28 = .ok (.iconst 0, 1) := by decide +kernel
theorem dX7_call_29 : decode cX7_call 29 = .ok (.ireturn, 1) := by decide +kernel
theorem dX7_plan_0 : decode cX7_plan 0 = .ok (.aload_n 0, 1) := by decide +kernel
theorem dX7_plan_1 : decode cX7_plan 1 = .ok (.iconst 0, 1) := by decide +kernel
theorem dX7_plan_2 : decode cX7_plan 2 = .ok (.putfield 79, 3) := by decide +kernel
theorem dX7_plan_5 : decode cX7_plan 5 = .ok (.iload_n 1, 1) := by decide +kernel
theorem dX7_plan_6 : decode cX7_plan 6 = .ok (.ifCond .lt 31, 3) := by decide +kernel
theorem dX7_plan_9 : decode cX7_plan 9 = .ok (.iload_n 1, 1) := by decide +kernel
theorem dX7_plan_10 : decode cX7_plan 10 = .ok (.aload_n 0, 1) := by decide +kernel
theorem dX7_plan_11 : decode cX7_plan 11 = .ok (.getfield 85, 3) := by decide +kernel
theorem dX7_plan_14 : decode cX7_plan 14 = .ok (.if_icmp .ge 23, 3) := by decide +kernel
theorem dX7_plan_17 : decode cX7_plan 17 = .ok (.aload_n 0, 1) := by decide +kernel
theorem dX7_plan_18 : decode cX7_plan 18 = .ok (.iload_n 2, 1) := by decide +kernel
theorem dX7_plan_19 : decode cX7_plan 19 = .ok (.iconst 1, 1) := by decide +kernel
theorem dX7_plan_20 : decode cX7_plan 20 = .ok (.aload_n 0, 1) := by decide +kernel
theorem dX7_plan_21 : decode cX7_plan 21 = .ok (.getfield 82, 3) := by decide +kernel
theorem dX7_plan_24 : decode cX7_plan 24 = .ok (.iadd, 1) := by decide +kernel
theorem dX7_plan_25 : decode cX7_plan 25 = .ok (.iload_n 1, 1) := by decide +kernel
theorem dX7_plan_26 : decode cX7_plan 26 = .ok (.iadd, 1) := by decide +kernel
theorem dX7_plan_27 : decode cX7_plan 27 = .ok (.invokevirtual 146, 3) := by decide +kernel
theorem dX7_plan_30 : decode cX7_plan 30 = .ok (.ifCond .eq 7, 3) := by decide +kernel
theorem dX7_plan_33 : decode cX7_plan 33 = .ok (.iconst 1, 1) := by decide +kernel
theorem dX7_plan_34 : decode cX7_plan 34 = .ok (.goto 4, 3) := by decide +kernel
theorem dX7_plan_37 : decode cX7_plan 37 = .ok (.iconst 0, 1) := by decide +kernel
theorem dX7_plan_38 : decode cX7_plan 38 = .ok (.ireturn, 1) := by decide +kernel
theorem dX7_eventOf_0 : decode cX7_eventOf 0 = .ok (.iconst 0, 1) := by decide +kernel
theorem dX7_eventOf_1 : decode cX7_eventOf 1 = .ok (.istore_n 2, 1) := by decide +kernel
theorem dX7_eventOf_2 : decode cX7_eventOf 2 = .ok (.iconst 0, 1) := by decide +kernel
theorem dX7_eventOf_3 : decode cX7_eventOf 3 = .ok (.istore_n 3, 1) := by decide +kernel
theorem dX7_eventOf_4 : decode cX7_eventOf 4 = .ok (.iload_n 3, 1) := by decide +kernel
theorem dX7_eventOf_5 : decode cX7_eventOf 5 = .ok (.aload_n 0, 1) := by decide +kernel
theorem dX7_eventOf_6 : decode cX7_eventOf 6 = .ok (.getfield 94, 3) := by decide +kernel
theorem dX7_eventOf_9 : decode cX7_eventOf 9 = .ok (.if_icmp .ge 30, 3) := by decide +kernel
theorem dX7_eventOf_12 : decode cX7_eventOf 12 = .ok (.aload_n 0, 1) := by decide +kernel
theorem dX7_eventOf_13 : decode cX7_eventOf 13 = .ok (.getfield 38, 3) := by decide +kernel
theorem dX7_eventOf_16 : decode cX7_eventOf 16 = .ok (.iload_n 3, 1) := by decide +kernel
theorem dX7_eventOf_17 : decode cX7_eventOf 17 = .ok (.iaload, 1) := by decide +kernel
theorem dX7_eventOf_18 : decode cX7_eventOf 18 = .ok (.iload_n 1, 1) := by decide +kernel
theorem dX7_eventOf_19 : decode cX7_eventOf 19 = .ok (.if_icmp .ne 12, 3) := by decide +kernel
theorem dX7_eventOf_22 : decode cX7_eventOf 22 = .ok (.aload_n 0, 1) := by decide +kernel
theorem dX7_eventOf_23 : decode cX7_eventOf 23 = .ok (.getfield 41, 3) := by decide +kernel
theorem dX7_eventOf_26 : decode cX7_eventOf 26 = .ok (.iload_n 3, 1) := by decide +kernel
theorem dX7_eventOf_27 : decode cX7_eventOf 27 = .ok (.iaload, 1) := by decide +kernel
theorem dX7_eventOf_28 : decode cX7_eventOf 28 = .ok (.goto 4, 3) := by decide +kernel
theorem dX7_eventOf_31 : decode cX7_eventOf 31 = .ok (.iload_n 2, 1) := by decide +kernel
theorem dX7_eventOf_32 : decode cX7_eventOf 32 = .ok (.istore_n 2, 1) := by decide +kernel
theorem dX7_eventOf_33 : decode cX7_eventOf 33 = .ok (.iinc 3 1, 3) := by decide +kernel
theorem dX7_eventOf_36 : decode cX7_eventOf 36 = .ok (.goto (-32), 3) := by decide +kernel
theorem dX7_eventOf_39 : decode cX7_eventOf 39 = .ok (.iload_n 2, 1) := by decide +kernel
theorem dX7_eventOf_40 : decode cX7_eventOf 40 = .ok (.ireturn, 1) := by decide +kernel
theorem dX7_take_0 : decode cX7_take 0 = .ok (.iconst 0, 1) := by decide +kernel
theorem dX7_take_1 : decode cX7_take 1 = .ok (.istore_n 1, 1) := by decide +kernel
theorem dX7_take_2 : decode cX7_take 2 = .ok (.iload_n 1, 1) := by decide +kernel
theorem dX7_take_3 : decode cX7_take 3 = .ok (.bipush 14, 2) := by decide +kernel
theorem dX7_take_5 : decode cX7_take 5 = .ok (.if_icmp .ge 21, 3) := by decide +kernel
theorem dX7_take_8 : decode cX7_take 8 = .ok (.aload_n 0, 1) := by decide +kernel
theorem dX7_take_9 : decode cX7_take 9 = .ok (.getfield 47, 3) := by decide +kernel
theorem dX7_take_12 : decode cX7_take 12 = .ok (.iload_n 1, 1) := by decide +kernel
theorem dX7_take_13 : decode cX7_take 13 = .ok (.aload_n 0, 1) := by decide +kernel
theorem dX7_take_14 : decode cX7_take 14 = .ok (.getfield 44, 3) := by decide +kernel
theorem dX7_take_17 : decode cX7_take 17 = .ok (.iload_n 1, 1) := by decide +kernel
theorem dX7_take_18 : decode cX7_take 18 = .ok (.iaload, 1) := by decide +kernel
theorem dX7_take_19 : decode cX7_take 19 = .ok (.iastore, 1) := by decide +kernel
theorem dX7_take_20 : decode cX7_take 20 = .ok (.iinc 1 1, 3) := by decide +kernel
theorem dX7_take_23 : decode cX7_take 23 = .ok (.goto (-21), 3) := by decide +kernel
theorem dX7_take_26 : decode cX7_take 26 = .ok (.return_, 1) := by decide +kernel
theorem dX7_second_0 : decode cX7_second 0 = .ok (.aload_n 0, 1) := by decide +kernel
theorem dX7_second_1 : decode cX7_second 1 = .ok (.iconst 0, 1) := by decide +kernel
theorem dX7_second_2 : decode cX7_second 2 = .ok (.putfield 79, 3) := by decide +kernel
theorem dX7_second_5 : decode cX7_second 5 = .ok (.aload_n 0, 1) := by decide +kernel
theorem dX7_second_6 : decode cX7_second 6 = .ok (.getfield 85, 3) := by decide +kernel
theorem dX7_second_9 : decode cX7_second 9 = .ok (.ifCond .ne 5, 3) := by decide +kernel
theorem dX7_second_12 : decode cX7_second 12 = .ok (.iconst (-1), 1) := by decide +kernel
theorem dX7_second_13 : decode cX7_second 13 = .ok (.ireturn, 1) := by decide +kernel
theorem dX7_second_14 : decode cX7_second 14 = .ok (.aload_n 0, 1) := by decide +kernel
theorem dX7_second_15 : decode cX7_second 15 = .ok (.invokevirtual 150, 3) := by decide +kernel
theorem dX7_second_18 : decode cX7_second 18 = .ok (.aload_n 0, 1) := by decide +kernel
theorem dX7_second_19 : decode cX7_second 19 = .ok (.dup, 1) := by decide +kernel
theorem dX7_second_20 : decode cX7_second 20 = .ok (.getfield 97, 3) := by decide +kernel
theorem dX7_second_23 : decode cX7_second 23 = .ok (.iconst 1, 1) := by decide +kernel
theorem dX7_second_24 : decode cX7_second 24 = .ok (.iadd, 1) := by decide +kernel
theorem dX7_second_25 : decode cX7_second 25 = .ok (.putfield 97, 3) := by decide +kernel
theorem dX7_second_28 : decode cX7_second 28 = .ok (.aload_n 0, 1) := by decide +kernel
theorem dX7_second_29 : decode cX7_second 29 = .ok (.aload_n 0, 1) := by decide +kernel
theorem dX7_second_30 : decode cX7_second 30 = .ok (.aload_n 0, 1) := by decide +kernel
theorem dX7_second_31 : decode cX7_second 31 = .ok (.getfield 97, 3) := by decide +kernel
theorem dX7_second_34 : decode cX7_second 34 = .ok (.invokevirtual 153, 3) := by decide +kernel
theorem dX7_second_37 : decode cX7_second 37 = .ok (.invokevirtual 156, 3) := by decide +kernel
theorem dX7_second_40 : decode cX7_second 40 = .ok (.istore_n 1, 1) := by decide +kernel
theorem dX7_second_41 : decode cX7_second 41 = .ok (.iconst 0, 1) := by decide +kernel
theorem dX7_second_42 : decode cX7_second 42 = .ok (.istore_n 2, 1) := by decide +kernel
theorem dX7_second_43 : decode cX7_second 43 = .ok (.iload_n 2, 1) := by decide +kernel
theorem dX7_second_44 : decode cX7_second 44 = .ok (.bipush 14, 2) := by decide +kernel
theorem dX7_second_46 : decode cX7_second 46 = .ok (.if_icmp .ge 21, 3) := by decide +kernel
theorem dX7_second_49 : decode cX7_second 49 = .ok (.aload_n 0, 1) := by decide +kernel
theorem dX7_second_50 : decode cX7_second 50 = .ok (.getfield 44, 3) := by decide +kernel
theorem dX7_second_53 : decode cX7_second 53 = .ok (.iload_n 2, 1) := by decide +kernel
theorem dX7_second_54 : decode cX7_second 54 = .ok (.aload_n 0, 1) := by decide +kernel
theorem dX7_second_55 : decode cX7_second 55 = .ok (.getfield 47, 3) := by decide +kernel
theorem dX7_second_58 : decode cX7_second 58 = .ok (.iload_n 2, 1) := by decide +kernel
theorem dX7_second_59 : decode cX7_second 59 = .ok (.iaload, 1) := by decide +kernel
theorem dX7_second_60 : decode cX7_second 60 = .ok (.iastore, 1) := by decide +kernel
theorem dX7_second_61 : decode cX7_second 61 = .ok (.iinc 2 1, 3) := by decide +kernel
theorem dX7_second_64 : decode cX7_second 64 = .ok (.goto (-21), 3) := by decide +kernel
theorem dX7_second_67 : decode cX7_second 67 = .ok (.iload_n 1, 1) := by decide +kernel
theorem dX7_second_68 : decode cX7_second 68 = .ok (.ireturn, 1) := by decide +kernel
theorem dX7_told_0 : decode cX7_told 0 = .ok (.aload_n 0, 1) := by decide +kernel
theorem dX7_told_1 : decode cX7_told 1 = .ok (.iconst 0, 1) := by decide +kernel
theorem dX7_told_2 : decode cX7_told 2 = .ok (.putfield 79, 3) := by decide +kernel
theorem dX7_told_5 : decode cX7_told 5 = .ok (.aload_n 0, 1) := by decide +kernel
theorem dX7_told_6 : decode cX7_told 6 = .ok (.getfield 85, 3) := by decide +kernel
theorem dX7_told_9 : decode cX7_told 9 = .ok (.ifCond .eq 18, 3) := by decide +kernel
theorem dX7_told_12 : decode cX7_told 12 = .ok (.iload_n 1, 1) := by decide +kernel
theorem dX7_told_13 : decode cX7_told 13 = .ok (.ifCond .lt 14, 3) := by decide +kernel
theorem dX7_told_16 : decode cX7_told 16 = .ok (.iload_n 1, 1) := by decide +kernel
theorem dX7_told_17 : decode cX7_told 17 = .ok (.bipush 8, 2) := by decide +kernel
theorem dX7_told_19 : decode cX7_told 19 = .ok (.aload_n 0, 1) := by decide +kernel
theorem dX7_told_20 : decode cX7_told 20 = .ok (.getfield 82, 3) := by decide +kernel
theorem dX7_told_23 : decode cX7_told 23 = .ok (.iadd, 1) := by decide +kernel
theorem dX7_told_24 : decode cX7_told 24 = .ok (.if_icmp .le 5, 3) := by decide +kernel
theorem dX7_told_27 : decode cX7_told 27 = .ok (.iconst (-1), 1) := by decide +kernel
theorem dX7_told_28 : decode cX7_told 28 = .ok (.ireturn, 1) := by decide +kernel
theorem dX7_told_29 : decode cX7_told 29 = .ok (.aload_n 0, 1) := by decide +kernel
theorem dX7_told_30 : decode cX7_told 30 = .ok (.invokevirtual 150, 3) := by decide +kernel
theorem dX7_told_33 : decode cX7_told 33 = .ok (.iload_n 1, 1) := by decide +kernel
theorem dX7_told_34 : decode cX7_told 34 = .ok (.tableswitch 109 0 8 #[50, 55, 62, 69, 76, 83, 91, 99, 104], 50) := by decide +kernel
theorem dX7_told_84 : decode cX7_told 84 = .ok (.aload_n 0, 1) := by decide +kernel
theorem dX7_told_85 : decode cX7_told 85 = .ok (.getfield 97, 3) := by decide +kernel
theorem dX7_told_88 : decode cX7_told 88 = .ok (.ireturn, 1) := by decide +kernel
theorem dX7_told_89 : decode cX7_told 89 = .ok (.aload_n 0, 1) := by decide +kernel
theorem dX7_told_90 : decode cX7_told 90 = .ok (.getfield 47, 3) := by decide +kernel
theorem dX7_told_93 : decode cX7_told 93 = .ok (.iconst 0, 1) := by decide +kernel
theorem dX7_told_94 : decode cX7_told 94 = .ok (.iaload, 1) := by decide +kernel
theorem dX7_told_95 : decode cX7_told 95 = .ok (.ireturn, 1) := by decide +kernel
theorem dX7_told_96 : decode cX7_told 96 = .ok (.aload_n 0, 1) := by decide +kernel
theorem dX7_told_97 : decode cX7_told 97 = .ok (.getfield 47, 3) := by decide +kernel
theorem dX7_told_100 : decode cX7_told 100 = .ok (.iconst 1, 1) := by decide +kernel
theorem dX7_told_101 : decode cX7_told 101 = .ok (.iaload, 1) := by decide +kernel
theorem dX7_told_102 : decode cX7_told 102 = .ok (.ireturn, 1) := by decide +kernel
theorem dX7_told_103 : decode cX7_told 103 = .ok (.aload_n 0, 1) := by decide +kernel
theorem dX7_told_104 : decode cX7_told 104 = .ok (.getfield 47, 3) := by decide +kernel
theorem dX7_told_107 : decode cX7_told 107 = .ok (.iconst 2, 1) := by decide +kernel
theorem dX7_told_108 : decode cX7_told 108 = .ok (.iaload, 1) := by decide +kernel
theorem dX7_told_109 : decode cX7_told 109 = .ok (.ireturn, 1) := by decide +kernel
theorem dX7_told_110 : decode cX7_told 110 = .ok (.aload_n 0, 1) := by decide +kernel
theorem dX7_told_111 : decode cX7_told 111 = .ok (.getfield 47, 3) := by decide +kernel
theorem dX7_told_114 : decode cX7_told 114 = .ok (.iconst 3, 1) := by decide +kernel
theorem dX7_told_115 : decode cX7_told 115 = .ok (.iaload, 1) := by decide +kernel
theorem dX7_told_116 : decode cX7_told 116 = .ok (.ireturn, 1) := by decide +kernel
theorem dX7_told_117 : decode cX7_told 117 = .ok (.aload_n 0, 1) := by decide +kernel
theorem dX7_told_118 : decode cX7_told 118 = .ok (.getfield 47, 3) := by decide +kernel
theorem dX7_told_121 : decode cX7_told 121 = .ok (.bipush 6, 2) := by decide +kernel
theorem dX7_told_123 : decode cX7_told 123 = .ok (.iaload, 1) := by decide +kernel
theorem dX7_told_124 : decode cX7_told 124 = .ok (.ireturn, 1) := by decide +kernel
theorem dX7_told_125 : decode cX7_told 125 = .ok (.aload_n 0, 1) := by decide +kernel
theorem dX7_told_126 : decode cX7_told 126 = .ok (.getfield 47, 3) := by decide +kernel
theorem dX7_told_129 : decode cX7_told 129 = .ok (.bipush 7, 2) := by decide +kernel
theorem dX7_told_131 : decode cX7_told 131 = .ok (.iaload, 1) := by decide +kernel
theorem dX7_told_132 : decode cX7_told 132 = .ok (.ireturn, 1) := by decide +kernel
theorem dX7_told_133 : decode cX7_told 133 = .ok (.aload_n 0, 1) := by decide +kernel
theorem dX7_told_134 : decode cX7_told 134 = .ok (.invokevirtual 136, 3) := by decide +kernel
theorem dX7_told_137 : decode cX7_told 137 = .ok (.ireturn, 1) := by decide +kernel
theorem dX7_told_138 : decode cX7_told 138 = .ok (.aload_n 0, 1) := by decide +kernel
theorem dX7_told_139 : decode cX7_told 139 = .ok (.invokevirtual 159, 3) := by decide +kernel
theorem dX7_told_142 : decode cX7_told 142 = .ok (.ireturn, 1) := by decide +kernel
theorem dX7_told_143 : decode cX7_told 143 = .ok (.aload_n 0, 1) := by decide +kernel
theorem dX7_told_144 : decode cX7_told 144 = .ok (.getfield 47, 3) := by decide +kernel
theorem dX7_told_147 : decode cX7_told 147 = .ok (.bipush 8, 2) := by decide +kernel
theorem dX7_told_149 : decode cX7_told 149 = .ok (.iload_n 1, 1) := by decide +kernel
theorem dX7_told_150 : decode cX7_told 150 = .ok (.iadd, 1) := by decide +kernel
theorem dX7_told_151 : decode cX7_told 151 = .ok (.bipush 9, 2) := by decide +kernel
theorem dX7_told_153 : decode cX7_told 153 = .ok (.isub, 1) := by decide +kernel
theorem dX7_told_154 : decode cX7_told 154 = .ok (.iaload, 1) := by decide +kernel
theorem dX7_told_155 : decode cX7_told 155 = .ok (.ireturn, 1) := by decide +kernel
theorem dX7_shown_0 : decode cX7_shown 0 = .ok (.aload_n 0, 1) := by decide +kernel
theorem dX7_shown_1 : decode cX7_shown 1 = .ok (.iconst 0, 1) := by decide +kernel
theorem dX7_shown_2 : decode cX7_shown 2 = .ok (.putfield 79, 3) := by decide +kernel
theorem dX7_shown_5 : decode cX7_shown 5 = .ok (.aload_n 0, 1) := by decide +kernel
theorem dX7_shown_6 : decode cX7_shown 6 = .ok (.getfield 85, 3) := by decide +kernel
theorem dX7_shown_9 : decode cX7_shown 9 = .ok (.ifCond .eq 11, 3) := by decide +kernel
theorem dX7_shown_12 : decode cX7_shown 12 = .ok (.aload_n 0, 1) := by decide +kernel
theorem dX7_shown_13 : decode cX7_shown 13 = .ok (.iload_n 1, 1) := by decide +kernel
theorem dX7_shown_14 : decode cX7_shown 14 = .ok (.invokevirtual 106, 3) := by decide +kernel
theorem dX7_shown_17 : decode cX7_shown 17 = .ok (.ifCond .ne 5, 3) := by decide +kernel
theorem dX7_shown_20 : decode cX7_shown 20 = .ok (.iconst (-1), 1) := by decide +kernel
theorem dX7_shown_21 : decode cX7_shown 21 = .ok (.ireturn, 1) := by decide +kernel
theorem dX7_shown_22 : decode cX7_shown 22 = .ok (.aload_n 0, 1) := by decide +kernel
theorem dX7_shown_23 : decode cX7_shown 23 = .ok (.invokevirtual 150, 3) := by decide +kernel
theorem dX7_shown_26 : decode cX7_shown 26 = .ok (.aload_n 0, 1) := by decide +kernel
theorem dX7_shown_27 : decode cX7_shown 27 = .ok (.invokevirtual 136, 3) := by decide +kernel
theorem dX7_shown_30 : decode cX7_shown 30 = .ok (.iload_n 1, 1) := by decide +kernel
theorem dX7_shown_31 : decode cX7_shown 31 = .ok (.ishr, 1) := by decide +kernel
theorem dX7_shown_32 : decode cX7_shown 32 = .ok (.iconst 1, 1) := by decide +kernel
theorem dX7_shown_33 : decode cX7_shown 33 = .ok (.iand, 1) := by decide +kernel
theorem dX7_shown_34 : decode cX7_shown 34 = .ok (.ireturn, 1) := by decide +kernel
theorem dX7_find_0 : decode cX7_find 0 = .ok (.iconst 0, 1) := by decide +kernel
theorem dX7_find_1 : decode cX7_find 1 = .ok (.istore_n 1, 1) := by decide +kernel
theorem dX7_find_2 : decode cX7_find 2 = .ok (.iload_n 1, 1) := by decide +kernel
theorem dX7_find_3 : decode cX7_find 3 = .ok (.aload_n 0, 1) := by decide +kernel
theorem dX7_find_4 : decode cX7_find 4 = .ok (.getfield 100, 3) := by decide +kernel
theorem dX7_find_7 : decode cX7_find 7 = .ok (.if_icmp .ge 61, 3) := by decide +kernel
theorem dX7_find_10 : decode cX7_find 10 = .ok (.iconst 1, 1) := by decide +kernel
theorem dX7_find_11 : decode cX7_find 11 = .ok (.istore_n 2, 1) := by decide +kernel
theorem dX7_find_12 : decode cX7_find 12 = .ok (.iconst 0, 1) := by decide +kernel
theorem dX7_find_13 : decode cX7_find 13 = .ok (.istore_n 3, 1) := by decide +kernel
theorem dX7_find_14 : decode cX7_find 14 = .ok (.iload_n 3, 1) := by decide +kernel
theorem dX7_find_15 : decode cX7_find 15 = .ok (.bipush 14, 2) := by decide +kernel
theorem dX7_find_17 : decode cX7_find 17 = .ok (.if_icmp .ge 39, 3) := by decide +kernel
theorem dX7_find_20 : decode cX7_find 20 = .ok (.iload_n 2, 1) := by decide +kernel
theorem dX7_find_21 : decode cX7_find 21 = .ok (.ifCond .eq 35, 3) := by decide +kernel
theorem dX7_find_24 : decode cX7_find 24 = .ok (.aload_n 0, 1) := by decide +kernel
theorem dX7_find_25 : decode cX7_find 25 = .ok (.getfield 57, 3) := by decide +kernel
theorem dX7_find_28 : decode cX7_find 28 = .ok (.bipush 14, 2) := by decide +kernel
theorem dX7_find_30 : decode cX7_find 30 = .ok (.iload_n 1, 1) := by decide +kernel
theorem dX7_find_31 : decode cX7_find 31 = .ok (.imul, 1) := by decide +kernel
theorem dX7_find_32 : decode cX7_find 32 = .ok (.iload_n 3, 1) := by decide +kernel
theorem dX7_find_33 : decode cX7_find 33 = .ok (.iadd, 1) := by decide +kernel
theorem dX7_find_34 : decode cX7_find 34 = .ok (.iaload, 1) := by decide +kernel
theorem dX7_find_35 : decode cX7_find 35 = .ok (.aload_n 0, 1) := by decide +kernel
theorem dX7_find_36 : decode cX7_find 36 = .ok (.getfield 47, 3) := by decide +kernel
theorem dX7_find_39 : decode cX7_find 39 = .ok (.iload_n 3, 1) := by decide +kernel
theorem dX7_find_40 : decode cX7_find 40 = .ok (.iaload, 1) := by decide +kernel
theorem dX7_find_41 : decode cX7_find 41 = .ok (.if_icmp .ne 7, 3) := by decide +kernel
theorem dX7_find_44 : decode cX7_find 44 = .ok (.iconst 1, 1) := by decide +kernel
theorem dX7_find_45 : decode cX7_find 45 = .ok (.goto 4, 3) := by decide +kernel
theorem dX7_find_48 : decode cX7_find 48 = .ok (.iconst 0, 1) := by decide +kernel
theorem dX7_find_49 : decode cX7_find 49 = .ok (.istore_n 2, 1) := by decide +kernel
theorem dX7_find_50 : decode cX7_find 50 = .ok (.iinc 3 1, 3) := by decide +kernel
theorem dX7_find_53 : decode cX7_find 53 = .ok (.goto (-39), 3) := by decide +kernel
theorem dX7_find_56 : decode cX7_find 56 = .ok (.iload_n 2, 1) := by decide +kernel
theorem dX7_find_57 : decode cX7_find 57 = .ok (.ifCond .eq 5, 3) := by decide +kernel
theorem dX7_find_60 : decode cX7_find 60 = .ok (.iload_n 1, 1) := by decide +kernel
theorem dX7_find_61 : decode cX7_find 61 = .ok (.ireturn, 1) := by decide +kernel
theorem dX7_find_62 : decode cX7_find 62 = .ok (.iinc 1 1, 3) := by decide +kernel
theorem dX7_find_65 : decode cX7_find 65 = .ok (.goto (-63), 3) := by decide +kernel
theorem dX7_find_68 : decode cX7_find 68 = .ok (.iconst (-1), 1) := by decide +kernel
theorem dX7_find_69 : decode cX7_find 69 = .ok (.ireturn, 1) := by decide +kernel
theorem dX7_add_0 : decode cX7_add 0 = .ok (.iconst 0, 1) := by decide +kernel
theorem dX7_add_1 : decode cX7_add 1 = .ok (.istore_n 3, 1) := by decide +kernel
theorem dX7_add_2 : decode cX7_add 2 = .ok (.iload_n 3, 1) := by decide +kernel
theorem dX7_add_3 : decode cX7_add 3 = .ok (.bipush 14, 2) := by decide +kernel
theorem dX7_add_5 : decode cX7_add 5 = .ok (.if_icmp .ge 29, 3) := by decide +kernel
theorem dX7_add_8 : decode cX7_add 8 = .ok (.aload_n 0, 1) := by decide +kernel
theorem dX7_add_9 : decode cX7_add 9 = .ok (.getfield 57, 3) := by decide +kernel
theorem dX7_add_12 : decode cX7_add 12 = .ok (.bipush 14, 2) := by decide +kernel
theorem dX7_add_14 : decode cX7_add 14 = .ok (.aload_n 0, 1) := by decide +kernel
theorem dX7_add_15 : decode cX7_add 15 = .ok (.getfield 100, 3) := by decide +kernel
theorem dX7_add_18 : decode cX7_add 18 = .ok (.imul, 1) := by decide +kernel
theorem dX7_add_19 : decode cX7_add 19 = .ok (.iload_n 3, 1) := by decide +kernel
theorem dX7_add_20 : decode cX7_add 20 = .ok (.iadd, 1) := by decide +kernel
theorem dX7_add_21 : decode cX7_add 21 = .ok (.aload_n 0, 1) := by decide +kernel
theorem dX7_add_22 : decode cX7_add 22 = .ok (.getfield 47, 3) := by decide +kernel
theorem dX7_add_25 : decode cX7_add 25 = .ok (.iload_n 3, 1) := by decide +kernel
theorem dX7_add_26 : decode cX7_add 26 = .ok (.iaload, 1) := by decide +kernel
theorem dX7_add_27 : decode cX7_add 27 = .ok (.iastore, 1) := by decide +kernel
theorem dX7_add_28 : decode cX7_add 28 = .ok (.iinc 3 1, 3) := by decide +kernel
theorem dX7_add_31 : decode cX7_add 31 = .ok (.goto (-29), 3) := by decide +kernel
theorem dX7_add_34 : decode cX7_add 34 = .ok (.aload_n 0, 1) := by decide +kernel
theorem dX7_add_35 : decode cX7_add 35 = .ok (.getfield 60, 3) := by decide +kernel
theorem dX7_add_38 : decode cX7_add 38 = .ok (.aload_n 0, 1) := by decide +kernel
theorem dX7_add_39 : decode cX7_add 39 = .ok (.getfield 100, 3) := by decide +kernel
theorem dX7_add_42 : decode cX7_add 42 = .ok (.iload_n 1, 1) := by decide +kernel
theorem dX7_add_43 : decode cX7_add 43 = .ok (.iastore, 1) := by decide +kernel
theorem dX7_add_44 : decode cX7_add 44 = .ok (.aload_n 0, 1) := by decide +kernel
theorem dX7_add_45 : decode cX7_add 45 = .ok (.getfield 63, 3) := by decide +kernel
theorem dX7_add_48 : decode cX7_add 48 = .ok (.aload_n 0, 1) := by decide +kernel
theorem dX7_add_49 : decode cX7_add 49 = .ok (.getfield 100, 3) := by decide +kernel
theorem dX7_add_52 : decode cX7_add 52 = .ok (.iload_n 2, 1) := by decide +kernel
theorem dX7_add_53 : decode cX7_add 53 = .ok (.iastore, 1) := by decide +kernel
theorem dX7_add_54 : decode cX7_add 54 = .ok (.aload_n 0, 1) := by decide +kernel
theorem dX7_add_55 : decode cX7_add 55 = .ok (.dup, 1) := by decide +kernel
theorem dX7_add_56 : decode cX7_add 56 = .ok (.getfield 100, 3) := by decide +kernel
theorem dX7_add_59 : decode cX7_add 59 = .ok (.iconst 1, 1) := by decide +kernel
theorem dX7_add_60 : decode cX7_add 60 = .ok (.iadd, 1) := by decide +kernel
theorem dX7_add_61 : decode cX7_add 61 = .ok (.putfield 100, 3) := by decide +kernel
theorem dX7_add_64 : decode cX7_add 64 = .ok (.return_, 1) := by decide +kernel
theorem dX7_load_0 : decode cX7_load 0 = .ok (.iconst 0, 1) := by decide +kernel
theorem dX7_load_1 : decode cX7_load 1 = .ok (.istore_n 2, 1) := by decide +kernel
theorem dX7_load_2 : decode cX7_load 2 = .ok (.iload_n 2, 1) := by decide +kernel
theorem dX7_load_3 : decode cX7_load 3 = .ok (.bipush 14, 2) := by decide +kernel
theorem dX7_load_5 : decode cX7_load 5 = .ok (.if_icmp .ge 26, 3) := by decide +kernel
theorem dX7_load_8 : decode cX7_load 8 = .ok (.aload_n 0, 1) := by decide +kernel
theorem dX7_load_9 : decode cX7_load 9 = .ok (.getfield 47, 3) := by decide +kernel
theorem dX7_load_12 : decode cX7_load 12 = .ok (.iload_n 2, 1) := by decide +kernel
theorem dX7_load_13 : decode cX7_load 13 = .ok (.aload_n 0, 1) := by decide +kernel
theorem dX7_load_14 : decode cX7_load 14 = .ok (.getfield 57, 3) := by decide +kernel
theorem dX7_load_17 : decode cX7_load 17 = .ok (.bipush 14, 2) := by decide +kernel
theorem dX7_load_19 : decode cX7_load 19 = .ok (.iload_n 1, 1) := by decide +kernel
theorem dX7_load_20 : decode cX7_load 20 = .ok (.imul, 1) := by decide +kernel
theorem dX7_load_21 : decode cX7_load 21 = .ok (.iload_n 2, 1) := by decide +kernel
theorem dX7_load_22 : decode cX7_load 22 = .ok (.iadd, 1) := by decide +kernel
theorem dX7_load_23 : decode cX7_load 23 = .ok (.iaload, 1) := by decide +kernel
theorem dX7_load_24 : decode cX7_load 24 = .ok (.iastore, 1) := by decide +kernel
theorem dX7_load_25 : decode cX7_load 25 = .ok (.iinc 2 1, 3) := by decide +kernel
theorem dX7_load_28 : decode cX7_load 28 = .ok (.goto (-26), 3) := by decide +kernel
theorem dX7_load_31 : decode cX7_load 31 = .ok (.return_, 1) := by decide +kernel
theorem dX7_tellRow_0 : decode cX7_tellRow 0 = .ok (.aload_n 0, 1) := by decide +kernel
theorem dX7_tellRow_1 : decode cX7_tellRow 1 = .ok (.iconst 1, 1) := by decide +kernel
theorem dX7_tellRow_2 : decode cX7_tellRow 2 = .ok (.putfield 162, 3) := by decide +kernel
theorem dX7_tellRow_5 : decode cX7_tellRow 5 = .ok (.iload_n 1, 1) := by decide +kernel
theorem dX7_tellRow_6 : decode cX7_tellRow 6 = .ok (.istore_n 3, 1) := by decide +kernel
theorem dX7_tellRow_7 : decode cX7_tellRow 7 = .ok (.iload_n 3, 1) := by decide +kernel
theorem dX7_tellRow_8 : decode cX7_tellRow 8 = .ok (.ifCond .le 23, 3) := by decide +kernel
theorem dX7_tellRow_11 : decode cX7_tellRow 11 = .ok (.aload_n 0, 1) := by decide +kernel
theorem dX7_tellRow_12 : decode cX7_tellRow 12 = .ok (.dup, 1) := by decide +kernel
theorem dX7_tellRow_13 : decode cX7_tellRow 13 = .ok (.getfield 162, 3) := by decide +kernel
theorem dX7_tellRow_16 : decode cX7_tellRow 16 = .ok (.iconst 1, 1) := by decide +kernel
theorem dX7_tellRow_17 : decode cX7_tellRow 17 = .ok (.iadd, 1) := by decide +kernel
theorem dX7_tellRow_18 : decode cX7_tellRow 18 = .ok (.putfield 162, 3) := by decide +kernel
theorem dX7_tellRow_21 : decode cX7_tellRow 21 = .ok (.aload_n 0, 1) := by decide +kernel
theorem dX7_tellRow_22 : decode cX7_tellRow 22 = .ok (.getfield 60, 3) := by decide +kernel
theorem dX7_tellRow_25 : decode cX7_tellRow 25 = .ok (.iload_n 3, 1) := by decide +kernel
theorem dX7_tellRow_26 : decode cX7_tellRow 26 = .ok (.iaload, 1) := by decide +kernel
theorem dX7_tellRow_27 : decode cX7_tellRow 27 = .ok (.istore_n 3, 1) := by decide +kernel
theorem dX7_tellRow_28 : decode cX7_tellRow 28 = .ok (.goto (-21), 3) := by decide +kernel
theorem dX7_tellRow_31 : decode cX7_tellRow 31 = .ok (.aload_n 0, 1) := by decide +kernel
theorem dX7_tellRow_32 : decode cX7_tellRow 32 = .ok (.getfield 69, 3) := by decide +kernel
theorem dX7_tellRow_35 : decode cX7_tellRow 35 = .ok (.aload_n 0, 1) := by decide +kernel
theorem dX7_tellRow_36 : decode cX7_tellRow 36 = .ok (.getfield 162, 3) := by decide +kernel
theorem dX7_tellRow_39 : decode cX7_tellRow 39 = .ok (.iconst 1, 1) := by decide +kernel
theorem dX7_tellRow_40 : decode cX7_tellRow 40 = .ok (.isub, 1) := by decide +kernel
theorem dX7_tellRow_41 : decode cX7_tellRow 41 = .ok (.iload_n 2, 1) := by decide +kernel
theorem dX7_tellRow_42 : decode cX7_tellRow 42 = .ok (.iastore, 1) := by decide +kernel
theorem dX7_tellRow_43 : decode cX7_tellRow 43 = .ok (.aload_n 0, 1) := by decide +kernel
theorem dX7_tellRow_44 : decode cX7_tellRow 44 = .ok (.getfield 162, 3) := by decide +kernel
theorem dX7_tellRow_47 : decode cX7_tellRow 47 = .ok (.iconst 2, 1) := by decide +kernel
theorem dX7_tellRow_48 : decode cX7_tellRow 48 = .ok (.isub, 1) := by decide +kernel
theorem dX7_tellRow_49 : decode cX7_tellRow 49 = .ok (.istore_n 3, 1) := by decide +kernel
theorem dX7_tellRow_50 : decode cX7_tellRow 50 = .ok (.iload_n 1, 1) := by decide +kernel
theorem dX7_tellRow_51 : decode cX7_tellRow 51 = .ok (.istore 4, 2) := by decide +kernel
theorem dX7_tellRow_53 : decode cX7_tellRow 53 = .ok (.iload 4, 2) := by decide +kernel
theorem dX7_tellRow_55 : decode cX7_tellRow 55 = .ok (.ifCond .le 31, 3) := by decide +kernel
theorem dX7_tellRow_58 : decode cX7_tellRow 58 = .ok (.aload_n 0, 1) := by decide +kernel
theorem dX7_tellRow_59 : decode cX7_tellRow 59 = .ok (.getfield 69, 3) := by decide +kernel
theorem dX7_tellRow_62 : decode cX7_tellRow 62 = .ok (.iload_n 3, 1) := by decide +kernel
theorem dX7_tellRow_63 : decode cX7_tellRow 63 = .ok (.aload_n 0, 1) := by decide +kernel
theorem dX7_tellRow_64 : decode cX7_tellRow 64 = .ok (.getfield 63, 3) := by decide +kernel
theorem dX7_tellRow_67 : decode cX7_tellRow 67 = .ok (.iload 4, 2) := by decide +kernel
theorem dX7_tellRow_69 : decode cX7_tellRow 69 = .ok (.iaload, 1) := by decide +kernel
theorem dX7_tellRow_70 : decode cX7_tellRow 70 = .ok (.iastore, 1) := by decide +kernel
theorem dX7_tellRow_71 : decode cX7_tellRow 71 = .ok (.iinc 3 (-1), 3) := by decide +kernel
theorem dX7_tellRow_74 : decode cX7_tellRow 74 = .ok (.aload_n 0, 1) := by decide +kernel
theorem dX7_tellRow_75 : decode cX7_tellRow 75 = .ok (.getfield 60, 3) := by decide +kernel
theorem dX7_tellRow_78 : decode cX7_tellRow 78 = .ok (.iload 4, 2) := by decide +kernel
theorem dX7_tellRow_80 : decode cX7_tellRow 80 = .ok (.iaload, 1) := by decide +kernel
theorem dX7_tellRow_81 : decode cX7_tellRow 81 = .ok (.istore 4, 2) := by decide +kernel
theorem dX7_tellRow_83 : decode cX7_tellRow 83 = .ok (.goto (-30), 3) := by decide +kernel
theorem dX7_tellRow_86 : decode cX7_tellRow 86 = .ok (.return_, 1) := by decide +kernel
theorem dX7_prove_0 : decode cX7_prove 0 = .ok (.aload_n 0, 1) := by decide +kernel
theorem dX7_prove_1 : decode cX7_prove 1 = .ok (.iconst 0, 1) := by decide +kernel
theorem dX7_prove_2 : decode cX7_prove 2 = .ok (.putfield 79, 3) := by decide +kernel
theorem dX7_prove_5 : decode cX7_prove 5 = .ok (.aload_n 0, 1) := by decide +kernel
theorem dX7_prove_6 : decode cX7_prove 6 = .ok (.iconst (-1), 1) := by decide +kernel
theorem dX7_prove_7 : decode cX7_prove 7 = .ok (.putfield 53, 3) := by decide +kernel
theorem dX7_prove_10 : decode cX7_prove 10 = .ok (.aload_n 0, 1) := by decide +kernel
theorem dX7_prove_11 : decode cX7_prove 11 = .ok (.iconst 0, 1) := by decide +kernel
theorem dX7_prove_12 : decode cX7_prove 12 = .ok (.putfield 100, 3) := by decide +kernel
theorem dX7_prove_15 : decode cX7_prove 15 = .ok (.iload_n 1, 1) := by decide +kernel
theorem dX7_prove_16 : decode cX7_prove 16 = .ok (.iconst 1, 1) := by decide +kernel
theorem dX7_prove_17 : decode cX7_prove 17 = .ok (.if_icmp .lt 17, 3) := by decide +kernel
theorem dX7_prove_20 : decode cX7_prove 20 = .ok (.iload_n 1, 1) := by decide +kernel
theorem dX7_prove_21 : decode cX7_prove 21 = .ok (.sipush 400, 3) := by decide +kernel
theorem dX7_prove_24 : decode cX7_prove 24 = .ok (.if_icmp .gt 10, 3) := by decide +kernel
theorem dX7_prove_27 : decode cX7_prove 27 = .ok (.aload_n 0, 1) := by decide +kernel
theorem dX7_prove_28 : decode cX7_prove 28 = .ok (.getfield 85, 3) := by decide +kernel
theorem dX7_prove_31 : decode cX7_prove 31 = .ok (.ifCond .ne 5, 3) := by decide +kernel
theorem dX7_prove_34 : decode cX7_prove 34 = .ok (.iconst (-1), 1) := by decide +kernel
theorem dX7_prove_35 : decode cX7_prove 35 = .ok (.ireturn, 1) := by decide +kernel
theorem dX7_prove_36 : decode cX7_prove 36 = .ok (.aload_n 0, 1) := by decide +kernel
theorem dX7_prove_37 : decode cX7_prove 37 = .ok (.iconst 1, 1) := by decide +kernel
theorem dX7_prove_38 : decode cX7_prove 38 = .ok (.aload_n 0, 1) := by decide +kernel
theorem dX7_prove_39 : decode cX7_prove 39 = .ok (.getfield 82, 3) := by decide +kernel
theorem dX7_prove_42 : decode cX7_prove 42 = .ok (.iadd, 1) := by decide +kernel
theorem dX7_prove_43 : decode cX7_prove 43 = .ok (.aload_n 0, 1) := by decide +kernel
theorem dX7_prove_44 : decode cX7_prove 44 = .ok (.getfield 85, 3) := by decide +kernel
theorem dX7_prove_47 : decode cX7_prove 47 = .ok (.iadd, 1) := by decide +kernel
theorem dX7_prove_48 : decode cX7_prove 48 = .ok (.putfield 165, 3) := by decide +kernel
theorem dX7_prove_51 : decode cX7_prove 51 = .ok (.aload_n 0, 1) := by decide +kernel
theorem dX7_prove_52 : decode cX7_prove 52 = .ok (.invokevirtual 103, 3) := by decide +kernel
theorem dX7_prove_55 : decode cX7_prove 55 = .ok (.aload_n 0, 1) := by decide +kernel
theorem dX7_prove_56 : decode cX7_prove 56 = .ok (.iconst 0, 1) := by decide +kernel
theorem dX7_prove_57 : decode cX7_prove 57 = .ok (.iconst 0, 1) := by decide +kernel
theorem dX7_prove_58 : decode cX7_prove 58 = .ok (.invokevirtual 168, 3) := by decide +kernel
theorem dX7_prove_61 : decode cX7_prove 61 = .ok (.iconst 0, 1) := by decide +kernel
theorem dX7_prove_62 : decode cX7_prove 62 = .ok (.istore_n 2, 1) := by decide +kernel
theorem dX7_prove_63 : decode cX7_prove 63 = .ok (.iload_n 2, 1) := by decide +kernel
theorem dX7_prove_64 : decode cX7_prove 64 = .ok (.aload_n 0, 1) := by decide +kernel
theorem dX7_prove_65 : decode cX7_prove 65 = .ok (.getfield 100, 3) := by decide +kernel
theorem dX7_prove_68 : decode cX7_prove 68 = .ok (.if_icmp .ge 107, 3) := by decide +kernel
theorem dX7_prove_71 : decode cX7_prove 71 = .ok (.iconst 0, 1) := by decide +kernel
theorem dX7_prove_72 : decode cX7_prove 72 = .ok (.istore_n 3, 1) := by decide +kernel
theorem dX7_prove_73 : decode cX7_prove 73 = .ok (.iload_n 3, 1) := by decide +kernel
theorem dX7_prove_74 : decode cX7_prove 74 = .ok (.aload_n 0, 1) := by decide +kernel
theorem dX7_prove_75 : decode cX7_prove 75 = .ok (.getfield 165, 3) := by decide +kernel
theorem dX7_prove_78 : decode cX7_prove 78 = .ok (.if_icmp .ge 91, 3) := by decide +kernel
theorem dX7_prove_81 : decode cX7_prove 81 = .ok (.aload_n 0, 1) := by decide +kernel
theorem dX7_prove_82 : decode cX7_prove 82 = .ok (.iload_n 2, 1) := by decide +kernel
theorem dX7_prove_83 : decode cX7_prove 83 = .ok (.invokevirtual 172, 3) := by decide +kernel
theorem dX7_prove_86 : decode cX7_prove 86 = .ok (.aload_n 0, 1) := by decide +kernel
theorem dX7_prove_87 : decode cX7_prove 87 = .ok (.iload_n 3, 1) := by decide +kernel
theorem dX7_prove_88 : decode cX7_prove 88 = .ok (.invokevirtual 156, 3) := by decide +kernel
theorem dX7_prove_91 : decode cX7_prove 91 = .ok (.ifCond .le 16, 3) := by decide +kernel
theorem dX7_prove_94 : decode cX7_prove 94 = .ok (.aload_n 0, 1) := by decide +kernel
theorem dX7_prove_95 : decode cX7_prove 95 = .ok (.iload_n 2, 1) := by decide +kernel
theorem dX7_prove_96 : decode cX7_prove 96 = .ok (.iload_n 3, 1) := by decide +kernel
theorem dX7_prove_97 : decode cX7_prove 97 = .ok (.invokevirtual 175, 3) := by decide +kernel
theorem dX7_prove_100 : decode cX7_prove 100 = .ok (.aload_n 0, 1) := by decide +kernel
theorem dX7_prove_101 : decode cX7_prove 101 = .ok (.iconst 0, 1) := by decide +kernel
theorem dX7_prove_102 : decode cX7_prove 102 = .ok (.putfield 53, 3) := by decide +kernel
theorem dX7_prove_105 : decode cX7_prove 105 = .ok (.iconst 0, 1) := by decide +kernel
theorem dX7_prove_106 : decode cX7_prove 106 = .ok (.ireturn, 1) := by decide +kernel
theorem dX7_prove_107 : decode cX7_prove 107 = .ok (.aload_n 0, 1) := by decide +kernel
theorem dX7_prove_108 : decode cX7_prove 108 = .ok (.invokevirtual 159, 3) := by decide +kernel
theorem dX7_prove_111 : decode cX7_prove 111 = .ok (.istore 4, 2) := by decide +kernel
theorem dX7_prove_113 : decode cX7_prove 113 = .ok (.iload 4, 2) := by decide +kernel
theorem dX7_prove_115 : decode cX7_prove 115 = .ok (.ifCond .ge 18, 3) := by decide +kernel
theorem dX7_prove_118 : decode cX7_prove 118 = .ok (.aload_n 0, 1) := by decide +kernel
theorem dX7_prove_119 : decode cX7_prove 119 = .ok (.getfield 100, 3) := by decide +kernel
theorem dX7_prove_122 : decode cX7_prove 122 = .ok (.iload_n 1, 1) := by decide +kernel
theorem dX7_prove_123 : decode cX7_prove 123 = .ok (.if_icmp .ne 10, 3) := by decide +kernel
theorem dX7_prove_126 : decode cX7_prove 126 = .ok (.aload_n 0, 1) := by decide +kernel
theorem dX7_prove_127 : decode cX7_prove 127 = .ok (.iconst 2, 1) := by decide +kernel
theorem dX7_prove_128 : decode cX7_prove 128 = .ok (.putfield 53, 3) := by decide +kernel
theorem dX7_prove_131 : decode cX7_prove 131 = .ok (.iconst 2, 1) := by decide +kernel
theorem dX7_prove_132 : decode cX7_prove 132 = .ok (.ireturn, 1) := by decide +kernel
theorem dX7_prove_133 : decode cX7_prove 133 = .ok (.iload 4, 2) := by decide +kernel
theorem dX7_prove_135 : decode cX7_prove 135 = .ok (.ifCond .ge 15, 3) := by decide +kernel
theorem dX7_prove_138 : decode cX7_prove 138 = .ok (.aload_n 0, 1) := by decide +kernel
theorem dX7_prove_139 : decode cX7_prove 139 = .ok (.getfield 100, 3) := by decide +kernel
theorem dX7_prove_142 : decode cX7_prove 142 = .ok (.istore 4, 2) := by decide +kernel
theorem dX7_prove_144 : decode cX7_prove 144 = .ok (.aload_n 0, 1) := by decide +kernel
theorem dX7_prove_145 : decode cX7_prove 145 = .ok (.iload_n 2, 1) := by decide +kernel
theorem dX7_prove_146 : decode cX7_prove 146 = .ok (.iload_n 3, 1) := by decide +kernel
theorem dX7_prove_147 : decode cX7_prove 147 = .ok (.invokevirtual 168, 3) := by decide +kernel
theorem dX7_prove_150 : decode cX7_prove 150 = .ok (.aload_n 0, 1) := by decide +kernel
theorem dX7_prove_151 : decode cX7_prove 151 = .ok (.getfield 66, 3) := by decide +kernel
theorem dX7_prove_154 : decode cX7_prove 154 = .ok (.bipush 10, 2) := by decide +kernel
theorem dX7_prove_156 : decode cX7_prove 156 = .ok (.iload_n 2, 1) := by decide +kernel
theorem dX7_prove_157 : decode cX7_prove 157 = .ok (.imul, 1) := by decide +kernel
theorem dX7_prove_158 : decode cX7_prove 158 = .ok (.iload_n 3, 1) := by decide +kernel
theorem dX7_prove_159 : decode cX7_prove 159 = .ok (.iadd, 1) := by decide +kernel
theorem dX7_prove_160 : decode cX7_prove 160 = .ok (.iload 4, 2) := by decide +kernel
theorem dX7_prove_162 : decode cX7_prove 162 = .ok (.iastore, 1) := by decide +kernel
theorem dX7_prove_163 : decode cX7_prove 163 = .ok (.iinc 3 1, 3) := by decide +kernel
theorem dX7_prove_166 : decode cX7_prove 166 = .ok (.goto (-93), 3) := by decide +kernel
theorem dX7_prove_169 : decode cX7_prove 169 = .ok (.iinc 2 1, 3) := by decide +kernel
theorem dX7_prove_172 : decode cX7_prove 172 = .ok (.goto (-109), 3) := by decide +kernel
theorem dX7_prove_175 : decode cX7_prove 175 = .ok (.aload_n 0, 1) := by decide +kernel
theorem dX7_prove_176 : decode cX7_prove 176 = .ok (.iconst 1, 1) := by decide +kernel
theorem dX7_prove_177 : decode cX7_prove 177 = .ok (.putfield 53, 3) := by decide +kernel
theorem dX7_prove_180 : decode cX7_prove 180 = .ok (.iconst 1, 1) := by decide +kernel
theorem dX7_prove_181 : decode cX7_prove 181 = .ok (.ireturn, 1) := by decide +kernel
theorem dX7_states_0 : decode cX7_states 0 = .ok (.aload_n 0, 1) := by decide +kernel
theorem dX7_states_1 : decode cX7_states 1 = .ok (.iconst 0, 1) := by decide +kernel
theorem dX7_states_2 : decode cX7_states 2 = .ok (.putfield 79, 3) := by decide +kernel
theorem dX7_states_5 : decode cX7_states 5 = .ok (.aload_n 0, 1) := by decide +kernel
theorem dX7_states_6 : decode cX7_states 6 = .ok (.getfield 100, 3) := by decide +kernel
theorem dX7_states_9 : decode cX7_states 9 = .ok (.ireturn, 1) := by decide +kernel
theorem dX7_row_0 : decode cX7_row 0 = .ok (.aload_n 0, 1) := by decide +kernel
theorem dX7_row_1 : decode cX7_row 1 = .ok (.iconst 0, 1) := by decide +kernel
theorem dX7_row_2 : decode cX7_row 2 = .ok (.putfield 79, 3) := by decide +kernel
theorem dX7_row_5 : decode cX7_row 5 = .ok (.aload_n 0, 1) := by decide +kernel
theorem dX7_row_6 : decode cX7_row 6 = .ok (.getfield 53, 3) := by decide +kernel
theorem dX7_row_9 : decode cX7_row 9 = .ok (.ifCond .ne 25, 3) := by decide +kernel
theorem dX7_row_12 : decode cX7_row 12 = .ok (.iload_n 1, 1) := by decide +kernel
theorem dX7_row_13 : decode cX7_row 13 = .ok (.ifCond .lt 21, 3) := by decide +kernel
theorem dX7_row_16 : decode cX7_row 16 = .ok (.iload_n 1, 1) := by decide +kernel
theorem dX7_row_17 : decode cX7_row 17 = .ok (.aload_n 0, 1) := by decide +kernel
theorem dX7_row_18 : decode cX7_row 18 = .ok (.getfield 162, 3) := by decide +kernel
theorem dX7_row_21 : decode cX7_row 21 = .ok (.if_icmp .ge 13, 3) := by decide +kernel
theorem dX7_row_24 : decode cX7_row 24 = .ok (.iload_n 2, 1) := by decide +kernel
theorem dX7_row_25 : decode cX7_row 25 = .ok (.ifCond .lt 9, 3) := by decide +kernel
theorem dX7_row_28 : decode cX7_row 28 = .ok (.iload_n 2, 1) := by decide +kernel
theorem dX7_row_29 : decode cX7_row 29 = .ok (.bipush 6, 2) := by decide +kernel
theorem dX7_row_31 : decode cX7_row 31 = .ok (.if_icmp .le 5, 3) := by decide +kernel
theorem dX7_row_34 : decode cX7_row 34 = .ok (.iconst (-1), 1) := by decide +kernel
theorem dX7_row_35 : decode cX7_row 35 = .ok (.ireturn, 1) := by decide +kernel
theorem dX7_row_36 : decode cX7_row 36 = .ok (.aload_n 0, 1) := by decide +kernel
theorem dX7_row_37 : decode cX7_row 37 = .ok (.invokevirtual 103, 3) := by decide +kernel
theorem dX7_row_40 : decode cX7_row 40 = .ok (.iconst 0, 1) := by decide +kernel
theorem dX7_row_41 : decode cX7_row 41 = .ok (.istore_n 3, 1) := by decide +kernel
theorem dX7_row_42 : decode cX7_row 42 = .ok (.iconst 0, 1) := by decide +kernel
theorem dX7_row_43 : decode cX7_row 43 = .ok (.istore 4, 2) := by decide +kernel
theorem dX7_row_45 : decode cX7_row 45 = .ok (.iload 4, 2) := by decide +kernel
theorem dX7_row_47 : decode cX7_row 47 = .ok (.iload_n 1, 1) := by decide +kernel
theorem dX7_row_48 : decode cX7_row 48 = .ok (.if_icmp .gt 21, 3) := by decide +kernel
theorem dX7_row_51 : decode cX7_row 51 = .ok (.aload_n 0, 1) := by decide +kernel
theorem dX7_row_52 : decode cX7_row 52 = .ok (.aload_n 0, 1) := by decide +kernel
theorem dX7_row_53 : decode cX7_row 53 = .ok (.getfield 69, 3) := by decide +kernel
theorem dX7_row_56 : decode cX7_row 56 = .ok (.iload 4, 2) := by decide +kernel
theorem dX7_row_58 : decode cX7_row 58 = .ok (.iaload, 1) := by decide +kernel
theorem dX7_row_59 : decode cX7_row 59 = .ok (.invokevirtual 156, 3) := by decide +kernel
theorem dX7_row_62 : decode cX7_row 62 = .ok (.istore_n 3, 1) := by decide +kernel
theorem dX7_row_63 : decode cX7_row 63 = .ok (.iinc 4 1, 3) := by decide +kernel
theorem dX7_row_66 : decode cX7_row 66 = .ok (.goto (-21), 3) := by decide +kernel
theorem dX7_row_69 : decode cX7_row 69 = .ok (.iload_n 2, 1) := by decide +kernel
theorem dX7_row_70 : decode cX7_row 70 = .ok (.tableswitch 79 0 5 #[38, 45, 52, 59, 64, 71], 38) := by decide +kernel
theorem dX7_row_108 : decode cX7_row 108 = .ok (.aload_n 0, 1) := by decide +kernel
theorem dX7_row_109 : decode cX7_row 109 = .ok (.getfield 69, 3) := by decide +kernel
theorem dX7_row_112 : decode cX7_row 112 = .ok (.iload_n 1, 1) := by decide +kernel
theorem dX7_row_113 : decode cX7_row 113 = .ok (.iaload, 1) := by decide +kernel
theorem dX7_row_114 : decode cX7_row 114 = .ok (.ireturn, 1) := by decide +kernel
theorem dX7_row_115 : decode cX7_row 115 = .ok (.aload_n 0, 1) := by decide +kernel
theorem dX7_row_116 : decode cX7_row 116 = .ok (.getfield 47, 3) := by decide +kernel
theorem dX7_row_119 : decode cX7_row 119 = .ok (.iconst 0, 1) := by decide +kernel
theorem dX7_row_120 : decode cX7_row 120 = .ok (.iaload, 1) := by decide +kernel
theorem dX7_row_121 : decode cX7_row 121 = .ok (.ireturn, 1) := by decide +kernel
theorem dX7_row_122 : decode cX7_row 122 = .ok (.aload_n 0, 1) := by decide +kernel
theorem dX7_row_123 : decode cX7_row 123 = .ok (.getfield 47, 3) := by decide +kernel
theorem dX7_row_126 : decode cX7_row 126 = .ok (.iconst 1, 1) := by decide +kernel
theorem dX7_row_127 : decode cX7_row 127 = .ok (.iaload, 1) := by decide +kernel
theorem dX7_row_128 : decode cX7_row 128 = .ok (.ireturn, 1) := by decide +kernel
theorem dX7_row_129 : decode cX7_row 129 = .ok (.aload_n 0, 1) := by decide +kernel
theorem dX7_row_130 : decode cX7_row 130 = .ok (.invokevirtual 136, 3) := by decide +kernel
theorem dX7_row_133 : decode cX7_row 133 = .ok (.ireturn, 1) := by decide +kernel
theorem dX7_row_134 : decode cX7_row 134 = .ok (.aload_n 0, 1) := by decide +kernel
theorem dX7_row_135 : decode cX7_row 135 = .ok (.getfield 47, 3) := by decide +kernel
theorem dX7_row_138 : decode cX7_row 138 = .ok (.iconst 3, 1) := by decide +kernel
theorem dX7_row_139 : decode cX7_row 139 = .ok (.iaload, 1) := by decide +kernel
theorem dX7_row_140 : decode cX7_row 140 = .ok (.ireturn, 1) := by decide +kernel
theorem dX7_row_141 : decode cX7_row 141 = .ok (.aload_n 0, 1) := by decide +kernel
theorem dX7_row_142 : decode cX7_row 142 = .ok (.getfield 47, 3) := by decide +kernel
theorem dX7_row_145 : decode cX7_row 145 = .ok (.bipush 7, 2) := by decide +kernel
theorem dX7_row_147 : decode cX7_row 147 = .ok (.iaload, 1) := by decide +kernel
theorem dX7_row_148 : decode cX7_row 148 = .ok (.ireturn, 1) := by decide +kernel
theorem dX7_row_149 : decode cX7_row 149 = .ok (.iload_n 3, 1) := by decide +kernel
theorem dX7_row_150 : decode cX7_row 150 = .ok (.ireturn, 1) := by decide +kernel
theorem dX7_waitsIn_0 : decode cX7_waitsIn 0 = .ok (.aload_n 0, 1) := by decide +kernel
theorem dX7_waitsIn_1 : decode cX7_waitsIn 1 = .ok (.getfield 57, 3) := by decide +kernel
theorem dX7_waitsIn_4 : decode cX7_waitsIn 4 = .ok (.bipush 14, 2) := by decide +kernel
theorem dX7_waitsIn_6 : decode cX7_waitsIn 6 = .ok (.iload_n 1, 1) := by decide +kernel
theorem dX7_waitsIn_7 : decode cX7_waitsIn 7 = .ok (.imul, 1) := by decide +kernel
theorem dX7_waitsIn_8 : decode cX7_waitsIn 8 = .ok (.bipush 7, 2) := by decide +kernel
theorem dX7_waitsIn_10 : decode cX7_waitsIn 10 = .ok (.iadd, 1) := by decide +kernel
theorem dX7_waitsIn_11 : decode cX7_waitsIn 11 = .ok (.iaload, 1) := by decide +kernel
theorem dX7_waitsIn_12 : decode cX7_waitsIn 12 = .ok (.iload_n 2, 1) := by decide +kernel
theorem dX7_waitsIn_13 : decode cX7_waitsIn 13 = .ok (.ishr, 1) := by decide +kernel
theorem dX7_waitsIn_14 : decode cX7_waitsIn 14 = .ok (.iconst 1, 1) := by decide +kernel
theorem dX7_waitsIn_15 : decode cX7_waitsIn 15 = .ok (.iand, 1) := by decide +kernel
theorem dX7_waitsIn_16 : decode cX7_waitsIn 16 = .ok (.iconst 1, 1) := by decide +kernel
theorem dX7_waitsIn_17 : decode cX7_waitsIn 17 = .ok (.if_icmp .ne 7, 3) := by decide +kernel
theorem dX7_waitsIn_20 : decode cX7_waitsIn 20 = .ok (.iconst 1, 1) := by decide +kernel
theorem dX7_waitsIn_21 : decode cX7_waitsIn 21 = .ok (.goto 4, 3) := by decide +kernel
theorem dX7_waitsIn_24 : decode cX7_waitsIn 24 = .ok (.iconst 0, 1) := by decide +kernel
theorem dX7_waitsIn_25 : decode cX7_waitsIn 25 = .ok (.ireturn, 1) := by decide +kernel
theorem dX7_longest_0 : decode cX7_longest 0 = .ok (.aload_n 0, 1) := by decide +kernel
theorem dX7_longest_1 : decode cX7_longest 1 = .ok (.iconst 0, 1) := by decide +kernel
theorem dX7_longest_2 : decode cX7_longest 2 = .ok (.putfield 79, 3) := by decide +kernel
theorem dX7_longest_5 : decode cX7_longest 5 = .ok (.aload_n 0, 1) := by decide +kernel
theorem dX7_longest_6 : decode cX7_longest 6 = .ok (.getfield 53, 3) := by decide +kernel
theorem dX7_longest_9 : decode cX7_longest 9 = .ok (.iconst 1, 1) := by decide +kernel
theorem dX7_longest_10 : decode cX7_longest 10 = .ok (.if_icmp .ne 11, 3) := by decide +kernel
theorem dX7_longest_13 : decode cX7_longest 13 = .ok (.aload_n 0, 1) := by decide +kernel
theorem dX7_longest_14 : decode cX7_longest 14 = .ok (.iload_n 1, 1) := by decide +kernel
theorem dX7_longest_15 : decode cX7_longest 15 = .ok (.invokevirtual 106, 3) := by decide +kernel
theorem dX7_longest_18 : decode cX7_longest 18 = .ok (.ifCond .ne 6, 3) := by decide +kernel
theorem dX7_longest_21 : decode cX7_longest 21 = .ok (.bipush (-2), 2) := by decide +kernel
theorem dX7_longest_23 : decode cX7_longest 23 = .ok (.ireturn, 1) := by decide +kernel
theorem dX7_longest_24 : decode cX7_longest 24 = .ok (.iconst 0, 1) := by decide +kernel
theorem dX7_longest_25 : decode cX7_longest 25 = .ok (.istore_n 2, 1) := by decide +kernel
theorem dX7_longest_26 : decode cX7_longest 26 = .ok (.iload_n 2, 1) := by decide +kernel
theorem dX7_longest_27 : decode cX7_longest 27 = .ok (.aload_n 0, 1) := by decide +kernel
theorem dX7_longest_28 : decode cX7_longest 28 = .ok (.getfield 100, 3) := by decide +kernel
theorem dX7_longest_31 : decode cX7_longest 31 = .ok (.if_icmp .ge 29, 3) := by decide +kernel
theorem dX7_longest_34 : decode cX7_longest 34 = .ok (.aload_n 0, 1) := by decide +kernel
theorem dX7_longest_35 : decode cX7_longest 35 = .ok (.getfield 72, 3) := by decide +kernel
theorem dX7_longest_38 : decode cX7_longest 38 = .ok (.iload_n 2, 1) := by decide +kernel
theorem dX7_longest_39 : decode cX7_longest 39 = .ok (.aload_n 0, 1) := by decide +kernel
theorem dX7_longest_40 : decode cX7_longest 40 = .ok (.iload_n 2, 1) := by decide +kernel
theorem dX7_longest_41 : decode cX7_longest 41 = .ok (.iload_n 1, 1) := by decide +kernel
theorem dX7_longest_42 : decode cX7_longest 42 = .ok (.invokevirtual 178, 3) := by decide +kernel
theorem dX7_longest_45 : decode cX7_longest 45 = .ok (.ifCond .eq 7, 3) := by decide +kernel
theorem dX7_longest_48 : decode cX7_longest 48 = .ok (.iconst 1, 1) := by decide +kernel
theorem dX7_longest_49 : decode cX7_longest 49 = .ok (.goto 4, 3) := by decide +kernel
theorem dX7_longest_52 : decode cX7_longest 52 = .ok (.iconst 0, 1) := by decide +kernel
theorem dX7_longest_53 : decode cX7_longest 53 = .ok (.iastore, 1) := by decide +kernel
theorem dX7_longest_54 : decode cX7_longest 54 = .ok (.iinc 2 1, 3) := by decide +kernel
theorem dX7_longest_57 : decode cX7_longest 57 = .ok (.goto (-31), 3) := by decide +kernel
theorem dX7_longest_60 : decode cX7_longest 60 = .ok (.iconst 1, 1) := by decide +kernel
theorem dX7_longest_61 : decode cX7_longest 61 = .ok (.istore_n 2, 1) := by decide +kernel
theorem dX7_longest_62 : decode cX7_longest 62 = .ok (.iconst 0, 1) := by decide +kernel
theorem dX7_longest_63 : decode cX7_longest 63 = .ok (.istore_n 3, 1) := by decide +kernel
theorem dX7_longest_64 : decode cX7_longest 64 = .ok (.iload_n 2, 1) := by decide +kernel
theorem dX7_longest_65 : decode cX7_longest 65 = .ok (.ifCond .eq 120, 3) := by decide +kernel
theorem dX7_longest_68 : decode cX7_longest 68 = .ok (.iload_n 3, 1) := by decide +kernel
theorem dX7_longest_69 : decode cX7_longest 69 = .ok (.aload_n 0, 1) := by decide +kernel
theorem dX7_longest_70 : decode cX7_longest 70 = .ok (.getfield 100, 3) := by decide +kernel
theorem dX7_longest_73 : decode cX7_longest 73 = .ok (.if_icmp .gt 112, 3) := by decide +kernel
theorem dX7_longest_76 : decode cX7_longest 76 = .ok (.iconst 0, 1) := by decide +kernel
theorem dX7_longest_77 : decode cX7_longest 77 = .ok (.istore_n 2, 1) := by decide +kernel
theorem dX7_longest_78 : decode cX7_longest 78 = .ok (.iinc 3 1, 3) := by decide +kernel
theorem dX7_longest_81 : decode cX7_longest 81 = .ok (.iconst 0, 1) := by decide +kernel
theorem dX7_longest_82 : decode cX7_longest 82 = .ok (.istore 4, 2) := by decide +kernel
theorem dX7_longest_84 : decode cX7_longest 84 = .ok (.iload 4, 2) := by decide +kernel
theorem dX7_longest_86 : decode cX7_longest 86 = .ok (.aload_n 0, 1) := by decide +kernel
theorem dX7_longest_87 : decode cX7_longest 87 = .ok (.getfield 100, 3) := by decide +kernel
theorem dX7_longest_90 : decode cX7_longest 90 = .ok (.if_icmp .ge 92, 3) := by decide +kernel
theorem dX7_longest_93 : decode cX7_longest 93 = .ok (.iconst 0, 1) := by decide +kernel
theorem dX7_longest_94 : decode cX7_longest 94 = .ok (.istore 5, 2) := by decide +kernel
theorem dX7_longest_96 : decode cX7_longest 96 = .ok (.iload 5, 2) := by decide +kernel
theorem dX7_longest_98 : decode cX7_longest 98 = .ok (.aload_n 0, 1) := by decide +kernel
theorem dX7_longest_99 : decode cX7_longest 99 = .ok (.getfield 165, 3) := by decide +kernel
theorem dX7_longest_102 : decode cX7_longest 102 = .ok (.if_icmp .ge 74, 3) := by decide +kernel
theorem dX7_longest_105 : decode cX7_longest 105 = .ok (.aload_n 0, 1) := by decide +kernel
theorem dX7_longest_106 : decode cX7_longest 106 = .ok (.getfield 72, 3) := by decide +kernel
theorem dX7_longest_109 : decode cX7_longest 109 = .ok (.iload 4, 2) := by decide +kernel
theorem dX7_longest_111 : decode cX7_longest 111 = .ok (.iaload, 1) := by decide +kernel
theorem dX7_longest_112 : decode cX7_longest 112 = .ok (.ifCond .le 64, 3) := by decide +kernel
theorem dX7_longest_115 : decode cX7_longest 115 = .ok (.aload_n 0, 1) := by decide +kernel
theorem dX7_longest_116 : decode cX7_longest 116 = .ok (.getfield 66, 3) := by decide +kernel
theorem dX7_longest_119 : decode cX7_longest 119 = .ok (.bipush 10, 2) := by decide +kernel
theorem dX7_longest_121 : decode cX7_longest 121 = .ok (.iload 4, 2) := by decide +kernel
theorem dX7_longest_123 : decode cX7_longest 123 = .ok (.imul, 1) := by decide +kernel
theorem dX7_longest_124 : decode cX7_longest 124 = .ok (.iload 5, 2) := by decide +kernel
theorem dX7_longest_126 : decode cX7_longest 126 = .ok (.iadd, 1) := by decide +kernel
theorem dX7_longest_127 : decode cX7_longest 127 = .ok (.iaload, 1) := by decide +kernel
theorem dX7_longest_128 : decode cX7_longest 128 = .ok (.istore 6, 2) := by decide +kernel
theorem dX7_longest_130 : decode cX7_longest 130 = .ok (.aload_n 0, 1) := by decide +kernel
theorem dX7_longest_131 : decode cX7_longest 131 = .ok (.getfield 72, 3) := by decide +kernel
theorem dX7_longest_134 : decode cX7_longest 134 = .ok (.iload 6, 2) := by decide +kernel
theorem dX7_longest_136 : decode cX7_longest 136 = .ok (.iaload, 1) := by decide +kernel
theorem dX7_longest_137 : decode cX7_longest 137 = .ok (.iconst 1, 1) := by decide +kernel
theorem dX7_longest_138 : decode cX7_longest 138 = .ok (.iadd, 1) := by decide +kernel
theorem dX7_longest_139 : decode cX7_longest 139 = .ok (.aload_n 0, 1) := by decide +kernel
theorem dX7_longest_140 : decode cX7_longest 140 = .ok (.getfield 72, 3) := by decide +kernel
theorem dX7_longest_143 : decode cX7_longest 143 = .ok (.iload 4, 2) := by decide +kernel
theorem dX7_longest_145 : decode cX7_longest 145 = .ok (.iaload, 1) := by decide +kernel
theorem dX7_longest_146 : decode cX7_longest 146 = .ok (.if_icmp .gt 6, 3) := by decide +kernel
theorem dX7_longest_149 : decode cX7_longest 149 = .ok (.goto 21, 3) := by decide +kernel
theorem dX7_longest_152 : decode cX7_longest 152 = .ok (.aload_n 0, 1) := by decide +kernel
theorem dX7_longest_153 : decode cX7_longest 153 = .ok (.getfield 72, 3) := by decide +kernel
theorem dX7_longest_156 : decode cX7_longest 156 = .ok (.iload 4, 2) := by decide +kernel
theorem dX7_longest_158 : decode cX7_longest 158 = .ok (.aload_n 0, 1) := by decide +kernel
theorem dX7_longest_159 : decode cX7_longest 159 = .ok (.getfield 72, 3) := by decide +kernel
theorem dX7_longest_162 : decode cX7_longest 162 = .ok (.iload 6, 2) := by decide +kernel
theorem dX7_longest_164 : decode cX7_longest 164 = .ok (.iaload, 1) := by decide +kernel
theorem dX7_longest_165 : decode cX7_longest 165 = .ok (.iconst 1, 1) := by decide +kernel
theorem dX7_longest_166 : decode cX7_longest 166 = .ok (.iadd, 1) := by decide +kernel
theorem dX7_longest_167 : decode cX7_longest 167 = .ok (.iastore, 1) := by decide +kernel
theorem dX7_longest_168 : decode cX7_longest 168 = .ok (.iconst 1, 1) := by decide +kernel
theorem dX7_longest_169 : decode cX7_longest 169 = .ok (.istore_n 2, 1) := by decide +kernel
theorem dX7_longest_170 : decode cX7_longest 170 = .ok (.iinc 5 1, 3) := by decide +kernel
theorem dX7_longest_173 : decode cX7_longest 173 = .ok (.goto (-77), 3) := by decide +kernel
theorem dX7_longest_176 : decode cX7_longest 176 = .ok (.iinc 4 1, 3) := by decide +kernel
theorem dX7_longest_179 : decode cX7_longest 179 = .ok (.goto (-95), 3) := by decide +kernel
theorem dX7_longest_182 : decode cX7_longest 182 = .ok (.goto (-118), 3) := by decide +kernel
theorem dX7_longest_185 : decode cX7_longest 185 = .ok (.iload_n 2, 1) := by decide +kernel
theorem dX7_longest_186 : decode cX7_longest 186 = .ok (.ifCond .eq 5, 3) := by decide +kernel
theorem dX7_longest_189 : decode cX7_longest 189 = .ok (.iconst (-1), 1) := by decide +kernel
theorem dX7_longest_190 : decode cX7_longest 190 = .ok (.ireturn, 1) := by decide +kernel
theorem dX7_longest_191 : decode cX7_longest 191 = .ok (.iconst 0, 1) := by decide +kernel
theorem dX7_longest_192 : decode cX7_longest 192 = .ok (.istore 4, 2) := by decide +kernel
theorem dX7_longest_194 : decode cX7_longest 194 = .ok (.iconst 0, 1) := by decide +kernel
theorem dX7_longest_195 : decode cX7_longest 195 = .ok (.istore 5, 2) := by decide +kernel
theorem dX7_longest_197 : decode cX7_longest 197 = .ok (.iload 5, 2) := by decide +kernel
theorem dX7_longest_199 : decode cX7_longest 199 = .ok (.aload_n 0, 1) := by decide +kernel
theorem dX7_longest_200 : decode cX7_longest 200 = .ok (.getfield 100, 3) := by decide +kernel
theorem dX7_longest_203 : decode cX7_longest 203 = .ok (.if_icmp .ge 35, 3) := by decide +kernel
theorem dX7_longest_206 : decode cX7_longest 206 = .ok (.aload_n 0, 1) := by decide +kernel
theorem dX7_longest_207 : decode cX7_longest 207 = .ok (.getfield 72, 3) := by decide +kernel
theorem dX7_longest_210 : decode cX7_longest 210 = .ok (.iload 5, 2) := by decide +kernel
theorem dX7_longest_212 : decode cX7_longest 212 = .ok (.iaload, 1) := by decide +kernel
theorem dX7_longest_213 : decode cX7_longest 213 = .ok (.iload 4, 2) := by decide +kernel
theorem dX7_longest_215 : decode cX7_longest 215 = .ok (.if_icmp .le 13, 3) := by decide +kernel
theorem dX7_longest_218 : decode cX7_longest 218 = .ok (.aload_n 0, 1) := by decide +kernel
theorem dX7_longest_219 : decode cX7_longest 219 = .ok (.getfield 72, 3) := by decide +kernel
theorem dX7_longest_222 : decode cX7_longest 222 = .ok (.iload 5, 2) := by decide +kernel
theorem dX7_longest_224 : decode cX7_longest 224 = .ok (.iaload, 1) := by decide +kernel
theorem dX7_longest_225 : decode cX7_longest 225 = .ok (.goto 5, 3) := by decide +kernel
theorem dX7_longest_228 : decode cX7_longest 228 = .ok (.iload 4, 2) := by decide +kernel
theorem dX7_longest_230 : decode cX7_longest 230 = .ok (.istore 4, 2) := by decide +kernel
theorem dX7_longest_232 : decode cX7_longest 232 = .ok (.iinc 5 1, 3) := by decide +kernel
theorem dX7_longest_235 : decode cX7_longest 235 = .ok (.goto (-38), 3) := by decide +kernel
theorem dX7_longest_238 : decode cX7_longest 238 = .ok (.iload 4, 2) := by decide +kernel
theorem dX7_longest_240 : decode cX7_longest 240 = .ok (.ireturn, 1) := by decide +kernel
theorem dX7_ring_0 : decode cX7_ring 0 = .ok (.aload_n 0, 1) := by decide +kernel
theorem dX7_ring_1 : decode cX7_ring 1 = .ok (.iconst 0, 1) := by decide +kernel
theorem dX7_ring_2 : decode cX7_ring 2 = .ok (.putfield 79, 3) := by decide +kernel
theorem dX7_ring_5 : decode cX7_ring 5 = .ok (.iload_n 1, 1) := by decide +kernel
theorem dX7_ring_6 : decode cX7_ring 6 = .ok (.istore_n 2, 1) := by decide +kernel
theorem dX7_ring_7 : decode cX7_ring 7 = .ok (.iconst 0, 1) := by decide +kernel
theorem dX7_ring_8 : decode cX7_ring 8 = .ok (.istore_n 3, 1) := by decide +kernel
theorem dX7_ring_9 : decode cX7_ring 9 = .ok (.iload_n 3, 1) := by decide +kernel
theorem dX7_ring_10 : decode cX7_ring 10 = .ok (.aload_n 0, 1) := by decide +kernel
theorem dX7_ring_11 : decode cX7_ring 11 = .ok (.getfield 82, 3) := by decide +kernel
theorem dX7_ring_14 : decode cX7_ring 14 = .ok (.if_icmp .ge 34, 3) := by decide +kernel
theorem dX7_ring_17 : decode cX7_ring 17 = .ok (.iload_n 1, 1) := by decide +kernel
theorem dX7_ring_18 : decode cX7_ring 18 = .ok (.ifCond .lt 30, 3) := by decide +kernel
theorem dX7_ring_21 : decode cX7_ring 21 = .ok (.aload_n 0, 1) := by decide +kernel
theorem dX7_ring_22 : decode cX7_ring 22 = .ok (.iload_n 3, 1) := by decide +kernel
theorem dX7_ring_23 : decode cX7_ring 23 = .ok (.invokevirtual 181, 3) := by decide +kernel
theorem dX7_ring_26 : decode cX7_ring 26 = .ok (.iconst (-1), 1) := by decide +kernel
theorem dX7_ring_27 : decode cX7_ring 27 = .ok (.if_icmp .eq 6, 3) := by decide +kernel
theorem dX7_ring_30 : decode cX7_ring 30 = .ok (.goto 12, 3) := by decide +kernel
theorem dX7_ring_33 : decode cX7_ring 33 = .ok (.iload_n 2, 1) := by decide +kernel
theorem dX7_ring_34 : decode cX7_ring 34 = .ok (.ifCond .ne 5, 3) := by decide +kernel
theorem dX7_ring_37 : decode cX7_ring 37 = .ok (.iload_n 3, 1) := by decide +kernel
theorem dX7_ring_38 : decode cX7_ring 38 = .ok (.ireturn, 1) := by decide +kernel
theorem dX7_ring_39 : decode cX7_ring 39 = .ok (.iinc 2 (-1), 3) := by decide +kernel
theorem dX7_ring_42 : decode cX7_ring 42 = .ok (.iinc 3 1, 3) := by decide +kernel
theorem dX7_ring_45 : decode cX7_ring 45 = .ok (.goto (-36), 3) := by decide +kernel
theorem dX7_ring_48 : decode cX7_ring 48 = .ok (.iconst (-1), 1) := by decide +kernel
theorem dX7_ring_49 : decode cX7_ring 49 = .ok (.ireturn, 1) := by decide +kernel
theorem dX7_answered_0 : decode cX7_answered 0 = .ok (.aload_n 0, 1) := by decide +kernel
theorem dX7_answered_1 : decode cX7_answered 1 = .ok (.iconst 0, 1) := by decide +kernel
theorem dX7_answered_2 : decode cX7_answered 2 = .ok (.putfield 79, 3) := by decide +kernel
theorem dX7_answered_5 : decode cX7_answered 5 = .ok (.aload_n 0, 1) := by decide +kernel
theorem dX7_answered_6 : decode cX7_answered 6 = .ok (.getfield 53, 3) := by decide +kernel
theorem dX7_answered_9 : decode cX7_answered 9 = .ok (.iconst 1, 1) := by decide +kernel
theorem dX7_answered_10 : decode cX7_answered 10 = .ok (.if_icmp .ne 7, 3) := by decide +kernel
theorem dX7_answered_13 : decode cX7_answered 13 = .ok (.iconst 1, 1) := by decide +kernel
theorem dX7_answered_14 : decode cX7_answered 14 = .ok (.goto 4, 3) := by decide +kernel
theorem dX7_answered_17 : decode cX7_answered 17 = .ok (.iconst 0, 1) := by decide +kernel
theorem dX7_answered_18 : decode cX7_answered 18 = .ok (.istore_n 1, 1) := by decide +kernel
theorem dX7_answered_19 : decode cX7_answered 19 = .ok (.iconst 0, 1) := by decide +kernel
theorem dX7_answered_20 : decode cX7_answered 20 = .ok (.istore_n 2, 1) := by decide +kernel
theorem dX7_answered_21 : decode cX7_answered 21 = .ok (.iload_n 2, 1) := by decide +kernel
theorem dX7_answered_22 : decode cX7_answered 22 = .ok (.aload_n 0, 1) := by decide +kernel
theorem dX7_answered_23 : decode cX7_answered 23 = .ok (.getfield 82, 3) := by decide +kernel
theorem dX7_answered_26 : decode cX7_answered 26 = .ok (.if_icmp .ge 27, 3) := by decide +kernel
theorem dX7_answered_29 : decode cX7_answered 29 = .ok (.iload_n 1, 1) := by decide +kernel
theorem dX7_answered_30 : decode cX7_answered 30 = .ok (.ifCond .eq 23, 3) := by decide +kernel
theorem dX7_answered_33 : decode cX7_answered 33 = .ok (.aload_n 0, 1) := by decide +kernel
theorem dX7_answered_34 : decode cX7_answered 34 = .ok (.iload_n 2, 1) := by decide +kernel
theorem dX7_answered_35 : decode cX7_answered 35 = .ok (.invokevirtual 181, 3) := by decide +kernel
theorem dX7_answered_38 : decode cX7_answered 38 = .ok (.ifCond .lt 7, 3) := by decide +kernel
theorem dX7_answered_41 : decode cX7_answered 41 = .ok (.iconst 1, 1) := by decide +kernel
theorem dX7_answered_42 : decode cX7_answered 42 = .ok (.goto 4, 3) := by decide +kernel
theorem dX7_answered_45 : decode cX7_answered 45 = .ok (.iconst 0, 1) := by decide +kernel
theorem dX7_answered_46 : decode cX7_answered 46 = .ok (.istore_n 1, 1) := by decide +kernel
theorem dX7_answered_47 : decode cX7_answered 47 = .ok (.iinc 2 1, 3) := by decide +kernel
theorem dX7_answered_50 : decode cX7_answered 50 = .ok (.goto (-29), 3) := by decide +kernel
theorem dX7_answered_53 : decode cX7_answered 53 = .ok (.iload_n 1, 1) := by decide +kernel
theorem dX7_answered_54 : decode cX7_answered 54 = .ok (.ireturn, 1) := by decide +kernel
theorem dX7_same_0 : decode cX7_same 0 = .ok (.aload_n 0, 1) := by decide +kernel
theorem dX7_same_1 : decode cX7_same 1 = .ok (.iconst 0, 1) := by decide +kernel
theorem dX7_same_2 : decode cX7_same 2 = .ok (.putfield 79, 3) := by decide +kernel
theorem dX7_same_5 : decode cX7_same 5 = .ok (.aload_n 0, 1) := by decide +kernel
theorem dX7_same_6 : decode cX7_same 6 = .ok (.getfield 85, 3) := by decide +kernel
theorem dX7_same_9 : decode cX7_same 9 = .ok (.ifCond .eq 21, 3) := by decide +kernel
theorem dX7_same_12 : decode cX7_same 12 = .ok (.aload_n 0, 1) := by decide +kernel
theorem dX7_same_13 : decode cX7_same 13 = .ok (.getfield 53, 3) := by decide +kernel
theorem dX7_same_16 : decode cX7_same 16 = .ok (.iconst (-1), 1) := by decide +kernel
theorem dX7_same_17 : decode cX7_same 17 = .ok (.if_icmp .eq 13, 3) := by decide +kernel
theorem dX7_same_20 : decode cX7_same 20 = .ok (.iload_n 1, 1) := by decide +kernel
theorem dX7_same_21 : decode cX7_same 21 = .ok (.ifCond .lt 9, 3) := by decide +kernel
theorem dX7_same_24 : decode cX7_same 24 = .ok (.iload_n 1, 1) := by decide +kernel
theorem dX7_same_25 : decode cX7_same 25 = .ok (.bipush 100, 2) := by decide +kernel
theorem dX7_same_27 : decode cX7_same 27 = .ok (.if_icmp .le 5, 3) := by decide +kernel
theorem dX7_same_30 : decode cX7_same 30 = .ok (.iconst 0, 1) := by decide +kernel
theorem dX7_same_31 : decode cX7_same 31 = .ok (.ireturn, 1) := by decide +kernel
theorem dX7_same_32 : decode cX7_same 32 = .ok (.aload_n 0, 1) := by decide +kernel
theorem dX7_same_33 : decode cX7_same 33 = .ok (.invokevirtual 150, 3) := by decide +kernel
theorem dX7_same_36 : decode cX7_same 36 = .ok (.aload_n 0, 1) := by decide +kernel
theorem dX7_same_37 : decode cX7_same 37 = .ok (.invokevirtual 159, 3) := by decide +kernel
theorem dX7_same_40 : decode cX7_same 40 = .ok (.ifCond .lt 7, 3) := by decide +kernel
theorem dX7_same_43 : decode cX7_same 43 = .ok (.iconst 1, 1) := by decide +kernel
theorem dX7_same_44 : decode cX7_same 44 = .ok (.goto 4, 3) := by decide +kernel
theorem dX7_same_47 : decode cX7_same 47 = .ok (.iconst 0, 1) := by decide +kernel
theorem dX7_same_48 : decode cX7_same 48 = .ok (.istore_n 2, 1) := by decide +kernel
theorem dX7_same_49 : decode cX7_same 49 = .ok (.iconst 1, 1) := by decide +kernel
theorem dX7_same_50 : decode cX7_same 50 = .ok (.istore_n 3, 1) := by decide +kernel
theorem dX7_same_51 : decode cX7_same 51 = .ok (.iload_n 3, 1) := by decide +kernel
theorem dX7_same_52 : decode cX7_same 52 = .ok (.iload_n 1, 1) := by decide +kernel
theorem dX7_same_53 : decode cX7_same 53 = .ok (.if_icmp .gt 43, 3) := by decide +kernel
theorem dX7_same_56 : decode cX7_same 56 = .ok (.iload_n 2, 1) := by decide +kernel
theorem dX7_same_57 : decode cX7_same 57 = .ok (.ifCond .eq 39, 3) := by decide +kernel
theorem dX7_same_60 : decode cX7_same 60 = .ok (.aload_n 0, 1) := by decide +kernel
theorem dX7_same_61 : decode cX7_same 61 = .ok (.aload_n 0, 1) := by decide +kernel
theorem dX7_same_62 : decode cX7_same 62 = .ok (.aload_n 0, 1) := by decide +kernel
theorem dX7_same_63 : decode cX7_same 63 = .ok (.getfield 97, 3) := by decide +kernel
theorem dX7_same_66 : decode cX7_same 66 = .ok (.iload_n 3, 1) := by decide +kernel
theorem dX7_same_67 : decode cX7_same 67 = .ok (.iadd, 1) := by decide +kernel
theorem dX7_same_68 : decode cX7_same 68 = .ok (.invokevirtual 153, 3) := by decide +kernel
theorem dX7_same_71 : decode cX7_same 71 = .ok (.invokevirtual 156, 3) := by decide +kernel
theorem dX7_same_74 : decode cX7_same 74 = .ok (.ifCond .ne 14, 3) := by decide +kernel
theorem dX7_same_77 : decode cX7_same 77 = .ok (.aload_n 0, 1) := by decide +kernel
theorem dX7_same_78 : decode cX7_same 78 = .ok (.invokevirtual 159, 3) := by decide +kernel
theorem dX7_same_81 : decode cX7_same 81 = .ok (.ifCond .lt 7, 3) := by decide +kernel
theorem dX7_same_84 : decode cX7_same 84 = .ok (.iconst 1, 1) := by decide +kernel
theorem dX7_same_85 : decode cX7_same 85 = .ok (.goto 4, 3) := by decide +kernel
theorem dX7_same_88 : decode cX7_same 88 = .ok (.iconst 0, 1) := by decide +kernel
theorem dX7_same_89 : decode cX7_same 89 = .ok (.istore_n 2, 1) := by decide +kernel
theorem dX7_same_90 : decode cX7_same 90 = .ok (.iinc 3 1, 3) := by decide +kernel
theorem dX7_same_93 : decode cX7_same 93 = .ok (.goto (-42), 3) := by decide +kernel
theorem dX7_same_96 : decode cX7_same 96 = .ok (.iload_n 2, 1) := by decide +kernel
theorem dX7_same_97 : decode cX7_same 97 = .ok (.ireturn, 1) := by decide +kernel
theorem dX7_from_0 : decode cX7_from 0 = .ok (.aload_n 0, 1) := by decide +kernel
theorem dX7_from_1 : decode cX7_from 1 = .ok (.iconst 0, 1) := by decide +kernel
theorem dX7_from_2 : decode cX7_from 2 = .ok (.putfield 79, 3) := by decide +kernel
theorem dX7_from_5 : decode cX7_from 5 = .ok (.lload_n 1, 1) := by decide +kernel
theorem dX7_from_6 : decode cX7_from 6 = .ok (.lconst 0, 1) := by decide +kernel
theorem dX7_from_7 : decode cX7_from 7 = .ok (.lcmp, 1) := by decide +kernel
theorem dX7_from_8 : decode cX7_from 8 = .ok (.ifCond .lt 38, 3) := by decide +kernel
theorem dX7_from_11 : decode cX7_from 11 = .ok (.lload_n 1, 1) := by decide +kernel
theorem dX7_from_12 : decode cX7_from 12 = .ok (.ldc2_w 184, 3) := by decide +kernel
theorem dX7_from_15 : decode cX7_from 15 = .ok (.lcmp, 1) := by decide +kernel
theorem dX7_from_16 : decode cX7_from 16 = .ok (.ifCond .gt 30, 3) := by decide +kernel
theorem dX7_from_19 : decode cX7_from 19 = .ok (.lload_n 3, 1) := by decide +kernel
theorem dX7_from_20 : decode cX7_from 20 = .ok (.lconst 0, 1) := by decide +kernel
theorem dX7_from_21 : decode cX7_from 21 = .ok (.lcmp, 1) := by decide +kernel
theorem dX7_from_22 : decode cX7_from 22 = .ok (.ifCond .lt 24, 3) := by decide +kernel
theorem dX7_from_25 : decode cX7_from 25 = .ok (.lload_n 3, 1) := by decide +kernel
theorem dX7_from_26 : decode cX7_from 26 = .ok (.ldc2_w 184, 3) := by decide +kernel
theorem dX7_from_29 : decode cX7_from 29 = .ok (.lcmp, 1) := by decide +kernel
theorem dX7_from_30 : decode cX7_from 30 = .ok (.ifCond .gt 16, 3) := by decide +kernel
theorem dX7_from_33 : decode cX7_from 33 = .ok (.iload 5, 2) := by decide +kernel
theorem dX7_from_35 : decode cX7_from 35 = .ok (.iconst 1, 1) := by decide +kernel
theorem dX7_from_36 : decode cX7_from 36 = .ok (.if_icmp .lt 10, 3) := by decide +kernel
theorem dX7_from_39 : decode cX7_from 39 = .ok (.iload 5, 2) := by decide +kernel
theorem dX7_from_41 : decode cX7_from 41 = .ok (.bipush 50, 2) := by decide +kernel
theorem dX7_from_43 : decode cX7_from 43 = .ok (.if_icmp .le 5, 3) := by decide +kernel
theorem dX7_from_46 : decode cX7_from 46 = .ok (.iconst (-1), 1) := by decide +kernel
theorem dX7_from_47 : decode cX7_from 47 = .ok (.ireturn, 1) := by decide +kernel
theorem dX7_from_48 : decode cX7_from 48 = .ok (.lload_n 3, 1) := by decide +kernel
theorem dX7_from_49 : decode cX7_from 49 = .ok (.iload 5, 2) := by decide +kernel
theorem dX7_from_51 : decode cX7_from 51 = .ok (.i2l, 1) := by decide +kernel
theorem dX7_from_52 : decode cX7_from 52 = .ok (.ladd, 1) := by decide +kernel
theorem dX7_from_53 : decode cX7_from 53 = .ok (.lconst 1, 1) := by decide +kernel
theorem dX7_from_54 : decode cX7_from 54 = .ok (.lsub, 1) := by decide +kernel
theorem dX7_from_55 : decode cX7_from 55 = .ok (.iload 5, 2) := by decide +kernel
theorem dX7_from_57 : decode cX7_from 57 = .ok (.i2l, 1) := by decide +kernel
theorem dX7_from_58 : decode cX7_from 58 = .ok (.ldiv, 1) := by decide +kernel
theorem dX7_from_59 : decode cX7_from 59 = .ok (.lload_n 1, 1) := by decide +kernel
theorem dX7_from_60 : decode cX7_from 60 = .ok (.iload 5, 2) := by decide +kernel
theorem dX7_from_62 : decode cX7_from 62 = .ok (.i2l, 1) := by decide +kernel
theorem dX7_from_63 : decode cX7_from 63 = .ok (.ldiv, 1) := by decide +kernel
theorem dX7_from_64 : decode cX7_from 64 = .ok (.lsub, 1) := by decide +kernel
theorem dX7_from_65 : decode cX7_from 65 = .ok (.l2i, 1) := by decide +kernel
theorem dX7_from_66 : decode cX7_from 66 = .ok (.istore 6, 2) := by decide +kernel
theorem dX7_from_68 : decode cX7_from 68 = .ok (.iload 6, 2) := by decide +kernel
theorem dX7_from_70 : decode cX7_from 70 = .ok (.ifCond .ge 7, 3) := by decide +kernel
theorem dX7_from_73 : decode cX7_from 73 = .ok (.iconst 0, 1) := by decide +kernel
theorem dX7_from_74 : decode cX7_from 74 = .ok (.goto 5, 3) := by decide +kernel
theorem dX7_from_77 : decode cX7_from 77 = .ok (.iload 6, 2) := by decide +kernel
theorem dX7_from_79 : decode cX7_from 79 = .ok (.ireturn, 1) := by decide +kernel
