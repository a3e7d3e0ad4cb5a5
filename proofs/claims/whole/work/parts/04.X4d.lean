theorem dX4_init_0 : decode cX4_init 0 = .ok (.aload_n 0, 1) := by decide +kernel
theorem dX4_init_1 : decode cX4_init 1 = .ok (.invokespecial 5, 3) := by decide +kernel
theorem dX4_init_4 : decode cX4_init 4 = .ok (.aload_n 0, 1) := by decide +kernel
theorem dX4_init_5 : decode cX4_init 5 = .ok (.iconst 3, 1) := by decide +kernel
theorem dX4_init_6 : decode cX4_init 6 = .ok (.putfield 11, 3) := by decide +kernel
theorem dX4_init_9 : decode cX4_init 9 = .ok (.aload_n 0, 1) := by decide +kernel
theorem dX4_init_10 : decode cX4_init 10 = .ok (.bipush 6, 2) := by decide +kernel
theorem dX4_init_12 : decode cX4_init 12 = .ok (.newarray .int, 2) := by decide +kernel
theorem dX4_init_14 : decode cX4_init 14 = .ok (.putfield 15, 3) := by decide +kernel
theorem dX4_init_17 : decode cX4_init 17 = .ok (.aload_n 0, 1) := by decide +kernel
theorem dX4_init_18 : decode cX4_init 18 = .ok (.new 19, 3) := by decide +kernel
theorem dX4_init_21 : decode cX4_init 21 = .ok (.dup, 1) := by decide +kernel
theorem dX4_init_22 : decode cX4_init 22 = .ok (.invokespecial 21, 3) := by decide +kernel
theorem dX4_init_25 : decode cX4_init 25 = .ok (.putfield 22, 3) := by decide +kernel
theorem dX4_init_28 : decode cX4_init 28 = .ok (.aload_n 0, 1) := by decide +kernel
theorem dX4_init_29 : decode cX4_init 29 = .ok (.sipush 400, 3) := by decide +kernel
theorem dX4_init_32 : decode cX4_init 32 = .ok (.newarray .long, 2) := by decide +kernel
theorem dX4_init_34 : decode cX4_init 34 = .ok (.putfield 26, 3) := by decide +kernel
theorem dX4_init_37 : decode cX4_init 37 = .ok (.aload_n 0, 1) := by decide +kernel
theorem dX4_init_38 : decode cX4_init 38 = .ok (.sipush 400, 3) := by decide +kernel
theorem dX4_init_41 : decode cX4_init 41 = .ok (.newarray .int, 2) := by decide +kernel
theorem dX4_init_43 : decode cX4_init 43 = .ok (.putfield 30, 3) := by decide +kernel
theorem dX4_init_46 : decode cX4_init 46 = .ok (.aload_n 0, 1) := by decide +kernel
theorem dX4_init_47 : decode cX4_init 47 = .ok (.sipush 400, 3) := by decide +kernel
theorem dX4_init_50 : decode cX4_init 50 = .ok (.newarray .int, 2) := by decide +kernel
theorem dX4_init_52 : decode cX4_init 52 = .ok (.putfield 33, 3) := by decide +kernel
theorem dX4_init_55 : decode cX4_init 55 = .ok (.aload_n 0, 1) := by decide +kernel
theorem dX4_init_56 : decode cX4_init 56 = .ok (.sipush 1024, 3) := by decide +kernel
theorem dX4_init_59 : decode cX4_init 59 = .ok (.newarray .int, 2) := by decide +kernel
theorem dX4_init_61 : decode cX4_init 61 = .ok (.putfield 36, 3) := by decide +kernel
theorem dX4_init_64 : decode cX4_init 64 = .ok (.aload_n 0, 1) := by decide +kernel
theorem dX4_init_65 : decode cX4_init 65 = .ok (.sipush 400, 3) := by decide +kernel
theorem dX4_init_68 : decode cX4_init 68 = .ok (.newarray .int, 2) := by decide +kernel
theorem dX4_init_70 : decode cX4_init 70 = .ok (.putfield 39, 3) := by decide +kernel
theorem dX4_init_73 : decode cX4_init 73 = .ok (.aload_n 0, 1) := by decide +kernel
theorem dX4_init_74 : decode cX4_init 74 = .ok (.aload_n 1, 1) := by decide +kernel
theorem dX4_init_75 : decode cX4_init 75 = .ok (.putfield 42, 3) := by decide +kernel
theorem dX4_init_78 : decode cX4_init 78 = .ok (.aload_n 0, 1) := by decide +kernel
theorem dX4_init_79 : decode cX4_init 79 = .ok (.new 46, 3) := by decide +kernel
theorem dX4_init_82 : decode cX4_init 82 = .ok (.dup, 1) := by decide +kernel
theorem dX4_init_83 : decode cX4_init 83 = .ok (.aload_n 1, 1) := by decide +kernel
theorem dX4_init_84 : decode cX4_init 84 = .ok (.invokespecial 48, 3) := by decide +kernel
theorem dX4_init_87 : decode cX4_init 87 = .ok (.putfield 51, 3) := by decide +kernel
theorem dX4_init_90 : decode cX4_init 90 = .ok (.return_, 1) := by decide +kernel
theorem dX4_forget_0 : decode cX4_forget 0 = .ok (.aload_n 0, 1) := by decide +kernel
theorem dX4_forget_1 : decode cX4_forget 1 = .ok (.getfield 55, 3) := by decide +kernel
theorem dX4_forget_4 : decode cX4_forget 4 = .ok (.ifCond .le 11, 3) := by decide +kernel
theorem dX4_forget_7 : decode cX4_forget 7 = .ok (.aload_n 0, 1) := by decide +kernel
theorem dX4_forget_8 : decode cX4_forget 8 = .ok (.getfield 36, 3) := by decide +kernel
theorem dX4_forget_11 : decode cX4_forget 11 = .ok (.iconst 0, 1) := by decide +kernel
theorem dX4_forget_12 : decode cX4_forget 12 = .ok (.invokestatic 58, 3) := by decide +kernel
theorem dX4_forget_15 : decode cX4_forget 15 = .ok (.aload_n 0, 1) := by decide +kernel
theorem dX4_forget_16 : decode cX4_forget 16 = .ok (.iconst 0, 1) := by decide +kernel
theorem dX4_forget_17 : decode cX4_forget 17 = .ok (.putfield 55, 3) := by decide +kernel
theorem dX4_forget_20 : decode cX4_forget 20 = .ok (.aload_n 0, 1) := by decide +kernel
theorem dX4_forget_21 : decode cX4_forget 21 = .ok (.iconst 3, 1) := by decide +kernel
theorem dX4_forget_22 : decode cX4_forget 22 = .ok (.putfield 11, 3) := by decide +kernel
theorem dX4_forget_25 : decode cX4_forget 25 = .ok (.return_, 1) := by decide +kernel
theorem dX4_numberOf_0 : decode cX4_numberOf 0 = .ok (.aload_n 0, 1) := by decide +kernel
theorem dX4_numberOf_1 : decode cX4_numberOf 1 = .ok (.lload_n 1, 1) := by decide +kernel
theorem dX4_numberOf_2 : decode cX4_numberOf 2 = .ok (.invokevirtual 64, 3) := by decide +kernel
theorem dX4_numberOf_5 : decode cX4_numberOf 5 = .ok (.istore_n 3, 1) := by decide +kernel
theorem dX4_numberOf_6 : decode cX4_numberOf 6 = .ok (.aload_n 0, 1) := by decide +kernel
theorem dX4_numberOf_7 : decode cX4_numberOf 7 = .ok (.getfield 36, 3) := by decide +kernel
theorem dX4_numberOf_10 : decode cX4_numberOf 10 = .ok (.iload_n 3, 1) := by decide +kernel
theorem dX4_numberOf_11 : decode cX4_numberOf 11 = .ok (.iaload, 1) := by decide +kernel
theorem dX4_numberOf_12 : decode cX4_numberOf 12 = .ok (.ifCond .le 14, 3) := by decide +kernel
theorem dX4_numberOf_15 : decode cX4_numberOf 15 = .ok (.aload_n 0, 1) := by decide +kernel
theorem dX4_numberOf_16 : decode cX4_numberOf 16 = .ok (.getfield 36, 3) := by decide +kernel
theorem dX4_numberOf_19 : decode cX4_numberOf 19 = .ok (.iload_n 3, 1) := by decide +kernel
theorem dX4_numberOf_20 : decode cX4_numberOf 20 = .ok (.iaload, 1) := by decide +kernel
theorem dX4_numberOf_21 : decode cX4_numberOf 21 = .ok (.iconst 1, 1) := by decide +kernel
theorem dX4_numberOf_22 : decode cX4_numberOf 22 = .ok (.isub, 1) := by decide +kernel
theorem dX4_numberOf_23 : decode cX4_numberOf 23 = .ok (.goto 4, 3) := by decide +kernel
theorem dX4_numberOf_26 : decode cX4_numberOf 26 = .ok (.iconst (-1), 1) := by decide +kernel
theorem dX4_numberOf_27 : decode cX4_numberOf 27 = .ok (.ireturn, 1) := by decide +kernel
theorem dX4_search_0 : decode cX4_search 0 = .ok (.aload_n 0, 1) := by decide +kernel
theorem dX4_search_1 : decode cX4_search 1 = .ok (.invokevirtual 68, 3) := by decide +kernel
theorem dX4_search_4 : decode cX4_search 4 = .ok (.aload_n 0, 1) := by decide +kernel
theorem dX4_search_5 : decode cX4_search 5 = .ok (.getfield 51, 3) := by decide +kernel
theorem dX4_search_8 : decode cX4_search 8 = .ok (.invokevirtual 71, 3) := by decide +kernel
theorem dX4_search_11 : decode cX4_search 11 = .ok (.aload_n 0, 1) := by decide +kernel
theorem dX4_search_12 : decode cX4_search 12 = .ok (.aload_n 0, 1) := by decide +kernel
theorem dX4_search_13 : decode cX4_search 13 = .ok (.getfield 51, 3) := by decide +kernel
theorem dX4_search_16 : decode cX4_search 16 = .ok (.invokevirtual 74, 3) := by decide +kernel
theorem dX4_search_19 : decode cX4_search 19 = .ok (.iconst 0, 1) := by decide +kernel
theorem dX4_search_20 : decode cX4_search 20 = .ok (.iconst 0, 1) := by decide +kernel
theorem dX4_search_21 : decode cX4_search 21 = .ok (.invokevirtual 78, 3) := by decide +kernel
theorem dX4_search_24 : decode cX4_search 24 = .ok (.pop, 1) := by decide +kernel
theorem dX4_search_25 : decode cX4_search 25 = .ok (.aload_n 0, 1) := by decide +kernel
theorem dX4_search_26 : decode cX4_search 26 = .ok (.iconst 1, 1) := by decide +kernel
theorem dX4_search_27 : decode cX4_search 27 = .ok (.putfield 11, 3) := by decide +kernel
theorem dX4_search_30 : decode cX4_search 30 = .ok (.iconst 0, 1) := by decide +kernel
theorem dX4_search_31 : decode cX4_search 31 = .ok (.istore_n 2, 1) := by decide +kernel
theorem dX4_search_32 : decode cX4_search 32 = .ok (.iload_n 2, 1) := by decide +kernel
theorem dX4_search_33 : decode cX4_search 33 = .ok (.iload_n 1, 1) := by decide +kernel
theorem dX4_search_34 : decode cX4_search 34 = .ok (.if_icmp .ge 38, 3) := by decide +kernel
theorem dX4_search_37 : decode cX4_search 37 = .ok (.iload_n 2, 1) := by decide +kernel
theorem dX4_search_38 : decode cX4_search 38 = .ok (.aload_n 0, 1) := by decide +kernel
theorem dX4_search_39 : decode cX4_search 39 = .ok (.getfield 55, 3) := by decide +kernel
theorem dX4_search_42 : decode cX4_search 42 = .ok (.if_icmp .ge 30, 3) := by decide +kernel
theorem dX4_search_45 : decode cX4_search 45 = .ok (.aload_n 0, 1) := by decide +kernel
theorem dX4_search_46 : decode cX4_search 46 = .ok (.getfield 11, 3) := by decide +kernel
theorem dX4_search_49 : decode cX4_search 49 = .ok (.iconst 1, 1) := by decide +kernel
theorem dX4_search_50 : decode cX4_search 50 = .ok (.if_icmp .eq 6, 3) := by decide +kernel
theorem dX4_search_53 : decode cX4_search 53 = .ok (.goto 19, 3) := by decide +kernel
theorem dX4_search_56 : decode cX4_search 56 = .ok (.aload_n 0, 1) := by decide +kernel
theorem dX4_search_57 : decode cX4_search 57 = .ok (.aload_n 0, 1) := by decide +kernel
theorem dX4_search_58 : decode cX4_search 58 = .ok (.iload_n 2, 1) := by decide +kernel
theorem dX4_search_59 : decode cX4_search 59 = .ok (.iload_n 1, 1) := by decide +kernel
theorem dX4_search_60 : decode cX4_search 60 = .ok (.invokevirtual 82, 3) := by decide +kernel
theorem dX4_search_63 : decode cX4_search 63 = .ok (.putfield 11, 3) := by decide +kernel
theorem dX4_search_66 : decode cX4_search 66 = .ok (.iinc 2 1, 3) := by decide +kernel
theorem dX4_search_69 : decode cX4_search 69 = .ok (.goto (-37), 3) := by decide +kernel
theorem dX4_search_72 : decode cX4_search 72 = .ok (.aload_n 0, 1) := by decide +kernel
theorem dX4_search_73 : decode cX4_search 73 = .ok (.getfield 11, 3) := by decide +kernel
theorem dX4_search_76 : decode cX4_search 76 = .ok (.iconst 1, 1) := by decide +kernel
theorem dX4_search_77 : decode cX4_search 77 = .ok (.if_icmp .ne 51, 3) := by decide +kernel
theorem dX4_search_80 : decode cX4_search 80 = .ok (.iconst 0, 1) := by decide +kernel
theorem dX4_search_81 : decode cX4_search 81 = .ok (.istore_n 2, 1) := by decide +kernel
theorem dX4_search_82 : decode cX4_search 82 = .ok (.iload_n 2, 1) := by decide +kernel
theorem dX4_search_83 : decode cX4_search 83 = .ok (.aload_n 0, 1) := by decide +kernel
theorem dX4_search_84 : decode cX4_search 84 = .ok (.getfield 42, 3) := by decide +kernel
theorem dX4_search_87 : decode cX4_search 87 = .ok (.getfield 86, 3) := by decide +kernel
theorem dX4_search_90 : decode cX4_search 90 = .ok (.if_icmp .ge 38, 3) := by decide +kernel
theorem dX4_search_93 : decode cX4_search 93 = .ok (.aload_n 0, 1) := by decide +kernel
theorem dX4_search_94 : decode cX4_search 94 = .ok (.getfield 15, 3) := by decide +kernel
theorem dX4_search_97 : decode cX4_search 97 = .ok (.iload_n 2, 1) := by decide +kernel
theorem dX4_search_98 : decode cX4_search 98 = .ok (.aload_n 0, 1) := by decide +kernel
theorem dX4_search_99 : decode cX4_search 99 = .ok (.getfield 22, 3) := by decide +kernel
theorem dX4_search_102 : decode cX4_search 102 = .ok (.aload_n 0, 1) := by decide +kernel
theorem dX4_search_103 : decode cX4_search 103 = .ok (.getfield 26, 3) := by decide +kernel
theorem dX4_search_106 : decode cX4_search 106 = .ok (.aload_n 0, 1) := by decide +kernel
theorem dX4_search_107 : decode cX4_search 107 = .ok (.getfield 55, 3) := by decide +kernel
theorem dX4_search_110 : decode cX4_search 110 = .ok (.aload_n 0, 1) := by decide +kernel
theorem dX4_search_111 : decode cX4_search 111 = .ok (.getfield 42, 3) := by decide +kernel
theorem dX4_search_114 : decode cX4_search 114 = .ok (.invokevirtual 91, 3) := by decide +kernel
theorem dX4_search_117 : decode cX4_search 117 = .ok (.iload_n 2, 1) := by decide +kernel
theorem dX4_search_118 : decode cX4_search 118 = .ok (.invokevirtual 95, 3) := by decide +kernel
theorem dX4_search_121 : decode cX4_search 121 = .ok (.iastore, 1) := by decide +kernel
theorem dX4_search_122 : decode cX4_search 122 = .ok (.iinc 2 1, 3) := by decide +kernel
theorem dX4_search_125 : decode cX4_search 125 = .ok (.goto (-43), 3) := by decide +kernel
theorem dX4_search_128 : decode cX4_search 128 = .ok (.aload_n 0, 1) := by decide +kernel
theorem dX4_search_129 : decode cX4_search 129 = .ok (.getfield 11, 3) := by decide +kernel
theorem dX4_search_132 : decode cX4_search 132 = .ok (.ireturn, 1) := by decide +kernel
theorem dX4_expand_0 : decode cX4_expand 0 = .ok (.iconst 0, 1) := by decide +kernel
theorem dX4_expand_1 : decode cX4_expand 1 = .ok (.istore_n 3, 1) := by decide +kernel
theorem dX4_expand_2 : decode cX4_expand 2 = .ok (.iload_n 3, 1) := by decide +kernel
theorem dX4_expand_3 : decode cX4_expand 3 = .ok (.aload_n 0, 1) := by decide +kernel
theorem dX4_expand_4 : decode cX4_expand 4 = .ok (.getfield 42, 3) := by decide +kernel
theorem dX4_expand_7 : decode cX4_expand 7 = .ok (.invokevirtual 91, 3) := by decide +kernel
theorem dX4_expand_10 : decode cX4_expand 10 = .ok (.if_icmp .ge 115, 3) := by decide +kernel
theorem dX4_expand_13 : decode cX4_expand 13 = .ok (.aload_n 0, 1) := by decide +kernel
theorem dX4_expand_14 : decode cX4_expand 14 = .ok (.getfield 51, 3) := by decide +kernel
theorem dX4_expand_17 : decode cX4_expand 17 = .ok (.aload_n 0, 1) := by decide +kernel
theorem dX4_expand_18 : decode cX4_expand 18 = .ok (.getfield 26, 3) := by decide +kernel
theorem dX4_expand_21 : decode cX4_expand 21 = .ok (.iload_n 1, 1) := by decide +kernel
theorem dX4_expand_22 : decode cX4_expand 22 = .ok (.laload, 1) := by decide +kernel
theorem dX4_expand_23 : decode cX4_expand 23 = .ok (.invokevirtual 99, 3) := by decide +kernel
theorem dX4_expand_26 : decode cX4_expand 26 = .ok (.aload_n 0, 1) := by decide +kernel
theorem dX4_expand_27 : decode cX4_expand 27 = .ok (.getfield 51, 3) := by decide +kernel
theorem dX4_expand_30 : decode cX4_expand 30 = .ok (.iload_n 3, 1) := by decide +kernel
theorem dX4_expand_31 : decode cX4_expand 31 = .ok (.invokevirtual 103, 3) := by decide +kernel
theorem dX4_expand_34 : decode cX4_expand 34 = .ok (.istore 4, 2) := by decide +kernel
theorem dX4_expand_36 : decode cX4_expand 36 = .ok (.aload_n 0, 1) := by decide +kernel
theorem dX4_expand_37 : decode cX4_expand 37 = .ok (.getfield 51, 3) := by decide +kernel
theorem dX4_expand_40 : decode cX4_expand 40 = .ok (.invokevirtual 74, 3) := by decide +kernel
theorem dX4_expand_43 : decode cX4_expand 43 = .ok (.lstore 5, 2) := by decide +kernel
theorem dX4_expand_45 : decode cX4_expand 45 = .ok (.iload 4, 2) := by decide +kernel
theorem dX4_expand_47 : decode cX4_expand 47 = .ok (.ifCond .eq 27, 3) := by decide +kernel
theorem dX4_expand_50 : decode cX4_expand 50 = .ok (.aload_n 0, 1) := by decide +kernel
theorem dX4_expand_51 : decode cX4_expand 51 = .ok (.iload_n 3, 1) := by decide +kernel
theorem dX4_expand_52 : decode cX4_expand 52 = .ok (.putfield 107, 3) := by decide +kernel
theorem dX4_expand_55 : decode cX4_expand 55 = .ok (.aload_n 0, 1) := by decide +kernel
theorem dX4_expand_56 : decode cX4_expand 56 = .ok (.iload 4, 2) := by decide +kernel
theorem dX4_expand_58 : decode cX4_expand 58 = .ok (.putfield 110, 3) := by decide +kernel
theorem dX4_expand_61 : decode cX4_expand 61 = .ok (.aload_n 0, 1) := by decide +kernel
theorem dX4_expand_62 : decode cX4_expand 62 = .ok (.lload 5, 2) := by decide +kernel
theorem dX4_expand_64 : decode cX4_expand 64 = .ok (.putfield 113, 3) := by decide +kernel
theorem dX4_expand_67 : decode cX4_expand 67 = .ok (.aload_n 0, 1) := by decide +kernel
theorem dX4_expand_68 : decode cX4_expand 68 = .ok (.iload_n 1, 1) := by decide +kernel
theorem dX4_expand_69 : decode cX4_expand 69 = .ok (.invokevirtual 117, 3) := by decide +kernel
theorem dX4_expand_72 : decode cX4_expand 72 = .ok (.iconst 0, 1) := by decide +kernel
theorem dX4_expand_73 : decode cX4_expand 73 = .ok (.ireturn, 1) := by decide +kernel
theorem dX4_expand_74 : decode cX4_expand 74 = .ok (.aload_n 0, 1) := by decide +kernel
theorem dX4_expand_75 : decode cX4_expand 75 = .ok (.lload 5, 2) := by decide +kernel
theorem dX4_expand_77 : decode cX4_expand 77 = .ok (.invokevirtual 121, 3) := by decide +kernel
theorem dX4_expand_80 : decode cX4_expand 80 = .ok (.istore 7, 2) := by decide +kernel
theorem dX4_expand_82 : decode cX4_expand 82 = .ok (.iload 7, 2) := by decide +kernel
theorem dX4_expand_84 : decode cX4_expand 84 = .ok (.iconst (-1), 1) := by decide +kernel
theorem dX4_expand_85 : decode cX4_expand 85 = .ok (.if_icmp .ne 23, 3) := by decide +kernel
theorem dX4_expand_88 : decode cX4_expand 88 = .ok (.aload_n 0, 1) := by decide +kernel
theorem dX4_expand_89 : decode cX4_expand 89 = .ok (.getfield 55, 3) := by decide +kernel
theorem dX4_expand_92 : decode cX4_expand 92 = .ok (.iload_n 2, 1) := by decide +kernel
theorem dX4_expand_93 : decode cX4_expand 93 = .ok (.if_icmp .lt 5, 3) := by decide +kernel
theorem dX4_expand_96 : decode cX4_expand 96 = .ok (.iconst 2, 1) := by decide +kernel
theorem dX4_expand_97 : decode cX4_expand 97 = .ok (.ireturn, 1) := by decide +kernel
theorem dX4_expand_98 : decode cX4_expand 98 = .ok (.aload_n 0, 1) := by decide +kernel
theorem dX4_expand_99 : decode cX4_expand 99 = .ok (.lload 5, 2) := by decide +kernel
theorem dX4_expand_101 : decode cX4_expand 101 = .ok (.iload_n 1, 1) := by decide +kernel
theorem dX4_expand_102 : decode cX4_expand 102 = .ok (.iload_n 3, 1) := by decide +kernel
theorem dX4_expand_103 : decode cX4_expand 103 = .ok (.invokevirtual 78, 3) := by decide +kernel
theorem dX4_expand_106 : decode cX4_expand 106 = .ok (.istore 7, 2) := by decide +kernel
theorem dX4_expand_108 : decode cX4_expand 108 = .ok (.aload_n 0, 1) := by decide +kernel
theorem dX4_expand_109 : decode cX4_expand 109 = .ok (.getfield 22, 3) := by decide +kernel
theorem dX4_expand_112 : decode cX4_expand 112 = .ok (.iload_n 1, 1) := by decide +kernel
theorem dX4_expand_113 : decode cX4_expand 113 = .ok (.iload_n 3, 1) := by decide +kernel
theorem dX4_expand_114 : decode cX4_expand 114 = .ok (.iload 7, 2) := by decide +kernel
theorem dX4_expand_116 : decode cX4_expand 116 = .ok (.invokevirtual 124, 3) := by decide +kernel
theorem dX4_expand_119 : decode cX4_expand 119 = .ok (.iinc 3 1, 3) := by decide +kernel
theorem dX4_expand_122 : decode cX4_expand 122 = .ok (.goto (-120), 3) := by decide +kernel
theorem dX4_expand_125 : decode cX4_expand 125 = .ok (.iconst 1, 1) := by decide +kernel
theorem dX4_expand_126 : decode cX4_expand 126 = .ok (.ireturn, 1) := by decide +kernel
theorem dX4_add_0 : decode cX4_add 0 = .ok (.aload_n 0, 1) := by decide +kernel
theorem dX4_add_1 : decode cX4_add 1 = .ok (.getfield 55, 3) := by decide +kernel
theorem dX4_add_4 : decode cX4_add 4 = .ok (.istore 5, 2) := by decide +kernel
theorem dX4_add_6 : decode cX4_add 6 = .ok (.iload 5, 2) := by decide +kernel
theorem dX4_add_8 : decode cX4_add 8 = .ok (.sipush 400, 3) := by decide +kernel
theorem dX4_add_11 : decode cX4_add 11 = .ok (.if_icmp .lt 5, 3) := by decide +kernel
theorem dX4_add_14 : decode cX4_add 14 = .ok (.iconst (-1), 1) := by decide +kernel
theorem dX4_add_15 : decode cX4_add 15 = .ok (.ireturn, 1) := by decide +kernel
theorem dX4_add_16 : decode cX4_add 16 = .ok (.aload_n 0, 1) := by decide +kernel
theorem dX4_add_17 : decode cX4_add 17 = .ok (.getfield 26, 3) := by decide +kernel
theorem dX4_add_20 : decode cX4_add 20 = .ok (.iload 5, 2) := by decide +kernel
theorem dX4_add_22 : decode cX4_add 22 = .ok (.lload_n 1, 1) := by decide +kernel
theorem dX4_add_23 : decode cX4_add 23 = .ok (.lastore, 1) := by decide +kernel
theorem dX4_add_24 : decode cX4_add 24 = .ok (.aload_n 0, 1) := by decide +kernel
theorem dX4_add_25 : decode cX4_add 25 = .ok (.getfield 30, 3) := by decide +kernel
theorem dX4_add_28 : decode cX4_add 28 = .ok (.iload 5, 2) := by decide +kernel
theorem dX4_add_30 : decode cX4_add 30 = .ok (.iload_n 3, 1) := by decide +kernel
theorem dX4_add_31 : decode cX4_add 31 = .ok (.iastore, 1) := by decide +kernel
theorem dX4_add_32 : decode cX4_add 32 = .ok (.aload_n 0, 1) := by decide +kernel
theorem dX4_add_33 : decode cX4_add 33 = .ok (.getfield 33, 3) := by decide +kernel
theorem dX4_add_36 : decode cX4_add 36 = .ok (.iload 5, 2) := by decide +kernel
theorem dX4_add_38 : decode cX4_add 38 = .ok (.iload 4, 2) := by decide +kernel
theorem dX4_add_40 : decode cX4_add 40 = .ok (.iastore, 1) := by decide +kernel
theorem dX4_add_41 : decode cX4_add 41 = .ok (.aload_n 0, 1) := by decide +kernel
theorem dX4_add_42 : decode cX4_add 42 = .ok (.dup, 1) := by decide +kernel
theorem dX4_add_43 : decode cX4_add 43 = .ok (.getfield 55, 3) := by decide +kernel
theorem dX4_add_46 : decode cX4_add 46 = .ok (.iconst 1, 1) := by decide +kernel
theorem dX4_add_47 : decode cX4_add 47 = .ok (.iadd, 1) := by decide +kernel
theorem dX4_add_48 : decode cX4_add 48 = .ok (.putfield 55, 3) := by decide +kernel
theorem dX4_add_51 : decode cX4_add 51 = .ok (.aload_n 0, 1) := by decide +kernel
theorem dX4_add_52 : decode cX4_add 52 = .ok (.getfield 36, 3) := by decide +kernel
theorem dX4_add_55 : decode cX4_add 55 = .ok (.aload_n 0, 1) := by decide +kernel
theorem dX4_add_56 : decode cX4_add 56 = .ok (.lload_n 1, 1) := by decide +kernel
theorem dX4_add_57 : decode cX4_add 57 = .ok (.invokevirtual 64, 3) := by decide +kernel
theorem dX4_add_60 : decode cX4_add 60 = .ok (.aload_n 0, 1) := by decide +kernel
theorem dX4_add_61 : decode cX4_add 61 = .ok (.getfield 55, 3) := by decide +kernel
theorem dX4_add_64 : decode cX4_add 64 = .ok (.iastore, 1) := by decide +kernel
theorem dX4_add_65 : decode cX4_add 65 = .ok (.iload 5, 2) := by decide +kernel
theorem dX4_add_67 : decode cX4_add 67 = .ok (.ireturn, 1) := by decide +kernel
theorem dX4_slotOf_0 : decode cX4_slotOf 0 = .ok (.lload_n 1, 1) := by decide +kernel
theorem dX4_slotOf_1 : decode cX4_slotOf 1 = .ok (.ldc2_w 128, 3) := by decide +kernel
theorem dX4_slotOf_4 : decode cX4_slotOf 4 = .ok (.lmul, 1) := by decide +kernel
theorem dX4_slotOf_5 : decode cX4_slotOf 5 = .ok (.bipush 54, 2) := by decide +kernel
theorem dX4_slotOf_7 : decode cX4_slotOf 7 = .ok (.lushr, 1) := by decide +kernel
theorem dX4_slotOf_8 : decode cX4_slotOf 8 = .ok (.l2i, 1) := by decide +kernel
theorem dX4_slotOf_9 : decode cX4_slotOf 9 = .ok (.istore_n 3, 1) := by decide +kernel
theorem dX4_slotOf_10 : decode cX4_slotOf 10 = .ok (.iconst 0, 1) := by decide +kernel
theorem dX4_slotOf_11 : decode cX4_slotOf 11 = .ok (.istore 4, 2) := by decide +kernel
theorem dX4_slotOf_13 : decode cX4_slotOf 13 = .ok (.iload 4, 2) := by decide +kernel
theorem dX4_slotOf_15 : decode cX4_slotOf 15 = .ok (.sipush 1024, 3) := by decide +kernel
theorem dX4_slotOf_18 : decode cX4_slotOf 18 = .ok (.if_icmp .ge 46, 3) := by decide +kernel
theorem dX4_slotOf_21 : decode cX4_slotOf 21 = .ok (.aload_n 0, 1) := by decide +kernel
theorem dX4_slotOf_22 : decode cX4_slotOf 22 = .ok (.getfield 36, 3) := by decide +kernel
theorem dX4_slotOf_25 : decode cX4_slotOf 25 = .ok (.iload_n 3, 1) := by decide +kernel
theorem dX4_slotOf_26 : decode cX4_slotOf 26 = .ok (.iaload, 1) := by decide +kernel
theorem dX4_slotOf_27 : decode cX4_slotOf 27 = .ok (.iconst 1, 1) := by decide +kernel
theorem dX4_slotOf_28 : decode cX4_slotOf 28 = .ok (.isub, 1) := by decide +kernel
theorem dX4_slotOf_29 : decode cX4_slotOf 29 = .ok (.istore 5, 2) := by decide +kernel
theorem dX4_slotOf_31 : decode cX4_slotOf 31 = .ok (.iload 5, 2) := by decide +kernel
theorem dX4_slotOf_33 : decode cX4_slotOf 33 = .ok (.ifCond .lt 15, 3) := by decide +kernel
theorem dX4_slotOf_36 : decode cX4_slotOf 36 = .ok (.aload_n 0, 1) := by decide +kernel
theorem dX4_slotOf_37 : decode cX4_slotOf 37 = .ok (.getfield 26, 3) := by decide +kernel
theorem dX4_slotOf_40 : decode cX4_slotOf 40 = .ok (.iload 5, 2) := by decide +kernel
theorem dX4_slotOf_42 : decode cX4_slotOf 42 = .ok (.laload, 1) := by decide +kernel
theorem dX4_slotOf_43 : decode cX4_slotOf 43 = .ok (.lload_n 1, 1) := by decide +kernel
theorem dX4_slotOf_44 : decode cX4_slotOf 44 = .ok (.lcmp, 1) := by decide +kernel
theorem dX4_slotOf_45 : decode cX4_slotOf 45 = .ok (.ifCond .ne 5, 3) := by decide +kernel
theorem dX4_slotOf_48 : decode cX4_slotOf 48 = .ok (.iload_n 3, 1) := by decide +kernel
theorem dX4_slotOf_49 : decode cX4_slotOf 49 = .ok (.ireturn, 1) := by decide +kernel
theorem dX4_slotOf_50 : decode cX4_slotOf 50 = .ok (.iload_n 3, 1) := by decide +kernel
theorem dX4_slotOf_51 : decode cX4_slotOf 51 = .ok (.iconst 1, 1) := by decide +kernel
theorem dX4_slotOf_52 : decode cX4_slotOf 52 = .ok (.iadd, 1) := by decide +kernel
theorem dX4_slotOf_53 : decode cX4_slotOf 53 = .ok (.sipush 1023, 3) := by decide +kernel
theorem dX4_slotOf_56 : decode cX4_slotOf 56 = .ok (.iand, 1) := by decide +kernel
theorem dX4_slotOf_57 : decode cX4_slotOf 57 = .ok (.istore_n 3, 1) := by decide +kernel
theorem dX4_slotOf_58 : decode cX4_slotOf 58 = .ok (.iinc 4 1, 3) := by decide +kernel
theorem dX4_slotOf_61 : decode cX4_slotOf 61 = .ok (.goto (-48), 3) := by decide +kernel
theorem dX4_slotOf_64 : decode cX4_slotOf 64 = .ok (.iload_n 3, 1) := by decide +kernel
theorem dX4_slotOf_65 : decode cX4_slotOf 65 = .ok (.ireturn, 1) := by decide +kernel
theorem dX4_trace_0 : decode cX4_trace 0 = .ok (.aload_n 0, 1) := by decide +kernel
theorem dX4_trace_1 : decode cX4_trace 1 = .ok (.iconst 0, 1) := by decide +kernel
theorem dX4_trace_2 : decode cX4_trace 2 = .ok (.putfield 130, 3) := by decide +kernel
theorem dX4_trace_5 : decode cX4_trace 5 = .ok (.iload_n 1, 1) := by decide +kernel
theorem dX4_trace_6 : decode cX4_trace 6 = .ok (.istore_n 2, 1) := by decide +kernel
theorem dX4_trace_7 : decode cX4_trace 7 = .ok (.iload_n 2, 1) := by decide +kernel
theorem dX4_trace_8 : decode cX4_trace 8 = .ok (.ifCond .le 43, 3) := by decide +kernel
theorem dX4_trace_11 : decode cX4_trace 11 = .ok (.aload_n 0, 1) := by decide +kernel
theorem dX4_trace_12 : decode cX4_trace 12 = .ok (.getfield 130, 3) := by decide +kernel
theorem dX4_trace_15 : decode cX4_trace 15 = .ok (.sipush 400, 3) := by decide +kernel
theorem dX4_trace_18 : decode cX4_trace 18 = .ok (.if_icmp .ge 33, 3) := by decide +kernel
theorem dX4_trace_21 : decode cX4_trace 21 = .ok (.aload_n 0, 1) := by decide +kernel
theorem dX4_trace_22 : decode cX4_trace 22 = .ok (.getfield 39, 3) := by decide +kernel
theorem dX4_trace_25 : decode cX4_trace 25 = .ok (.aload_n 0, 1) := by decide +kernel
theorem dX4_trace_26 : decode cX4_trace 26 = .ok (.getfield 130, 3) := by decide +kernel
theorem dX4_trace_29 : decode cX4_trace 29 = .ok (.iload_n 2, 1) := by decide +kernel
theorem dX4_trace_30 : decode cX4_trace 30 = .ok (.iastore, 1) := by decide +kernel
theorem dX4_trace_31 : decode cX4_trace 31 = .ok (.aload_n 0, 1) := by decide +kernel
theorem dX4_trace_32 : decode cX4_trace 32 = .ok (.dup, 1) := by decide +kernel
theorem dX4_trace_33 : decode cX4_trace 33 = .ok (.getfield 130, 3) := by decide +kernel
theorem dX4_trace_36 : decode cX4_trace 36 = .ok (.iconst 1, 1) := by decide +kernel
theorem dX4_trace_37 : decode cX4_trace 37 = .ok (.iadd, 1) := by decide +kernel
theorem dX4_trace_38 : decode cX4_trace 38 = .ok (.putfield 130, 3) := by decide +kernel
theorem dX4_trace_41 : decode cX4_trace 41 = .ok (.aload_n 0, 1) := by decide +kernel
theorem dX4_trace_42 : decode cX4_trace 42 = .ok (.getfield 30, 3) := by decide +kernel
theorem dX4_trace_45 : decode cX4_trace 45 = .ok (.iload_n 2, 1) := by decide +kernel
theorem dX4_trace_46 : decode cX4_trace 46 = .ok (.iaload, 1) := by decide +kernel
theorem dX4_trace_47 : decode cX4_trace 47 = .ok (.istore_n 2, 1) := by decide +kernel
theorem dX4_trace_48 : decode cX4_trace 48 = .ok (.goto (-41), 3) := by decide +kernel
theorem dX4_trace_51 : decode cX4_trace 51 = .ok (.return_, 1) := by decide +kernel
theorem dX4_rowEntry_0 : decode cX4_rowEntry 0 = .ok (.aload_n 0, 1) := by decide +kernel
theorem dX4_rowEntry_1 : decode cX4_rowEntry 1 = .ok (.getfield 11, 3) := by decide +kernel
theorem dX4_rowEntry_4 : decode cX4_rowEntry 4 = .ok (.ifCond .ne 25, 3) := by decide +kernel
theorem dX4_rowEntry_7 : decode cX4_rowEntry 7 = .ok (.iload_n 1, 1) := by decide +kernel
theorem dX4_rowEntry_8 : decode cX4_rowEntry 8 = .ok (.ifCond .lt 21, 3) := by decide +kernel
theorem dX4_rowEntry_11 : decode cX4_rowEntry 11 = .ok (.iload_n 1, 1) := by decide +kernel
theorem dX4_rowEntry_12 : decode cX4_rowEntry 12 = .ok (.aload_n 0, 1) := by decide +kernel
theorem dX4_rowEntry_13 : decode cX4_rowEntry 13 = .ok (.getfield 130, 3) := by decide +kernel
theorem dX4_rowEntry_16 : decode cX4_rowEntry 16 = .ok (.if_icmp .gt 13, 3) := by decide +kernel
theorem dX4_rowEntry_19 : decode cX4_rowEntry 19 = .ok (.iload_n 2, 1) := by decide +kernel
theorem dX4_rowEntry_20 : decode cX4_rowEntry 20 = .ok (.ifCond .lt 9, 3) := by decide +kernel
theorem dX4_rowEntry_23 : decode cX4_rowEntry 23 = .ok (.iload_n 2, 1) := by decide +kernel
theorem dX4_rowEntry_24 : decode cX4_rowEntry 24 = .ok (.bipush 6, 2) := by decide +kernel
theorem dX4_rowEntry_26 : decode cX4_rowEntry 26 = .ok (.if_icmp .le 5, 3) := by decide +kernel
theorem dX4_rowEntry_29 : decode cX4_rowEntry 29 = .ok (.iconst (-1), 1) := by decide +kernel
theorem dX4_rowEntry_30 : decode cX4_rowEntry 30 = .ok (.ireturn, 1) := by decide +kernel
theorem dX4_rowEntry_31 : decode cX4_rowEntry 31 = .ok (.iload_n 1, 1) := by decide +kernel
theorem dX4_rowEntry_32 : decode cX4_rowEntry 32 = .ok (.aload_n 0, 1) := by decide +kernel
theorem dX4_rowEntry_33 : decode cX4_rowEntry 33 = .ok (.getfield 130, 3) := by decide +kernel
theorem dX4_rowEntry_36 : decode cX4_rowEntry 36 = .ok (.if_icmp .ne 7, 3) := by decide +kernel
theorem dX4_rowEntry_39 : decode cX4_rowEntry 39 = .ok (.iconst 1, 1) := by decide +kernel
theorem dX4_rowEntry_40 : decode cX4_rowEntry 40 = .ok (.goto 4, 3) := by decide +kernel
theorem dX4_rowEntry_43 : decode cX4_rowEntry 43 = .ok (.iconst 0, 1) := by decide +kernel
theorem dX4_rowEntry_44 : decode cX4_rowEntry 44 = .ok (.istore_n 3, 1) := by decide +kernel
theorem dX4_rowEntry_45 : decode cX4_rowEntry 45 = .ok (.iload_n 3, 1) := by decide +kernel
theorem dX4_rowEntry_46 : decode cX4_rowEntry 46 = .ok (.ifCond .eq 7, 3) := by decide +kernel
theorem dX4_rowEntry_49 : decode cX4_rowEntry 49 = .ok (.iconst 0, 1) := by decide +kernel
theorem dX4_rowEntry_50 : decode cX4_rowEntry 50 = .ok (.goto 16, 3) := by decide +kernel
theorem dX4_rowEntry_53 : decode cX4_rowEntry 53 = .ok (.aload_n 0, 1) := by decide +kernel
theorem dX4_rowEntry_54 : decode cX4_rowEntry 54 = .ok (.getfield 39, 3) := by decide +kernel
theorem dX4_rowEntry_57 : decode cX4_rowEntry 57 = .ok (.aload_n 0, 1) := by decide +kernel
theorem dX4_rowEntry_58 : decode cX4_rowEntry 58 = .ok (.getfield 130, 3) := by decide +kernel
theorem dX4_rowEntry_61 : decode cX4_rowEntry 61 = .ok (.iconst 1, 1) := by decide +kernel
theorem dX4_rowEntry_62 : decode cX4_rowEntry 62 = .ok (.isub, 1) := by decide +kernel
theorem dX4_rowEntry_63 : decode cX4_rowEntry 63 = .ok (.iload_n 1, 1) := by decide +kernel
theorem dX4_rowEntry_64 : decode cX4_rowEntry 64 = .ok (.isub, 1) := by decide +kernel
theorem dX4_rowEntry_65 : decode cX4_rowEntry 65 = .ok (.iaload, 1) := by decide +kernel
theorem dX4_rowEntry_66 : decode cX4_rowEntry 66 = .ok (.istore 4, 2) := by decide +kernel
theorem dX4_rowEntry_68 : decode cX4_rowEntry 68 = .ok (.iload_n 2, 1) := by decide +kernel
theorem dX4_rowEntry_69 : decode cX4_rowEntry 69 = .ok (.ifCond .ne 22, 3) := by decide +kernel
theorem dX4_rowEntry_72 : decode cX4_rowEntry 72 = .ok (.iload_n 3, 1) := by decide +kernel
theorem dX4_rowEntry_73 : decode cX4_rowEntry 73 = .ok (.ifCond .eq 10, 3) := by decide +kernel
theorem dX4_rowEntry_76 : decode cX4_rowEntry 76 = .ok (.aload_n 0, 1) := by decide +kernel
theorem dX4_rowEntry_77 : decode cX4_rowEntry 77 = .ok (.getfield 107, 3) := by decide +kernel
theorem dX4_rowEntry_80 : decode cX4_rowEntry 80 = .ok (.goto 10, 3) := by decide +kernel
theorem dX4_rowEntry_83 : decode cX4_rowEntry 83 = .ok (.aload_n 0, 1) := by decide +kernel
theorem dX4_rowEntry_84 : decode cX4_rowEntry 84 = .ok (.getfield 33, 3) := by decide +kernel
theorem dX4_rowEntry_87 : decode cX4_rowEntry 87 = .ok (.iload 4, 2) := by decide +kernel
theorem dX4_rowEntry_89 : decode cX4_rowEntry 89 = .ok (.iaload, 1) := by decide +kernel
theorem dX4_rowEntry_90 : decode cX4_rowEntry 90 = .ok (.ireturn, 1) := by decide +kernel
theorem dX4_rowEntry_91 : decode cX4_rowEntry 91 = .ok (.iload_n 2, 1) := by decide +kernel
theorem dX4_rowEntry_92 : decode cX4_rowEntry 92 = .ok (.bipush 6, 2) := by decide +kernel
theorem dX4_rowEntry_94 : decode cX4_rowEntry 94 = .ok (.if_icmp .ne 16, 3) := by decide +kernel
theorem dX4_rowEntry_97 : decode cX4_rowEntry 97 = .ok (.iload_n 3, 1) := by decide +kernel
theorem dX4_rowEntry_98 : decode cX4_rowEntry 98 = .ok (.ifCond .eq 10, 3) := by decide +kernel
theorem dX4_rowEntry_101 : decode cX4_rowEntry 101 = .ok (.aload_n 0, 1) := by decide +kernel
theorem dX4_rowEntry_102 : decode cX4_rowEntry 102 = .ok (.getfield 110, 3) := by decide +kernel
theorem dX4_rowEntry_105 : decode cX4_rowEntry 105 = .ok (.goto 4, 3) := by decide +kernel
theorem dX4_rowEntry_108 : decode cX4_rowEntry 108 = .ok (.iconst 0, 1) := by decide +kernel
theorem dX4_rowEntry_109 : decode cX4_rowEntry 109 = .ok (.ireturn, 1) := by decide +kernel
theorem dX4_rowEntry_110 : decode cX4_rowEntry 110 = .ok (.aload_n 0, 1) := by decide +kernel
theorem dX4_rowEntry_111 : decode cX4_rowEntry 111 = .ok (.getfield 51, 3) := by decide +kernel
theorem dX4_rowEntry_114 : decode cX4_rowEntry 114 = .ok (.iload_n 3, 1) := by decide +kernel
theorem dX4_rowEntry_115 : decode cX4_rowEntry 115 = .ok (.ifCond .eq 10, 3) := by decide +kernel
theorem dX4_rowEntry_118 : decode cX4_rowEntry 118 = .ok (.aload_n 0, 1) := by decide +kernel
theorem dX4_rowEntry_119 : decode cX4_rowEntry 119 = .ok (.getfield 113, 3) := by decide +kernel
theorem dX4_rowEntry_122 : decode cX4_rowEntry 122 = .ok (.goto 10, 3) := by decide +kernel
theorem dX4_rowEntry_125 : decode cX4_rowEntry 125 = .ok (.aload_n 0, 1) := by decide +kernel
theorem dX4_rowEntry_126 : decode cX4_rowEntry 126 = .ok (.getfield 26, 3) := by decide +kernel
theorem dX4_rowEntry_129 : decode cX4_rowEntry 129 = .ok (.iload 4, 2) := by decide +kernel
theorem dX4_rowEntry_131 : decode cX4_rowEntry 131 = .ok (.laload, 1) := by decide +kernel
theorem dX4_rowEntry_132 : decode cX4_rowEntry 132 = .ok (.invokevirtual 99, 3) := by decide +kernel
theorem dX4_rowEntry_135 : decode cX4_rowEntry 135 = .ok (.aload_n 0, 1) := by decide +kernel
theorem dX4_rowEntry_136 : decode cX4_rowEntry 136 = .ok (.getfield 51, 3) := by decide +kernel
theorem dX4_rowEntry_139 : decode cX4_rowEntry 139 = .ok (.iload_n 2, 1) := by decide +kernel
theorem dX4_rowEntry_140 : decode cX4_rowEntry 140 = .ok (.invokestatic 133, 3) := by decide +kernel
theorem dX4_rowEntry_143 : decode cX4_rowEntry 143 = .ok (.invokevirtual 136, 3) := by decide +kernel
theorem dX4_rowEntry_146 : decode cX4_rowEntry 146 = .ok (.ireturn, 1) := by decide +kernel
theorem dX4_lookFor_0 : decode cX4_lookFor 0 = .ok (.iload_n 0, 1) := by decide +kernel
theorem dX4_lookFor_1 : decode cX4_lookFor 1 = .ok (.lookupswitch 33 #[(3, 27), (5, 30)], 27) := by decide +kernel
theorem dX4_lookFor_28 : decode cX4_lookFor 28 = .ok (.bipush 7, 2) := by decide +kernel
theorem dX4_lookFor_30 : decode cX4_lookFor 30 = .ok (.ireturn, 1) := by decide +kernel
theorem dX4_lookFor_31 : decode cX4_lookFor 31 = .ok (.bipush 6, 2) := by decide +kernel
theorem dX4_lookFor_33 : decode cX4_lookFor 33 = .ok (.ireturn, 1) := by decide +kernel
theorem dX4_lookFor_34 : decode cX4_lookFor 34 = .ok (.iload_n 0, 1) := by decide +kernel
theorem dX4_lookFor_35 : decode cX4_lookFor 35 = .ok (.ireturn, 1) := by decide +kernel
