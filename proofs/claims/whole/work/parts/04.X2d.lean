theorem dX2_init_0 : decode cX2_init 0 = .ok (.aload_n 0, 1) := by decide +kernel
theorem dX2_init_1 : decode cX2_init 1 = .ok (.invokespecial 5, 3) := by decide +kernel
theorem dX2_init_4 : decode cX2_init 4 = .ok (.aload_n 0, 1) := by decide +kernel
theorem dX2_init_5 : decode cX2_init 5 = .ok (.bipush 6, 2) := by decide +kernel
theorem dX2_init_7 : decode cX2_init 7 = .ok (.newarray .int, 2) := by decide +kernel
theorem dX2_init_9 : decode cX2_init 9 = .ok (.putfield 11, 3) := by decide +kernel
theorem dX2_init_12 : decode cX2_init 12 = .ok (.aload_n 0, 1) := by decide +kernel
theorem dX2_init_13 : decode cX2_init 13 = .ok (.aload_n 1, 1) := by decide +kernel
theorem dX2_init_14 : decode cX2_init 14 = .ok (.putfield 15, 3) := by decide +kernel
theorem dX2_init_17 : decode cX2_init 17 = .ok (.return_, 1) := by decide +kernel
theorem dX2_reset_0 : decode cX2_reset 0 = .ok (.aload_n 0, 1) := by decide +kernel
theorem dX2_reset_1 : decode cX2_reset 1 = .ok (.iconst 0, 1) := by decide +kernel
theorem dX2_reset_2 : decode cX2_reset 2 = .ok (.putfield 19, 3) := by decide +kernel
theorem dX2_reset_5 : decode cX2_reset 5 = .ok (.aload_n 0, 1) := by decide +kernel
theorem dX2_reset_6 : decode cX2_reset 6 = .ok (.iconst 0, 1) := by decide +kernel
theorem dX2_reset_7 : decode cX2_reset 7 = .ok (.putfield 23, 3) := by decide +kernel
theorem dX2_reset_10 : decode cX2_reset 10 = .ok (.aload_n 0, 1) := by decide +kernel
theorem dX2_reset_11 : decode cX2_reset 11 = .ok (.iconst 0, 1) := by decide +kernel
theorem dX2_reset_12 : decode cX2_reset 12 = .ok (.putfield 26, 3) := by decide +kernel
theorem dX2_reset_15 : decode cX2_reset 15 = .ok (.aload_n 0, 1) := by decide +kernel
theorem dX2_reset_16 : decode cX2_reset 16 = .ok (.iconst 0, 1) := by decide +kernel
theorem dX2_reset_17 : decode cX2_reset 17 = .ok (.putfield 29, 3) := by decide +kernel
theorem dX2_reset_20 : decode cX2_reset 20 = .ok (.aload_n 0, 1) := by decide +kernel
theorem dX2_reset_21 : decode cX2_reset 21 = .ok (.iconst 0, 1) := by decide +kernel
theorem dX2_reset_22 : decode cX2_reset 22 = .ok (.putfield 32, 3) := by decide +kernel
theorem dX2_reset_25 : decode cX2_reset 25 = .ok (.aload_n 0, 1) := by decide +kernel
theorem dX2_reset_26 : decode cX2_reset 26 = .ok (.iconst 0, 1) := by decide +kernel
theorem dX2_reset_27 : decode cX2_reset 27 = .ok (.putfield 35, 3) := by decide +kernel
theorem dX2_reset_30 : decode cX2_reset 30 = .ok (.aload_n 0, 1) := by decide +kernel
theorem dX2_reset_31 : decode cX2_reset 31 = .ok (.getfield 15, 3) := by decide +kernel
theorem dX2_reset_34 : decode cX2_reset 34 = .ok (.iconst 0, 1) := by decide +kernel
theorem dX2_reset_35 : decode cX2_reset 35 = .ok (.invokevirtual 38, 3) := by decide +kernel
theorem dX2_reset_38 : decode cX2_reset 38 = .ok (.istore_n 1, 1) := by decide +kernel
theorem dX2_reset_39 : decode cX2_reset 39 = .ok (.aload_n 0, 1) := by decide +kernel
theorem dX2_reset_40 : decode cX2_reset 40 = .ok (.getfield 11, 3) := by decide +kernel
theorem dX2_reset_43 : decode cX2_reset 43 = .ok (.iconst 0, 1) := by decide +kernel
theorem dX2_reset_44 : decode cX2_reset 44 = .ok (.invokestatic 44, 3) := by decide +kernel
theorem dX2_reset_47 : decode cX2_reset 47 = .ok (.iconst 0, 1) := by decide +kernel
theorem dX2_reset_48 : decode cX2_reset 48 = .ok (.istore_n 2, 1) := by decide +kernel
theorem dX2_reset_49 : decode cX2_reset 49 = .ok (.iload_n 2, 1) := by decide +kernel
theorem dX2_reset_50 : decode cX2_reset 50 = .ok (.aload_n 0, 1) := by decide +kernel
theorem dX2_reset_51 : decode cX2_reset 51 = .ok (.getfield 15, 3) := by decide +kernel
theorem dX2_reset_54 : decode cX2_reset 54 = .ok (.getfield 50, 3) := by decide +kernel
theorem dX2_reset_57 : decode cX2_reset 57 = .ok (.if_icmp .ge 29, 3) := by decide +kernel
theorem dX2_reset_60 : decode cX2_reset 60 = .ok (.aload_n 0, 1) := by decide +kernel
theorem dX2_reset_61 : decode cX2_reset 61 = .ok (.getfield 11, 3) := by decide +kernel
theorem dX2_reset_64 : decode cX2_reset 64 = .ok (.iload_n 2, 1) := by decide +kernel
theorem dX2_reset_65 : decode cX2_reset 65 = .ok (.iload_n 1, 1) := by decide +kernel
theorem dX2_reset_66 : decode cX2_reset 66 = .ok (.iload_n 2, 1) := by decide +kernel
theorem dX2_reset_67 : decode cX2_reset 67 = .ok (.ishr, 1) := by decide +kernel
theorem dX2_reset_68 : decode cX2_reset 68 = .ok (.iconst 1, 1) := by decide +kernel
theorem dX2_reset_69 : decode cX2_reset 69 = .ok (.iand, 1) := by decide +kernel
theorem dX2_reset_70 : decode cX2_reset 70 = .ok (.ifCond .eq 7, 3) := by decide +kernel
theorem dX2_reset_73 : decode cX2_reset 73 = .ok (.iconst 0, 1) := by decide +kernel
theorem dX2_reset_74 : decode cX2_reset 74 = .ok (.goto 5, 3) := by decide +kernel
theorem dX2_reset_77 : decode cX2_reset 77 = .ok (.bipush 15, 2) := by decide +kernel
theorem dX2_reset_79 : decode cX2_reset 79 = .ok (.iastore, 1) := by decide +kernel
theorem dX2_reset_80 : decode cX2_reset 80 = .ok (.iinc 2 1, 3) := by decide +kernel
theorem dX2_reset_83 : decode cX2_reset 83 = .ok (.goto (-34), 3) := by decide +kernel
theorem dX2_reset_86 : decode cX2_reset 86 = .ok (.return_, 1) := by decide +kernel
theorem dX2_lit_0 : decode cX2_lit 0 = .ok (.aload_n 0, 1) := by decide +kernel
theorem dX2_lit_1 : decode cX2_lit 1 = .ok (.getfield 15, 3) := by decide +kernel
theorem dX2_lit_4 : decode cX2_lit 4 = .ok (.aload_n 0, 1) := by decide +kernel
theorem dX2_lit_5 : decode cX2_lit 5 = .ok (.getfield 19, 3) := by decide +kernel
theorem dX2_lit_8 : decode cX2_lit 8 = .ok (.invokevirtual 38, 3) := by decide +kernel
theorem dX2_lit_11 : decode cX2_lit 11 = .ok (.istore_n 1, 1) := by decide +kernel
theorem dX2_lit_12 : decode cX2_lit 12 = .ok (.aload_n 0, 1) := by decide +kernel
theorem dX2_lit_13 : decode cX2_lit 13 = .ok (.getfield 26, 3) := by decide +kernel
theorem dX2_lit_16 : decode cX2_lit 16 = .ok (.ifCond .le 19, 3) := by decide +kernel
theorem dX2_lit_19 : decode cX2_lit 19 = .ok (.iload_n 1, 1) := by decide +kernel
theorem dX2_lit_20 : decode cX2_lit 20 = .ok (.aload_n 0, 1) := by decide +kernel
theorem dX2_lit_21 : decode cX2_lit 21 = .ok (.getfield 15, 3) := by decide +kernel
theorem dX2_lit_24 : decode cX2_lit 24 = .ok (.aload_n 0, 1) := by decide +kernel
theorem dX2_lit_25 : decode cX2_lit 25 = .ok (.getfield 29, 3) := by decide +kernel
theorem dX2_lit_28 : decode cX2_lit 28 = .ok (.invokevirtual 38, 3) := by decide +kernel
theorem dX2_lit_31 : decode cX2_lit 31 = .ok (.iand, 1) := by decide +kernel
theorem dX2_lit_32 : decode cX2_lit 32 = .ok (.goto 4, 3) := by decide +kernel
theorem dX2_lit_35 : decode cX2_lit 35 = .ok (.iload_n 1, 1) := by decide +kernel
theorem dX2_lit_36 : decode cX2_lit 36 = .ok (.ireturn, 1) := by decide +kernel
theorem dX2_look_0 : decode cX2_look 0 = .ok (.iload_n 1, 1) := by decide +kernel
theorem dX2_look_1 : decode cX2_look 1 = .ok (.tableswitch 82 1 7 #[43, 50, 57, 62, 67, 72, 77], 43) := by decide +kernel
theorem dX2_look_44 : decode cX2_look 44 = .ok (.aload_n 0, 1) := by decide +kernel
theorem dX2_look_45 : decode cX2_look 45 = .ok (.getfield 19, 3) := by decide +kernel
theorem dX2_look_48 : decode cX2_look 48 = .ok (.iconst 5, 1) := by decide +kernel
theorem dX2_look_49 : decode cX2_look 49 = .ok (.idiv, 1) := by decide +kernel
theorem dX2_look_50 : decode cX2_look 50 = .ok (.ireturn, 1) := by decide +kernel
theorem dX2_look_51 : decode cX2_look 51 = .ok (.aload_n 0, 1) := by decide +kernel
theorem dX2_look_52 : decode cX2_look 52 = .ok (.getfield 19, 3) := by decide +kernel
theorem dX2_look_55 : decode cX2_look 55 = .ok (.iconst 5, 1) := by decide +kernel
theorem dX2_look_56 : decode cX2_look 56 = .ok (.irem, 1) := by decide +kernel
theorem dX2_look_57 : decode cX2_look 57 = .ok (.ireturn, 1) := by decide +kernel
theorem dX2_look_58 : decode cX2_look 58 = .ok (.aload_n 0, 1) := by decide +kernel
theorem dX2_look_59 : decode cX2_look 59 = .ok (.getfield 23, 3) := by decide +kernel
theorem dX2_look_62 : decode cX2_look 62 = .ok (.ireturn, 1) := by decide +kernel
theorem dX2_look_63 : decode cX2_look 63 = .ok (.aload_n 0, 1) := by decide +kernel
theorem dX2_look_64 : decode cX2_look 64 = .ok (.getfield 26, 3) := by decide +kernel
theorem dX2_look_67 : decode cX2_look 67 = .ok (.ireturn, 1) := by decide +kernel
theorem dX2_look_68 : decode cX2_look 68 = .ok (.aload_n 0, 1) := by decide +kernel
theorem dX2_look_69 : decode cX2_look 69 = .ok (.getfield 32, 3) := by decide +kernel
theorem dX2_look_72 : decode cX2_look 72 = .ok (.ireturn, 1) := by decide +kernel
theorem dX2_look_73 : decode cX2_look 73 = .ok (.aload_n 0, 1) := by decide +kernel
theorem dX2_look_74 : decode cX2_look 74 = .ok (.getfield 35, 3) := by decide +kernel
theorem dX2_look_77 : decode cX2_look 77 = .ok (.ireturn, 1) := by decide +kernel
theorem dX2_look_78 : decode cX2_look 78 = .ok (.aload_n 0, 1) := by decide +kernel
theorem dX2_look_79 : decode cX2_look 79 = .ok (.invokevirtual 53, 3) := by decide +kernel
theorem dX2_look_82 : decode cX2_look 82 = .ok (.ireturn, 1) := by decide +kernel
theorem dX2_look_83 : decode cX2_look 83 = .ok (.iload_n 1, 1) := by decide +kernel
theorem dX2_look_84 : decode cX2_look 84 = .ok (.bipush 9, 2) := by decide +kernel
theorem dX2_look_86 : decode cX2_look 86 = .ok (.if_icmp .lt 29, 3) := by decide +kernel
theorem dX2_look_89 : decode cX2_look 89 = .ok (.iload_n 1, 1) := by decide +kernel
theorem dX2_look_90 : decode cX2_look 90 = .ok (.bipush 9, 2) := by decide +kernel
theorem dX2_look_92 : decode cX2_look 92 = .ok (.isub, 1) := by decide +kernel
theorem dX2_look_93 : decode cX2_look 93 = .ok (.aload_n 0, 1) := by decide +kernel
theorem dX2_look_94 : decode cX2_look 94 = .ok (.getfield 15, 3) := by decide +kernel
theorem dX2_look_97 : decode cX2_look 97 = .ok (.getfield 50, 3) := by decide +kernel
theorem dX2_look_100 : decode cX2_look 100 = .ok (.if_icmp .ge 15, 3) := by decide +kernel
theorem dX2_look_103 : decode cX2_look 103 = .ok (.aload_n 0, 1) := by decide +kernel
theorem dX2_look_104 : decode cX2_look 104 = .ok (.getfield 11, 3) := by decide +kernel
theorem dX2_look_107 : decode cX2_look 107 = .ok (.iload_n 1, 1) := by decide +kernel
theorem dX2_look_108 : decode cX2_look 108 = .ok (.bipush 9, 2) := by decide +kernel
theorem dX2_look_110 : decode cX2_look 110 = .ok (.isub, 1) := by decide +kernel
theorem dX2_look_111 : decode cX2_look 111 = .ok (.iaload, 1) := by decide +kernel
theorem dX2_look_112 : decode cX2_look 112 = .ok (.goto 4, 3) := by decide +kernel
theorem dX2_look_115 : decode cX2_look 115 = .ok (.iconst (-1), 1) := by decide +kernel
theorem dX2_look_116 : decode cX2_look 116 = .ok (.ireturn, 1) := by decide +kernel
theorem dX2_step_0 : decode cX2_step 0 = .ok (.aload_n 0, 1) := by decide +kernel
theorem dX2_step_1 : decode cX2_step 1 = .ok (.iconst 0, 1) := by decide +kernel
theorem dX2_step_2 : decode cX2_step 2 = .ok (.putfield 57, 3) := by decide +kernel
theorem dX2_step_5 : decode cX2_step 5 = .ok (.aload_n 0, 1) := by decide +kernel
theorem dX2_step_6 : decode cX2_step 6 = .ok (.iconst 0, 1) := by decide +kernel
theorem dX2_step_7 : decode cX2_step 7 = .ok (.putfield 60, 3) := by decide +kernel
theorem dX2_step_10 : decode cX2_step 10 = .ok (.aload_n 0, 1) := by decide +kernel
theorem dX2_step_11 : decode cX2_step 11 = .ok (.iload_n 1, 1) := by decide +kernel
theorem dX2_step_12 : decode cX2_step 12 = .ok (.invokevirtual 64, 3) := by decide +kernel
theorem dX2_step_15 : decode cX2_step 15 = .ok (.aload_n 0, 1) := by decide +kernel
theorem dX2_step_16 : decode cX2_step 16 = .ok (.invokevirtual 68, 3) := by decide +kernel
theorem dX2_step_19 : decode cX2_step 19 = .ok (.aload_n 0, 1) := by decide +kernel
theorem dX2_step_20 : decode cX2_step 20 = .ok (.getfield 26, 3) := by decide +kernel
theorem dX2_step_23 : decode cX2_step 23 = .ok (.ifCond .le 31, 3) := by decide +kernel
theorem dX2_step_26 : decode cX2_step 26 = .ok (.aload_n 0, 1) := by decide +kernel
theorem dX2_step_27 : decode cX2_step 27 = .ok (.dup, 1) := by decide +kernel
theorem dX2_step_28 : decode cX2_step 28 = .ok (.getfield 26, 3) := by decide +kernel
theorem dX2_step_31 : decode cX2_step 31 = .ok (.iconst 1, 1) := by decide +kernel
theorem dX2_step_32 : decode cX2_step 32 = .ok (.isub, 1) := by decide +kernel
theorem dX2_step_33 : decode cX2_step 33 = .ok (.putfield 26, 3) := by decide +kernel
theorem dX2_step_36 : decode cX2_step 36 = .ok (.aload_n 0, 1) := by decide +kernel
theorem dX2_step_37 : decode cX2_step 37 = .ok (.getfield 26, 3) := by decide +kernel
theorem dX2_step_40 : decode cX2_step 40 = .ok (.ifCond .ne 47, 3) := by decide +kernel
theorem dX2_step_43 : decode cX2_step 43 = .ok (.aload_n 0, 1) := by decide +kernel
theorem dX2_step_44 : decode cX2_step 44 = .ok (.aload_n 0, 1) := by decide +kernel
theorem dX2_step_45 : decode cX2_step 45 = .ok (.getfield 29, 3) := by decide +kernel
theorem dX2_step_48 : decode cX2_step 48 = .ok (.invokevirtual 71, 3) := by decide +kernel
theorem dX2_step_51 : decode cX2_step 51 = .ok (.goto 36, 3) := by decide +kernel
theorem dX2_step_54 : decode cX2_step 54 = .ok (.aload_n 0, 1) := by decide +kernel
theorem dX2_step_55 : decode cX2_step 55 = .ok (.aload_n 0, 1) := by decide +kernel
theorem dX2_step_56 : decode cX2_step 56 = .ok (.getfield 23, 3) := by decide +kernel
theorem dX2_step_59 : decode cX2_step 59 = .ok (.iconst 1, 1) := by decide +kernel
theorem dX2_step_60 : decode cX2_step 60 = .ok (.iadd, 1) := by decide +kernel
theorem dX2_step_61 : decode cX2_step 61 = .ok (.bipush 31, 2) := by decide +kernel
theorem dX2_step_63 : decode cX2_step 63 = .ok (.invokestatic 74, 3) := by decide +kernel
theorem dX2_step_66 : decode cX2_step 66 = .ok (.putfield 23, 3) := by decide +kernel
theorem dX2_step_69 : decode cX2_step 69 = .ok (.aload_n 0, 1) := by decide +kernel
theorem dX2_step_70 : decode cX2_step 70 = .ok (.invokevirtual 80, 3) := by decide +kernel
theorem dX2_step_73 : decode cX2_step 73 = .ok (.istore_n 2, 1) := by decide +kernel
theorem dX2_step_74 : decode cX2_step 74 = .ok (.iload_n 2, 1) := by decide +kernel
theorem dX2_step_75 : decode cX2_step 75 = .ok (.aload_n 0, 1) := by decide +kernel
theorem dX2_step_76 : decode cX2_step 76 = .ok (.getfield 19, 3) := by decide +kernel
theorem dX2_step_79 : decode cX2_step 79 = .ok (.if_icmp .eq 8, 3) := by decide +kernel
theorem dX2_step_82 : decode cX2_step 82 = .ok (.aload_n 0, 1) := by decide +kernel
theorem dX2_step_83 : decode cX2_step 83 = .ok (.iload_n 2, 1) := by decide +kernel
theorem dX2_step_84 : decode cX2_step 84 = .ok (.invokevirtual 83, 3) := by decide +kernel
theorem dX2_step_87 : decode cX2_step 87 = .ok (.aload_n 0, 1) := by decide +kernel
theorem dX2_step_88 : decode cX2_step 88 = .ok (.invokevirtual 86, 3) := by decide +kernel
theorem dX2_step_91 : decode cX2_step 91 = .ok (.ireturn, 1) := by decide +kernel
theorem dX2_hear_0 : decode cX2_hear 0 = .ok (.iload_n 1, 1) := by decide +kernel
theorem dX2_hear_1 : decode cX2_hear 1 = .ok (.iconst 1, 1) := by decide +kernel
theorem dX2_hear_2 : decode cX2_hear 2 = .ok (.isub, 1) := by decide +kernel
theorem dX2_hear_3 : decode cX2_hear 3 = .ok (.istore_n 2, 1) := by decide +kernel
theorem dX2_hear_4 : decode cX2_hear 4 = .ok (.iload_n 2, 1) := by decide +kernel
theorem dX2_hear_5 : decode cX2_hear 5 = .ok (.aload_n 0, 1) := by decide +kernel
theorem dX2_hear_6 : decode cX2_hear 6 = .ok (.getfield 15, 3) := by decide +kernel
theorem dX2_hear_9 : decode cX2_hear 9 = .ok (.getfield 50, 3) := by decide +kernel
theorem dX2_hear_12 : decode cX2_hear 12 = .ok (.isub, 1) := by decide +kernel
theorem dX2_hear_13 : decode cX2_hear 13 = .ok (.istore_n 3, 1) := by decide +kernel
theorem dX2_hear_14 : decode cX2_hear 14 = .ok (.aload_n 0, 1) := by decide +kernel
theorem dX2_hear_15 : decode cX2_hear 15 = .ok (.getfield 15, 3) := by decide +kernel
theorem dX2_hear_18 : decode cX2_hear 18 = .ok (.iload_n 2, 1) := by decide +kernel
theorem dX2_hear_19 : decode cX2_hear 19 = .ok (.invokevirtual 89, 3) := by decide +kernel
theorem dX2_hear_22 : decode cX2_hear 22 = .ok (.ifCond .eq 25, 3) := by decide +kernel
theorem dX2_hear_25 : decode cX2_hear 25 = .ok (.aload_n 0, 1) := by decide +kernel
theorem dX2_hear_26 : decode cX2_hear 26 = .ok (.dup, 1) := by decide +kernel
theorem dX2_hear_27 : decode cX2_hear 27 = .ok (.getfield 35, 3) := by decide +kernel
theorem dX2_hear_30 : decode cX2_hear 30 = .ok (.iconst 1, 1) := by decide +kernel
theorem dX2_hear_31 : decode cX2_hear 31 = .ok (.iload_n 2, 1) := by decide +kernel
theorem dX2_hear_32 : decode cX2_hear 32 = .ok (.ishl, 1) := by decide +kernel
theorem dX2_hear_33 : decode cX2_hear 33 = .ok (.aload_n 0, 1) := by decide +kernel
theorem dX2_hear_34 : decode cX2_hear 34 = .ok (.invokevirtual 53, 3) := by decide +kernel
theorem dX2_hear_37 : decode cX2_hear 37 = .ok (.iconst (-1), 1) := by decide +kernel
theorem dX2_hear_38 : decode cX2_hear 38 = .ok (.ixor, 1) := by decide +kernel
theorem dX2_hear_39 : decode cX2_hear 39 = .ok (.iand, 1) := by decide +kernel
theorem dX2_hear_40 : decode cX2_hear 40 = .ok (.ior, 1) := by decide +kernel
theorem dX2_hear_41 : decode cX2_hear 41 = .ok (.putfield 35, 3) := by decide +kernel
theorem dX2_hear_44 : decode cX2_hear 44 = .ok (.goto 19, 3) := by decide +kernel
theorem dX2_hear_47 : decode cX2_hear 47 = .ok (.aload_n 0, 1) := by decide +kernel
theorem dX2_hear_48 : decode cX2_hear 48 = .ok (.getfield 15, 3) := by decide +kernel
theorem dX2_hear_51 : decode cX2_hear 51 = .ok (.iload_n 3, 1) := by decide +kernel
theorem dX2_hear_52 : decode cX2_hear 52 = .ok (.invokevirtual 93, 3) := by decide +kernel
theorem dX2_hear_55 : decode cX2_hear 55 = .ok (.ifCond .eq 8, 3) := by decide +kernel
theorem dX2_hear_58 : decode cX2_hear 58 = .ok (.aload_n 0, 1) := by decide +kernel
theorem dX2_hear_59 : decode cX2_hear 59 = .ok (.iload_n 3, 1) := by decide +kernel
theorem dX2_hear_60 : decode cX2_hear 60 = .ok (.putfield 32, 3) := by decide +kernel
theorem dX2_hear_63 : decode cX2_hear 63 = .ok (.return_, 1) := by decide +kernel
theorem dX2_grow_0 : decode cX2_grow 0 = .ok (.aload_n 0, 1) := by decide +kernel
theorem dX2_grow_1 : decode cX2_grow 1 = .ok (.invokevirtual 53, 3) := by decide +kernel
theorem dX2_grow_4 : decode cX2_grow 4 = .ok (.istore_n 1, 1) := by decide +kernel
theorem dX2_grow_5 : decode cX2_grow 5 = .ok (.iconst 0, 1) := by decide +kernel
theorem dX2_grow_6 : decode cX2_grow 6 = .ok (.istore_n 2, 1) := by decide +kernel
theorem dX2_grow_7 : decode cX2_grow 7 = .ok (.iload_n 2, 1) := by decide +kernel
theorem dX2_grow_8 : decode cX2_grow 8 = .ok (.aload_n 0, 1) := by decide +kernel
theorem dX2_grow_9 : decode cX2_grow 9 = .ok (.getfield 15, 3) := by decide +kernel
theorem dX2_grow_12 : decode cX2_grow 12 = .ok (.getfield 50, 3) := by decide +kernel
theorem dX2_grow_15 : decode cX2_grow 15 = .ok (.if_icmp .ge 43, 3) := by decide +kernel
theorem dX2_grow_18 : decode cX2_grow 18 = .ok (.iload_n 1, 1) := by decide +kernel
theorem dX2_grow_19 : decode cX2_grow 19 = .ok (.iload_n 2, 1) := by decide +kernel
theorem dX2_grow_20 : decode cX2_grow 20 = .ok (.ishr, 1) := by decide +kernel
theorem dX2_grow_21 : decode cX2_grow 21 = .ok (.iconst 1, 1) := by decide +kernel
theorem dX2_grow_22 : decode cX2_grow 22 = .ok (.iand, 1) := by decide +kernel
theorem dX2_grow_23 : decode cX2_grow 23 = .ok (.ifCond .eq 8, 3) := by decide +kernel
theorem dX2_grow_26 : decode cX2_grow 26 = .ok (.bipush 31, 2) := by decide +kernel
theorem dX2_grow_28 : decode cX2_grow 28 = .ok (.goto 5, 3) := by decide +kernel
theorem dX2_grow_31 : decode cX2_grow 31 = .ok (.bipush 15, 2) := by decide +kernel
theorem dX2_grow_33 : decode cX2_grow 33 = .ok (.istore_n 3, 1) := by decide +kernel
theorem dX2_grow_34 : decode cX2_grow 34 = .ok (.aload_n 0, 1) := by decide +kernel
theorem dX2_grow_35 : decode cX2_grow 35 = .ok (.getfield 11, 3) := by decide +kernel
theorem dX2_grow_38 : decode cX2_grow 38 = .ok (.iload_n 2, 1) := by decide +kernel
theorem dX2_grow_39 : decode cX2_grow 39 = .ok (.aload_n 0, 1) := by decide +kernel
theorem dX2_grow_40 : decode cX2_grow 40 = .ok (.getfield 11, 3) := by decide +kernel
theorem dX2_grow_43 : decode cX2_grow 43 = .ok (.iload_n 2, 1) := by decide +kernel
theorem dX2_grow_44 : decode cX2_grow 44 = .ok (.iaload, 1) := by decide +kernel
theorem dX2_grow_45 : decode cX2_grow 45 = .ok (.iconst 1, 1) := by decide +kernel
theorem dX2_grow_46 : decode cX2_grow 46 = .ok (.iadd, 1) := by decide +kernel
theorem dX2_grow_47 : decode cX2_grow 47 = .ok (.iload_n 3, 1) := by decide +kernel
theorem dX2_grow_48 : decode cX2_grow 48 = .ok (.invokestatic 74, 3) := by decide +kernel
theorem dX2_grow_51 : decode cX2_grow 51 = .ok (.iastore, 1) := by decide +kernel
theorem dX2_grow_52 : decode cX2_grow 52 = .ok (.iinc 2 1, 3) := by decide +kernel
theorem dX2_grow_55 : decode cX2_grow 55 = .ok (.goto (-48), 3) := by decide +kernel
theorem dX2_grow_58 : decode cX2_grow 58 = .ok (.return_, 1) := by decide +kernel
theorem dX2_following_0 : decode cX2_following 0 = .ok (.aload_n 0, 1) := by decide +kernel
theorem dX2_following_1 : decode cX2_following 1 = .ok (.getfield 32, 3) := by decide +kernel
theorem dX2_following_4 : decode cX2_following 4 = .ok (.aload_n 0, 1) := by decide +kernel
theorem dX2_following_5 : decode cX2_following 5 = .ok (.getfield 19, 3) := by decide +kernel
theorem dX2_following_8 : decode cX2_following 8 = .ok (.iconst 5, 1) := by decide +kernel
theorem dX2_following_9 : decode cX2_following 9 = .ok (.idiv, 1) := by decide +kernel
theorem dX2_following_10 : decode cX2_following 10 = .ok (.if_icmp .eq 7, 3) := by decide +kernel
theorem dX2_following_13 : decode cX2_following 13 = .ok (.iconst 1, 1) := by decide +kernel
theorem dX2_following_14 : decode cX2_following 14 = .ok (.goto 4, 3) := by decide +kernel
theorem dX2_following_17 : decode cX2_following 17 = .ok (.iconst 0, 1) := by decide +kernel
theorem dX2_following_18 : decode cX2_following 18 = .ok (.istore_n 1, 1) := by decide +kernel
theorem dX2_following_19 : decode cX2_following 19 = .ok (.iload_n 1, 1) := by decide +kernel
theorem dX2_following_20 : decode cX2_following 20 = .ok (.ifCond .ne 24, 3) := by decide +kernel
theorem dX2_following_23 : decode cX2_following 23 = .ok (.aload_n 0, 1) := by decide +kernel
theorem dX2_following_24 : decode cX2_following 24 = .ok (.getfield 35, 3) := by decide +kernel
theorem dX2_following_27 : decode cX2_following 27 = .ok (.aload_n 0, 1) := by decide +kernel
theorem dX2_following_28 : decode cX2_following 28 = .ok (.getfield 15, 3) := by decide +kernel
theorem dX2_following_31 : decode cX2_following 31 = .ok (.aload_n 0, 1) := by decide +kernel
theorem dX2_following_32 : decode cX2_following 32 = .ok (.getfield 19, 3) := by decide +kernel
theorem dX2_following_35 : decode cX2_following 35 = .ok (.invokevirtual 38, 3) := by decide +kernel
theorem dX2_following_38 : decode cX2_following 38 = .ok (.iconst (-1), 1) := by decide +kernel
theorem dX2_following_39 : decode cX2_following 39 = .ok (.ixor, 1) := by decide +kernel
theorem dX2_following_40 : decode cX2_following 40 = .ok (.iand, 1) := by decide +kernel
theorem dX2_following_41 : decode cX2_following 41 = .ok (.ifCond .eq 7, 3) := by decide +kernel
theorem dX2_following_44 : decode cX2_following 44 = .ok (.iconst 1, 1) := by decide +kernel
theorem dX2_following_45 : decode cX2_following 45 = .ok (.goto 4, 3) := by decide +kernel
theorem dX2_following_48 : decode cX2_following 48 = .ok (.iconst 0, 1) := by decide +kernel
theorem dX2_following_49 : decode cX2_following 49 = .ok (.istore_n 2, 1) := by decide +kernel
theorem dX2_following_50 : decode cX2_following 50 = .ok (.aload_n 0, 1) := by decide +kernel
theorem dX2_following_51 : decode cX2_following 51 = .ok (.getfield 15, 3) := by decide +kernel
theorem dX2_following_54 : decode cX2_following 54 = .ok (.aload_n 0, 1) := by decide +kernel
theorem dX2_following_55 : decode cX2_following 55 = .ok (.getfield 19, 3) := by decide +kernel
theorem dX2_following_58 : decode cX2_following 58 = .ok (.aload_n 0, 1) := by decide +kernel
theorem dX2_following_59 : decode cX2_following 59 = .ok (.getfield 23, 3) := by decide +kernel
theorem dX2_following_62 : decode cX2_following 62 = .ok (.iload_n 2, 1) := by decide +kernel
theorem dX2_following_63 : decode cX2_following 63 = .ok (.invokevirtual 96, 3) := by decide +kernel
theorem dX2_following_66 : decode cX2_following 66 = .ok (.ifCond .ne 8, 3) := by decide +kernel
theorem dX2_following_69 : decode cX2_following 69 = .ok (.aload_n 0, 1) := by decide +kernel
theorem dX2_following_70 : decode cX2_following 70 = .ok (.getfield 19, 3) := by decide +kernel
theorem dX2_following_73 : decode cX2_following 73 = .ok (.ireturn, 1) := by decide +kernel
theorem dX2_following_74 : decode cX2_following 74 = .ok (.iload_n 1, 1) := by decide +kernel
theorem dX2_following_75 : decode cX2_following 75 = .ok (.ifCond .eq 12, 3) := by decide +kernel
theorem dX2_following_78 : decode cX2_following 78 = .ok (.aload_n 0, 1) := by decide +kernel
theorem dX2_following_79 : decode cX2_following 79 = .ok (.getfield 32, 3) := by decide +kernel
theorem dX2_following_82 : decode cX2_following 82 = .ok (.iconst 5, 1) := by decide +kernel
theorem dX2_following_83 : decode cX2_following 83 = .ok (.imul, 1) := by decide +kernel
theorem dX2_following_84 : decode cX2_following 84 = .ok (.goto 18, 3) := by decide +kernel
theorem dX2_following_87 : decode cX2_following 87 = .ok (.aload_n 0, 1) := by decide +kernel
theorem dX2_following_88 : decode cX2_following 88 = .ok (.getfield 15, 3) := by decide +kernel
theorem dX2_following_91 : decode cX2_following 91 = .ok (.aload_n 0, 1) := by decide +kernel
theorem dX2_following_92 : decode cX2_following 92 = .ok (.getfield 19, 3) := by decide +kernel
theorem dX2_following_95 : decode cX2_following 95 = .ok (.aload_n 0, 1) := by decide +kernel
theorem dX2_following_96 : decode cX2_following 96 = .ok (.getfield 35, 3) := by decide +kernel
theorem dX2_following_99 : decode cX2_following 99 = .ok (.invokevirtual 100, 3) := by decide +kernel
theorem dX2_following_102 : decode cX2_following 102 = .ok (.ireturn, 1) := by decide +kernel
theorem dX2_leave_0 : decode cX2_leave 0 = .ok (.aload_n 0, 1) := by decide +kernel
theorem dX2_leave_1 : decode cX2_leave 1 = .ok (.getfield 15, 3) := by decide +kernel
theorem dX2_leave_4 : decode cX2_leave 4 = .ok (.aload_n 0, 1) := by decide +kernel
theorem dX2_leave_5 : decode cX2_leave 5 = .ok (.getfield 19, 3) := by decide +kernel
theorem dX2_leave_8 : decode cX2_leave 8 = .ok (.invokevirtual 38, 3) := by decide +kernel
theorem dX2_leave_11 : decode cX2_leave 11 = .ok (.istore_n 2, 1) := by decide +kernel
theorem dX2_leave_12 : decode cX2_leave 12 = .ok (.aload_n 0, 1) := by decide +kernel
theorem dX2_leave_13 : decode cX2_leave 13 = .ok (.getfield 15, 3) := by decide +kernel
theorem dX2_leave_16 : decode cX2_leave 16 = .ok (.iload_n 1, 1) := by decide +kernel
theorem dX2_leave_17 : decode cX2_leave 17 = .ok (.invokevirtual 38, 3) := by decide +kernel
theorem dX2_leave_20 : decode cX2_leave 20 = .ok (.istore_n 3, 1) := by decide +kernel
theorem dX2_leave_21 : decode cX2_leave 21 = .ok (.iload_n 2, 1) := by decide +kernel
theorem dX2_leave_22 : decode cX2_leave 22 = .ok (.iload_n 3, 1) := by decide +kernel
theorem dX2_leave_23 : decode cX2_leave 23 = .ok (.iconst (-1), 1) := by decide +kernel
theorem dX2_leave_24 : decode cX2_leave 24 = .ok (.ixor, 1) := by decide +kernel
theorem dX2_leave_25 : decode cX2_leave 25 = .ok (.iand, 1) := by decide +kernel
theorem dX2_leave_26 : decode cX2_leave 26 = .ok (.istore 4, 2) := by decide +kernel
theorem dX2_leave_28 : decode cX2_leave 28 = .ok (.iconst 0, 1) := by decide +kernel
theorem dX2_leave_29 : decode cX2_leave 29 = .ok (.istore 5, 2) := by decide +kernel
theorem dX2_leave_31 : decode cX2_leave 31 = .ok (.iload 5, 2) := by decide +kernel
theorem dX2_leave_33 : decode cX2_leave 33 = .ok (.aload_n 0, 1) := by decide +kernel
theorem dX2_leave_34 : decode cX2_leave 34 = .ok (.getfield 15, 3) := by decide +kernel
theorem dX2_leave_37 : decode cX2_leave 37 = .ok (.getfield 50, 3) := by decide +kernel
theorem dX2_leave_40 : decode cX2_leave 40 = .ok (.if_icmp .ge 61, 3) := by decide +kernel
theorem dX2_leave_43 : decode cX2_leave 43 = .ok (.iload 4, 2) := by decide +kernel
theorem dX2_leave_45 : decode cX2_leave 45 = .ok (.iload 5, 2) := by decide +kernel
theorem dX2_leave_47 : decode cX2_leave 47 = .ok (.ishr, 1) := by decide +kernel
theorem dX2_leave_48 : decode cX2_leave 48 = .ok (.iconst 1, 1) := by decide +kernel
theorem dX2_leave_49 : decode cX2_leave 49 = .ok (.iand, 1) := by decide +kernel
theorem dX2_leave_50 : decode cX2_leave 50 = .ok (.ifCond .eq 45, 3) := by decide +kernel
theorem dX2_leave_53 : decode cX2_leave 53 = .ok (.aload_n 0, 1) := by decide +kernel
theorem dX2_leave_54 : decode cX2_leave 54 = .ok (.dup, 1) := by decide +kernel
theorem dX2_leave_55 : decode cX2_leave 55 = .ok (.getfield 60, 3) := by decide +kernel
theorem dX2_leave_58 : decode cX2_leave 58 = .ok (.aload_n 0, 1) := by decide +kernel
theorem dX2_leave_59 : decode cX2_leave 59 = .ok (.getfield 11, 3) := by decide +kernel
theorem dX2_leave_62 : decode cX2_leave 62 = .ok (.iload 5, 2) := by decide +kernel
theorem dX2_leave_64 : decode cX2_leave 64 = .ok (.iaload, 1) := by decide +kernel
theorem dX2_leave_65 : decode cX2_leave 65 = .ok (.aload_n 0, 1) := by decide +kernel
theorem dX2_leave_66 : decode cX2_leave 66 = .ok (.getfield 15, 3) := by decide +kernel
theorem dX2_leave_69 : decode cX2_leave 69 = .ok (.getfield 103, 3) := by decide +kernel
theorem dX2_leave_72 : decode cX2_leave 72 = .ok (.iload 5, 2) := by decide +kernel
theorem dX2_leave_74 : decode cX2_leave 74 = .ok (.iaload, 1) := by decide +kernel
theorem dX2_leave_75 : decode cX2_leave 75 = .ok (.if_icmp .ge 7, 3) := by decide +kernel
theorem dX2_leave_78 : decode cX2_leave 78 = .ok (.iconst 1, 1) := by decide +kernel
theorem dX2_leave_79 : decode cX2_leave 79 = .ok (.goto 4, 3) := by decide +kernel
theorem dX2_leave_82 : decode cX2_leave 82 = .ok (.iconst 0, 1) := by decide +kernel
theorem dX2_leave_83 : decode cX2_leave 83 = .ok (.ior, 1) := by decide +kernel
theorem dX2_leave_84 : decode cX2_leave 84 = .ok (.putfield 60, 3) := by decide +kernel
theorem dX2_leave_87 : decode cX2_leave 87 = .ok (.aload_n 0, 1) := by decide +kernel
theorem dX2_leave_88 : decode cX2_leave 88 = .ok (.getfield 11, 3) := by decide +kernel
theorem dX2_leave_91 : decode cX2_leave 91 = .ok (.iload 5, 2) := by decide +kernel
theorem dX2_leave_93 : decode cX2_leave 93 = .ok (.iconst 0, 1) := by decide +kernel
theorem dX2_leave_94 : decode cX2_leave 94 = .ok (.iastore, 1) := by decide +kernel
theorem dX2_leave_95 : decode cX2_leave 95 = .ok (.iinc 5 1, 3) := by decide +kernel
theorem dX2_leave_98 : decode cX2_leave 98 = .ok (.goto (-67), 3) := by decide +kernel
theorem dX2_leave_101 : decode cX2_leave 101 = .ok (.aload_n 0, 1) := by decide +kernel
theorem dX2_leave_102 : decode cX2_leave 102 = .ok (.getfield 15, 3) := by decide +kernel
theorem dX2_leave_105 : decode cX2_leave 105 = .ok (.iload 4, 2) := by decide +kernel
theorem dX2_leave_107 : decode cX2_leave 107 = .ok (.iload_n 3, 1) := by decide +kernel
theorem dX2_leave_108 : decode cX2_leave 108 = .ok (.iload_n 2, 1) := by decide +kernel
theorem dX2_leave_109 : decode cX2_leave 109 = .ok (.iconst (-1), 1) := by decide +kernel
theorem dX2_leave_110 : decode cX2_leave 110 = .ok (.ixor, 1) := by decide +kernel
theorem dX2_leave_111 : decode cX2_leave 111 = .ok (.iand, 1) := by decide +kernel
theorem dX2_leave_112 : decode cX2_leave 112 = .ok (.invokevirtual 106, 3) := by decide +kernel
theorem dX2_leave_115 : decode cX2_leave 115 = .ok (.istore 5, 2) := by decide +kernel
theorem dX2_leave_117 : decode cX2_leave 117 = .ok (.iload 5, 2) := by decide +kernel
theorem dX2_leave_119 : decode cX2_leave 119 = .ok (.ifCond .ne 11, 3) := by decide +kernel
theorem dX2_leave_122 : decode cX2_leave 122 = .ok (.aload_n 0, 1) := by decide +kernel
theorem dX2_leave_123 : decode cX2_leave 123 = .ok (.iload_n 1, 1) := by decide +kernel
theorem dX2_leave_124 : decode cX2_leave 124 = .ok (.invokevirtual 71, 3) := by decide +kernel
theorem dX2_leave_127 : decode cX2_leave 127 = .ok (.goto 14, 3) := by decide +kernel
theorem dX2_leave_130 : decode cX2_leave 130 = .ok (.aload_n 0, 1) := by decide +kernel
theorem dX2_leave_131 : decode cX2_leave 131 = .ok (.iload 5, 2) := by decide +kernel
theorem dX2_leave_133 : decode cX2_leave 133 = .ok (.putfield 26, 3) := by decide +kernel
theorem dX2_leave_136 : decode cX2_leave 136 = .ok (.aload_n 0, 1) := by decide +kernel
theorem dX2_leave_137 : decode cX2_leave 137 = .ok (.iload_n 1, 1) := by decide +kernel
theorem dX2_leave_138 : decode cX2_leave 138 = .ok (.putfield 29, 3) := by decide +kernel
theorem dX2_leave_141 : decode cX2_leave 141 = .ok (.return_, 1) := by decide +kernel
theorem dX2_enter_0 : decode cX2_enter 0 = .ok (.aload_n 0, 1) := by decide +kernel
theorem dX2_enter_1 : decode cX2_enter 1 = .ok (.getfield 15, 3) := by decide +kernel
theorem dX2_enter_4 : decode cX2_enter 4 = .ok (.iload_n 1, 1) := by decide +kernel
theorem dX2_enter_5 : decode cX2_enter 5 = .ok (.invokevirtual 38, 3) := by decide +kernel
theorem dX2_enter_8 : decode cX2_enter 8 = .ok (.istore_n 2, 1) := by decide +kernel
theorem dX2_enter_9 : decode cX2_enter 9 = .ok (.aload_n 0, 1) := by decide +kernel
theorem dX2_enter_10 : decode cX2_enter 10 = .ok (.iload_n 2, 1) := by decide +kernel
theorem dX2_enter_11 : decode cX2_enter 11 = .ok (.aload_n 0, 1) := by decide +kernel
theorem dX2_enter_12 : decode cX2_enter 12 = .ok (.getfield 15, 3) := by decide +kernel
theorem dX2_enter_15 : decode cX2_enter 15 = .ok (.aload_n 0, 1) := by decide +kernel
theorem dX2_enter_16 : decode cX2_enter 16 = .ok (.getfield 19, 3) := by decide +kernel
theorem dX2_enter_19 : decode cX2_enter 19 = .ok (.invokevirtual 38, 3) := by decide +kernel
theorem dX2_enter_22 : decode cX2_enter 22 = .ok (.iconst (-1), 1) := by decide +kernel
theorem dX2_enter_23 : decode cX2_enter 23 = .ok (.ixor, 1) := by decide +kernel
theorem dX2_enter_24 : decode cX2_enter 24 = .ok (.iand, 1) := by decide +kernel
theorem dX2_enter_25 : decode cX2_enter 25 = .ok (.putfield 57, 3) := by decide +kernel
theorem dX2_enter_28 : decode cX2_enter 28 = .ok (.iconst 0, 1) := by decide +kernel
theorem dX2_enter_29 : decode cX2_enter 29 = .ok (.istore_n 3, 1) := by decide +kernel
theorem dX2_enter_30 : decode cX2_enter 30 = .ok (.iload_n 3, 1) := by decide +kernel
theorem dX2_enter_31 : decode cX2_enter 31 = .ok (.aload_n 0, 1) := by decide +kernel
theorem dX2_enter_32 : decode cX2_enter 32 = .ok (.getfield 15, 3) := by decide +kernel
theorem dX2_enter_35 : decode cX2_enter 35 = .ok (.getfield 50, 3) := by decide +kernel
theorem dX2_enter_38 : decode cX2_enter 38 = .ok (.if_icmp .ge 27, 3) := by decide +kernel
theorem dX2_enter_41 : decode cX2_enter 41 = .ok (.aload_n 0, 1) := by decide +kernel
theorem dX2_enter_42 : decode cX2_enter 42 = .ok (.getfield 57, 3) := by decide +kernel
theorem dX2_enter_45 : decode cX2_enter 45 = .ok (.iload_n 3, 1) := by decide +kernel
theorem dX2_enter_46 : decode cX2_enter 46 = .ok (.ishr, 1) := by decide +kernel
theorem dX2_enter_47 : decode cX2_enter 47 = .ok (.iconst 1, 1) := by decide +kernel
theorem dX2_enter_48 : decode cX2_enter 48 = .ok (.iand, 1) := by decide +kernel
theorem dX2_enter_49 : decode cX2_enter 49 = .ok (.ifCond .eq 10, 3) := by decide +kernel
theorem dX2_enter_52 : decode cX2_enter 52 = .ok (.aload_n 0, 1) := by decide +kernel
theorem dX2_enter_53 : decode cX2_enter 53 = .ok (.getfield 11, 3) := by decide +kernel
theorem dX2_enter_56 : decode cX2_enter 56 = .ok (.iload_n 3, 1) := by decide +kernel
theorem dX2_enter_57 : decode cX2_enter 57 = .ok (.iconst 0, 1) := by decide +kernel
theorem dX2_enter_58 : decode cX2_enter 58 = .ok (.iastore, 1) := by decide +kernel
theorem dX2_enter_59 : decode cX2_enter 59 = .ok (.iinc 3 1, 3) := by decide +kernel
theorem dX2_enter_62 : decode cX2_enter 62 = .ok (.goto (-32), 3) := by decide +kernel
theorem dX2_enter_65 : decode cX2_enter 65 = .ok (.aload_n 0, 1) := by decide +kernel
theorem dX2_enter_66 : decode cX2_enter 66 = .ok (.dup, 1) := by decide +kernel
theorem dX2_enter_67 : decode cX2_enter 67 = .ok (.getfield 35, 3) := by decide +kernel
theorem dX2_enter_70 : decode cX2_enter 70 = .ok (.iload_n 2, 1) := by decide +kernel
theorem dX2_enter_71 : decode cX2_enter 71 = .ok (.iconst (-1), 1) := by decide +kernel
theorem dX2_enter_72 : decode cX2_enter 72 = .ok (.ixor, 1) := by decide +kernel
theorem dX2_enter_73 : decode cX2_enter 73 = .ok (.iand, 1) := by decide +kernel
theorem dX2_enter_74 : decode cX2_enter 74 = .ok (.putfield 35, 3) := by decide +kernel
theorem dX2_enter_77 : decode cX2_enter 77 = .ok (.aload_n 0, 1) := by decide +kernel
theorem dX2_enter_78 : decode cX2_enter 78 = .ok (.iload_n 1, 1) := by decide +kernel
theorem dX2_enter_79 : decode cX2_enter 79 = .ok (.putfield 19, 3) := by decide +kernel
theorem dX2_enter_82 : decode cX2_enter 82 = .ok (.aload_n 0, 1) := by decide +kernel
theorem dX2_enter_83 : decode cX2_enter 83 = .ok (.iconst 0, 1) := by decide +kernel
theorem dX2_enter_84 : decode cX2_enter 84 = .ok (.putfield 23, 3) := by decide +kernel
theorem dX2_enter_87 : decode cX2_enter 87 = .ok (.aload_n 0, 1) := by decide +kernel
theorem dX2_enter_88 : decode cX2_enter 88 = .ok (.iconst 0, 1) := by decide +kernel
theorem dX2_enter_89 : decode cX2_enter 89 = .ok (.putfield 26, 3) := by decide +kernel
theorem dX2_enter_92 : decode cX2_enter 92 = .ok (.aload_n 0, 1) := by decide +kernel
theorem dX2_enter_93 : decode cX2_enter 93 = .ok (.iconst 0, 1) := by decide +kernel
theorem dX2_enter_94 : decode cX2_enter 94 = .ok (.putfield 29, 3) := by decide +kernel
theorem dX2_enter_97 : decode cX2_enter 97 = .ok (.return_, 1) := by decide +kernel
theorem dX2_fault_0 : decode cX2_fault 0 = .ok (.aload_n 0, 1) := by decide +kernel
theorem dX2_fault_1 : decode cX2_fault 1 = .ok (.invokevirtual 53, 3) := by decide +kernel
theorem dX2_fault_4 : decode cX2_fault 4 = .ok (.istore_n 1, 1) := by decide +kernel
theorem dX2_fault_5 : decode cX2_fault 5 = .ok (.iconst 0, 1) := by decide +kernel
theorem dX2_fault_6 : decode cX2_fault 6 = .ok (.istore_n 2, 1) := by decide +kernel
theorem dX2_fault_7 : decode cX2_fault 7 = .ok (.iconst 0, 1) := by decide +kernel
theorem dX2_fault_8 : decode cX2_fault 8 = .ok (.istore_n 3, 1) := by decide +kernel
theorem dX2_fault_9 : decode cX2_fault 9 = .ok (.iconst 0, 1) := by decide +kernel
theorem dX2_fault_10 : decode cX2_fault 10 = .ok (.istore 4, 2) := by decide +kernel
theorem dX2_fault_12 : decode cX2_fault 12 = .ok (.iconst 0, 1) := by decide +kernel
theorem dX2_fault_13 : decode cX2_fault 13 = .ok (.istore 5, 2) := by decide +kernel
theorem dX2_fault_15 : decode cX2_fault 15 = .ok (.iload 5, 2) := by decide +kernel
theorem dX2_fault_17 : decode cX2_fault 17 = .ok (.aload_n 0, 1) := by decide +kernel
theorem dX2_fault_18 : decode cX2_fault 18 = .ok (.getfield 15, 3) := by decide +kernel
theorem dX2_fault_21 : decode cX2_fault 21 = .ok (.getfield 50, 3) := by decide +kernel
theorem dX2_fault_24 : decode cX2_fault 24 = .ok (.if_icmp .ge 120, 3) := by decide +kernel
theorem dX2_fault_27 : decode cX2_fault 27 = .ok (.iload_n 1, 1) := by decide +kernel
theorem dX2_fault_28 : decode cX2_fault 28 = .ok (.iload 5, 2) := by decide +kernel
theorem dX2_fault_30 : decode cX2_fault 30 = .ok (.ishr, 1) := by decide +kernel
theorem dX2_fault_31 : decode cX2_fault 31 = .ok (.iconst 1, 1) := by decide +kernel
theorem dX2_fault_32 : decode cX2_fault 32 = .ok (.iand, 1) := by decide +kernel
theorem dX2_fault_33 : decode cX2_fault 33 = .ok (.ifCond .eq 105, 3) := by decide +kernel
theorem dX2_fault_36 : decode cX2_fault 36 = .ok (.aload_n 0, 1) := by decide +kernel
theorem dX2_fault_37 : decode cX2_fault 37 = .ok (.getfield 15, 3) := by decide +kernel
theorem dX2_fault_40 : decode cX2_fault 40 = .ok (.getfield 109, 3) := by decide +kernel
theorem dX2_fault_43 : decode cX2_fault 43 = .ok (.iload 5, 2) := by decide +kernel
theorem dX2_fault_45 : decode cX2_fault 45 = .ok (.iaload, 1) := by decide +kernel
theorem dX2_fault_46 : decode cX2_fault 46 = .ok (.istore 6, 2) := by decide +kernel
theorem dX2_fault_48 : decode cX2_fault 48 = .ok (.iload_n 2, 1) := by decide +kernel
theorem dX2_fault_49 : decode cX2_fault 49 = .ok (.iload 6, 2) := by decide +kernel
theorem dX2_fault_51 : decode cX2_fault 51 = .ok (.iload_n 1, 1) := by decide +kernel
theorem dX2_fault_52 : decode cX2_fault 52 = .ok (.iand, 1) := by decide +kernel
theorem dX2_fault_53 : decode cX2_fault 53 = .ok (.ifCond .eq 7, 3) := by decide +kernel
theorem dX2_fault_56 : decode cX2_fault 56 = .ok (.iconst 1, 1) := by decide +kernel
theorem dX2_fault_57 : decode cX2_fault 57 = .ok (.goto 4, 3) := by decide +kernel
theorem dX2_fault_60 : decode cX2_fault 60 = .ok (.iconst 0, 1) := by decide +kernel
theorem dX2_fault_61 : decode cX2_fault 61 = .ok (.ior, 1) := by decide +kernel
theorem dX2_fault_62 : decode cX2_fault 62 = .ok (.istore_n 2, 1) := by decide +kernel
theorem dX2_fault_63 : decode cX2_fault 63 = .ok (.iload_n 3, 1) := by decide +kernel
theorem dX2_fault_64 : decode cX2_fault 64 = .ok (.aload_n 0, 1) := by decide +kernel
theorem dX2_fault_65 : decode cX2_fault 65 = .ok (.getfield 57, 3) := by decide +kernel
theorem dX2_fault_68 : decode cX2_fault 68 = .ok (.iload 5, 2) := by decide +kernel
theorem dX2_fault_70 : decode cX2_fault 70 = .ok (.ishr, 1) := by decide +kernel
theorem dX2_fault_71 : decode cX2_fault 71 = .ok (.iconst 1, 1) := by decide +kernel
theorem dX2_fault_72 : decode cX2_fault 72 = .ok (.iand, 1) := by decide +kernel
theorem dX2_fault_73 : decode cX2_fault 73 = .ok (.ifCond .eq 22, 3) := by decide +kernel
theorem dX2_fault_76 : decode cX2_fault 76 = .ok (.aload_n 0, 1) := by decide +kernel
theorem dX2_fault_77 : decode cX2_fault 77 = .ok (.iload 5, 2) := by decide +kernel
theorem dX2_fault_79 : decode cX2_fault 79 = .ok (.iload 6, 2) := by decide +kernel
theorem dX2_fault_81 : decode cX2_fault 81 = .ok (.iload_n 1, 1) := by decide +kernel
theorem dX2_fault_82 : decode cX2_fault 82 = .ok (.iconst (-1), 1) := by decide +kernel
theorem dX2_fault_83 : decode cX2_fault 83 = .ok (.ixor, 1) := by decide +kernel
theorem dX2_fault_84 : decode cX2_fault 84 = .ok (.iand, 1) := by decide +kernel
theorem dX2_fault_85 : decode cX2_fault 85 = .ok (.invokevirtual 112, 3) := by decide +kernel
theorem dX2_fault_88 : decode cX2_fault 88 = .ok (.ifCond .eq 7, 3) := by decide +kernel
theorem dX2_fault_91 : decode cX2_fault 91 = .ok (.iconst 1, 1) := by decide +kernel
theorem dX2_fault_92 : decode cX2_fault 92 = .ok (.goto 4, 3) := by decide +kernel
theorem dX2_fault_95 : decode cX2_fault 95 = .ok (.iconst 0, 1) := by decide +kernel
theorem dX2_fault_96 : decode cX2_fault 96 = .ok (.ior, 1) := by decide +kernel
theorem dX2_fault_97 : decode cX2_fault 97 = .ok (.istore_n 3, 1) := by decide +kernel
theorem dX2_fault_98 : decode cX2_fault 98 = .ok (.iload 4, 2) := by decide +kernel
theorem dX2_fault_100 : decode cX2_fault 100 = .ok (.aload_n 0, 1) := by decide +kernel
theorem dX2_fault_101 : decode cX2_fault 101 = .ok (.getfield 11, 3) := by decide +kernel
theorem dX2_fault_104 : decode cX2_fault 104 = .ok (.iload 5, 2) := by decide +kernel
theorem dX2_fault_106 : decode cX2_fault 106 = .ok (.iaload, 1) := by decide +kernel
theorem dX2_fault_107 : decode cX2_fault 107 = .ok (.aload_n 0, 1) := by decide +kernel
theorem dX2_fault_108 : decode cX2_fault 108 = .ok (.getfield 15, 3) := by decide +kernel
theorem dX2_fault_111 : decode cX2_fault 111 = .ok (.getfield 116, 3) := by decide +kernel
theorem dX2_fault_114 : decode cX2_fault 114 = .ok (.iload 5, 2) := by decide +kernel
theorem dX2_fault_116 : decode cX2_fault 116 = .ok (.iaload, 1) := by decide +kernel
theorem dX2_fault_117 : decode cX2_fault 117 = .ok (.if_icmp .le 17, 3) := by decide +kernel
theorem dX2_fault_120 : decode cX2_fault 120 = .ok (.iload 6, 2) := by decide +kernel
theorem dX2_fault_122 : decode cX2_fault 122 = .ok (.aload_n 0, 1) := by decide +kernel
theorem dX2_fault_123 : decode cX2_fault 123 = .ok (.getfield 35, 3) := by decide +kernel
theorem dX2_fault_126 : decode cX2_fault 126 = .ok (.iand, 1) := by decide +kernel
theorem dX2_fault_127 : decode cX2_fault 127 = .ok (.ifCond .eq 7, 3) := by decide +kernel
theorem dX2_fault_130 : decode cX2_fault 130 = .ok (.iconst 1, 1) := by decide +kernel
theorem dX2_fault_131 : decode cX2_fault 131 = .ok (.goto 4, 3) := by decide +kernel
theorem dX2_fault_134 : decode cX2_fault 134 = .ok (.iconst 0, 1) := by decide +kernel
theorem dX2_fault_135 : decode cX2_fault 135 = .ok (.ior, 1) := by decide +kernel
theorem dX2_fault_136 : decode cX2_fault 136 = .ok (.istore 4, 2) := by decide +kernel
theorem dX2_fault_138 : decode cX2_fault 138 = .ok (.iinc 5 1, 3) := by decide +kernel
theorem dX2_fault_141 : decode cX2_fault 141 = .ok (.goto (-126), 3) := by decide +kernel
theorem dX2_fault_144 : decode cX2_fault 144 = .ok (.iload_n 2, 1) := by decide +kernel
theorem dX2_fault_145 : decode cX2_fault 145 = .ok (.ifCond .eq 5, 3) := by decide +kernel
theorem dX2_fault_148 : decode cX2_fault 148 = .ok (.iconst 1, 1) := by decide +kernel
theorem dX2_fault_149 : decode cX2_fault 149 = .ok (.ireturn, 1) := by decide +kernel
theorem dX2_fault_150 : decode cX2_fault 150 = .ok (.iload_n 3, 1) := by decide +kernel
theorem dX2_fault_151 : decode cX2_fault 151 = .ok (.ifCond .eq 5, 3) := by decide +kernel
theorem dX2_fault_154 : decode cX2_fault 154 = .ok (.iconst 2, 1) := by decide +kernel
theorem dX2_fault_155 : decode cX2_fault 155 = .ok (.ireturn, 1) := by decide +kernel
theorem dX2_fault_156 : decode cX2_fault 156 = .ok (.aload_n 0, 1) := by decide +kernel
theorem dX2_fault_157 : decode cX2_fault 157 = .ok (.getfield 60, 3) := by decide +kernel
theorem dX2_fault_160 : decode cX2_fault 160 = .ok (.ifCond .eq 5, 3) := by decide +kernel
theorem dX2_fault_163 : decode cX2_fault 163 = .ok (.iconst 3, 1) := by decide +kernel
theorem dX2_fault_164 : decode cX2_fault 164 = .ok (.ireturn, 1) := by decide +kernel
theorem dX2_fault_165 : decode cX2_fault 165 = .ok (.iload 4, 2) := by decide +kernel
theorem dX2_fault_167 : decode cX2_fault 167 = .ok (.ifCond .eq 7, 3) := by decide +kernel
theorem dX2_fault_170 : decode cX2_fault 170 = .ok (.iconst 4, 1) := by decide +kernel
theorem dX2_fault_171 : decode cX2_fault 171 = .ok (.goto 4, 3) := by decide +kernel
theorem dX2_fault_174 : decode cX2_fault 174 = .ok (.iconst 0, 1) := by decide +kernel
theorem dX2_fault_175 : decode cX2_fault 175 = .ok (.ireturn, 1) := by decide +kernel
theorem dX2_beganTooSoon_0 : decode cX2_beganTooSoon 0 = .ok (.iconst 0, 1) := by decide +kernel
theorem dX2_beganTooSoon_1 : decode cX2_beganTooSoon 1 = .ok (.istore_n 3, 1) := by decide +kernel
theorem dX2_beganTooSoon_2 : decode cX2_beganTooSoon 2 = .ok (.iload_n 3, 1) := by decide +kernel
theorem dX2_beganTooSoon_3 : decode cX2_beganTooSoon 3 = .ok (.aload_n 0, 1) := by decide +kernel
theorem dX2_beganTooSoon_4 : decode cX2_beganTooSoon 4 = .ok (.getfield 15, 3) := by decide +kernel
theorem dX2_beganTooSoon_7 : decode cX2_beganTooSoon 7 = .ok (.getfield 50, 3) := by decide +kernel
theorem dX2_beganTooSoon_10 : decode cX2_beganTooSoon 10 = .ok (.if_icmp .ge 42, 3) := by decide +kernel
theorem dX2_beganTooSoon_13 : decode cX2_beganTooSoon 13 = .ok (.iload_n 2, 1) := by decide +kernel
theorem dX2_beganTooSoon_14 : decode cX2_beganTooSoon 14 = .ok (.iload_n 3, 1) := by decide +kernel
theorem dX2_beganTooSoon_15 : decode cX2_beganTooSoon 15 = .ok (.ishr, 1) := by decide +kernel
theorem dX2_beganTooSoon_16 : decode cX2_beganTooSoon 16 = .ok (.iconst 1, 1) := by decide +kernel
theorem dX2_beganTooSoon_17 : decode cX2_beganTooSoon 17 = .ok (.iand, 1) := by decide +kernel
theorem dX2_beganTooSoon_18 : decode cX2_beganTooSoon 18 = .ok (.ifCond .eq 28, 3) := by decide +kernel
theorem dX2_beganTooSoon_21 : decode cX2_beganTooSoon 21 = .ok (.aload_n 0, 1) := by decide +kernel
theorem dX2_beganTooSoon_22 : decode cX2_beganTooSoon 22 = .ok (.getfield 11, 3) := by decide +kernel
theorem dX2_beganTooSoon_25 : decode cX2_beganTooSoon 25 = .ok (.iload_n 3, 1) := by decide +kernel
theorem dX2_beganTooSoon_26 : decode cX2_beganTooSoon 26 = .ok (.iaload, 1) := by decide +kernel
theorem dX2_beganTooSoon_27 : decode cX2_beganTooSoon 27 = .ok (.aload_n 0, 1) := by decide +kernel
theorem dX2_beganTooSoon_28 : decode cX2_beganTooSoon 28 = .ok (.getfield 15, 3) := by decide +kernel
theorem dX2_beganTooSoon_31 : decode cX2_beganTooSoon 31 = .ok (.getfield 119, 3) := by decide +kernel
theorem dX2_beganTooSoon_34 : decode cX2_beganTooSoon 34 = .ok (.iload_n 3, 1) := by decide +kernel
theorem dX2_beganTooSoon_35 : decode cX2_beganTooSoon 35 = .ok (.bipush 6, 2) := by decide +kernel
theorem dX2_beganTooSoon_37 : decode cX2_beganTooSoon 37 = .ok (.imul, 1) := by decide +kernel
theorem dX2_beganTooSoon_38 : decode cX2_beganTooSoon 38 = .ok (.iload_n 1, 1) := by decide +kernel
theorem dX2_beganTooSoon_39 : decode cX2_beganTooSoon 39 = .ok (.iadd, 1) := by decide +kernel
theorem dX2_beganTooSoon_40 : decode cX2_beganTooSoon 40 = .ok (.iaload, 1) := by decide +kernel
theorem dX2_beganTooSoon_41 : decode cX2_beganTooSoon 41 = .ok (.if_icmp .ge 5, 3) := by decide +kernel
theorem dX2_beganTooSoon_44 : decode cX2_beganTooSoon 44 = .ok (.iconst 1, 1) := by decide +kernel
theorem dX2_beganTooSoon_45 : decode cX2_beganTooSoon 45 = .ok (.ireturn, 1) := by decide +kernel
theorem dX2_beganTooSoon_46 : decode cX2_beganTooSoon 46 = .ok (.iinc 3 1, 3) := by decide +kernel
theorem dX2_beganTooSoon_49 : decode cX2_beganTooSoon 49 = .ok (.goto (-47), 3) := by decide +kernel
theorem dX2_beganTooSoon_52 : decode cX2_beganTooSoon 52 = .ok (.iconst 0, 1) := by decide +kernel
theorem dX2_beganTooSoon_53 : decode cX2_beganTooSoon 53 = .ok (.ireturn, 1) := by decide +kernel
theorem dX2_packed_0 : decode cX2_packed 0 = .ok (.lconst 0, 1) := by decide +kernel
theorem dX2_packed_1 : decode cX2_packed 1 = .ok (.lstore_n 1, 1) := by decide +kernel
theorem dX2_packed_2 : decode cX2_packed 2 = .ok (.iconst 5, 1) := by decide +kernel
theorem dX2_packed_3 : decode cX2_packed 3 = .ok (.istore_n 3, 1) := by decide +kernel
theorem dX2_packed_4 : decode cX2_packed 4 = .ok (.iload_n 3, 1) := by decide +kernel
theorem dX2_packed_5 : decode cX2_packed 5 = .ok (.ifCond .lt 21, 3) := by decide +kernel
theorem dX2_packed_8 : decode cX2_packed 8 = .ok (.lload_n 1, 1) := by decide +kernel
theorem dX2_packed_9 : decode cX2_packed 9 = .ok (.iconst 5, 1) := by decide +kernel
theorem dX2_packed_10 : decode cX2_packed 10 = .ok (.lshl, 1) := by decide +kernel
theorem dX2_packed_11 : decode cX2_packed 11 = .ok (.aload_n 0, 1) := by decide +kernel
theorem dX2_packed_12 : decode cX2_packed 12 = .ok (.getfield 11, 3) := by decide +kernel
theorem dX2_packed_15 : decode cX2_packed 15 = .ok (.iload_n 3, 1) := by decide +kernel
theorem dX2_packed_16 : decode cX2_packed 16 = .ok (.iaload, 1) := by decide +kernel
theorem dX2_packed_17 : decode cX2_packed 17 = .ok (.i2l, 1) := by decide +kernel
theorem dX2_packed_18 : decode cX2_packed 18 = .ok (.lor, 1) := by decide +kernel
theorem dX2_packed_19 : decode cX2_packed 19 = .ok (.lstore_n 1, 1) := by decide +kernel
theorem dX2_packed_20 : decode cX2_packed 20 = .ok (.iinc 3 (-1), 3) := by decide +kernel
theorem dX2_packed_23 : decode cX2_packed 23 = .ok (.goto (-19), 3) := by decide +kernel
theorem dX2_packed_26 : decode cX2_packed 26 = .ok (.lload_n 1, 1) := by decide +kernel
theorem dX2_packed_27 : decode cX2_packed 27 = .ok (.bipush 6, 2) := by decide +kernel
theorem dX2_packed_29 : decode cX2_packed 29 = .ok (.lshl, 1) := by decide +kernel
theorem dX2_packed_30 : decode cX2_packed 30 = .ok (.aload_n 0, 1) := by decide +kernel
theorem dX2_packed_31 : decode cX2_packed 31 = .ok (.getfield 35, 3) := by decide +kernel
theorem dX2_packed_34 : decode cX2_packed 34 = .ok (.i2l, 1) := by decide +kernel
theorem dX2_packed_35 : decode cX2_packed 35 = .ok (.lor, 1) := by decide +kernel
theorem dX2_packed_36 : decode cX2_packed 36 = .ok (.lstore_n 1, 1) := by decide +kernel
theorem dX2_packed_37 : decode cX2_packed 37 = .ok (.lload_n 1, 1) := by decide +kernel
theorem dX2_packed_38 : decode cX2_packed 38 = .ok (.iconst 2, 1) := by decide +kernel
theorem dX2_packed_39 : decode cX2_packed 39 = .ok (.lshl, 1) := by decide +kernel
theorem dX2_packed_40 : decode cX2_packed 40 = .ok (.aload_n 0, 1) := by decide +kernel
theorem dX2_packed_41 : decode cX2_packed 41 = .ok (.getfield 32, 3) := by decide +kernel
theorem dX2_packed_44 : decode cX2_packed 44 = .ok (.i2l, 1) := by decide +kernel
theorem dX2_packed_45 : decode cX2_packed 45 = .ok (.lor, 1) := by decide +kernel
theorem dX2_packed_46 : decode cX2_packed 46 = .ok (.lstore_n 1, 1) := by decide +kernel
theorem dX2_packed_47 : decode cX2_packed 47 = .ok (.lload_n 1, 1) := by decide +kernel
theorem dX2_packed_48 : decode cX2_packed 48 = .ok (.iconst 4, 1) := by decide +kernel
theorem dX2_packed_49 : decode cX2_packed 49 = .ok (.lshl, 1) := by decide +kernel
theorem dX2_packed_50 : decode cX2_packed 50 = .ok (.aload_n 0, 1) := by decide +kernel
theorem dX2_packed_51 : decode cX2_packed 51 = .ok (.getfield 29, 3) := by decide +kernel
theorem dX2_packed_54 : decode cX2_packed 54 = .ok (.i2l, 1) := by decide +kernel
theorem dX2_packed_55 : decode cX2_packed 55 = .ok (.lor, 1) := by decide +kernel
theorem dX2_packed_56 : decode cX2_packed 56 = .ok (.lstore_n 1, 1) := by decide +kernel
theorem dX2_packed_57 : decode cX2_packed 57 = .ok (.lload_n 1, 1) := by decide +kernel
theorem dX2_packed_58 : decode cX2_packed 58 = .ok (.iconst 4, 1) := by decide +kernel
theorem dX2_packed_59 : decode cX2_packed 59 = .ok (.lshl, 1) := by decide +kernel
theorem dX2_packed_60 : decode cX2_packed 60 = .ok (.aload_n 0, 1) := by decide +kernel
theorem dX2_packed_61 : decode cX2_packed 61 = .ok (.getfield 26, 3) := by decide +kernel
theorem dX2_packed_64 : decode cX2_packed 64 = .ok (.i2l, 1) := by decide +kernel
theorem dX2_packed_65 : decode cX2_packed 65 = .ok (.lor, 1) := by decide +kernel
theorem dX2_packed_66 : decode cX2_packed 66 = .ok (.lstore_n 1, 1) := by decide +kernel
theorem dX2_packed_67 : decode cX2_packed 67 = .ok (.lload_n 1, 1) := by decide +kernel
theorem dX2_packed_68 : decode cX2_packed 68 = .ok (.iconst 5, 1) := by decide +kernel
theorem dX2_packed_69 : decode cX2_packed 69 = .ok (.lshl, 1) := by decide +kernel
theorem dX2_packed_70 : decode cX2_packed 70 = .ok (.aload_n 0, 1) := by decide +kernel
theorem dX2_packed_71 : decode cX2_packed 71 = .ok (.getfield 23, 3) := by decide +kernel
theorem dX2_packed_74 : decode cX2_packed 74 = .ok (.i2l, 1) := by decide +kernel
theorem dX2_packed_75 : decode cX2_packed 75 = .ok (.lor, 1) := by decide +kernel
theorem dX2_packed_76 : decode cX2_packed 76 = .ok (.lstore_n 1, 1) := by decide +kernel
theorem dX2_packed_77 : decode cX2_packed 77 = .ok (.lload_n 1, 1) := by decide +kernel
theorem dX2_packed_78 : decode cX2_packed 78 = .ok (.iconst 4, 1) := by decide +kernel
theorem dX2_packed_79 : decode cX2_packed 79 = .ok (.lshl, 1) := by decide +kernel
theorem dX2_packed_80 : decode cX2_packed 80 = .ok (.aload_n 0, 1) := by decide +kernel
theorem dX2_packed_81 : decode cX2_packed 81 = .ok (.getfield 19, 3) := by decide +kernel
theorem dX2_packed_84 : decode cX2_packed 84 = .ok (.i2l, 1) := by decide +kernel
theorem dX2_packed_85 : decode cX2_packed 85 = .ok (.lor, 1) := by decide +kernel
theorem dX2_packed_86 : decode cX2_packed 86 = .ok (.lreturn, 1) := by decide +kernel
theorem dX2_unpack_0 : decode cX2_unpack 0 = .ok (.lload_n 1, 1) := by decide +kernel
theorem dX2_unpack_1 : decode cX2_unpack 1 = .ok (.lstore_n 3, 1) := by decide +kernel
theorem dX2_unpack_2 : decode cX2_unpack 2 = .ok (.aload_n 0, 1) := by decide +kernel
theorem dX2_unpack_3 : decode cX2_unpack 3 = .ok (.lload_n 3, 1) := by decide +kernel
theorem dX2_unpack_4 : decode cX2_unpack 4 = .ok (.iconst 4, 1) := by decide +kernel
theorem dX2_unpack_5 : decode cX2_unpack 5 = .ok (.invokestatic 122, 3) := by decide +kernel
theorem dX2_unpack_8 : decode cX2_unpack 8 = .ok (.putfield 19, 3) := by decide +kernel
theorem dX2_unpack_11 : decode cX2_unpack 11 = .ok (.lload_n 3, 1) := by decide +kernel
theorem dX2_unpack_12 : decode cX2_unpack 12 = .ok (.iconst 4, 1) := by decide +kernel
theorem dX2_unpack_13 : decode cX2_unpack 13 = .ok (.lushr, 1) := by decide +kernel
theorem dX2_unpack_14 : decode cX2_unpack 14 = .ok (.lstore_n 3, 1) := by decide +kernel
theorem dX2_unpack_15 : decode cX2_unpack 15 = .ok (.aload_n 0, 1) := by decide +kernel
theorem dX2_unpack_16 : decode cX2_unpack 16 = .ok (.lload_n 3, 1) := by decide +kernel
theorem dX2_unpack_17 : decode cX2_unpack 17 = .ok (.iconst 5, 1) := by decide +kernel
theorem dX2_unpack_18 : decode cX2_unpack 18 = .ok (.invokestatic 122, 3) := by decide +kernel
theorem dX2_unpack_21 : decode cX2_unpack 21 = .ok (.putfield 23, 3) := by decide +kernel
theorem dX2_unpack_24 : decode cX2_unpack 24 = .ok (.lload_n 3, 1) := by decide +kernel
theorem dX2_unpack_25 : decode cX2_unpack 25 = .ok (.iconst 5, 1) := by decide +kernel
theorem dX2_unpack_26 : decode cX2_unpack 26 = .ok (.lushr, 1) := by decide +kernel
theorem dX2_unpack_27 : decode cX2_unpack 27 = .ok (.lstore_n 3, 1) := by decide +kernel
theorem dX2_unpack_28 : decode cX2_unpack 28 = .ok (.aload_n 0, 1) := by decide +kernel
theorem dX2_unpack_29 : decode cX2_unpack 29 = .ok (.lload_n 3, 1) := by decide +kernel
theorem dX2_unpack_30 : decode cX2_unpack 30 = .ok (.iconst 4, 1) := by decide +kernel
theorem dX2_unpack_31 : decode cX2_unpack 31 = .ok (.invokestatic 122, 3) := by decide +kernel
theorem dX2_unpack_34 : decode cX2_unpack 34 = .ok (.putfield 26, 3) := by decide +kernel
theorem dX2_unpack_37 : decode cX2_unpack 37 = .ok (.lload_n 3, 1) := by decide +kernel
theorem dX2_unpack_38 : decode cX2_unpack 38 = .ok (.iconst 4, 1) := by decide +kernel
theorem dX2_unpack_39 : decode cX2_unpack 39 = .ok (.lushr, 1) := by decide +kernel
theorem dX2_unpack_40 : decode cX2_unpack 40 = .ok (.lstore_n 3, 1) := by decide +kernel
theorem dX2_unpack_41 : decode cX2_unpack 41 = .ok (.aload_n 0, 1) := by decide +kernel
theorem dX2_unpack_42 : decode cX2_unpack 42 = .ok (.lload_n 3, 1) := by decide +kernel
theorem dX2_unpack_43 : decode cX2_unpack 43 = .ok (.iconst 4, 1) := by decide +kernel
theorem dX2_unpack_44 : decode cX2_unpack 44 = .ok (.invokestatic 122, 3) := by decide +kernel
theorem dX2_unpack_47 : decode cX2_unpack 47 = .ok (.putfield 29, 3) := by decide +kernel
theorem dX2_unpack_50 : decode cX2_unpack 50 = .ok (.lload_n 3, 1) := by decide +kernel
theorem dX2_unpack_51 : decode cX2_unpack 51 = .ok (.iconst 4, 1) := by decide +kernel
theorem dX2_unpack_52 : decode cX2_unpack 52 = .ok (.lushr, 1) := by decide +kernel
theorem dX2_unpack_53 : decode cX2_unpack 53 = .ok (.lstore_n 3, 1) := by decide +kernel
theorem dX2_unpack_54 : decode cX2_unpack 54 = .ok (.aload_n 0, 1) := by decide +kernel
theorem dX2_unpack_55 : decode cX2_unpack 55 = .ok (.lload_n 3, 1) := by decide +kernel
theorem dX2_unpack_56 : decode cX2_unpack 56 = .ok (.iconst 2, 1) := by decide +kernel
theorem dX2_unpack_57 : decode cX2_unpack 57 = .ok (.invokestatic 122, 3) := by decide +kernel
theorem dX2_unpack_60 : decode cX2_unpack 60 = .ok (.putfield 32, 3) := by decide +kernel
theorem dX2_unpack_63 : decode cX2_unpack 63 = .ok (.lload_n 3, 1) := by decide +kernel
theorem dX2_unpack_64 : decode cX2_unpack 64 = .ok (.iconst 2, 1) := by decide +kernel
theorem dX2_unpack_65 : decode cX2_unpack 65 = .ok (.lushr, 1) := by decide +kernel
theorem dX2_unpack_66 : decode cX2_unpack 66 = .ok (.lstore_n 3, 1) := by decide +kernel
theorem dX2_unpack_67 : decode cX2_unpack 67 = .ok (.aload_n 0, 1) := by decide +kernel
theorem dX2_unpack_68 : decode cX2_unpack 68 = .ok (.lload_n 3, 1) := by decide +kernel
theorem dX2_unpack_69 : decode cX2_unpack 69 = .ok (.bipush 6, 2) := by decide +kernel
theorem dX2_unpack_71 : decode cX2_unpack 71 = .ok (.invokestatic 122, 3) := by decide +kernel
theorem dX2_unpack_74 : decode cX2_unpack 74 = .ok (.putfield 35, 3) := by decide +kernel
theorem dX2_unpack_77 : decode cX2_unpack 77 = .ok (.lload_n 3, 1) := by decide +kernel
theorem dX2_unpack_78 : decode cX2_unpack 78 = .ok (.bipush 6, 2) := by decide +kernel
theorem dX2_unpack_80 : decode cX2_unpack 80 = .ok (.lushr, 1) := by decide +kernel
theorem dX2_unpack_81 : decode cX2_unpack 81 = .ok (.lstore_n 3, 1) := by decide +kernel
theorem dX2_unpack_82 : decode cX2_unpack 82 = .ok (.iconst 0, 1) := by decide +kernel
theorem dX2_unpack_83 : decode cX2_unpack 83 = .ok (.istore 5, 2) := by decide +kernel
theorem dX2_unpack_85 : decode cX2_unpack 85 = .ok (.iload 5, 2) := by decide +kernel
theorem dX2_unpack_87 : decode cX2_unpack 87 = .ok (.bipush 6, 2) := by decide +kernel
theorem dX2_unpack_89 : decode cX2_unpack 89 = .ok (.if_icmp .ge 25, 3) := by decide +kernel
theorem dX2_unpack_92 : decode cX2_unpack 92 = .ok (.aload_n 0, 1) := by decide +kernel
theorem dX2_unpack_93 : decode cX2_unpack 93 = .ok (.getfield 11, 3) := by decide +kernel
theorem dX2_unpack_96 : decode cX2_unpack 96 = .ok (.iload 5, 2) := by decide +kernel
theorem dX2_unpack_98 : decode cX2_unpack 98 = .ok (.lload_n 3, 1) := by decide +kernel
theorem dX2_unpack_99 : decode cX2_unpack 99 = .ok (.iconst 5, 1) := by decide +kernel
theorem dX2_unpack_100 : decode cX2_unpack 100 = .ok (.invokestatic 122, 3) := by decide +kernel
theorem dX2_unpack_103 : decode cX2_unpack 103 = .ok (.iastore, 1) := by decide +kernel
theorem dX2_unpack_104 : decode cX2_unpack 104 = .ok (.lload_n 3, 1) := by decide +kernel
theorem dX2_unpack_105 : decode cX2_unpack 105 = .ok (.iconst 5, 1) := by decide +kernel
theorem dX2_unpack_106 : decode cX2_unpack 106 = .ok (.lushr, 1) := by decide +kernel
theorem dX2_unpack_107 : decode cX2_unpack 107 = .ok (.lstore_n 3, 1) := by decide +kernel
theorem dX2_unpack_108 : decode cX2_unpack 108 = .ok (.iinc 5 1, 3) := by decide +kernel
theorem dX2_unpack_111 : decode cX2_unpack 111 = .ok (.goto (-26), 3) := by decide +kernel
theorem dX2_unpack_114 : decode cX2_unpack 114 = .ok (.return_, 1) := by decide +kernel
theorem dX2_waitsIn_0 : decode cX2_waitsIn 0 = .ok (.lload_n 0, 1) := by decide +kernel
theorem dX2_waitsIn_1 : decode cX2_waitsIn 1 = .ok (.bipush 19, 2) := by decide +kernel
theorem dX2_waitsIn_3 : decode cX2_waitsIn 3 = .ok (.iload_n 2, 1) := by decide +kernel
theorem dX2_waitsIn_4 : decode cX2_waitsIn 4 = .ok (.iadd, 1) := by decide +kernel
theorem dX2_waitsIn_5 : decode cX2_waitsIn 5 = .ok (.lushr, 1) := by decide +kernel
theorem dX2_waitsIn_6 : decode cX2_waitsIn 6 = .ok (.lconst 1, 1) := by decide +kernel
theorem dX2_waitsIn_7 : decode cX2_waitsIn 7 = .ok (.land, 1) := by decide +kernel
theorem dX2_waitsIn_8 : decode cX2_waitsIn 8 = .ok (.lconst 0, 1) := by decide +kernel
theorem dX2_waitsIn_9 : decode cX2_waitsIn 9 = .ok (.lcmp, 1) := by decide +kernel
theorem dX2_waitsIn_10 : decode cX2_waitsIn 10 = .ok (.ifCond .eq 7, 3) := by decide +kernel
theorem dX2_waitsIn_13 : decode cX2_waitsIn 13 = .ok (.iconst 1, 1) := by decide +kernel
theorem dX2_waitsIn_14 : decode cX2_waitsIn 14 = .ok (.goto 4, 3) := by decide +kernel
theorem dX2_waitsIn_17 : decode cX2_waitsIn 17 = .ok (.iconst 0, 1) := by decide +kernel
theorem dX2_waitsIn_18 : decode cX2_waitsIn 18 = .ok (.ireturn, 1) := by decide +kernel
theorem dX2_low_0 : decode cX2_low 0 = .ok (.lload_n 0, 1) := by decide +kernel
theorem dX2_low_1 : decode cX2_low 1 = .ok (.l2i, 1) := by decide +kernel
theorem dX2_low_2 : decode cX2_low 2 = .ok (.iconst 1, 1) := by decide +kernel
theorem dX2_low_3 : decode cX2_low 3 = .ok (.iload_n 2, 1) := by decide +kernel
theorem dX2_low_4 : decode cX2_low 4 = .ok (.ishl, 1) := by decide +kernel
theorem dX2_low_5 : decode cX2_low 5 = .ok (.iconst 1, 1) := by decide +kernel
theorem dX2_low_6 : decode cX2_low 6 = .ok (.isub, 1) := by decide +kernel
theorem dX2_low_7 : decode cX2_low 7 = .ok (.iand, 1) := by decide +kernel
theorem dX2_low_8 : decode cX2_low 8 = .ok (.ireturn, 1) := by decide +kernel
