theorem dX6_init_0 : decode cX6_init 0 = .ok (.aload_n 0, 1) := by decide +kernel
theorem dX6_init_1 : decode cX6_init 1 = .ok (.invokespecial 3, 3) := by decide +kernel
theorem dX6_init_4 : decode cX6_init 4 = .ok (.aload_n 0, 1) := by decide +kernel
theorem dX6_init_5 : decode cX6_init 5 = .ok (.new 9, 3) := by decide +kernel
theorem dX6_init_8 : decode cX6_init 8 = .ok (.dup, 1) := by decide +kernel
theorem dX6_init_9 : decode cX6_init 9 = .ok (.invokespecial 11, 3) := by decide +kernel
theorem dX6_init_12 : decode cX6_init 12 = .ok (.putfield 12, 3) := by decide +kernel
theorem dX6_init_15 : decode cX6_init 15 = .ok (.aload_n 0, 1) := by decide +kernel
theorem dX6_init_16 : decode cX6_init 16 = .ok (.new 16, 3) := by decide +kernel
theorem dX6_init_19 : decode cX6_init 19 = .ok (.dup, 1) := by decide +kernel
theorem dX6_init_20 : decode cX6_init 20 = .ok (.invokespecial 18, 3) := by decide +kernel
theorem dX6_init_23 : decode cX6_init 23 = .ok (.putfield 19, 3) := by decide +kernel
theorem dX6_init_26 : decode cX6_init 26 = .ok (.aload_n 0, 1) := by decide +kernel
theorem dX6_init_27 : decode cX6_init 27 = .ok (.new 23, 3) := by decide +kernel
theorem dX6_init_30 : decode cX6_init 30 = .ok (.dup, 1) := by decide +kernel
theorem dX6_init_31 : decode cX6_init 31 = .ok (.invokespecial 25, 3) := by decide +kernel
theorem dX6_init_34 : decode cX6_init 34 = .ok (.putfield 26, 3) := by decide +kernel
theorem dX6_init_37 : decode cX6_init 37 = .ok (.aload_n 0, 1) := by decide +kernel
theorem dX6_init_38 : decode cX6_init 38 = .ok (.new 30, 3) := by decide +kernel
theorem dX6_init_41 : decode cX6_init 41 = .ok (.dup, 1) := by decide +kernel
theorem dX6_init_42 : decode cX6_init 42 = .ok (.aload_n 0, 1) := by decide +kernel
theorem dX6_init_43 : decode cX6_init 43 = .ok (.getfield 12, 3) := by decide +kernel
theorem dX6_init_46 : decode cX6_init 46 = .ok (.invokespecial 32, 3) := by decide +kernel
theorem dX6_init_49 : decode cX6_init 49 = .ok (.putfield 35, 3) := by decide +kernel
theorem dX6_init_52 : decode cX6_init 52 = .ok (.aload_n 0, 1) := by decide +kernel
theorem dX6_init_53 : decode cX6_init 53 = .ok (.new 30, 3) := by decide +kernel
theorem dX6_init_56 : decode cX6_init 56 = .ok (.dup, 1) := by decide +kernel
theorem dX6_init_57 : decode cX6_init 57 = .ok (.aload_n 0, 1) := by decide +kernel
theorem dX6_init_58 : decode cX6_init 58 = .ok (.getfield 12, 3) := by decide +kernel
theorem dX6_init_61 : decode cX6_init 61 = .ok (.invokespecial 32, 3) := by decide +kernel
theorem dX6_init_64 : decode cX6_init 64 = .ok (.putfield 39, 3) := by decide +kernel
theorem dX6_init_67 : decode cX6_init 67 = .ok (.aload_n 0, 1) := by decide +kernel
theorem dX6_init_68 : decode cX6_init 68 = .ok (.new 42, 3) := by decide +kernel
theorem dX6_init_71 : decode cX6_init 71 = .ok (.dup, 1) := by decide +kernel
theorem dX6_init_72 : decode cX6_init 72 = .ok (.aload_n 0, 1) := by decide +kernel
theorem dX6_init_73 : decode cX6_init 73 = .ok (.getfield 12, 3) := by decide +kernel
theorem dX6_init_76 : decode cX6_init 76 = .ok (.invokespecial 44, 3) := by decide +kernel
theorem dX6_init_79 : decode cX6_init 79 = .ok (.putfield 45, 3) := by decide +kernel
theorem dX6_init_82 : decode cX6_init 82 = .ok (.aload_n 0, 1) := by decide +kernel
theorem dX6_init_83 : decode cX6_init 83 = .ok (.iconst 1, 1) := by decide +kernel
theorem dX6_init_84 : decode cX6_init 84 = .ok (.invokevirtual 49, 3) := by decide +kernel
theorem dX6_init_87 : decode cX6_init 87 = .ok (.return_, 1) := by decide +kernel
theorem dX6_begin_0 : decode cX6_begin 0 = .ok (.iload_n 1, 1) := by decide +kernel
theorem dX6_begin_1 : decode cX6_begin 1 = .ok (.ifCond .ge 13, 3) := by decide +kernel
theorem dX6_begin_4 : decode cX6_begin 4 = .ok (.new 53, 3) := by decide +kernel
theorem dX6_begin_7 : decode cX6_begin 7 = .ok (.dup, 1) := by decide +kernel
theorem dX6_begin_8 : decode cX6_begin 8 = .ok (.ldc 55, 2) := by decide +kernel
theorem dX6_begin_10 : decode cX6_begin 10 = .ok (.invokespecial 57, 3) := by decide +kernel
theorem dX6_begin_13 : decode cX6_begin 13 = .ok (.athrow, 1) := by decide +kernel
theorem dX6_begin_14 : decode cX6_begin 14 = .ok (.iload_n 1, 1) := by decide +kernel
theorem dX6_begin_15 : decode cX6_begin 15 = .ok (.ifCond .eq 9, 3) := by decide +kernel
theorem dX6_begin_18 : decode cX6_begin 18 = .ok (.iload_n 1, 1) := by decide +kernel
theorem dX6_begin_19 : decode cX6_begin 19 = .ok (.bipush 6, 2) := by decide +kernel
theorem dX6_begin_21 : decode cX6_begin 21 = .ok (.if_icmp .le 13, 3) := by decide +kernel
theorem dX6_begin_24 : decode cX6_begin 24 = .ok (.new 60, 3) := by decide +kernel
theorem dX6_begin_27 : decode cX6_begin 27 = .ok (.dup, 1) := by decide +kernel
theorem dX6_begin_28 : decode cX6_begin 28 = .ok (.ldc 62, 2) := by decide +kernel
theorem dX6_begin_30 : decode cX6_begin 30 = .ok (.invokespecial 64, 3) := by decide +kernel
theorem dX6_begin_33 : decode cX6_begin 33 = .ok (.athrow, 1) := by decide +kernel
theorem dX6_begin_34 : decode cX6_begin 34 = .ok (.aload_n 0, 1) := by decide +kernel
theorem dX6_begin_35 : decode cX6_begin 35 = .ok (.iload_n 1, 1) := by decide +kernel
theorem dX6_begin_36 : decode cX6_begin 36 = .ok (.invokevirtual 49, 3) := by decide +kernel
theorem dX6_begin_39 : decode cX6_begin 39 = .ok (.return_, 1) := by decide +kernel
theorem dX6_clash_0 : decode cX6_clash 0 = .ok (.aload_n 0, 1) := by decide +kernel
theorem dX6_clash_1 : decode cX6_clash 1 = .ok (.getfield 12, 3) := by decide +kernel
theorem dX6_clash_4 : decode cX6_clash 4 = .ok (.iload_n 1, 1) := by decide +kernel
theorem dX6_clash_5 : decode cX6_clash 5 = .ok (.invokevirtual 65, 3) := by decide +kernel
theorem dX6_clash_8 : decode cX6_clash 8 = .ok (.ifCond .ne 13, 3) := by decide +kernel
theorem dX6_clash_11 : decode cX6_clash 11 = .ok (.new 69, 3) := by decide +kernel
theorem dX6_clash_14 : decode cX6_clash 14 = .ok (.dup, 1) := by decide +kernel
theorem dX6_clash_15 : decode cX6_clash 15 = .ok (.ldc 71, 2) := by decide +kernel
theorem dX6_clash_17 : decode cX6_clash 17 = .ok (.invokespecial 73, 3) := by decide +kernel
theorem dX6_clash_20 : decode cX6_clash 20 = .ok (.athrow, 1) := by decide +kernel
theorem dX6_clash_21 : decode cX6_clash 21 = .ok (.aload_n 0, 1) := by decide +kernel
theorem dX6_clash_22 : decode cX6_clash 22 = .ok (.getfield 12, 3) := by decide +kernel
theorem dX6_clash_25 : decode cX6_clash 25 = .ok (.iload_n 2, 1) := by decide +kernel
theorem dX6_clash_26 : decode cX6_clash 26 = .ok (.invokevirtual 65, 3) := by decide +kernel
theorem dX6_clash_29 : decode cX6_clash 29 = .ok (.ifCond .ne 13, 3) := by decide +kernel
theorem dX6_clash_32 : decode cX6_clash 32 = .ok (.new 69, 3) := by decide +kernel
theorem dX6_clash_35 : decode cX6_clash 35 = .ok (.dup, 1) := by decide +kernel
theorem dX6_clash_36 : decode cX6_clash 36 = .ok (.ldc 74, 2) := by decide +kernel
theorem dX6_clash_38 : decode cX6_clash 38 = .ok (.invokespecial 73, 3) := by decide +kernel
theorem dX6_clash_41 : decode cX6_clash 41 = .ok (.athrow, 1) := by decide +kernel
theorem dX6_clash_42 : decode cX6_clash 42 = .ok (.iload_n 1, 1) := by decide +kernel
theorem dX6_clash_43 : decode cX6_clash 43 = .ok (.iload_n 2, 1) := by decide +kernel
theorem dX6_clash_44 : decode cX6_clash 44 = .ok (.if_icmp .eq 13, 3) := by decide +kernel
theorem dX6_clash_47 : decode cX6_clash 47 = .ok (.iload_n 3, 1) := by decide +kernel
theorem dX6_clash_48 : decode cX6_clash 48 = .ok (.ifCond .lt 9, 3) := by decide +kernel
theorem dX6_clash_51 : decode cX6_clash 51 = .ok (.iload_n 3, 1) := by decide +kernel
theorem dX6_clash_52 : decode cX6_clash 52 = .ok (.bipush 15, 2) := by decide +kernel
theorem dX6_clash_54 : decode cX6_clash 54 = .ok (.if_icmp .le 5, 3) := by decide +kernel
theorem dX6_clash_57 : decode cX6_clash 57 = .ok (.iconst 0, 1) := by decide +kernel
theorem dX6_clash_58 : decode cX6_clash 58 = .ok (.ireturn, 1) := by decide +kernel
theorem dX6_clash_59 : decode cX6_clash 59 = .ok (.aload_n 0, 1) := by decide +kernel
theorem dX6_clash_60 : decode cX6_clash 60 = .ok (.getfield 12, 3) := by decide +kernel
theorem dX6_clash_63 : decode cX6_clash 63 = .ok (.iload_n 1, 1) := by decide +kernel
theorem dX6_clash_64 : decode cX6_clash 64 = .ok (.iload_n 2, 1) := by decide +kernel
theorem dX6_clash_65 : decode cX6_clash 65 = .ok (.iload_n 3, 1) := by decide +kernel
theorem dX6_clash_66 : decode cX6_clash 66 = .ok (.invokevirtual 76, 3) := by decide +kernel
theorem dX6_clash_69 : decode cX6_clash 69 = .ok (.aload_n 0, 1) := by decide +kernel
theorem dX6_clash_70 : decode cX6_clash 70 = .ok (.invokevirtual 80, 3) := by decide +kernel
theorem dX6_clash_73 : decode cX6_clash 73 = .ok (.iconst 1, 1) := by decide +kernel
theorem dX6_clash_74 : decode cX6_clash 74 = .ok (.ireturn, 1) := by decide +kernel
theorem dX6_least_0 : decode cX6_least 0 = .ok (.aload_n 0, 1) := by decide +kernel
theorem dX6_least_1 : decode cX6_least 1 = .ok (.getfield 12, 3) := by decide +kernel
theorem dX6_least_4 : decode cX6_least 4 = .ok (.iload_n 1, 1) := by decide +kernel
theorem dX6_least_5 : decode cX6_least 5 = .ok (.invokevirtual 65, 3) := by decide +kernel
theorem dX6_least_8 : decode cX6_least 8 = .ok (.ifCond .ne 13, 3) := by decide +kernel
theorem dX6_least_11 : decode cX6_least 11 = .ok (.new 69, 3) := by decide +kernel
theorem dX6_least_14 : decode cX6_least 14 = .ok (.dup, 1) := by decide +kernel
theorem dX6_least_15 : decode cX6_least 15 = .ok (.ldc 83, 2) := by decide +kernel
theorem dX6_least_17 : decode cX6_least 17 = .ok (.invokespecial 73, 3) := by decide +kernel
theorem dX6_least_20 : decode cX6_least 20 = .ok (.athrow, 1) := by decide +kernel
theorem dX6_least_21 : decode cX6_least 21 = .ok (.iload_n 2, 1) := by decide +kernel
theorem dX6_least_22 : decode cX6_least 22 = .ok (.iconst 1, 1) := by decide +kernel
theorem dX6_least_23 : decode cX6_least 23 = .ok (.if_icmp .lt 9, 3) := by decide +kernel
theorem dX6_least_26 : decode cX6_least 26 = .ok (.iload_n 2, 1) := by decide +kernel
theorem dX6_least_27 : decode cX6_least 27 = .ok (.bipush 15, 2) := by decide +kernel
theorem dX6_least_29 : decode cX6_least 29 = .ok (.if_icmp .le 5, 3) := by decide +kernel
theorem dX6_least_32 : decode cX6_least 32 = .ok (.iconst 0, 1) := by decide +kernel
theorem dX6_least_33 : decode cX6_least 33 = .ok (.ireturn, 1) := by decide +kernel
theorem dX6_least_34 : decode cX6_least 34 = .ok (.aload_n 0, 1) := by decide +kernel
theorem dX6_least_35 : decode cX6_least 35 = .ok (.getfield 12, 3) := by decide +kernel
theorem dX6_least_38 : decode cX6_least 38 = .ok (.getfield 85, 3) := by decide +kernel
theorem dX6_least_41 : decode cX6_least 41 = .ok (.iload_n 1, 1) := by decide +kernel
theorem dX6_least_42 : decode cX6_least 42 = .ok (.iload_n 2, 1) := by decide +kernel
theorem dX6_least_43 : decode cX6_least 43 = .ok (.iastore, 1) := by decide +kernel
theorem dX6_least_44 : decode cX6_least 44 = .ok (.aload_n 0, 1) := by decide +kernel
theorem dX6_least_45 : decode cX6_least 45 = .ok (.invokevirtual 80, 3) := by decide +kernel
theorem dX6_least_48 : decode cX6_least 48 = .ok (.iconst 1, 1) := by decide +kernel
theorem dX6_least_49 : decode cX6_least 49 = .ok (.ireturn, 1) := by decide +kernel
theorem dX6_most_0 : decode cX6_most 0 = .ok (.aload_n 0, 1) := by decide +kernel
theorem dX6_most_1 : decode cX6_most 1 = .ok (.getfield 12, 3) := by decide +kernel
theorem dX6_most_4 : decode cX6_most 4 = .ok (.iload_n 1, 1) := by decide +kernel
theorem dX6_most_5 : decode cX6_most 5 = .ok (.invokevirtual 65, 3) := by decide +kernel
theorem dX6_most_8 : decode cX6_most 8 = .ok (.ifCond .ne 13, 3) := by decide +kernel
theorem dX6_most_11 : decode cX6_most 11 = .ok (.new 69, 3) := by decide +kernel
theorem dX6_most_14 : decode cX6_most 14 = .ok (.dup, 1) := by decide +kernel
theorem dX6_most_15 : decode cX6_most 15 = .ok (.ldc 83, 2) := by decide +kernel
theorem dX6_most_17 : decode cX6_most 17 = .ok (.invokespecial 73, 3) := by decide +kernel
theorem dX6_most_20 : decode cX6_most 20 = .ok (.athrow, 1) := by decide +kernel
theorem dX6_most_21 : decode cX6_most 21 = .ok (.iload_n 2, 1) := by decide +kernel
theorem dX6_most_22 : decode cX6_most 22 = .ok (.iconst 1, 1) := by decide +kernel
theorem dX6_most_23 : decode cX6_most 23 = .ok (.if_icmp .lt 9, 3) := by decide +kernel
theorem dX6_most_26 : decode cX6_most 26 = .ok (.iload_n 2, 1) := by decide +kernel
theorem dX6_most_27 : decode cX6_most 27 = .ok (.bipush 31, 2) := by decide +kernel
theorem dX6_most_29 : decode cX6_most 29 = .ok (.if_icmp .le 5, 3) := by decide +kernel
theorem dX6_most_32 : decode cX6_most 32 = .ok (.iconst 0, 1) := by decide +kernel
theorem dX6_most_33 : decode cX6_most 33 = .ok (.ireturn, 1) := by decide +kernel
theorem dX6_most_34 : decode cX6_most 34 = .ok (.aload_n 0, 1) := by decide +kernel
theorem dX6_most_35 : decode cX6_most 35 = .ok (.getfield 12, 3) := by decide +kernel
theorem dX6_most_38 : decode cX6_most 38 = .ok (.getfield 89, 3) := by decide +kernel
theorem dX6_most_41 : decode cX6_most 41 = .ok (.iload_n 1, 1) := by decide +kernel
theorem dX6_most_42 : decode cX6_most 42 = .ok (.iload_n 2, 1) := by decide +kernel
theorem dX6_most_43 : decode cX6_most 43 = .ok (.iastore, 1) := by decide +kernel
theorem dX6_most_44 : decode cX6_most 44 = .ok (.aload_n 0, 1) := by decide +kernel
theorem dX6_most_45 : decode cX6_most 45 = .ok (.invokevirtual 80, 3) := by decide +kernel
theorem dX6_most_48 : decode cX6_most 48 = .ok (.iconst 1, 1) := by decide +kernel
theorem dX6_most_49 : decode cX6_most 49 = .ok (.ireturn, 1) := by decide +kernel
theorem dX6_unit_0 : decode cX6_unit 0 = .ok (.aload_n 0, 1) := by decide +kernel
theorem dX6_unit_1 : decode cX6_unit 1 = .ok (.getfield 19, 3) := by decide +kernel
theorem dX6_unit_4 : decode cX6_unit 4 = .ok (.iload_n 1, 1) := by decide +kernel
theorem dX6_unit_5 : decode cX6_unit 5 = .ok (.invokevirtual 92, 3) := by decide +kernel
theorem dX6_unit_8 : decode cX6_unit 8 = .ok (.ireturn, 1) := by decide +kernel
theorem dX6_read_0 : decode cX6_read 0 = .ok (.aload_n 0, 1) := by decide +kernel
theorem dX6_read_1 : decode cX6_read 1 = .ok (.getfield 19, 3) := by decide +kernel
theorem dX6_read_4 : decode cX6_read 4 = .ok (.aload_n 0, 1) := by decide +kernel
theorem dX6_read_5 : decode cX6_read 5 = .ok (.getfield 12, 3) := by decide +kernel
theorem dX6_read_8 : decode cX6_read 8 = .ok (.getfield 95, 3) := by decide +kernel
theorem dX6_read_11 : decode cX6_read 11 = .ok (.invokevirtual 99, 3) := by decide +kernel
theorem dX6_read_14 : decode cX6_read 14 = .ok (.istore_n 1, 1) := by decide +kernel
theorem dX6_read_15 : decode cX6_read 15 = .ok (.iload_n 1, 1) := by decide +kernel
theorem dX6_read_16 : decode cX6_read 16 = .ok (.ifCond .le 35, 3) := by decide +kernel
theorem dX6_read_19 : decode cX6_read 19 = .ok (.aload_n 0, 1) := by decide +kernel
theorem dX6_read_20 : decode cX6_read 20 = .ok (.getfield 12, 3) := by decide +kernel
theorem dX6_read_23 : decode cX6_read 23 = .ok (.aload_n 0, 1) := by decide +kernel
theorem dX6_read_24 : decode cX6_read 24 = .ok (.getfield 19, 3) := by decide +kernel
theorem dX6_read_27 : decode cX6_read 27 = .ok (.iload_n 1, 1) := by decide +kernel
theorem dX6_read_28 : decode cX6_read 28 = .ok (.invokevirtual 103, 3) := by decide +kernel
theorem dX6_read_31 : decode cX6_read 31 = .ok (.ifCond .eq 10, 3) := by decide +kernel
theorem dX6_read_34 : decode cX6_read 34 = .ok (.aload_n 0, 1) := by decide +kernel
theorem dX6_read_35 : decode cX6_read 35 = .ok (.invokevirtual 80, 3) := by decide +kernel
theorem dX6_read_38 : decode cX6_read 38 = .ok (.goto 13, 3) := by decide +kernel
theorem dX6_read_41 : decode cX6_read 41 = .ok (.iconst (-1), 1) := by decide +kernel
theorem dX6_read_42 : decode cX6_read 42 = .ok (.aload_n 0, 1) := by decide +kernel
theorem dX6_read_43 : decode cX6_read 43 = .ok (.getfield 19, 3) := by decide +kernel
theorem dX6_read_46 : decode cX6_read 46 = .ok (.getfield 107, 3) := by decide +kernel
theorem dX6_read_49 : decode cX6_read 49 = .ok (.isub, 1) := by decide +kernel
theorem dX6_read_50 : decode cX6_read 50 = .ok (.istore_n 1, 1) := by decide +kernel
theorem dX6_read_51 : decode cX6_read 51 = .ok (.aload_n 0, 1) := by decide +kernel
theorem dX6_read_52 : decode cX6_read 52 = .ok (.getfield 19, 3) := by decide +kernel
theorem dX6_read_55 : decode cX6_read 55 = .ok (.iconst 0, 1) := by decide +kernel
theorem dX6_read_56 : decode cX6_read 56 = .ok (.putfield 107, 3) := by decide +kernel
theorem dX6_read_59 : decode cX6_read 59 = .ok (.iload_n 1, 1) := by decide +kernel
theorem dX6_read_60 : decode cX6_read 60 = .ok (.ireturn, 1) := by decide +kernel
theorem dX6_program_0 : decode cX6_program 0 = .ok (.aload_n 0, 1) := by decide +kernel
theorem dX6_program_1 : decode cX6_program 1 = .ok (.getfield 12, 3) := by decide +kernel
theorem dX6_program_4 : decode cX6_program 4 = .ok (.getfield 110, 3) := by decide +kernel
theorem dX6_program_7 : decode cX6_program 7 = .ok (.ireturn, 1) := by decide +kernel
theorem dX6_call_0 : decode cX6_call 0 = .ok (.aload_n 0, 1) := by decide +kernel
theorem dX6_call_1 : decode cX6_call 1 = .ok (.getfield 12, 3) := by decide +kernel
theorem dX6_call_4 : decode cX6_call 4 = .ok (.iload_n 1, 1) := by decide +kernel
theorem dX6_call_5 : decode cX6_call 5 = .ok (.invokevirtual 65, 3) := by decide +kernel
theorem dX6_call_8 : decode cX6_call 8 = .ok (.ifCond .eq 18, 3) := by decide +kernel
theorem dX6_call_11 : decode cX6_call 11 = .ok (.aload_n 0, 1) := by decide +kernel
theorem dX6_call_12 : decode cX6_call 12 = .ok (.iconst 1, 1) := by decide +kernel
theorem dX6_call_13 : decode cX6_call 13 = .ok (.iload_n 1, 1) := by decide +kernel
theorem dX6_call_14 : decode cX6_call 14 = .ok (.iadd, 1) := by decide +kernel
theorem dX6_call_15 : decode cX6_call 15 = .ok (.iload_n 2, 1) := by decide +kernel
theorem dX6_call_16 : decode cX6_call 16 = .ok (.invokevirtual 113, 3) := by decide +kernel
theorem dX6_call_19 : decode cX6_call 19 = .ok (.ifCond .eq 7, 3) := by decide +kernel
theorem dX6_call_22 : decode cX6_call 22 = .ok (.iconst 1, 1) := by decide +kernel
theorem dX6_call_23 : decode cX6_call 23 = .ok (.goto 4, 3) := by decide +kernel
theorem dX6_call_26 : decode cX6_call 26 = .ok (.iconst 0, 1) := by decide +kernel
theorem dX6_call_27 : decode cX6_call 27 = .ok (.ireturn, 1) := by decide +kernel
theorem dX6_plan_0 : decode cX6_plan 0 = .ok (.aload_n 0, 1) := by decide +kernel
theorem dX6_plan_1 : decode cX6_plan 1 = .ok (.getfield 12, 3) := by decide +kernel
theorem dX6_plan_4 : decode cX6_plan 4 = .ok (.iload_n 1, 1) := by decide +kernel
theorem dX6_plan_5 : decode cX6_plan 5 = .ok (.invokevirtual 117, 3) := by decide +kernel
theorem dX6_plan_8 : decode cX6_plan 8 = .ok (.ifCond .eq 26, 3) := by decide +kernel
theorem dX6_plan_11 : decode cX6_plan 11 = .ok (.aload_n 0, 1) := by decide +kernel
theorem dX6_plan_12 : decode cX6_plan 12 = .ok (.iconst 1, 1) := by decide +kernel
theorem dX6_plan_13 : decode cX6_plan 13 = .ok (.aload_n 0, 1) := by decide +kernel
theorem dX6_plan_14 : decode cX6_plan 14 = .ok (.getfield 12, 3) := by decide +kernel
theorem dX6_plan_17 : decode cX6_plan 17 = .ok (.getfield 95, 3) := by decide +kernel
theorem dX6_plan_20 : decode cX6_plan 20 = .ok (.iadd, 1) := by decide +kernel
theorem dX6_plan_21 : decode cX6_plan 21 = .ok (.iload_n 1, 1) := by decide +kernel
theorem dX6_plan_22 : decode cX6_plan 22 = .ok (.iadd, 1) := by decide +kernel
theorem dX6_plan_23 : decode cX6_plan 23 = .ok (.iload_n 2, 1) := by decide +kernel
theorem dX6_plan_24 : decode cX6_plan 24 = .ok (.invokevirtual 113, 3) := by decide +kernel
theorem dX6_plan_27 : decode cX6_plan 27 = .ok (.ifCond .eq 7, 3) := by decide +kernel
theorem dX6_plan_30 : decode cX6_plan 30 = .ok (.iconst 1, 1) := by decide +kernel
theorem dX6_plan_31 : decode cX6_plan 31 = .ok (.goto 4, 3) := by decide +kernel
theorem dX6_plan_34 : decode cX6_plan 34 = .ok (.iconst 0, 1) := by decide +kernel
theorem dX6_plan_35 : decode cX6_plan 35 = .ok (.ireturn, 1) := by decide +kernel
theorem dX6_second_0 : decode cX6_second 0 = .ok (.aload_n 0, 1) := by decide +kernel
theorem dX6_second_1 : decode cX6_second 1 = .ok (.getfield 12, 3) := by decide +kernel
theorem dX6_second_4 : decode cX6_second 4 = .ok (.getfield 110, 3) := by decide +kernel
theorem dX6_second_7 : decode cX6_second 7 = .ok (.ifCond .ne 5, 3) := by decide +kernel
theorem dX6_second_10 : decode cX6_second 10 = .ok (.iconst (-1), 1) := by decide +kernel
theorem dX6_second_11 : decode cX6_second 11 = .ok (.ireturn, 1) := by decide +kernel
theorem dX6_second_12 : decode cX6_second 12 = .ok (.aload_n 0, 1) := by decide +kernel
theorem dX6_second_13 : decode cX6_second 13 = .ok (.dup, 1) := by decide +kernel
theorem dX6_second_14 : decode cX6_second 14 = .ok (.getfield 120, 3) := by decide +kernel
theorem dX6_second_17 : decode cX6_second 17 = .ok (.iconst 1, 1) := by decide +kernel
theorem dX6_second_18 : decode cX6_second 18 = .ok (.iadd, 1) := by decide +kernel
theorem dX6_second_19 : decode cX6_second 19 = .ok (.putfield 120, 3) := by decide +kernel
theorem dX6_second_22 : decode cX6_second 22 = .ok (.aload_n 0, 1) := by decide +kernel
theorem dX6_second_23 : decode cX6_second 23 = .ok (.getfield 35, 3) := by decide +kernel
theorem dX6_second_26 : decode cX6_second 26 = .ok (.aload_n 0, 1) := by decide +kernel
theorem dX6_second_27 : decode cX6_second 27 = .ok (.getfield 26, 3) := by decide +kernel
theorem dX6_second_30 : decode cX6_second 30 = .ok (.aload_n 0, 1) := by decide +kernel
theorem dX6_second_31 : decode cX6_second 31 = .ok (.getfield 120, 3) := by decide +kernel
theorem dX6_second_34 : decode cX6_second 34 = .ok (.invokevirtual 123, 3) := by decide +kernel
theorem dX6_second_37 : decode cX6_second 37 = .ok (.invokevirtual 126, 3) := by decide +kernel
theorem dX6_second_40 : decode cX6_second 40 = .ok (.ireturn, 1) := by decide +kernel
theorem dX6_told_0 : decode cX6_told 0 = .ok (.aload_n 0, 1) := by decide +kernel
theorem dX6_told_1 : decode cX6_told 1 = .ok (.getfield 12, 3) := by decide +kernel
theorem dX6_told_4 : decode cX6_told 4 = .ok (.getfield 110, 3) := by decide +kernel
theorem dX6_told_7 : decode cX6_told 7 = .ok (.ifCond .ne 5, 3) := by decide +kernel
theorem dX6_told_10 : decode cX6_told 10 = .ok (.iconst (-1), 1) := by decide +kernel
theorem dX6_told_11 : decode cX6_told 11 = .ok (.ireturn, 1) := by decide +kernel
theorem dX6_told_12 : decode cX6_told 12 = .ok (.iload_n 1, 1) := by decide +kernel
theorem dX6_told_13 : decode cX6_told 13 = .ok (.ifCond .ne 8, 3) := by decide +kernel
theorem dX6_told_16 : decode cX6_told 16 = .ok (.aload_n 0, 1) := by decide +kernel
theorem dX6_told_17 : decode cX6_told 17 = .ok (.getfield 120, 3) := by decide +kernel
theorem dX6_told_20 : decode cX6_told 20 = .ok (.ireturn, 1) := by decide +kernel
theorem dX6_told_21 : decode cX6_told 21 = .ok (.iload_n 1, 1) := by decide +kernel
theorem dX6_told_22 : decode cX6_told 22 = .ok (.bipush 8, 2) := by decide +kernel
theorem dX6_told_24 : decode cX6_told 24 = .ok (.if_icmp .ne 18, 3) := by decide +kernel
theorem dX6_told_27 : decode cX6_told 27 = .ok (.aload_n 0, 1) := by decide +kernel
theorem dX6_told_28 : decode cX6_told 28 = .ok (.getfield 45, 3) := by decide +kernel
theorem dX6_told_31 : decode cX6_told 31 = .ok (.aload_n 0, 1) := by decide +kernel
theorem dX6_told_32 : decode cX6_told 32 = .ok (.getfield 35, 3) := by decide +kernel
theorem dX6_told_35 : decode cX6_told 35 = .ok (.invokevirtual 129, 3) := by decide +kernel
theorem dX6_told_38 : decode cX6_told 38 = .ok (.invokevirtual 133, 3) := by decide +kernel
theorem dX6_told_41 : decode cX6_told 41 = .ok (.ireturn, 1) := by decide +kernel
theorem dX6_told_42 : decode cX6_told 42 = .ok (.aload_n 0, 1) := by decide +kernel
theorem dX6_told_43 : decode cX6_told 43 = .ok (.getfield 35, 3) := by decide +kernel
theorem dX6_told_46 : decode cX6_told 46 = .ok (.iload_n 1, 1) := by decide +kernel
theorem dX6_told_47 : decode cX6_told 47 = .ok (.invokevirtual 137, 3) := by decide +kernel
theorem dX6_told_50 : decode cX6_told 50 = .ok (.ireturn, 1) := by decide +kernel
theorem dX6_shown_0 : decode cX6_shown 0 = .ok (.aload_n 0, 1) := by decide +kernel
theorem dX6_shown_1 : decode cX6_shown 1 = .ok (.getfield 12, 3) := by decide +kernel
theorem dX6_shown_4 : decode cX6_shown 4 = .ok (.getfield 110, 3) := by decide +kernel
theorem dX6_shown_7 : decode cX6_shown 7 = .ok (.ifCond .eq 14, 3) := by decide +kernel
theorem dX6_shown_10 : decode cX6_shown 10 = .ok (.aload_n 0, 1) := by decide +kernel
theorem dX6_shown_11 : decode cX6_shown 11 = .ok (.getfield 12, 3) := by decide +kernel
theorem dX6_shown_14 : decode cX6_shown 14 = .ok (.iload_n 1, 1) := by decide +kernel
theorem dX6_shown_15 : decode cX6_shown 15 = .ok (.invokevirtual 65, 3) := by decide +kernel
theorem dX6_shown_18 : decode cX6_shown 18 = .ok (.ifCond .ne 5, 3) := by decide +kernel
theorem dX6_shown_21 : decode cX6_shown 21 = .ok (.iconst (-1), 1) := by decide +kernel
theorem dX6_shown_22 : decode cX6_shown 22 = .ok (.ireturn, 1) := by decide +kernel
theorem dX6_shown_23 : decode cX6_shown 23 = .ok (.aload_n 0, 1) := by decide +kernel
theorem dX6_shown_24 : decode cX6_shown 24 = .ok (.getfield 35, 3) := by decide +kernel
theorem dX6_shown_27 : decode cX6_shown 27 = .ok (.invokevirtual 140, 3) := by decide +kernel
theorem dX6_shown_30 : decode cX6_shown 30 = .ok (.iload_n 1, 1) := by decide +kernel
theorem dX6_shown_31 : decode cX6_shown 31 = .ok (.ishr, 1) := by decide +kernel
theorem dX6_shown_32 : decode cX6_shown 32 = .ok (.iconst 1, 1) := by decide +kernel
theorem dX6_shown_33 : decode cX6_shown 33 = .ok (.iand, 1) := by decide +kernel
theorem dX6_shown_34 : decode cX6_shown 34 = .ok (.ireturn, 1) := by decide +kernel
theorem dX6_prove_0 : decode cX6_prove 0 = .ok (.aload_n 0, 1) := by decide +kernel
theorem dX6_prove_1 : decode cX6_prove 1 = .ok (.getfield 12, 3) := by decide +kernel
theorem dX6_prove_4 : decode cX6_prove 4 = .ok (.getfield 110, 3) := by decide +kernel
theorem dX6_prove_7 : decode cX6_prove 7 = .ok (.ifCond .eq 15, 3) := by decide +kernel
theorem dX6_prove_10 : decode cX6_prove 10 = .ok (.iload_n 1, 1) := by decide +kernel
theorem dX6_prove_11 : decode cX6_prove 11 = .ok (.iconst 1, 1) := by decide +kernel
theorem dX6_prove_12 : decode cX6_prove 12 = .ok (.if_icmp .lt 10, 3) := by decide +kernel
theorem dX6_prove_15 : decode cX6_prove 15 = .ok (.iload_n 1, 1) := by decide +kernel
theorem dX6_prove_16 : decode cX6_prove 16 = .ok (.sipush 400, 3) := by decide +kernel
theorem dX6_prove_19 : decode cX6_prove 19 = .ok (.if_icmp .le 12, 3) := by decide +kernel
theorem dX6_prove_22 : decode cX6_prove 22 = .ok (.aload_n 0, 1) := by decide +kernel
theorem dX6_prove_23 : decode cX6_prove 23 = .ok (.getfield 45, 3) := by decide +kernel
theorem dX6_prove_26 : decode cX6_prove 26 = .ok (.invokevirtual 144, 3) := by decide +kernel
theorem dX6_prove_29 : decode cX6_prove 29 = .ok (.iconst (-1), 1) := by decide +kernel
theorem dX6_prove_30 : decode cX6_prove 30 = .ok (.ireturn, 1) := by decide +kernel
theorem dX6_prove_31 : decode cX6_prove 31 = .ok (.aload_n 0, 1) := by decide +kernel
theorem dX6_prove_32 : decode cX6_prove 32 = .ok (.getfield 45, 3) := by decide +kernel
theorem dX6_prove_35 : decode cX6_prove 35 = .ok (.iload_n 1, 1) := by decide +kernel
theorem dX6_prove_36 : decode cX6_prove 36 = .ok (.invokevirtual 147, 3) := by decide +kernel
theorem dX6_prove_39 : decode cX6_prove 39 = .ok (.ireturn, 1) := by decide +kernel
theorem dX6_states_0 : decode cX6_states 0 = .ok (.aload_n 0, 1) := by decide +kernel
theorem dX6_states_1 : decode cX6_states 1 = .ok (.getfield 45, 3) := by decide +kernel
theorem dX6_states_4 : decode cX6_states 4 = .ok (.getfield 150, 3) := by decide +kernel
theorem dX6_states_7 : decode cX6_states 7 = .ok (.ireturn, 1) := by decide +kernel
theorem dX6_row_0 : decode cX6_row 0 = .ok (.aload_n 0, 1) := by decide +kernel
theorem dX6_row_1 : decode cX6_row 1 = .ok (.getfield 45, 3) := by decide +kernel
theorem dX6_row_4 : decode cX6_row 4 = .ok (.iload_n 1, 1) := by decide +kernel
theorem dX6_row_5 : decode cX6_row 5 = .ok (.iload_n 2, 1) := by decide +kernel
theorem dX6_row_6 : decode cX6_row 6 = .ok (.invokevirtual 153, 3) := by decide +kernel
theorem dX6_row_9 : decode cX6_row 9 = .ok (.ireturn, 1) := by decide +kernel
theorem dX6_longest_0 : decode cX6_longest 0 = .ok (.aload_n 0, 1) := by decide +kernel
theorem dX6_longest_1 : decode cX6_longest 1 = .ok (.getfield 45, 3) := by decide +kernel
theorem dX6_longest_4 : decode cX6_longest 4 = .ok (.getfield 157, 3) := by decide +kernel
theorem dX6_longest_7 : decode cX6_longest 7 = .ok (.iconst 1, 1) := by decide +kernel
theorem dX6_longest_8 : decode cX6_longest 8 = .ok (.if_icmp .ne 14, 3) := by decide +kernel
theorem dX6_longest_11 : decode cX6_longest 11 = .ok (.aload_n 0, 1) := by decide +kernel
theorem dX6_longest_12 : decode cX6_longest 12 = .ok (.getfield 12, 3) := by decide +kernel
theorem dX6_longest_15 : decode cX6_longest 15 = .ok (.iload_n 1, 1) := by decide +kernel
theorem dX6_longest_16 : decode cX6_longest 16 = .ok (.invokevirtual 65, 3) := by decide +kernel
theorem dX6_longest_19 : decode cX6_longest 19 = .ok (.ifCond .ne 6, 3) := by decide +kernel
theorem dX6_longest_22 : decode cX6_longest 22 = .ok (.bipush (-2), 2) := by decide +kernel
theorem dX6_longest_24 : decode cX6_longest 24 = .ok (.ireturn, 1) := by decide +kernel
theorem dX6_longest_25 : decode cX6_longest 25 = .ok (.aload_n 0, 1) := by decide +kernel
theorem dX6_longest_26 : decode cX6_longest 26 = .ok (.getfield 45, 3) := by decide +kernel
theorem dX6_longest_29 : decode cX6_longest 29 = .ok (.getfield 160, 3) := by decide +kernel
theorem dX6_longest_32 : decode cX6_longest 32 = .ok (.iload_n 1, 1) := by decide +kernel
theorem dX6_longest_33 : decode cX6_longest 33 = .ok (.iaload, 1) := by decide +kernel
theorem dX6_longest_34 : decode cX6_longest 34 = .ok (.ireturn, 1) := by decide +kernel
theorem dX6_ring_0 : decode cX6_ring 0 = .ok (.aload_n 0, 1) := by decide +kernel
theorem dX6_ring_1 : decode cX6_ring 1 = .ok (.getfield 45, 3) := by decide +kernel
theorem dX6_ring_4 : decode cX6_ring 4 = .ok (.getfield 157, 3) := by decide +kernel
theorem dX6_ring_7 : decode cX6_ring 7 = .ok (.iconst 1, 1) := by decide +kernel
theorem dX6_ring_8 : decode cX6_ring 8 = .ok (.if_icmp .ne 7, 3) := by decide +kernel
theorem dX6_ring_11 : decode cX6_ring 11 = .ok (.iload_n 1, 1) := by decide +kernel
theorem dX6_ring_12 : decode cX6_ring 12 = .ok (.ifCond .ge 5, 3) := by decide +kernel
theorem dX6_ring_15 : decode cX6_ring 15 = .ok (.iconst (-1), 1) := by decide +kernel
theorem dX6_ring_16 : decode cX6_ring 16 = .ok (.ireturn, 1) := by decide +kernel
theorem dX6_ring_17 : decode cX6_ring 17 = .ok (.iload_n 1, 1) := by decide +kernel
theorem dX6_ring_18 : decode cX6_ring 18 = .ok (.istore_n 2, 1) := by decide +kernel
theorem dX6_ring_19 : decode cX6_ring 19 = .ok (.iconst 0, 1) := by decide +kernel
theorem dX6_ring_20 : decode cX6_ring 20 = .ok (.istore_n 3, 1) := by decide +kernel
theorem dX6_ring_21 : decode cX6_ring 21 = .ok (.iload_n 3, 1) := by decide +kernel
theorem dX6_ring_22 : decode cX6_ring 22 = .ok (.aload_n 0, 1) := by decide +kernel
theorem dX6_ring_23 : decode cX6_ring 23 = .ok (.getfield 12, 3) := by decide +kernel
theorem dX6_ring_26 : decode cX6_ring 26 = .ok (.getfield 95, 3) := by decide +kernel
theorem dX6_ring_29 : decode cX6_ring 29 = .ok (.if_icmp .ge 31, 3) := by decide +kernel
theorem dX6_ring_32 : decode cX6_ring 32 = .ok (.aload_n 0, 1) := by decide +kernel
theorem dX6_ring_33 : decode cX6_ring 33 = .ok (.getfield 45, 3) := by decide +kernel
theorem dX6_ring_36 : decode cX6_ring 36 = .ok (.getfield 160, 3) := by decide +kernel
theorem dX6_ring_39 : decode cX6_ring 39 = .ok (.iload_n 3, 1) := by decide +kernel
theorem dX6_ring_40 : decode cX6_ring 40 = .ok (.iaload, 1) := by decide +kernel
theorem dX6_ring_41 : decode cX6_ring 41 = .ok (.iconst (-1), 1) := by decide +kernel
theorem dX6_ring_42 : decode cX6_ring 42 = .ok (.if_icmp .ne 12, 3) := by decide +kernel
theorem dX6_ring_45 : decode cX6_ring 45 = .ok (.iload_n 2, 1) := by decide +kernel
theorem dX6_ring_46 : decode cX6_ring 46 = .ok (.ifCond .ne 5, 3) := by decide +kernel
theorem dX6_ring_49 : decode cX6_ring 49 = .ok (.iload_n 3, 1) := by decide +kernel
theorem dX6_ring_50 : decode cX6_ring 50 = .ok (.ireturn, 1) := by decide +kernel
theorem dX6_ring_51 : decode cX6_ring 51 = .ok (.iinc 2 (-1), 3) := by decide +kernel
theorem dX6_ring_54 : decode cX6_ring 54 = .ok (.iinc 3 1, 3) := by decide +kernel
theorem dX6_ring_57 : decode cX6_ring 57 = .ok (.goto (-36), 3) := by decide +kernel
theorem dX6_ring_60 : decode cX6_ring 60 = .ok (.iconst (-1), 1) := by decide +kernel
theorem dX6_ring_61 : decode cX6_ring 61 = .ok (.ireturn, 1) := by decide +kernel
theorem dX6_answered_0 : decode cX6_answered 0 = .ok (.aload_n 0, 1) := by decide +kernel
theorem dX6_answered_1 : decode cX6_answered 1 = .ok (.getfield 45, 3) := by decide +kernel
theorem dX6_answered_4 : decode cX6_answered 4 = .ok (.getfield 157, 3) := by decide +kernel
theorem dX6_answered_7 : decode cX6_answered 7 = .ok (.iconst 1, 1) := by decide +kernel
theorem dX6_answered_8 : decode cX6_answered 8 = .ok (.if_icmp .ne 16, 3) := by decide +kernel
theorem dX6_answered_11 : decode cX6_answered 11 = .ok (.aload_n 0, 1) := by decide +kernel
theorem dX6_answered_12 : decode cX6_answered 12 = .ok (.iconst 0, 1) := by decide +kernel
theorem dX6_answered_13 : decode cX6_answered 13 = .ok (.invokevirtual 163, 3) := by decide +kernel
theorem dX6_answered_16 : decode cX6_answered 16 = .ok (.iconst (-1), 1) := by decide +kernel
theorem dX6_answered_17 : decode cX6_answered 17 = .ok (.if_icmp .ne 7, 3) := by decide +kernel
theorem dX6_answered_20 : decode cX6_answered 20 = .ok (.iconst 1, 1) := by decide +kernel
theorem dX6_answered_21 : decode cX6_answered 21 = .ok (.goto 4, 3) := by decide +kernel
theorem dX6_answered_24 : decode cX6_answered 24 = .ok (.iconst 0, 1) := by decide +kernel
theorem dX6_answered_25 : decode cX6_answered 25 = .ok (.ireturn, 1) := by decide +kernel
theorem dX6_same_0 : decode cX6_same 0 = .ok (.aload_n 0, 1) := by decide +kernel
theorem dX6_same_1 : decode cX6_same 1 = .ok (.getfield 12, 3) := by decide +kernel
theorem dX6_same_4 : decode cX6_same 4 = .ok (.getfield 110, 3) := by decide +kernel
theorem dX6_same_7 : decode cX6_same 7 = .ok (.ifCond .eq 23, 3) := by decide +kernel
theorem dX6_same_10 : decode cX6_same 10 = .ok (.aload_n 0, 1) := by decide +kernel
theorem dX6_same_11 : decode cX6_same 11 = .ok (.getfield 45, 3) := by decide +kernel
theorem dX6_same_14 : decode cX6_same 14 = .ok (.getfield 150, 3) := by decide +kernel
theorem dX6_same_17 : decode cX6_same 17 = .ok (.ifCond .eq 13, 3) := by decide +kernel
theorem dX6_same_20 : decode cX6_same 20 = .ok (.iload_n 1, 1) := by decide +kernel
theorem dX6_same_21 : decode cX6_same 21 = .ok (.ifCond .lt 9, 3) := by decide +kernel
theorem dX6_same_24 : decode cX6_same 24 = .ok (.iload_n 1, 1) := by decide +kernel
theorem dX6_same_25 : decode cX6_same 25 = .ok (.bipush 100, 2) := by decide +kernel
theorem dX6_same_27 : decode cX6_same 27 = .ok (.if_icmp .le 5, 3) := by decide +kernel
theorem dX6_same_30 : decode cX6_same 30 = .ok (.iconst 0, 1) := by decide +kernel
theorem dX6_same_31 : decode cX6_same 31 = .ok (.ireturn, 1) := by decide +kernel
theorem dX6_same_32 : decode cX6_same 32 = .ok (.aload_n 0, 1) := by decide +kernel
theorem dX6_same_33 : decode cX6_same 33 = .ok (.getfield 39, 3) := by decide +kernel
theorem dX6_same_36 : decode cX6_same 36 = .ok (.aload_n 0, 1) := by decide +kernel
theorem dX6_same_37 : decode cX6_same 37 = .ok (.getfield 35, 3) := by decide +kernel
theorem dX6_same_40 : decode cX6_same 40 = .ok (.invokevirtual 129, 3) := by decide +kernel
theorem dX6_same_43 : decode cX6_same 43 = .ok (.invokevirtual 166, 3) := by decide +kernel
theorem dX6_same_46 : decode cX6_same 46 = .ok (.aload_n 0, 1) := by decide +kernel
theorem dX6_same_47 : decode cX6_same 47 = .ok (.getfield 45, 3) := by decide +kernel
theorem dX6_same_50 : decode cX6_same 50 = .ok (.aload_n 0, 1) := by decide +kernel
theorem dX6_same_51 : decode cX6_same 51 = .ok (.getfield 39, 3) := by decide +kernel
theorem dX6_same_54 : decode cX6_same 54 = .ok (.invokevirtual 129, 3) := by decide +kernel
theorem dX6_same_57 : decode cX6_same 57 = .ok (.invokevirtual 133, 3) := by decide +kernel
theorem dX6_same_60 : decode cX6_same 60 = .ok (.iconst (-1), 1) := by decide +kernel
theorem dX6_same_61 : decode cX6_same 61 = .ok (.if_icmp .ne 5, 3) := by decide +kernel
theorem dX6_same_64 : decode cX6_same 64 = .ok (.iconst 0, 1) := by decide +kernel
theorem dX6_same_65 : decode cX6_same 65 = .ok (.ireturn, 1) := by decide +kernel
theorem dX6_same_66 : decode cX6_same 66 = .ok (.iconst 1, 1) := by decide +kernel
theorem dX6_same_67 : decode cX6_same 67 = .ok (.istore_n 2, 1) := by decide +kernel
theorem dX6_same_68 : decode cX6_same 68 = .ok (.iload_n 2, 1) := by decide +kernel
theorem dX6_same_69 : decode cX6_same 69 = .ok (.iload_n 1, 1) := by decide +kernel
theorem dX6_same_70 : decode cX6_same 70 = .ok (.if_icmp .gt 52, 3) := by decide +kernel
theorem dX6_same_73 : decode cX6_same 73 = .ok (.aload_n 0, 1) := by decide +kernel
theorem dX6_same_74 : decode cX6_same 74 = .ok (.getfield 39, 3) := by decide +kernel
theorem dX6_same_77 : decode cX6_same 77 = .ok (.aload_n 0, 1) := by decide +kernel
theorem dX6_same_78 : decode cX6_same 78 = .ok (.getfield 26, 3) := by decide +kernel
theorem dX6_same_81 : decode cX6_same 81 = .ok (.aload_n 0, 1) := by decide +kernel
theorem dX6_same_82 : decode cX6_same 82 = .ok (.getfield 120, 3) := by decide +kernel
theorem dX6_same_85 : decode cX6_same 85 = .ok (.iload_n 2, 1) := by decide +kernel
theorem dX6_same_86 : decode cX6_same 86 = .ok (.iadd, 1) := by decide +kernel
theorem dX6_same_87 : decode cX6_same 87 = .ok (.invokevirtual 123, 3) := by decide +kernel
theorem dX6_same_90 : decode cX6_same 90 = .ok (.invokevirtual 126, 3) := by decide +kernel
theorem dX6_same_93 : decode cX6_same 93 = .ok (.ifCond .ne 21, 3) := by decide +kernel
theorem dX6_same_96 : decode cX6_same 96 = .ok (.aload_n 0, 1) := by decide +kernel
theorem dX6_same_97 : decode cX6_same 97 = .ok (.getfield 45, 3) := by decide +kernel
theorem dX6_same_100 : decode cX6_same 100 = .ok (.aload_n 0, 1) := by decide +kernel
theorem dX6_same_101 : decode cX6_same 101 = .ok (.getfield 39, 3) := by decide +kernel
theorem dX6_same_104 : decode cX6_same 104 = .ok (.invokevirtual 129, 3) := by decide +kernel
theorem dX6_same_107 : decode cX6_same 107 = .ok (.invokevirtual 133, 3) := by decide +kernel
theorem dX6_same_110 : decode cX6_same 110 = .ok (.iconst (-1), 1) := by decide +kernel
theorem dX6_same_111 : decode cX6_same 111 = .ok (.if_icmp .ne 5, 3) := by decide +kernel
theorem dX6_same_114 : decode cX6_same 114 = .ok (.iconst 0, 1) := by decide +kernel
theorem dX6_same_115 : decode cX6_same 115 = .ok (.ireturn, 1) := by decide +kernel
theorem dX6_same_116 : decode cX6_same 116 = .ok (.iinc 2 1, 3) := by decide +kernel
theorem dX6_same_119 : decode cX6_same 119 = .ok (.goto (-51), 3) := by decide +kernel
theorem dX6_same_122 : decode cX6_same 122 = .ok (.iconst 1, 1) := by decide +kernel
theorem dX6_same_123 : decode cX6_same 123 = .ok (.ireturn, 1) := by decide +kernel
theorem dX6_from_0 : decode cX6_from 0 = .ok (.lload_n 1, 1) := by decide +kernel
theorem dX6_from_1 : decode cX6_from 1 = .ok (.lconst 0, 1) := by decide +kernel
theorem dX6_from_2 : decode cX6_from 2 = .ok (.lcmp, 1) := by decide +kernel
theorem dX6_from_3 : decode cX6_from 3 = .ok (.ifCond .lt 38, 3) := by decide +kernel
theorem dX6_from_6 : decode cX6_from 6 = .ok (.lload_n 1, 1) := by decide +kernel
theorem dX6_from_7 : decode cX6_from 7 = .ok (.ldc2_w 170, 3) := by decide +kernel
theorem dX6_from_10 : decode cX6_from 10 = .ok (.lcmp, 1) := by decide +kernel
theorem dX6_from_11 : decode cX6_from 11 = .ok (.ifCond .gt 30, 3) := by decide +kernel
theorem dX6_from_14 : decode cX6_from 14 = .ok (.lload_n 3, 1) := by decide +kernel
theorem dX6_from_15 : decode cX6_from 15 = .ok (.lconst 0, 1) := by decide +kernel
theorem dX6_from_16 : decode cX6_from 16 = .ok (.lcmp, 1) := by decide +kernel
theorem dX6_from_17 : decode cX6_from 17 = .ok (.ifCond .lt 24, 3) := by decide +kernel
theorem dX6_from_20 : decode cX6_from 20 = .ok (.lload_n 3, 1) := by decide +kernel
theorem dX6_from_21 : decode cX6_from 21 = .ok (.ldc2_w 170, 3) := by decide +kernel
theorem dX6_from_24 : decode cX6_from 24 = .ok (.lcmp, 1) := by decide +kernel
theorem dX6_from_25 : decode cX6_from 25 = .ok (.ifCond .gt 16, 3) := by decide +kernel
theorem dX6_from_28 : decode cX6_from 28 = .ok (.iload 5, 2) := by decide +kernel
theorem dX6_from_30 : decode cX6_from 30 = .ok (.iconst 1, 1) := by decide +kernel
theorem dX6_from_31 : decode cX6_from 31 = .ok (.if_icmp .lt 10, 3) := by decide +kernel
theorem dX6_from_34 : decode cX6_from 34 = .ok (.iload 5, 2) := by decide +kernel
theorem dX6_from_36 : decode cX6_from 36 = .ok (.bipush 50, 2) := by decide +kernel
theorem dX6_from_38 : decode cX6_from 38 = .ok (.if_icmp .le 5, 3) := by decide +kernel
theorem dX6_from_41 : decode cX6_from 41 = .ok (.iconst (-1), 1) := by decide +kernel
theorem dX6_from_42 : decode cX6_from 42 = .ok (.ireturn, 1) := by decide +kernel
theorem dX6_from_43 : decode cX6_from 43 = .ok (.lload_n 3, 1) := by decide +kernel
theorem dX6_from_44 : decode cX6_from 44 = .ok (.l2i, 1) := by decide +kernel
theorem dX6_from_45 : decode cX6_from 45 = .ok (.iload 5, 2) := by decide +kernel
theorem dX6_from_47 : decode cX6_from 47 = .ok (.iadd, 1) := by decide +kernel
theorem dX6_from_48 : decode cX6_from 48 = .ok (.iconst 1, 1) := by decide +kernel
theorem dX6_from_49 : decode cX6_from 49 = .ok (.isub, 1) := by decide +kernel
theorem dX6_from_50 : decode cX6_from 50 = .ok (.iload 5, 2) := by decide +kernel
theorem dX6_from_52 : decode cX6_from 52 = .ok (.idiv, 1) := by decide +kernel
theorem dX6_from_53 : decode cX6_from 53 = .ok (.istore 6, 2) := by decide +kernel
theorem dX6_from_55 : decode cX6_from 55 = .ok (.lload_n 1, 1) := by decide +kernel
theorem dX6_from_56 : decode cX6_from 56 = .ok (.l2i, 1) := by decide +kernel
theorem dX6_from_57 : decode cX6_from 57 = .ok (.iload 5, 2) := by decide +kernel
theorem dX6_from_59 : decode cX6_from 59 = .ok (.idiv, 1) := by decide +kernel
theorem dX6_from_60 : decode cX6_from 60 = .ok (.istore 7, 2) := by decide +kernel
theorem dX6_from_62 : decode cX6_from 62 = .ok (.iload 6, 2) := by decide +kernel
theorem dX6_from_64 : decode cX6_from 64 = .ok (.iload 7, 2) := by decide +kernel
theorem dX6_from_66 : decode cX6_from 66 = .ok (.if_icmp .le 11, 3) := by decide +kernel
theorem dX6_from_69 : decode cX6_from 69 = .ok (.iload 6, 2) := by decide +kernel
theorem dX6_from_71 : decode cX6_from 71 = .ok (.iload 7, 2) := by decide +kernel
theorem dX6_from_73 : decode cX6_from 73 = .ok (.isub, 1) := by decide +kernel
theorem dX6_from_74 : decode cX6_from 74 = .ok (.goto 4, 3) := by decide +kernel
theorem dX6_from_77 : decode cX6_from 77 = .ok (.iconst 0, 1) := by decide +kernel
theorem dX6_from_78 : decode cX6_from 78 = .ok (.ireturn, 1) := by decide +kernel
theorem dX6_startAnew_0 : decode cX6_startAnew 0 = .ok (.aload_n 0, 1) := by decide +kernel
theorem dX6_startAnew_1 : decode cX6_startAnew 1 = .ok (.getfield 12, 3) := by decide +kernel
theorem dX6_startAnew_4 : decode cX6_startAnew 4 = .ok (.iload_n 1, 1) := by decide +kernel
theorem dX6_startAnew_5 : decode cX6_startAnew 5 = .ok (.invokevirtual 172, 3) := by decide +kernel
theorem dX6_startAnew_8 : decode cX6_startAnew 8 = .ok (.aload_n 0, 1) := by decide +kernel
theorem dX6_startAnew_9 : decode cX6_startAnew 9 = .ok (.getfield 19, 3) := by decide +kernel
theorem dX6_startAnew_12 : decode cX6_startAnew 12 = .ok (.iconst 0, 1) := by decide +kernel
theorem dX6_startAnew_13 : decode cX6_startAnew 13 = .ok (.putfield 107, 3) := by decide +kernel
theorem dX6_startAnew_16 : decode cX6_startAnew 16 = .ok (.aload_n 0, 1) := by decide +kernel
theorem dX6_startAnew_17 : decode cX6_startAnew 17 = .ok (.invokevirtual 80, 3) := by decide +kernel
theorem dX6_startAnew_20 : decode cX6_startAnew 20 = .ok (.return_, 1) := by decide +kernel
theorem dX6_forgetRun_0 : decode cX6_forgetRun 0 = .ok (.aload_n 0, 1) := by decide +kernel
theorem dX6_forgetRun_1 : decode cX6_forgetRun 1 = .ok (.getfield 26, 3) := by decide +kernel
theorem dX6_forgetRun_4 : decode cX6_forgetRun 4 = .ok (.iconst 0, 1) := by decide +kernel
theorem dX6_forgetRun_5 : decode cX6_forgetRun 5 = .ok (.putfield 175, 3) := by decide +kernel
theorem dX6_forgetRun_8 : decode cX6_forgetRun 8 = .ok (.aload_n 0, 1) := by decide +kernel
theorem dX6_forgetRun_9 : decode cX6_forgetRun 9 = .ok (.getfield 45, 3) := by decide +kernel
theorem dX6_forgetRun_12 : decode cX6_forgetRun 12 = .ok (.invokevirtual 144, 3) := by decide +kernel
theorem dX6_forgetRun_15 : decode cX6_forgetRun 15 = .ok (.aload_n 0, 1) := by decide +kernel
theorem dX6_forgetRun_16 : decode cX6_forgetRun 16 = .ok (.getfield 35, 3) := by decide +kernel
theorem dX6_forgetRun_19 : decode cX6_forgetRun 19 = .ok (.invokevirtual 178, 3) := by decide +kernel
theorem dX6_forgetRun_22 : decode cX6_forgetRun 22 = .ok (.aload_n 0, 1) := by decide +kernel
theorem dX6_forgetRun_23 : decode cX6_forgetRun 23 = .ok (.iconst 0, 1) := by decide +kernel
theorem dX6_forgetRun_24 : decode cX6_forgetRun 24 = .ok (.putfield 120, 3) := by decide +kernel
theorem dX6_forgetRun_27 : decode cX6_forgetRun 27 = .ok (.return_, 1) := by decide +kernel
theorem dX6_note_0 : decode cX6_note 0 = .ok (.iload_n 2, 1) := by decide +kernel
theorem dX6_note_1 : decode cX6_note 1 = .ok (.aload_n 0, 1) := by decide +kernel
theorem dX6_note_2 : decode cX6_note 2 = .ok (.getfield 120, 3) := by decide +kernel
theorem dX6_note_5 : decode cX6_note 5 = .ok (.if_icmp .le 19, 3) := by decide +kernel
theorem dX6_note_8 : decode cX6_note 8 = .ok (.aload_n 0, 1) := by decide +kernel
theorem dX6_note_9 : decode cX6_note 9 = .ok (.getfield 26, 3) := by decide +kernel
theorem dX6_note_12 : decode cX6_note 12 = .ok (.iload_n 2, 1) := by decide +kernel
theorem dX6_note_13 : decode cX6_note 13 = .ok (.iload_n 1, 1) := by decide +kernel
theorem dX6_note_14 : decode cX6_note 14 = .ok (.invokevirtual 181, 3) := by decide +kernel
theorem dX6_note_17 : decode cX6_note 17 = .ok (.ifCond .eq 7, 3) := by decide +kernel
theorem dX6_note_20 : decode cX6_note 20 = .ok (.iconst 1, 1) := by decide +kernel
theorem dX6_note_21 : decode cX6_note 21 = .ok (.goto 4, 3) := by decide +kernel
theorem dX6_note_24 : decode cX6_note 24 = .ok (.iconst 0, 1) := by decide +kernel
theorem dX6_note_25 : decode cX6_note 25 = .ok (.ireturn, 1) := by decide +kernel
