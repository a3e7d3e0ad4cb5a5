theorem dX0_init_0 : decode cX0_init 0 = .ok (.aload_n 0, 1) := by decide +kernel
theorem dX0_init_1 : decode cX0_init 1 = .ok (.invokespecial 3, 3) := by decide +kernel
theorem dX0_init_4 : decode cX0_init 4 = .ok (.aload_n 0, 1) := by decide +kernel
theorem dX0_init_5 : decode cX0_init 5 = .ok (.bipush 6, 2) := by decide +kernel
theorem dX0_init_7 : decode cX0_init 7 = .ok (.newarray .int, 2) := by decide +kernel
theorem dX0_init_9 : decode cX0_init 9 = .ok (.putfield 9, 3) := by decide +kernel
theorem dX0_init_12 : decode cX0_init 12 = .ok (.aload_n 0, 1) := by decide +kernel
theorem dX0_init_13 : decode cX0_init 13 = .ok (.bipush 36, 2) := by decide +kernel
theorem dX0_init_15 : decode cX0_init 15 = .ok (.newarray .int, 2) := by decide +kernel
theorem dX0_init_17 : decode cX0_init 17 = .ok (.putfield 15, 3) := by decide +kernel
theorem dX0_init_20 : decode cX0_init 20 = .ok (.aload_n 0, 1) := by decide +kernel
theorem dX0_init_21 : decode cX0_init 21 = .ok (.bipush 6, 2) := by decide +kernel
theorem dX0_init_23 : decode cX0_init 23 = .ok (.newarray .int, 2) := by decide +kernel
theorem dX0_init_25 : decode cX0_init 25 = .ok (.putfield 18, 3) := by decide +kernel
theorem dX0_init_28 : decode cX0_init 28 = .ok (.aload_n 0, 1) := by decide +kernel
theorem dX0_init_29 : decode cX0_init 29 = .ok (.bipush 6, 2) := by decide +kernel
theorem dX0_init_31 : decode cX0_init 31 = .ok (.newarray .int, 2) := by decide +kernel
theorem dX0_init_33 : decode cX0_init 33 = .ok (.putfield 21, 3) := by decide +kernel
theorem dX0_init_36 : decode cX0_init 36 = .ok (.aload_n 0, 1) := by decide +kernel
theorem dX0_init_37 : decode cX0_init 37 = .ok (.iconst 3, 1) := by decide +kernel
theorem dX0_init_38 : decode cX0_init 38 = .ok (.newarray .int, 2) := by decide +kernel
theorem dX0_init_40 : decode cX0_init 40 = .ok (.putfield 24, 3) := by decide +kernel
theorem dX0_init_43 : decode cX0_init 43 = .ok (.aload_n 0, 1) := by decide +kernel
theorem dX0_init_44 : decode cX0_init 44 = .ok (.bipush 15, 2) := by decide +kernel
theorem dX0_init_46 : decode cX0_init 46 = .ok (.newarray .int, 2) := by decide +kernel
theorem dX0_init_48 : decode cX0_init 48 = .ok (.putfield 27, 3) := by decide +kernel
theorem dX0_init_51 : decode cX0_init 51 = .ok (.aload_n 0, 1) := by decide +kernel
theorem dX0_init_52 : decode cX0_init 52 = .ok (.bipush 15, 2) := by decide +kernel
theorem dX0_init_54 : decode cX0_init 54 = .ok (.newarray .int, 2) := by decide +kernel
theorem dX0_init_56 : decode cX0_init 56 = .ok (.putfield 30, 3) := by decide +kernel
theorem dX0_init_59 : decode cX0_init 59 = .ok (.aload_n 0, 1) := by decide +kernel
theorem dX0_init_60 : decode cX0_init 60 = .ok (.bipush 15, 2) := by decide +kernel
theorem dX0_init_62 : decode cX0_init 62 = .ok (.newarray .int, 2) := by decide +kernel
theorem dX0_init_64 : decode cX0_init 64 = .ok (.putfield 33, 3) := by decide +kernel
theorem dX0_init_67 : decode cX0_init 67 = .ok (.return_, 1) := by decide +kernel
set_option maxRecDepth 20000 in
theorem ggX0_clear_J7_fill_53178 : GoodIn wsX0_clear wsJ7_fill_53178 := goodIn_r _ [12] rfl (by decide +kernel)
set_option maxRecDepth 20000 in
theorem gX0_clear_J7_fill_53178 : GoodIn wsX0_clear (va_wsS RX0 43 yJ7_fill_53178 wsJ7_fill_53178) := goodIn_app (goodIn_of _ (by decide +kernel)) ggX0_clear_J7_fill_53178
theorem dX0_clear_0 : decode cX0_clear 0 = .ok (.aload_n 0, 1) := by decide +kernel
theorem dX0_clear_1 : decode cX0_clear 1 = .ok (.iload_n 1, 1) := by decide +kernel
theorem dX0_clear_2 : decode cX0_clear 2 = .ok (.putfield 36, 3) := by decide +kernel
theorem dX0_clear_5 : decode cX0_clear 5 = .ok (.aload_n 0, 1) := by decide +kernel
theorem dX0_clear_6 : decode cX0_clear 6 = .ok (.iconst 0, 1) := by decide +kernel
theorem dX0_clear_7 : decode cX0_clear 7 = .ok (.putfield 40, 3) := by decide +kernel
theorem dX0_clear_10 : decode cX0_clear 10 = .ok (.aload_n 0, 1) := by decide +kernel
theorem dX0_clear_11 : decode cX0_clear 11 = .ok (.getfield 9, 3) := by decide +kernel
theorem dX0_clear_14 : decode cX0_clear 14 = .ok (.iconst 0, 1) := by decide +kernel
theorem dX0_clear_15 : decode cX0_clear 15 = .ok (.invokestatic 43, 3) := by decide +kernel
theorem dX0_clear_18 : decode cX0_clear 18 = .ok (.aload_n 0, 1) := by decide +kernel
theorem dX0_clear_19 : decode cX0_clear 19 = .ok (.getfield 15, 3) := by decide +kernel
theorem dX0_clear_22 : decode cX0_clear 22 = .ok (.iconst 0, 1) := by decide +kernel
theorem dX0_clear_23 : decode cX0_clear 23 = .ok (.invokestatic 43, 3) := by decide +kernel
theorem dX0_clear_26 : decode cX0_clear 26 = .ok (.aload_n 0, 1) := by decide +kernel
theorem dX0_clear_27 : decode cX0_clear 27 = .ok (.getfield 18, 3) := by decide +kernel
theorem dX0_clear_30 : decode cX0_clear 30 = .ok (.iconst 1, 1) := by decide +kernel
theorem dX0_clear_31 : decode cX0_clear 31 = .ok (.invokestatic 43, 3) := by decide +kernel
theorem dX0_clear_34 : decode cX0_clear 34 = .ok (.aload_n 0, 1) := by decide +kernel
theorem dX0_clear_35 : decode cX0_clear 35 = .ok (.getfield 21, 3) := by decide +kernel
theorem dX0_clear_38 : decode cX0_clear 38 = .ok (.bipush 31, 2) := by decide +kernel
theorem dX0_clear_40 : decode cX0_clear 40 = .ok (.invokestatic 43, 3) := by decide +kernel
theorem dX0_clear_43 : decode cX0_clear 43 = .ok (.aload_n 0, 1) := by decide +kernel
theorem dX0_clear_44 : decode cX0_clear 44 = .ok (.getfield 24, 3) := by decide +kernel
theorem dX0_clear_47 : decode cX0_clear 47 = .ok (.iconst 0, 1) := by decide +kernel
theorem dX0_clear_48 : decode cX0_clear 48 = .ok (.invokestatic 43, 3) := by decide +kernel
theorem dX0_clear_51 : decode cX0_clear 51 = .ok (.aload_n 0, 1) := by decide +kernel
theorem dX0_clear_52 : decode cX0_clear 52 = .ok (.getfield 27, 3) := by decide +kernel
theorem dX0_clear_55 : decode cX0_clear 55 = .ok (.iconst 0, 1) := by decide +kernel
theorem dX0_clear_56 : decode cX0_clear 56 = .ok (.invokestatic 43, 3) := by decide +kernel
theorem dX0_clear_59 : decode cX0_clear 59 = .ok (.return_, 1) := by decide +kernel
theorem dX0_isGroup_0 : decode cX0_isGroup 0 = .ok (.iload_n 1, 1) := by decide +kernel
theorem dX0_isGroup_1 : decode cX0_isGroup 1 = .ok (.ifCond .lt 15, 3) := by decide +kernel
theorem dX0_isGroup_4 : decode cX0_isGroup 4 = .ok (.iload_n 1, 1) := by decide +kernel
theorem dX0_isGroup_5 : decode cX0_isGroup 5 = .ok (.aload_n 0, 1) := by decide +kernel
theorem dX0_isGroup_6 : decode cX0_isGroup 6 = .ok (.getfield 36, 3) := by decide +kernel
theorem dX0_isGroup_9 : decode cX0_isGroup 9 = .ok (.if_icmp .ge 7, 3) := by decide +kernel
theorem dX0_isGroup_12 : decode cX0_isGroup 12 = .ok (.iconst 1, 1) := by decide +kernel
theorem dX0_isGroup_13 : decode cX0_isGroup 13 = .ok (.goto 4, 3) := by decide +kernel
theorem dX0_isGroup_16 : decode cX0_isGroup 16 = .ok (.iconst 0, 1) := by decide +kernel
theorem dX0_isGroup_17 : decode cX0_isGroup 17 = .ok (.ireturn, 1) := by decide +kernel
theorem dX0_isPlan_0 : decode cX0_isPlan 0 = .ok (.iload_n 1, 1) := by decide +kernel
theorem dX0_isPlan_1 : decode cX0_isPlan 1 = .ok (.ifCond .lt 15, 3) := by decide +kernel
theorem dX0_isPlan_4 : decode cX0_isPlan 4 = .ok (.iload_n 1, 1) := by decide +kernel
theorem dX0_isPlan_5 : decode cX0_isPlan 5 = .ok (.aload_n 0, 1) := by decide +kernel
theorem dX0_isPlan_6 : decode cX0_isPlan 6 = .ok (.getfield 40, 3) := by decide +kernel
theorem dX0_isPlan_9 : decode cX0_isPlan 9 = .ok (.if_icmp .ge 7, 3) := by decide +kernel
theorem dX0_isPlan_12 : decode cX0_isPlan 12 = .ok (.iconst 1, 1) := by decide +kernel
theorem dX0_isPlan_13 : decode cX0_isPlan 13 = .ok (.goto 4, 3) := by decide +kernel
theorem dX0_isPlan_16 : decode cX0_isPlan 16 = .ok (.iconst 0, 1) := by decide +kernel
theorem dX0_isPlan_17 : decode cX0_isPlan 17 = .ok (.ireturn, 1) := by decide +kernel
theorem dX0_eventCount_0 : decode cX0_eventCount 0 = .ok (.iconst 1, 1) := by decide +kernel
theorem dX0_eventCount_1 : decode cX0_eventCount 1 = .ok (.aload_n 0, 1) := by decide +kernel
theorem dX0_eventCount_2 : decode cX0_eventCount 2 = .ok (.getfield 36, 3) := by decide +kernel
theorem dX0_eventCount_5 : decode cX0_eventCount 5 = .ok (.iadd, 1) := by decide +kernel
theorem dX0_eventCount_6 : decode cX0_eventCount 6 = .ok (.aload_n 0, 1) := by decide +kernel
theorem dX0_eventCount_7 : decode cX0_eventCount 7 = .ok (.getfield 40, 3) := by decide +kernel
theorem dX0_eventCount_10 : decode cX0_eventCount 10 = .ok (.iadd, 1) := by decide +kernel
theorem dX0_eventCount_11 : decode cX0_eventCount 11 = .ok (.ireturn, 1) := by decide +kernel
set_option maxRecDepth 20000 in
theorem ggX0_bar_X0_isGroup : GoodIn wsX0_bar wsX0_isGroup := goodIn_r _ [7, 8, 9, 10, 11, 12, 13, 14, 15, 16, 17, 18] rfl (by decide +kernel)
set_option maxRecDepth 20000 in
theorem gX0_bar_X0_isGroup : GoodIn wsX0_bar (wsV RX0 49 RX0 yX0_isGroup wsX0_isGroup) := goodIn_app (goodIn_of _ (by decide +kernel)) ggX0_bar_X0_isGroup
theorem dX0_bar_0 : decode cX0_bar 0 = .ok (.aload_n 0, 1) := by decide +kernel
theorem dX0_bar_1 : decode cX0_bar 1 = .ok (.iload_n 1, 1) := by decide +kernel
theorem dX0_bar_2 : decode cX0_bar 2 = .ok (.invokevirtual 49, 3) := by decide +kernel
theorem dX0_bar_5 : decode cX0_bar 5 = .ok (.ifCond .eq 47, 3) := by decide +kernel
theorem dX0_bar_8 : decode cX0_bar 8 = .ok (.aload_n 0, 1) := by decide +kernel
theorem dX0_bar_9 : decode cX0_bar 9 = .ok (.iload_n 2, 1) := by decide +kernel
theorem dX0_bar_10 : decode cX0_bar 10 = .ok (.invokevirtual 49, 3) := by decide +kernel
theorem dX0_bar_13 : decode cX0_bar 13 = .ok (.ifCond .eq 39, 3) := by decide +kernel
theorem dX0_bar_16 : decode cX0_bar 16 = .ok (.aload_n 0, 1) := by decide +kernel
theorem dX0_bar_17 : decode cX0_bar 17 = .ok (.getfield 9, 3) := by decide +kernel
theorem dX0_bar_20 : decode cX0_bar 20 = .ok (.iload_n 1, 1) := by decide +kernel
theorem dX0_bar_21 : decode cX0_bar 21 = .ok (.dup2, 1) := by decide +kernel
theorem dX0_bar_22 : decode cX0_bar 22 = .ok (.iaload, 1) := by decide +kernel
theorem dX0_bar_23 : decode cX0_bar 23 = .ok (.iconst 1, 1) := by decide +kernel
theorem dX0_bar_24 : decode cX0_bar 24 = .ok (.iload_n 2, 1) := by decide +kernel
theorem dX0_bar_25 : decode cX0_bar 25 = .ok (.ishl, 1) := by decide +kernel
theorem dX0_bar_26 : decode cX0_bar 26 = .ok (.ior, 1) := by decide +kernel
theorem dX0_bar_27 : decode cX0_bar 27 = .ok (.iastore, 1) := by decide +kernel
theorem dX0_bar_28 : decode cX0_bar 28 = .ok (.aload_n 0, 1) := by decide +kernel
theorem dX0_bar_29 : decode cX0_bar 29 = .ok (.getfield 9, 3) := by decide +kernel
theorem dX0_bar_32 : decode cX0_bar 32 = .ok (.iload_n 2, 1) := by decide +kernel
theorem dX0_bar_33 : decode cX0_bar 33 = .ok (.dup2, 1) := by decide +kernel
theorem dX0_bar_34 : decode cX0_bar 34 = .ok (.iaload, 1) := by decide +kernel
theorem dX0_bar_35 : decode cX0_bar 35 = .ok (.iconst 1, 1) := by decide +kernel
theorem dX0_bar_36 : decode cX0_bar 36 = .ok (.iload_n 1, 1) := by decide +kernel
theorem dX0_bar_37 : decode cX0_bar 37 = .ok (.ishl, 1) := by decide +kernel
theorem dX0_bar_38 : decode cX0_bar 38 = .ok (.ior, 1) := by decide +kernel
theorem dX0_bar_39 : decode cX0_bar 39 = .ok (.iastore, 1) := by decide +kernel
theorem dX0_bar_40 : decode cX0_bar 40 = .ok (.aload_n 0, 1) := by decide +kernel
theorem dX0_bar_41 : decode cX0_bar 41 = .ok (.getfield 15, 3) := by decide +kernel
theorem dX0_bar_44 : decode cX0_bar 44 = .ok (.iload_n 1, 1) := by decide +kernel
theorem dX0_bar_45 : decode cX0_bar 45 = .ok (.bipush 6, 2) := by decide +kernel
theorem dX0_bar_47 : decode cX0_bar 47 = .ok (.imul, 1) := by decide +kernel
theorem dX0_bar_48 : decode cX0_bar 48 = .ok (.iload_n 2, 1) := by decide +kernel
theorem dX0_bar_49 : decode cX0_bar 49 = .ok (.iadd, 1) := by decide +kernel
theorem dX0_bar_50 : decode cX0_bar 50 = .ok (.iload_n 3, 1) := by decide +kernel
theorem dX0_bar_51 : decode cX0_bar 51 = .ok (.iastore, 1) := by decide +kernel
theorem dX0_bar_52 : decode cX0_bar 52 = .ok (.return_, 1) := by decide +kernel
theorem dX0_addPlan_0 : decode cX0_addPlan 0 = .ok (.aload_n 0, 1) := by decide +kernel
theorem dX0_addPlan_1 : decode cX0_addPlan 1 = .ok (.getfield 40, 3) := by decide +kernel
theorem dX0_addPlan_4 : decode cX0_addPlan 4 = .ok (.iconst 3, 1) := by decide +kernel
theorem dX0_addPlan_5 : decode cX0_addPlan 5 = .ok (.if_icmp .lt 5, 3) := by decide +kernel
theorem dX0_addPlan_8 : decode cX0_addPlan 8 = .ok (.iconst 0, 1) := by decide +kernel
theorem dX0_addPlan_9 : decode cX0_addPlan 9 = .ok (.ireturn, 1) := by decide +kernel
theorem dX0_addPlan_10 : decode cX0_addPlan 10 = .ok (.iconst 0, 1) := by decide +kernel
theorem dX0_addPlan_11 : decode cX0_addPlan 11 = .ok (.istore_n 3, 1) := by decide +kernel
theorem dX0_addPlan_12 : decode cX0_addPlan 12 = .ok (.iload_n 3, 1) := by decide +kernel
theorem dX0_addPlan_13 : decode cX0_addPlan 13 = .ok (.iload_n 2, 1) := by decide +kernel
theorem dX0_addPlan_14 : decode cX0_addPlan 14 = .ok (.if_icmp .ge 63, 3) := by decide +kernel
theorem dX0_addPlan_17 : decode cX0_addPlan 17 = .ok (.iload_n 3, 1) := by decide +kernel
theorem dX0_addPlan_18 : decode cX0_addPlan 18 = .ok (.iconst 5, 1) := by decide +kernel
theorem dX0_addPlan_19 : decode cX0_addPlan 19 = .ok (.if_icmp .ge 58, 3) := by decide +kernel
theorem dX0_addPlan_22 : decode cX0_addPlan 22 = .ok (.aload_n 0, 1) := by decide +kernel
theorem dX0_addPlan_23 : decode cX0_addPlan 23 = .ok (.getfield 40, 3) := by decide +kernel
theorem dX0_addPlan_26 : decode cX0_addPlan 26 = .ok (.iconst 5, 1) := by decide +kernel
theorem dX0_addPlan_27 : decode cX0_addPlan 27 = .ok (.imul, 1) := by decide +kernel
theorem dX0_addPlan_28 : decode cX0_addPlan 28 = .ok (.iload_n 3, 1) := by decide +kernel
theorem dX0_addPlan_29 : decode cX0_addPlan 29 = .ok (.iadd, 1) := by decide +kernel
theorem dX0_addPlan_30 : decode cX0_addPlan 30 = .ok (.istore 4, 2) := by decide +kernel
theorem dX0_addPlan_32 : decode cX0_addPlan 32 = .ok (.aload_n 0, 1) := by decide +kernel
theorem dX0_addPlan_33 : decode cX0_addPlan 33 = .ok (.getfield 27, 3) := by decide +kernel
theorem dX0_addPlan_36 : decode cX0_addPlan 36 = .ok (.iload 4, 2) := by decide +kernel
theorem dX0_addPlan_38 : decode cX0_addPlan 38 = .ok (.aload_n 1, 1) := by decide +kernel
theorem dX0_addPlan_39 : decode cX0_addPlan 39 = .ok (.getfield 53, 3) := by decide +kernel
theorem dX0_addPlan_42 : decode cX0_addPlan 42 = .ok (.iload_n 3, 1) := by decide +kernel
theorem dX0_addPlan_43 : decode cX0_addPlan 43 = .ok (.iaload, 1) := by decide +kernel
theorem dX0_addPlan_44 : decode cX0_addPlan 44 = .ok (.iastore, 1) := by decide +kernel
theorem dX0_addPlan_45 : decode cX0_addPlan 45 = .ok (.aload_n 0, 1) := by decide +kernel
theorem dX0_addPlan_46 : decode cX0_addPlan 46 = .ok (.getfield 30, 3) := by decide +kernel
theorem dX0_addPlan_49 : decode cX0_addPlan 49 = .ok (.iload 4, 2) := by decide +kernel
theorem dX0_addPlan_51 : decode cX0_addPlan 51 = .ok (.aload_n 1, 1) := by decide +kernel
theorem dX0_addPlan_52 : decode cX0_addPlan 52 = .ok (.getfield 56, 3) := by decide +kernel
theorem dX0_addPlan_55 : decode cX0_addPlan 55 = .ok (.iload_n 3, 1) := by decide +kernel
theorem dX0_addPlan_56 : decode cX0_addPlan 56 = .ok (.iaload, 1) := by decide +kernel
theorem dX0_addPlan_57 : decode cX0_addPlan 57 = .ok (.iastore, 1) := by decide +kernel
theorem dX0_addPlan_58 : decode cX0_addPlan 58 = .ok (.aload_n 0, 1) := by decide +kernel
theorem dX0_addPlan_59 : decode cX0_addPlan 59 = .ok (.getfield 33, 3) := by decide +kernel
theorem dX0_addPlan_62 : decode cX0_addPlan 62 = .ok (.iload 4, 2) := by decide +kernel
theorem dX0_addPlan_64 : decode cX0_addPlan 64 = .ok (.aload_n 1, 1) := by decide +kernel
theorem dX0_addPlan_65 : decode cX0_addPlan 65 = .ok (.getfield 57, 3) := by decide +kernel
theorem dX0_addPlan_68 : decode cX0_addPlan 68 = .ok (.iload_n 3, 1) := by decide +kernel
theorem dX0_addPlan_69 : decode cX0_addPlan 69 = .ok (.iaload, 1) := by decide +kernel
theorem dX0_addPlan_70 : decode cX0_addPlan 70 = .ok (.iastore, 1) := by decide +kernel
theorem dX0_addPlan_71 : decode cX0_addPlan 71 = .ok (.iinc 3 1, 3) := by decide +kernel
theorem dX0_addPlan_74 : decode cX0_addPlan 74 = .ok (.goto (-62), 3) := by decide +kernel
theorem dX0_addPlan_77 : decode cX0_addPlan 77 = .ok (.aload_n 0, 1) := by decide +kernel
theorem dX0_addPlan_78 : decode cX0_addPlan 78 = .ok (.getfield 24, 3) := by decide +kernel
theorem dX0_addPlan_81 : decode cX0_addPlan 81 = .ok (.aload_n 0, 1) := by decide +kernel
theorem dX0_addPlan_82 : decode cX0_addPlan 82 = .ok (.getfield 40, 3) := by decide +kernel
theorem dX0_addPlan_85 : decode cX0_addPlan 85 = .ok (.iload_n 2, 1) := by decide +kernel
theorem dX0_addPlan_86 : decode cX0_addPlan 86 = .ok (.iastore, 1) := by decide +kernel
theorem dX0_addPlan_87 : decode cX0_addPlan 87 = .ok (.aload_n 0, 1) := by decide +kernel
theorem dX0_addPlan_88 : decode cX0_addPlan 88 = .ok (.dup, 1) := by decide +kernel
theorem dX0_addPlan_89 : decode cX0_addPlan 89 = .ok (.getfield 40, 3) := by decide +kernel
theorem dX0_addPlan_92 : decode cX0_addPlan 92 = .ok (.iconst 1, 1) := by decide +kernel
theorem dX0_addPlan_93 : decode cX0_addPlan 93 = .ok (.iadd, 1) := by decide +kernel
theorem dX0_addPlan_94 : decode cX0_addPlan 94 = .ok (.putfield 40, 3) := by decide +kernel
theorem dX0_addPlan_97 : decode cX0_addPlan 97 = .ok (.iconst 1, 1) := by decide +kernel
theorem dX0_addPlan_98 : decode cX0_addPlan 98 = .ok (.ireturn, 1) := by decide +kernel
theorem dX0_groupsIn_0 : decode cX0_groupsIn 0 = .ok (.iload_n 1, 1) := by decide +kernel
theorem dX0_groupsIn_1 : decode cX0_groupsIn 1 = .ok (.ifCond .lt 18, 3) := by decide +kernel
theorem dX0_groupsIn_4 : decode cX0_groupsIn 4 = .ok (.iload_n 1, 1) := by decide +kernel
theorem dX0_groupsIn_5 : decode cX0_groupsIn 5 = .ok (.bipush 15, 2) := by decide +kernel
theorem dX0_groupsIn_7 : decode cX0_groupsIn 7 = .ok (.if_icmp .ge 12, 3) := by decide +kernel
theorem dX0_groupsIn_10 : decode cX0_groupsIn 10 = .ok (.aload_n 0, 1) := by decide +kernel
theorem dX0_groupsIn_11 : decode cX0_groupsIn 11 = .ok (.getfield 27, 3) := by decide +kernel
theorem dX0_groupsIn_14 : decode cX0_groupsIn 14 = .ok (.iload_n 1, 1) := by decide +kernel
theorem dX0_groupsIn_15 : decode cX0_groupsIn 15 = .ok (.iaload, 1) := by decide +kernel
theorem dX0_groupsIn_16 : decode cX0_groupsIn 16 = .ok (.goto 4, 3) := by decide +kernel
theorem dX0_groupsIn_19 : decode cX0_groupsIn 19 = .ok (.iconst 0, 1) := by decide +kernel
theorem dX0_groupsIn_20 : decode cX0_groupsIn 20 = .ok (.ireturn, 1) := by decide +kernel
theorem dX0_isOver_0 : decode cX0_isOver 0 = .ok (.iload_n 1, 1) := by decide +kernel
theorem dX0_isOver_1 : decode cX0_isOver 1 = .ok (.ifCond .lt 9, 3) := by decide +kernel
theorem dX0_isOver_4 : decode cX0_isOver 4 = .ok (.iload_n 1, 1) := by decide +kernel
theorem dX0_isOver_5 : decode cX0_isOver 5 = .ok (.bipush 15, 2) := by decide +kernel
theorem dX0_isOver_7 : decode cX0_isOver 7 = .ok (.if_icmp .lt 5, 3) := by decide +kernel
theorem dX0_isOver_10 : decode cX0_isOver 10 = .ok (.iconst 0, 1) := by decide +kernel
theorem dX0_isOver_11 : decode cX0_isOver 11 = .ok (.ireturn, 1) := by decide +kernel
theorem dX0_isOver_12 : decode cX0_isOver 12 = .ok (.iload_n 2, 1) := by decide +kernel
theorem dX0_isOver_13 : decode cX0_isOver 13 = .ok (.aload_n 0, 1) := by decide +kernel
theorem dX0_isOver_14 : decode cX0_isOver 14 = .ok (.getfield 33, 3) := by decide +kernel
theorem dX0_isOver_17 : decode cX0_isOver 17 = .ok (.iload_n 1, 1) := by decide +kernel
theorem dX0_isOver_18 : decode cX0_isOver 18 = .ok (.iaload, 1) := by decide +kernel
theorem dX0_isOver_19 : decode cX0_isOver 19 = .ok (.if_icmp .ge 17, 3) := by decide +kernel
theorem dX0_isOver_22 : decode cX0_isOver 22 = .ok (.iload_n 3, 1) := by decide +kernel
theorem dX0_isOver_23 : decode cX0_isOver 23 = .ok (.ifCond .eq 17, 3) := by decide +kernel
theorem dX0_isOver_26 : decode cX0_isOver 26 = .ok (.iload_n 2, 1) := by decide +kernel
theorem dX0_isOver_27 : decode cX0_isOver 27 = .ok (.aload_n 0, 1) := by decide +kernel
theorem dX0_isOver_28 : decode cX0_isOver 28 = .ok (.getfield 30, 3) := by decide +kernel
theorem dX0_isOver_31 : decode cX0_isOver 31 = .ok (.iload_n 1, 1) := by decide +kernel
theorem dX0_isOver_32 : decode cX0_isOver 32 = .ok (.iaload, 1) := by decide +kernel
theorem dX0_isOver_33 : decode cX0_isOver 33 = .ok (.if_icmp .lt 7, 3) := by decide +kernel
theorem dX0_isOver_36 : decode cX0_isOver 36 = .ok (.iconst 1, 1) := by decide +kernel
theorem dX0_isOver_37 : decode cX0_isOver 37 = .ok (.goto 4, 3) := by decide +kernel
theorem dX0_isOver_40 : decode cX0_isOver 40 = .ok (.iconst 0, 1) := by decide +kernel
theorem dX0_isOver_41 : decode cX0_isOver 41 = .ok (.ireturn, 1) := by decide +kernel
set_option maxRecDepth 20000 in
theorem ggX0_placeBehind_X0_isPlan : GoodIn wsX0_placeBehind wsX0_isPlan := goodIn_r _ [6, 7, 13, 14, 15, 16, 17, 18, 19, 20, 21, 22] rfl (by decide +kernel)
set_option maxRecDepth 20000 in
theorem gX0_placeBehind_X0_isPlan : GoodIn wsX0_placeBehind (wsV RX0 58 RX0 yX0_isPlan wsX0_isPlan) := goodIn_app (goodIn_of _ (by decide +kernel)) ggX0_placeBehind_X0_isPlan
set_option maxRecDepth 20000 in
theorem ggX0_placeBehind_X0_groupsIn : GoodIn wsX0_placeBehind wsX0_groupsIn := goodIn_r _ [11, 12, 13, 14, 15, 16, 17, 18, 19, 20, 21, 22] rfl (by decide +kernel)
set_option maxRecDepth 20000 in
theorem gX0_placeBehind_X0_groupsIn : GoodIn wsX0_placeBehind (wsV RX0 61 RX0 yX0_groupsIn wsX0_groupsIn) := goodIn_app (goodIn_of _ (by decide +kernel)) ggX0_placeBehind_X0_groupsIn
theorem dX0_placeBehind_0 : decode cX0_placeBehind 0 = .ok (.iload_n 1, 1) := by decide +kernel
theorem dX0_placeBehind_1 : decode cX0_placeBehind 1 = .ok (.iconst 5, 1) := by decide +kernel
theorem dX0_placeBehind_2 : decode cX0_placeBehind 2 = .ok (.idiv, 1) := by decide +kernel
theorem dX0_placeBehind_3 : decode cX0_placeBehind 3 = .ok (.istore_n 3, 1) := by decide +kernel
theorem dX0_placeBehind_4 : decode cX0_placeBehind 4 = .ok (.aload_n 0, 1) := by decide +kernel
theorem dX0_placeBehind_5 : decode cX0_placeBehind 5 = .ok (.iload_n 3, 1) := by decide +kernel
theorem dX0_placeBehind_6 : decode cX0_placeBehind 6 = .ok (.invokevirtual 58, 3) := by decide +kernel
theorem dX0_placeBehind_9 : decode cX0_placeBehind 9 = .ok (.ifCond .ne 5, 3) := by decide +kernel
theorem dX0_placeBehind_12 : decode cX0_placeBehind 12 = .ok (.iload_n 1, 1) := by decide +kernel
theorem dX0_placeBehind_13 : decode cX0_placeBehind 13 = .ok (.ireturn, 1) := by decide +kernel
theorem dX0_placeBehind_14 : decode cX0_placeBehind 14 = .ok (.iload_n 3, 1) := by decide +kernel
theorem dX0_placeBehind_15 : decode cX0_placeBehind 15 = .ok (.iconst 5, 1) := by decide +kernel
theorem dX0_placeBehind_16 : decode cX0_placeBehind 16 = .ok (.imul, 1) := by decide +kernel
theorem dX0_placeBehind_17 : decode cX0_placeBehind 17 = .ok (.istore 4, 2) := by decide +kernel
theorem dX0_placeBehind_19 : decode cX0_placeBehind 19 = .ok (.iload 4, 2) := by decide +kernel
theorem dX0_placeBehind_21 : decode cX0_placeBehind 21 = .ok (.aload_n 0, 1) := by decide +kernel
theorem dX0_placeBehind_22 : decode cX0_placeBehind 22 = .ok (.getfield 24, 3) := by decide +kernel
theorem dX0_placeBehind_25 : decode cX0_placeBehind 25 = .ok (.iload_n 3, 1) := by decide +kernel
theorem dX0_placeBehind_26 : decode cX0_placeBehind 26 = .ok (.iaload, 1) := by decide +kernel
theorem dX0_placeBehind_27 : decode cX0_placeBehind 27 = .ok (.iadd, 1) := by decide +kernel
theorem dX0_placeBehind_28 : decode cX0_placeBehind 28 = .ok (.istore 5, 2) := by decide +kernel
theorem dX0_placeBehind_30 : decode cX0_placeBehind 30 = .ok (.iload_n 1, 1) := by decide +kernel
theorem dX0_placeBehind_31 : decode cX0_placeBehind 31 = .ok (.istore 6, 2) := by decide +kernel
theorem dX0_placeBehind_33 : decode cX0_placeBehind 33 = .ok (.iload 4, 2) := by decide +kernel
theorem dX0_placeBehind_35 : decode cX0_placeBehind 35 = .ok (.istore 7, 2) := by decide +kernel
theorem dX0_placeBehind_37 : decode cX0_placeBehind 37 = .ok (.iload 7, 2) := by decide +kernel
theorem dX0_placeBehind_39 : decode cX0_placeBehind 39 = .ok (.iload 5, 2) := by decide +kernel
theorem dX0_placeBehind_41 : decode cX0_placeBehind 41 = .ok (.if_icmp .ge 43, 3) := by decide +kernel
theorem dX0_placeBehind_44 : decode cX0_placeBehind 44 = .ok (.iload 6, 2) := by decide +kernel
theorem dX0_placeBehind_46 : decode cX0_placeBehind 46 = .ok (.iconst 1, 1) := by decide +kernel
theorem dX0_placeBehind_47 : decode cX0_placeBehind 47 = .ok (.iadd, 1) := by decide +kernel
theorem dX0_placeBehind_48 : decode cX0_placeBehind 48 = .ok (.iload 5, 2) := by decide +kernel
theorem dX0_placeBehind_50 : decode cX0_placeBehind 50 = .ok (.if_icmp .ge 10, 3) := by decide +kernel
theorem dX0_placeBehind_53 : decode cX0_placeBehind 53 = .ok (.iload 6, 2) := by decide +kernel
theorem dX0_placeBehind_55 : decode cX0_placeBehind 55 = .ok (.iconst 1, 1) := by decide +kernel
theorem dX0_placeBehind_56 : decode cX0_placeBehind 56 = .ok (.iadd, 1) := by decide +kernel
theorem dX0_placeBehind_57 : decode cX0_placeBehind 57 = .ok (.goto 5, 3) := by decide +kernel
theorem dX0_placeBehind_60 : decode cX0_placeBehind 60 = .ok (.iload 4, 2) := by decide +kernel
theorem dX0_placeBehind_62 : decode cX0_placeBehind 62 = .ok (.istore 6, 2) := by decide +kernel
theorem dX0_placeBehind_64 : decode cX0_placeBehind 64 = .ok (.aload_n 0, 1) := by decide +kernel
theorem dX0_placeBehind_65 : decode cX0_placeBehind 65 = .ok (.iload 6, 2) := by decide +kernel
theorem dX0_placeBehind_67 : decode cX0_placeBehind 67 = .ok (.invokevirtual 61, 3) := by decide +kernel
theorem dX0_placeBehind_70 : decode cX0_placeBehind 70 = .ok (.iload_n 2, 1) := by decide +kernel
theorem dX0_placeBehind_71 : decode cX0_placeBehind 71 = .ok (.iand, 1) := by decide +kernel
theorem dX0_placeBehind_72 : decode cX0_placeBehind 72 = .ok (.ifCond .eq 6, 3) := by decide +kernel
theorem dX0_placeBehind_75 : decode cX0_placeBehind 75 = .ok (.iload 6, 2) := by decide +kernel
theorem dX0_placeBehind_77 : decode cX0_placeBehind 77 = .ok (.ireturn, 1) := by decide +kernel
theorem dX0_placeBehind_78 : decode cX0_placeBehind 78 = .ok (.iinc 7 1, 3) := by decide +kernel
theorem dX0_placeBehind_81 : decode cX0_placeBehind 81 = .ok (.goto (-44), 3) := by decide +kernel
theorem dX0_placeBehind_84 : decode cX0_placeBehind 84 = .ok (.iload_n 1, 1) := by decide +kernel
theorem dX0_placeBehind_85 : decode cX0_placeBehind 85 = .ok (.iconst 1, 1) := by decide +kernel
theorem dX0_placeBehind_86 : decode cX0_placeBehind 86 = .ok (.iadd, 1) := by decide +kernel
theorem dX0_placeBehind_87 : decode cX0_placeBehind 87 = .ok (.iload 5, 2) := by decide +kernel
theorem dX0_placeBehind_89 : decode cX0_placeBehind 89 = .ok (.if_icmp .ge 9, 3) := by decide +kernel
theorem dX0_placeBehind_92 : decode cX0_placeBehind 92 = .ok (.iload_n 1, 1) := by decide +kernel
theorem dX0_placeBehind_93 : decode cX0_placeBehind 93 = .ok (.iconst 1, 1) := by decide +kernel
theorem dX0_placeBehind_94 : decode cX0_placeBehind 94 = .ok (.iadd, 1) := by decide +kernel
theorem dX0_placeBehind_95 : decode cX0_placeBehind 95 = .ok (.goto 5, 3) := by decide +kernel
theorem dX0_placeBehind_98 : decode cX0_placeBehind 98 = .ok (.iload 4, 2) := by decide +kernel
theorem dX0_placeBehind_100 : decode cX0_placeBehind 100 = .ok (.ireturn, 1) := by decide +kernel
theorem dX0_clearing_0 : decode cX0_clearing 0 = .ok (.iconst 0, 1) := by decide +kernel
theorem dX0_clearing_1 : decode cX0_clearing 1 = .ok (.istore_n 3, 1) := by decide +kernel
theorem dX0_clearing_2 : decode cX0_clearing 2 = .ok (.iconst 0, 1) := by decide +kernel
theorem dX0_clearing_3 : decode cX0_clearing 3 = .ok (.istore 4, 2) := by decide +kernel
theorem dX0_clearing_5 : decode cX0_clearing 5 = .ok (.iload 4, 2) := by decide +kernel
theorem dX0_clearing_7 : decode cX0_clearing 7 = .ok (.aload_n 0, 1) := by decide +kernel
theorem dX0_clearing_8 : decode cX0_clearing 8 = .ok (.getfield 36, 3) := by decide +kernel
theorem dX0_clearing_11 : decode cX0_clearing 11 = .ok (.if_icmp .ge 88, 3) := by decide +kernel
theorem dX0_clearing_14 : decode cX0_clearing 14 = .ok (.iconst 0, 1) := by decide +kernel
theorem dX0_clearing_15 : decode cX0_clearing 15 = .ok (.istore 5, 2) := by decide +kernel
theorem dX0_clearing_17 : decode cX0_clearing 17 = .ok (.iload 5, 2) := by decide +kernel
theorem dX0_clearing_19 : decode cX0_clearing 19 = .ok (.aload_n 0, 1) := by decide +kernel
theorem dX0_clearing_20 : decode cX0_clearing 20 = .ok (.getfield 36, 3) := by decide +kernel
theorem dX0_clearing_23 : decode cX0_clearing 23 = .ok (.if_icmp .ge 70, 3) := by decide +kernel
theorem dX0_clearing_26 : decode cX0_clearing 26 = .ok (.iload_n 1, 1) := by decide +kernel
theorem dX0_clearing_27 : decode cX0_clearing 27 = .ok (.iload 4, 2) := by decide +kernel
theorem dX0_clearing_29 : decode cX0_clearing 29 = .ok (.ishr, 1) := by decide +kernel
theorem dX0_clearing_30 : decode cX0_clearing 30 = .ok (.iconst 1, 1) := by decide +kernel
theorem dX0_clearing_31 : decode cX0_clearing 31 = .ok (.iand, 1) := by decide +kernel
theorem dX0_clearing_32 : decode cX0_clearing 32 = .ok (.ifCond .eq 16, 3) := by decide +kernel
theorem dX0_clearing_35 : decode cX0_clearing 35 = .ok (.iload_n 2, 1) := by decide +kernel
theorem dX0_clearing_36 : decode cX0_clearing 36 = .ok (.iload 5, 2) := by decide +kernel
theorem dX0_clearing_38 : decode cX0_clearing 38 = .ok (.ishr, 1) := by decide +kernel
theorem dX0_clearing_39 : decode cX0_clearing 39 = .ok (.iconst 1, 1) := by decide +kernel
theorem dX0_clearing_40 : decode cX0_clearing 40 = .ok (.iand, 1) := by decide +kernel
theorem dX0_clearing_41 : decode cX0_clearing 41 = .ok (.ifCond .eq 7, 3) := by decide +kernel
theorem dX0_clearing_44 : decode cX0_clearing 44 = .ok (.iconst 1, 1) := by decide +kernel
theorem dX0_clearing_45 : decode cX0_clearing 45 = .ok (.goto 4, 3) := by decide +kernel
theorem dX0_clearing_48 : decode cX0_clearing 48 = .ok (.iconst 0, 1) := by decide +kernel
theorem dX0_clearing_49 : decode cX0_clearing 49 = .ok (.istore 6, 2) := by decide +kernel
theorem dX0_clearing_51 : decode cX0_clearing 51 = .ok (.iload 6, 2) := by decide +kernel
theorem dX0_clearing_53 : decode cX0_clearing 53 = .ok (.ifCond .eq 34, 3) := by decide +kernel
theorem dX0_clearing_56 : decode cX0_clearing 56 = .ok (.aload_n 0, 1) := by decide +kernel
theorem dX0_clearing_57 : decode cX0_clearing 57 = .ok (.getfield 15, 3) := by decide +kernel
theorem dX0_clearing_60 : decode cX0_clearing 60 = .ok (.iload 4, 2) := by decide +kernel
theorem dX0_clearing_62 : decode cX0_clearing 62 = .ok (.bipush 6, 2) := by decide +kernel
theorem dX0_clearing_64 : decode cX0_clearing 64 = .ok (.imul, 1) := by decide +kernel
theorem dX0_clearing_65 : decode cX0_clearing 65 = .ok (.iload 5, 2) := by decide +kernel
theorem dX0_clearing_67 : decode cX0_clearing 67 = .ok (.iadd, 1) := by decide +kernel
theorem dX0_clearing_68 : decode cX0_clearing 68 = .ok (.iaload, 1) := by decide +kernel
theorem dX0_clearing_69 : decode cX0_clearing 69 = .ok (.iload_n 3, 1) := by decide +kernel
theorem dX0_clearing_70 : decode cX0_clearing 70 = .ok (.if_icmp .le 17, 3) := by decide +kernel
theorem dX0_clearing_73 : decode cX0_clearing 73 = .ok (.aload_n 0, 1) := by decide +kernel
theorem dX0_clearing_74 : decode cX0_clearing 74 = .ok (.getfield 15, 3) := by decide +kernel
theorem dX0_clearing_77 : decode cX0_clearing 77 = .ok (.iload 4, 2) := by decide +kernel
theorem dX0_clearing_79 : decode cX0_clearing 79 = .ok (.bipush 6, 2) := by decide +kernel
theorem dX0_clearing_81 : decode cX0_clearing 81 = .ok (.imul, 1) := by decide +kernel
theorem dX0_clearing_82 : decode cX0_clearing 82 = .ok (.iload 5, 2) := by decide +kernel
theorem dX0_clearing_84 : decode cX0_clearing 84 = .ok (.iadd, 1) := by decide +kernel
theorem dX0_clearing_85 : decode cX0_clearing 85 = .ok (.iaload, 1) := by decide +kernel
theorem dX0_clearing_86 : decode cX0_clearing 86 = .ok (.istore_n 3, 1) := by decide +kernel
theorem dX0_clearing_87 : decode cX0_clearing 87 = .ok (.iinc 5 1, 3) := by decide +kernel
theorem dX0_clearing_90 : decode cX0_clearing 90 = .ok (.goto (-73), 3) := by decide +kernel
theorem dX0_clearing_93 : decode cX0_clearing 93 = .ok (.iinc 4 1, 3) := by decide +kernel
theorem dX0_clearing_96 : decode cX0_clearing 96 = .ok (.goto (-91), 3) := by decide +kernel
theorem dX0_clearing_99 : decode cX0_clearing 99 = .ok (.iload_n 3, 1) := by decide +kernel
theorem dX0_clearing_100 : decode cX0_clearing 100 = .ok (.ireturn, 1) := by decide +kernel
