theorem dX3_init_0 : decode cX3_init 0 = .ok (.aload_n 0, 1) := by decide +kernel
theorem dX3_init_1 : decode cX3_init 1 = .ok (.invokespecial 3, 3) := by decide +kernel
theorem dX3_init_4 : decode cX3_init 4 = .ok (.aload_n 0, 1) := by decide +kernel
theorem dX3_init_5 : decode cX3_init 5 = .ok (.bipush 60, 2) := by decide +kernel
theorem dX3_init_7 : decode cX3_init 7 = .ok (.newarray .int, 2) := by decide +kernel
theorem dX3_init_9 : decode cX3_init 9 = .ok (.putfield 9, 3) := by decide +kernel
theorem dX3_init_12 : decode cX3_init 12 = .ok (.aload_n 0, 1) := by decide +kernel
theorem dX3_init_13 : decode cX3_init 13 = .ok (.iconst 5, 1) := by decide +kernel
theorem dX3_init_14 : decode cX3_init 14 = .ok (.newarray .int, 2) := by decide +kernel
theorem dX3_init_16 : decode cX3_init 16 = .ok (.putfield 15, 3) := by decide +kernel
theorem dX3_init_19 : decode cX3_init 19 = .ok (.aload_n 0, 1) := by decide +kernel
theorem dX3_init_20 : decode cX3_init 20 = .ok (.iconst 5, 1) := by decide +kernel
theorem dX3_init_21 : decode cX3_init 21 = .ok (.newarray .int, 2) := by decide +kernel
theorem dX3_init_23 : decode cX3_init 23 = .ok (.putfield 18, 3) := by decide +kernel
theorem dX3_init_26 : decode cX3_init 26 = .ok (.aload_n 0, 1) := by decide +kernel
theorem dX3_init_27 : decode cX3_init 27 = .ok (.iconst 5, 1) := by decide +kernel
theorem dX3_init_28 : decode cX3_init 28 = .ok (.newarray .int, 2) := by decide +kernel
theorem dX3_init_30 : decode cX3_init 30 = .ok (.putfield 21, 3) := by decide +kernel
theorem dX3_init_33 : decode cX3_init 33 = .ok (.return_, 1) := by decide +kernel
theorem dX3_collect_0 : decode cX3_collect 0 = .ok (.iload_n 1, 1) := by decide +kernel
theorem dX3_collect_1 : decode cX3_collect 1 = .ok (.bipush 32, 2) := by decide +kernel
theorem dX3_collect_3 : decode cX3_collect 3 = .ok (.if_icmp .lt 18, 3) := by decide +kernel
theorem dX3_collect_6 : decode cX3_collect 6 = .ok (.iload_n 1, 1) := by decide +kernel
theorem dX3_collect_7 : decode cX3_collect 7 = .ok (.bipush 126, 2) := by decide +kernel
theorem dX3_collect_9 : decode cX3_collect 9 = .ok (.if_icmp .gt 12, 3) := by decide +kernel
theorem dX3_collect_12 : decode cX3_collect 12 = .ok (.aload_n 0, 1) := by decide +kernel
theorem dX3_collect_13 : decode cX3_collect 13 = .ok (.getfield 24, 3) := by decide +kernel
theorem dX3_collect_16 : decode cX3_collect 16 = .ok (.bipush 60, 2) := by decide +kernel
theorem dX3_collect_18 : decode cX3_collect 18 = .ok (.if_icmp .lt 5, 3) := by decide +kernel
theorem dX3_collect_21 : decode cX3_collect 21 = .ok (.iconst 0, 1) := by decide +kernel
theorem dX3_collect_22 : decode cX3_collect 22 = .ok (.ireturn, 1) := by decide +kernel
theorem dX3_collect_23 : decode cX3_collect 23 = .ok (.aload_n 0, 1) := by decide +kernel
theorem dX3_collect_24 : decode cX3_collect 24 = .ok (.getfield 9, 3) := by decide +kernel
theorem dX3_collect_27 : decode cX3_collect 27 = .ok (.aload_n 0, 1) := by decide +kernel
theorem dX3_collect_28 : decode cX3_collect 28 = .ok (.getfield 24, 3) := by decide +kernel
theorem dX3_collect_31 : decode cX3_collect 31 = .ok (.iload_n 1, 1) := by decide +kernel
theorem dX3_collect_32 : decode cX3_collect 32 = .ok (.iastore, 1) := by decide +kernel
theorem dX3_collect_33 : decode cX3_collect 33 = .ok (.aload_n 0, 1) := by decide +kernel
theorem dX3_collect_34 : decode cX3_collect 34 = .ok (.dup, 1) := by decide +kernel
theorem dX3_collect_35 : decode cX3_collect 35 = .ok (.getfield 24, 3) := by decide +kernel
theorem dX3_collect_38 : decode cX3_collect 38 = .ok (.iconst 1, 1) := by decide +kernel
theorem dX3_collect_39 : decode cX3_collect 39 = .ok (.iadd, 1) := by decide +kernel
theorem dX3_collect_40 : decode cX3_collect 40 = .ok (.putfield 24, 3) := by decide +kernel
theorem dX3_collect_43 : decode cX3_collect 43 = .ok (.iconst 1, 1) := by decide +kernel
theorem dX3_collect_44 : decode cX3_collect 44 = .ok (.ireturn, 1) := by decide +kernel
set_option maxRecDepth 20000 in
theorem ggX3_parse_X3_parsePhase : GoodIn wsX3_parse wsX3_parsePhase := goodIn_r _ [7, 8, 9, 10, 11, 12, 13, 6, 14, 1, 2, 15, 16, 17, 18, 19, 20, 21, 22, 23, 24, 25, 26, 27, 28, 29, 30, 31, 32, 33, 34, 35, 36] rfl (by decide +kernel)
set_option maxRecDepth 20000 in
theorem gX3_parse_X3_parsePhase : GoodIn wsX3_parse (wsV RX3 28 RX3 yX3_parsePhase wsX3_parsePhase) := goodIn_app (goodIn_of _ (by decide +kernel)) ggX3_parse_X3_parsePhase
theorem dX3_parse_0 : decode cX3_parse 0 = .ok (.iconst 0, 1) := by decide +kernel
theorem dX3_parse_1 : decode cX3_parse 1 = .ok (.istore_n 2, 1) := by decide +kernel
theorem dX3_parse_2 : decode cX3_parse 2 = .ok (.iconst 0, 1) := by decide +kernel
theorem dX3_parse_3 : decode cX3_parse 3 = .ok (.istore_n 3, 1) := by decide +kernel
theorem dX3_parse_4 : decode cX3_parse 4 = .ok (.iload_n 3, 1) := by decide +kernel
theorem dX3_parse_5 : decode cX3_parse 5 = .ok (.iconst 5, 1) := by decide +kernel
theorem dX3_parse_6 : decode cX3_parse 6 = .ok (.if_icmp .ge 58, 3) := by decide +kernel
theorem dX3_parse_9 : decode cX3_parse 9 = .ok (.aload_n 0, 1) := by decide +kernel
theorem dX3_parse_10 : decode cX3_parse 10 = .ok (.iload_n 3, 1) := by decide +kernel
theorem dX3_parse_11 : decode cX3_parse 11 = .ok (.iload_n 2, 1) := by decide +kernel
theorem dX3_parse_12 : decode cX3_parse 12 = .ok (.iload_n 1, 1) := by decide +kernel
theorem dX3_parse_13 : decode cX3_parse 13 = .ok (.invokevirtual 28, 3) := by decide +kernel
theorem dX3_parse_16 : decode cX3_parse 16 = .ok (.istore_n 2, 1) := by decide +kernel
theorem dX3_parse_17 : decode cX3_parse 17 = .ok (.iload_n 2, 1) := by decide +kernel
theorem dX3_parse_18 : decode cX3_parse 18 = .ok (.ifCond .ge 5, 3) := by decide +kernel
theorem dX3_parse_21 : decode cX3_parse 21 = .ok (.iload_n 2, 1) := by decide +kernel
theorem dX3_parse_22 : decode cX3_parse 22 = .ok (.ireturn, 1) := by decide +kernel
theorem dX3_parse_23 : decode cX3_parse 23 = .ok (.iload_n 2, 1) := by decide +kernel
theorem dX3_parse_24 : decode cX3_parse 24 = .ok (.aload_n 0, 1) := by decide +kernel
theorem dX3_parse_25 : decode cX3_parse 25 = .ok (.getfield 24, 3) := by decide +kernel
theorem dX3_parse_28 : decode cX3_parse 28 = .ok (.if_icmp .lt 7, 3) := by decide +kernel
theorem dX3_parse_31 : decode cX3_parse 31 = .ok (.iload_n 3, 1) := by decide +kernel
theorem dX3_parse_32 : decode cX3_parse 32 = .ok (.iconst 1, 1) := by decide +kernel
theorem dX3_parse_33 : decode cX3_parse 33 = .ok (.iadd, 1) := by decide +kernel
theorem dX3_parse_34 : decode cX3_parse 34 = .ok (.ireturn, 1) := by decide +kernel
theorem dX3_parse_35 : decode cX3_parse 35 = .ok (.aload_n 0, 1) := by decide +kernel
theorem dX3_parse_36 : decode cX3_parse 36 = .ok (.getfield 9, 3) := by decide +kernel
theorem dX3_parse_39 : decode cX3_parse 39 = .ok (.iload_n 2, 1) := by decide +kernel
theorem dX3_parse_40 : decode cX3_parse 40 = .ok (.iaload, 1) := by decide +kernel
theorem dX3_parse_41 : decode cX3_parse 41 = .ok (.bipush 59, 2) := by decide +kernel
theorem dX3_parse_43 : decode cX3_parse 43 = .ok (.if_icmp .ne 8, 3) := by decide +kernel
theorem dX3_parse_46 : decode cX3_parse 46 = .ok (.iload_n 3, 1) := by decide +kernel
theorem dX3_parse_47 : decode cX3_parse 47 = .ok (.iconst 4, 1) := by decide +kernel
theorem dX3_parse_48 : decode cX3_parse 48 = .ok (.if_icmp .ne 7, 3) := by decide +kernel
theorem dX3_parse_51 : decode cX3_parse 51 = .ok (.iconst (-1), 1) := by decide +kernel
theorem dX3_parse_52 : decode cX3_parse 52 = .ok (.iload_n 2, 1) := by decide +kernel
theorem dX3_parse_53 : decode cX3_parse 53 = .ok (.isub, 1) := by decide +kernel
theorem dX3_parse_54 : decode cX3_parse 54 = .ok (.ireturn, 1) := by decide +kernel
theorem dX3_parse_55 : decode cX3_parse 55 = .ok (.iinc 2 1, 3) := by decide +kernel
theorem dX3_parse_58 : decode cX3_parse 58 = .ok (.iinc 3 1, 3) := by decide +kernel
theorem dX3_parse_61 : decode cX3_parse 61 = .ok (.goto (-57), 3) := by decide +kernel
theorem dX3_parse_64 : decode cX3_parse 64 = .ok (.iconst (-1), 1) := by decide +kernel
theorem dX3_parse_65 : decode cX3_parse 65 = .ok (.iload_n 2, 1) := by decide +kernel
theorem dX3_parse_66 : decode cX3_parse 66 = .ok (.isub, 1) := by decide +kernel
theorem dX3_parse_67 : decode cX3_parse 67 = .ok (.ireturn, 1) := by decide +kernel
set_option maxRecDepth 20000 in
theorem ggX3_parsePhase_X3_parseLetters : GoodIn wsX3_parsePhase wsX3_parseLetters := goodIn_r _ [8, 9, 10, 11, 12, 13, 14, 7, 15, 16, 17, 18, 27, 28, 29, 30, 31, 32] rfl (by decide +kernel)
set_option maxRecDepth 20000 in
theorem gX3_parsePhase_X3_parseLetters : GoodIn wsX3_parsePhase (wsV RX3 32 RX3 yX3_parseLetters wsX3_parseLetters) := goodIn_app (goodIn_of _ (by decide +kernel)) ggX3_parsePhase_X3_parseLetters
set_option maxRecDepth 20000 in
theorem ggX3_parsePhase_X3_parseNumber : GoodIn wsX3_parsePhase wsX3_parseNumber := goodIn_r _ [22, 2, 9, 10, 23, 24, 25, 26, 12, 13, 14, 7, 15, 16, 17, 18, 27, 28, 29, 30, 31, 32] rfl (by decide +kernel)
set_option maxRecDepth 20000 in
theorem gX3_parsePhase_X3_parseNumber : GoodIn wsX3_parsePhase (wsV RX3 35 RX3 yX3_parseNumber wsX3_parseNumber) := goodIn_app (goodIn_of _ (by decide +kernel)) ggX3_parsePhase_X3_parseNumber
set_option maxRecDepth 20000 in
theorem ggX3_parsePhase_X3_signAt : GoodIn wsX3_parsePhase wsX3_signAt := goodIn_r _ [15, 9, 10, 27, 28, 29, 30, 31, 32] rfl (by decide +kernel)
set_option maxRecDepth 20000 in
theorem gX3_parsePhase_X3_signAt : GoodIn wsX3_parsePhase (wsV RX3 41 RX3 yX3_signAt wsX3_signAt) := goodIn_app (goodIn_of _ (by decide +kernel)) ggX3_parsePhase_X3_signAt
theorem dX3_parsePhase_0 : decode cX3_parsePhase 0 = .ok (.aload_n 0, 1) := by decide +kernel
theorem dX3_parsePhase_1 : decode cX3_parsePhase 1 = .ok (.iload_n 1, 1) := by decide +kernel
theorem dX3_parsePhase_2 : decode cX3_parsePhase 2 = .ok (.iload_n 2, 1) := by decide +kernel
theorem dX3_parsePhase_3 : decode cX3_parsePhase 3 = .ok (.iload_n 3, 1) := by decide +kernel
theorem dX3_parsePhase_4 : decode cX3_parsePhase 4 = .ok (.invokevirtual 32, 3) := by decide +kernel
theorem dX3_parsePhase_7 : decode cX3_parsePhase 7 = .ok (.istore 4, 2) := by decide +kernel
theorem dX3_parsePhase_9 : decode cX3_parsePhase 9 = .ok (.iload 4, 2) := by decide +kernel
theorem dX3_parsePhase_11 : decode cX3_parsePhase 11 = .ok (.ifCond .ge 6, 3) := by decide +kernel
theorem dX3_parsePhase_14 : decode cX3_parsePhase 14 = .ok (.iload 4, 2) := by decide +kernel
theorem dX3_parsePhase_16 : decode cX3_parsePhase 16 = .ok (.ireturn, 1) := by decide +kernel
theorem dX3_parsePhase_17 : decode cX3_parsePhase 17 = .ok (.aload_n 0, 1) := by decide +kernel
theorem dX3_parsePhase_18 : decode cX3_parsePhase 18 = .ok (.iload 4, 2) := by decide +kernel
theorem dX3_parsePhase_20 : decode cX3_parsePhase 20 = .ok (.iconst 1, 1) := by decide +kernel
theorem dX3_parsePhase_21 : decode cX3_parsePhase 21 = .ok (.bipush 15, 2) := by decide +kernel
theorem dX3_parsePhase_23 : decode cX3_parsePhase 23 = .ok (.invokevirtual 35, 3) := by decide +kernel
theorem dX3_parsePhase_26 : decode cX3_parsePhase 26 = .ok (.istore 4, 2) := by decide +kernel
theorem dX3_parsePhase_28 : decode cX3_parsePhase 28 = .ok (.iload 4, 2) := by decide +kernel
theorem dX3_parsePhase_30 : decode cX3_parsePhase 30 = .ok (.ifCond .ge 6, 3) := by decide +kernel
theorem dX3_parsePhase_33 : decode cX3_parsePhase 33 = .ok (.iload 4, 2) := by decide +kernel
theorem dX3_parsePhase_35 : decode cX3_parsePhase 35 = .ok (.ireturn, 1) := by decide +kernel
theorem dX3_parsePhase_36 : decode cX3_parsePhase 36 = .ok (.aload_n 0, 1) := by decide +kernel
theorem dX3_parsePhase_37 : decode cX3_parsePhase 37 = .ok (.getfield 18, 3) := by decide +kernel
theorem dX3_parsePhase_40 : decode cX3_parsePhase 40 = .ok (.iload_n 1, 1) := by decide +kernel
theorem dX3_parsePhase_41 : decode cX3_parsePhase 41 = .ok (.aload_n 0, 1) := by decide +kernel
theorem dX3_parsePhase_42 : decode cX3_parsePhase 42 = .ok (.getfield 38, 3) := by decide +kernel
theorem dX3_parsePhase_45 : decode cX3_parsePhase 45 = .ok (.iastore, 1) := by decide +kernel
theorem dX3_parsePhase_46 : decode cX3_parsePhase 46 = .ok (.aload_n 0, 1) := by decide +kernel
theorem dX3_parsePhase_47 : decode cX3_parsePhase 47 = .ok (.iload 4, 2) := by decide +kernel
theorem dX3_parsePhase_49 : decode cX3_parsePhase 49 = .ok (.invokevirtual 41, 3) := by decide +kernel
theorem dX3_parsePhase_52 : decode cX3_parsePhase 52 = .ok (.bipush 45, 2) := by decide +kernel
theorem dX3_parsePhase_54 : decode cX3_parsePhase 54 = .ok (.if_icmp .eq 8, 3) := by decide +kernel
theorem dX3_parsePhase_57 : decode cX3_parsePhase 57 = .ok (.iconst (-1), 1) := by decide +kernel
theorem dX3_parsePhase_58 : decode cX3_parsePhase 58 = .ok (.iload 4, 2) := by decide +kernel
theorem dX3_parsePhase_60 : decode cX3_parsePhase 60 = .ok (.isub, 1) := by decide +kernel
theorem dX3_parsePhase_61 : decode cX3_parsePhase 61 = .ok (.ireturn, 1) := by decide +kernel
theorem dX3_parsePhase_62 : decode cX3_parsePhase 62 = .ok (.aload_n 0, 1) := by decide +kernel
theorem dX3_parsePhase_63 : decode cX3_parsePhase 63 = .ok (.iload 4, 2) := by decide +kernel
theorem dX3_parsePhase_65 : decode cX3_parsePhase 65 = .ok (.iconst 1, 1) := by decide +kernel
theorem dX3_parsePhase_66 : decode cX3_parsePhase 66 = .ok (.iadd, 1) := by decide +kernel
theorem dX3_parsePhase_67 : decode cX3_parsePhase 67 = .ok (.aload_n 0, 1) := by decide +kernel
theorem dX3_parsePhase_68 : decode cX3_parsePhase 68 = .ok (.getfield 38, 3) := by decide +kernel
theorem dX3_parsePhase_71 : decode cX3_parsePhase 71 = .ok (.bipush 31, 2) := by decide +kernel
theorem dX3_parsePhase_73 : decode cX3_parsePhase 73 = .ok (.invokevirtual 35, 3) := by decide +kernel
theorem dX3_parsePhase_76 : decode cX3_parsePhase 76 = .ok (.istore 4, 2) := by decide +kernel
theorem dX3_parsePhase_78 : decode cX3_parsePhase 78 = .ok (.aload_n 0, 1) := by decide +kernel
theorem dX3_parsePhase_79 : decode cX3_parsePhase 79 = .ok (.getfield 21, 3) := by decide +kernel
theorem dX3_parsePhase_82 : decode cX3_parsePhase 82 = .ok (.iload_n 1, 1) := by decide +kernel
theorem dX3_parsePhase_83 : decode cX3_parsePhase 83 = .ok (.aload_n 0, 1) := by decide +kernel
theorem dX3_parsePhase_84 : decode cX3_parsePhase 84 = .ok (.getfield 38, 3) := by decide +kernel
theorem dX3_parsePhase_87 : decode cX3_parsePhase 87 = .ok (.iastore, 1) := by decide +kernel
theorem dX3_parsePhase_88 : decode cX3_parsePhase 88 = .ok (.iload 4, 2) := by decide +kernel
theorem dX3_parsePhase_90 : decode cX3_parsePhase 90 = .ok (.ireturn, 1) := by decide +kernel
set_option maxRecDepth 20000 in
theorem ggX3_parseLetters_X3_signAt : GoodIn wsX3_parseLetters wsX3_signAt := goodIn_r _ [8, 1, 2, 12, 13, 14, 15, 16, 17] rfl (by decide +kernel)
set_option maxRecDepth 20000 in
theorem gX3_parseLetters_X3_signAt : GoodIn wsX3_parseLetters (wsV RX3 41 RX3 yX3_signAt wsX3_signAt) := goodIn_app (goodIn_of _ (by decide +kernel)) ggX3_parseLetters_X3_signAt
set_option maxRecDepth 20000 in
theorem ggX3_parseLetters_X3_isDigit : GoodIn wsX3_parseLetters wsX3_isDigit := goodIn_r _ [11] rfl (by decide +kernel)
set_option maxRecDepth 20000 in
theorem gX3_parseLetters_X3_isDigit : GoodIn wsX3_parseLetters (va_wsS RX3 45 yX3_isDigit wsX3_isDigit) := goodIn_app (goodIn_of _ (by decide +kernel)) ggX3_parseLetters_X3_isDigit
theorem dX3_parseLetters_0 : decode cX3_parseLetters 0 = .ok (.iconst 0, 1) := by decide +kernel
theorem dX3_parseLetters_1 : decode cX3_parseLetters 1 = .ok (.istore 4, 2) := by decide +kernel
theorem dX3_parseLetters_3 : decode cX3_parseLetters 3 = .ok (.iconst 0, 1) := by decide +kernel
theorem dX3_parseLetters_4 : decode cX3_parseLetters 4 = .ok (.istore 5, 2) := by decide +kernel
theorem dX3_parseLetters_6 : decode cX3_parseLetters 6 = .ok (.iload_n 2, 1) := by decide +kernel
theorem dX3_parseLetters_7 : decode cX3_parseLetters 7 = .ok (.istore 6, 2) := by decide +kernel
theorem dX3_parseLetters_9 : decode cX3_parseLetters 9 = .ok (.iload 6, 2) := by decide +kernel
theorem dX3_parseLetters_11 : decode cX3_parseLetters 11 = .ok (.aload_n 0, 1) := by decide +kernel
theorem dX3_parseLetters_12 : decode cX3_parseLetters 12 = .ok (.getfield 24, 3) := by decide +kernel
theorem dX3_parseLetters_15 : decode cX3_parseLetters 15 = .ok (.if_icmp .ge 52, 3) := by decide +kernel
theorem dX3_parseLetters_18 : decode cX3_parseLetters 18 = .ok (.aload_n 0, 1) := by decide +kernel
theorem dX3_parseLetters_19 : decode cX3_parseLetters 19 = .ok (.getfield 9, 3) := by decide +kernel
theorem dX3_parseLetters_22 : decode cX3_parseLetters 22 = .ok (.iload 6, 2) := by decide +kernel
theorem dX3_parseLetters_24 : decode cX3_parseLetters 24 = .ok (.iaload, 1) := by decide +kernel
theorem dX3_parseLetters_25 : decode cX3_parseLetters 25 = .ok (.bipush 65, 2) := by decide +kernel
theorem dX3_parseLetters_27 : decode cX3_parseLetters 27 = .ok (.isub, 1) := by decide +kernel
theorem dX3_parseLetters_28 : decode cX3_parseLetters 28 = .ok (.istore 7, 2) := by decide +kernel
theorem dX3_parseLetters_30 : decode cX3_parseLetters 30 = .ok (.iload 7, 2) := by decide +kernel
theorem dX3_parseLetters_32 : decode cX3_parseLetters 32 = .ok (.iload 5, 2) := by decide +kernel
theorem dX3_parseLetters_34 : decode cX3_parseLetters 34 = .ok (.if_icmp .lt 33, 3) := by decide +kernel
theorem dX3_parseLetters_37 : decode cX3_parseLetters 37 = .ok (.iload 7, 2) := by decide +kernel
theorem dX3_parseLetters_39 : decode cX3_parseLetters 39 = .ok (.iload_n 3, 1) := by decide +kernel
theorem dX3_parseLetters_40 : decode cX3_parseLetters 40 = .ok (.if_icmp .lt 6, 3) := by decide +kernel
theorem dX3_parseLetters_43 : decode cX3_parseLetters 43 = .ok (.goto 24, 3) := by decide +kernel
theorem dX3_parseLetters_46 : decode cX3_parseLetters 46 = .ok (.iload 4, 2) := by decide +kernel
theorem dX3_parseLetters_48 : decode cX3_parseLetters 48 = .ok (.iconst 1, 1) := by decide +kernel
theorem dX3_parseLetters_49 : decode cX3_parseLetters 49 = .ok (.iload 7, 2) := by decide +kernel
theorem dX3_parseLetters_51 : decode cX3_parseLetters 51 = .ok (.ishl, 1) := by decide +kernel
theorem dX3_parseLetters_52 : decode cX3_parseLetters 52 = .ok (.ior, 1) := by decide +kernel
theorem dX3_parseLetters_53 : decode cX3_parseLetters 53 = .ok (.istore 4, 2) := by decide +kernel
theorem dX3_parseLetters_55 : decode cX3_parseLetters 55 = .ok (.iload 7, 2) := by decide +kernel
theorem dX3_parseLetters_57 : decode cX3_parseLetters 57 = .ok (.iconst 1, 1) := by decide +kernel
theorem dX3_parseLetters_58 : decode cX3_parseLetters 58 = .ok (.iadd, 1) := by decide +kernel
theorem dX3_parseLetters_59 : decode cX3_parseLetters 59 = .ok (.istore 5, 2) := by decide +kernel
theorem dX3_parseLetters_61 : decode cX3_parseLetters 61 = .ok (.iinc 6 1, 3) := by decide +kernel
theorem dX3_parseLetters_64 : decode cX3_parseLetters 64 = .ok (.goto (-55), 3) := by decide +kernel
theorem dX3_parseLetters_67 : decode cX3_parseLetters 67 = .ok (.aload_n 0, 1) := by decide +kernel
theorem dX3_parseLetters_68 : decode cX3_parseLetters 68 = .ok (.getfield 15, 3) := by decide +kernel
theorem dX3_parseLetters_71 : decode cX3_parseLetters 71 = .ok (.iload_n 1, 1) := by decide +kernel
theorem dX3_parseLetters_72 : decode cX3_parseLetters 72 = .ok (.iload 4, 2) := by decide +kernel
theorem dX3_parseLetters_74 : decode cX3_parseLetters 74 = .ok (.iastore, 1) := by decide +kernel
theorem dX3_parseLetters_75 : decode cX3_parseLetters 75 = .ok (.iload 4, 2) := by decide +kernel
theorem dX3_parseLetters_77 : decode cX3_parseLetters 77 = .ok (.ifCond .eq 20, 3) := by decide +kernel
theorem dX3_parseLetters_80 : decode cX3_parseLetters 80 = .ok (.aload_n 0, 1) := by decide +kernel
theorem dX3_parseLetters_81 : decode cX3_parseLetters 81 = .ok (.iload 6, 2) := by decide +kernel
theorem dX3_parseLetters_83 : decode cX3_parseLetters 83 = .ok (.invokevirtual 41, 3) := by decide +kernel
theorem dX3_parseLetters_86 : decode cX3_parseLetters 86 = .ok (.invokestatic 45, 3) := by decide +kernel
theorem dX3_parseLetters_89 : decode cX3_parseLetters 89 = .ok (.ifCond .eq 8, 3) := by decide +kernel
theorem dX3_parseLetters_92 : decode cX3_parseLetters 92 = .ok (.iload 6, 2) := by decide +kernel
theorem dX3_parseLetters_94 : decode cX3_parseLetters 94 = .ok (.goto 7, 3) := by decide +kernel
theorem dX3_parseLetters_97 : decode cX3_parseLetters 97 = .ok (.iconst (-1), 1) := by decide +kernel
theorem dX3_parseLetters_98 : decode cX3_parseLetters 98 = .ok (.iload 6, 2) := by decide +kernel
theorem dX3_parseLetters_100 : decode cX3_parseLetters 100 = .ok (.isub, 1) := by decide +kernel
theorem dX3_parseLetters_101 : decode cX3_parseLetters 101 = .ok (.ireturn, 1) := by decide +kernel
set_option maxRecDepth 20000 in
theorem ggX3_parseNumber_X3_signAt : GoodIn wsX3_parseNumber wsX3_signAt := goodIn_r _ [12, 2, 3, 16, 17, 18, 19, 20, 21] rfl (by decide +kernel)
set_option maxRecDepth 20000 in
theorem gX3_parseNumber_X3_signAt : GoodIn wsX3_parseNumber (wsV RX3 41 RX3 yX3_signAt wsX3_signAt) := goodIn_app (goodIn_of _ (by decide +kernel)) ggX3_parseNumber_X3_signAt
set_option maxRecDepth 20000 in
theorem ggX3_parseNumber_X3_isDigit : GoodIn wsX3_parseNumber wsX3_isDigit := goodIn_r _ [15] rfl (by decide +kernel)
set_option maxRecDepth 20000 in
theorem gX3_parseNumber_X3_isDigit : GoodIn wsX3_parseNumber (va_wsS RX3 45 yX3_isDigit wsX3_isDigit) := goodIn_app (goodIn_of _ (by decide +kernel)) ggX3_parseNumber_X3_isDigit
theorem dX3_parseNumber_0 : decode cX3_parseNumber 0 = .ok (.aload_n 0, 1) := by decide +kernel
theorem dX3_parseNumber_1 : decode cX3_parseNumber 1 = .ok (.iconst 0, 1) := by decide +kernel
theorem dX3_parseNumber_2 : decode cX3_parseNumber 2 = .ok (.putfield 38, 3) := by decide +kernel
theorem dX3_parseNumber_5 : decode cX3_parseNumber 5 = .ok (.aload_n 0, 1) := by decide +kernel
theorem dX3_parseNumber_6 : decode cX3_parseNumber 6 = .ok (.iload_n 1, 1) := by decide +kernel
theorem dX3_parseNumber_7 : decode cX3_parseNumber 7 = .ok (.invokevirtual 41, 3) := by decide +kernel
theorem dX3_parseNumber_10 : decode cX3_parseNumber 10 = .ok (.bipush 48, 2) := by decide +kernel
theorem dX3_parseNumber_12 : decode cX3_parseNumber 12 = .ok (.if_icmp .ne 7, 3) := by decide +kernel
theorem dX3_parseNumber_15 : decode cX3_parseNumber 15 = .ok (.iconst (-1), 1) := by decide +kernel
theorem dX3_parseNumber_16 : decode cX3_parseNumber 16 = .ok (.iload_n 1, 1) := by decide +kernel
theorem dX3_parseNumber_17 : decode cX3_parseNumber 17 = .ok (.isub, 1) := by decide +kernel
theorem dX3_parseNumber_18 : decode cX3_parseNumber 18 = .ok (.ireturn, 1) := by decide +kernel
theorem dX3_parseNumber_19 : decode cX3_parseNumber 19 = .ok (.iload_n 1, 1) := by decide +kernel
theorem dX3_parseNumber_20 : decode cX3_parseNumber 20 = .ok (.istore 4, 2) := by decide +kernel
theorem dX3_parseNumber_22 : decode cX3_parseNumber 22 = .ok (.iload 4, 2) := by decide +kernel
theorem dX3_parseNumber_24 : decode cX3_parseNumber 24 = .ok (.aload_n 0, 1) := by decide +kernel
theorem dX3_parseNumber_25 : decode cX3_parseNumber 25 = .ok (.getfield 24, 3) := by decide +kernel
theorem dX3_parseNumber_28 : decode cX3_parseNumber 28 = .ok (.if_icmp .ge 49, 3) := by decide +kernel
theorem dX3_parseNumber_31 : decode cX3_parseNumber 31 = .ok (.aload_n 0, 1) := by decide +kernel
theorem dX3_parseNumber_32 : decode cX3_parseNumber 32 = .ok (.getfield 9, 3) := by decide +kernel
theorem dX3_parseNumber_35 : decode cX3_parseNumber 35 = .ok (.iload 4, 2) := by decide +kernel
theorem dX3_parseNumber_37 : decode cX3_parseNumber 37 = .ok (.iaload, 1) := by decide +kernel
theorem dX3_parseNumber_38 : decode cX3_parseNumber 38 = .ok (.invokestatic 45, 3) := by decide +kernel
theorem dX3_parseNumber_41 : decode cX3_parseNumber 41 = .ok (.ifCond .eq 36, 3) := by decide +kernel
theorem dX3_parseNumber_44 : decode cX3_parseNumber 44 = .ok (.aload_n 0, 1) := by decide +kernel
theorem dX3_parseNumber_45 : decode cX3_parseNumber 45 = .ok (.aload_n 0, 1) := by decide +kernel
theorem dX3_parseNumber_46 : decode cX3_parseNumber 46 = .ok (.getfield 38, 3) := by decide +kernel
theorem dX3_parseNumber_49 : decode cX3_parseNumber 49 = .ok (.bipush 10, 2) := by decide +kernel
theorem dX3_parseNumber_51 : decode cX3_parseNumber 51 = .ok (.imul, 1) := by decide +kernel
theorem dX3_parseNumber_52 : decode cX3_parseNumber 52 = .ok (.aload_n 0, 1) := by decide +kernel
theorem dX3_parseNumber_53 : decode cX3_parseNumber 53 = .ok (.getfield 9, 3) := by decide +kernel
theorem dX3_parseNumber_56 : decode cX3_parseNumber 56 = .ok (.iload 4, 2) := by decide +kernel
theorem dX3_parseNumber_58 : decode cX3_parseNumber 58 = .ok (.iaload, 1) := by decide +kernel
theorem dX3_parseNumber_59 : decode cX3_parseNumber 59 = .ok (.iadd, 1) := by decide +kernel
theorem dX3_parseNumber_60 : decode cX3_parseNumber 60 = .ok (.bipush 48, 2) := by decide +kernel
theorem dX3_parseNumber_62 : decode cX3_parseNumber 62 = .ok (.isub, 1) := by decide +kernel
theorem dX3_parseNumber_63 : decode cX3_parseNumber 63 = .ok (.bipush 32, 2) := by decide +kernel
theorem dX3_parseNumber_65 : decode cX3_parseNumber 65 = .ok (.invokestatic 49, 3) := by decide +kernel
theorem dX3_parseNumber_68 : decode cX3_parseNumber 68 = .ok (.putfield 38, 3) := by decide +kernel
theorem dX3_parseNumber_71 : decode cX3_parseNumber 71 = .ok (.iinc 4 1, 3) := by decide +kernel
theorem dX3_parseNumber_74 : decode cX3_parseNumber 74 = .ok (.goto (-52), 3) := by decide +kernel
theorem dX3_parseNumber_77 : decode cX3_parseNumber 77 = .ok (.aload_n 0, 1) := by decide +kernel
theorem dX3_parseNumber_78 : decode cX3_parseNumber 78 = .ok (.getfield 38, 3) := by decide +kernel
theorem dX3_parseNumber_81 : decode cX3_parseNumber 81 = .ok (.iload_n 2, 1) := by decide +kernel
theorem dX3_parseNumber_82 : decode cX3_parseNumber 82 = .ok (.if_icmp .lt 11, 3) := by decide +kernel
theorem dX3_parseNumber_85 : decode cX3_parseNumber 85 = .ok (.aload_n 0, 1) := by decide +kernel
theorem dX3_parseNumber_86 : decode cX3_parseNumber 86 = .ok (.getfield 38, 3) := by decide +kernel
theorem dX3_parseNumber_89 : decode cX3_parseNumber 89 = .ok (.iload_n 3, 1) := by decide +kernel
theorem dX3_parseNumber_90 : decode cX3_parseNumber 90 = .ok (.if_icmp .le 9, 3) := by decide +kernel
theorem dX3_parseNumber_93 : decode cX3_parseNumber 93 = .ok (.iconst (-1), 1) := by decide +kernel
theorem dX3_parseNumber_94 : decode cX3_parseNumber 94 = .ok (.iload_n 1, 1) := by decide +kernel
theorem dX3_parseNumber_95 : decode cX3_parseNumber 95 = .ok (.isub, 1) := by decide +kernel
theorem dX3_parseNumber_96 : decode cX3_parseNumber 96 = .ok (.goto 5, 3) := by decide +kernel
theorem dX3_parseNumber_99 : decode cX3_parseNumber 99 = .ok (.iload 4, 2) := by decide +kernel
theorem dX3_parseNumber_101 : decode cX3_parseNumber 101 = .ok (.ireturn, 1) := by decide +kernel
theorem dX3_signAt_0 : decode cX3_signAt 0 = .ok (.iload_n 1, 1) := by decide +kernel
theorem dX3_signAt_1 : decode cX3_signAt 1 = .ok (.ifCond .lt 20, 3) := by decide +kernel
theorem dX3_signAt_4 : decode cX3_signAt 4 = .ok (.iload_n 1, 1) := by decide +kernel
theorem dX3_signAt_5 : decode cX3_signAt 5 = .ok (.aload_n 0, 1) := by decide +kernel
theorem dX3_signAt_6 : decode cX3_signAt 6 = .ok (.getfield 24, 3) := by decide +kernel
theorem dX3_signAt_9 : decode cX3_signAt 9 = .ok (.if_icmp .ge 12, 3) := by decide +kernel
theorem dX3_signAt_12 : decode cX3_signAt 12 = .ok (.aload_n 0, 1) := by decide +kernel
theorem dX3_signAt_13 : decode cX3_signAt 13 = .ok (.getfield 9, 3) := by decide +kernel
theorem dX3_signAt_16 : decode cX3_signAt 16 = .ok (.iload_n 1, 1) := by decide +kernel
theorem dX3_signAt_17 : decode cX3_signAt 17 = .ok (.iaload, 1) := by decide +kernel
theorem dX3_signAt_18 : decode cX3_signAt 18 = .ok (.goto 4, 3) := by decide +kernel
theorem dX3_signAt_21 : decode cX3_signAt 21 = .ok (.iconst 0, 1) := by decide +kernel
theorem dX3_signAt_22 : decode cX3_signAt 22 = .ok (.ireturn, 1) := by decide +kernel
theorem dX3_isDigit_0 : decode cX3_isDigit 0 = .ok (.iload_n 0, 1) := by decide +kernel
theorem dX3_isDigit_1 : decode cX3_isDigit 1 = .ok (.bipush 48, 2) := by decide +kernel
theorem dX3_isDigit_3 : decode cX3_isDigit 3 = .ok (.if_icmp .lt 13, 3) := by decide +kernel
theorem dX3_isDigit_6 : decode cX3_isDigit 6 = .ok (.iload_n 0, 1) := by decide +kernel
theorem dX3_isDigit_7 : decode cX3_isDigit 7 = .ok (.bipush 57, 2) := by decide +kernel
theorem dX3_isDigit_9 : decode cX3_isDigit 9 = .ok (.if_icmp .gt 7, 3) := by decide +kernel
theorem dX3_isDigit_12 : decode cX3_isDigit 12 = .ok (.iconst 1, 1) := by decide +kernel
theorem dX3_isDigit_13 : decode cX3_isDigit 13 = .ok (.goto 4, 3) := by decide +kernel
theorem dX3_isDigit_16 : decode cX3_isDigit 16 = .ok (.iconst 0, 1) := by decide +kernel
theorem dX3_isDigit_17 : decode cX3_isDigit 17 = .ok (.ireturn, 1) := by decide +kernel
