theorem dX7_waitsIn_24 : decode cX7_waitsIn 24 = .ok (.iconst 0, 1) := by decide +kernel
theorem dX7_waitsIn_25 : decode cX7_waitsIn 25 = .ok (.ireturn, 1) := by decide +kernel
set_option maxRecDepth 20000 in
theorem ggX7_longest_X7_isGroup : GoodIn wsX7_longest wsX7_isGroup := goodIn_r _ [11, 12, 18, 19, 20, 21, 22, 23, 24, 25, 26, 27, 28, 29, 30, 31, 32, 33, 34, 35, 36, 37, 38, 39, 40, 41, 42, 43, 44, 45, 46, 47, 48] (by decide +kernel) (by decide +kernel)
set_option maxRecDepth 20000 in
theorem gX7_longest_X7_isGroup : GoodIn wsX7_longest (wsV RX7 106 RX7 yX7_isGroup wsX7_isGroup) := goodIn_app (goodIn_of _ (by decide +kernel)) ggX7_longest_X7_isGroup
set_option maxRecDepth 20000 in
theorem ggX7_longest_X7_waitsIn : GoodIn wsX7_longest wsX7_waitsIn := goodIn_r _ [16, 17, 18, 19, 20, 21, 22, 23, 24, 25, 26, 27, 28, 29, 30, 31, 32, 33, 34, 35, 36, 37, 38, 39, 40, 41, 42, 43, 44, 45, 46, 47, 48] (by decide +kernel) (by decide +kernel)
set_option maxRecDepth 20000 in
theorem gX7_longest_X7_waitsIn : GoodIn wsX7_longest (wsV RX7 178 RX7 yX7_waitsIn wsX7_waitsIn) := goodIn_app (goodIn_of _ (by decide +kernel)) ggX7_longest_X7_waitsIn
theorem dX7_longest_0 : decode cX7_longest 0 = .ok (.aload_n 0, 1) := by decide +kernel
theorem dX7_longest_1 : decode cX7_longest 1 = .ok (.iconst 0, 1) := by decide +kernel
theorem dX7_longest_2 : decode cX7_longest 2 = .ok (.putfield 79, 3) := by decide +kernel
theorem dX7_longest_5 : decode cX7_longest 5 = .ok (.aload_n 0, 1) := by decide +kernel
theorem dX7_longest_6 : decode cX7_longest 6 = .ok (.getfield 53, 3) := by decide +kernel
theorem dX7_longest_9 : decode cX7_longest 9 = .ok (.iconst 1, 1) := by decide +kernel
theorem dX7_longest_10 : decode cX7_longest 10 = .ok (.if_icmp .ne 11, 3) := by decide +kernel
theorem dX7_longest_13 : decode cX7_longest 13 = .ok (.aload_n 0, 1) := by decide +kernel
theorem dX7_longest_14 : decode cX7_longest 14 = .ok (.iload_n 1, 1) := by decide +kernel
theorem dX7_longest_15 : decode cX7_longest 15 = .ok (.invokevirtual 106, 3) := by decide +kernel
theorem dX7_longest_18 : decode cX7_longest 18 = .ok (.ifCond .ne 6, 3) := by decide +kernel
theorem dX7_longest_21 : decode cX7_longest 21 = .ok (.bipush (-2), 2) := by decide +kernel
theorem dX7_longest_23 : decode cX7_longest 23 = .ok (.ireturn, 1) := by decide +kernel
theorem dX7_longest_24 : decode cX7_longest 24 = .ok (.iconst 0, 1) := by decide +kernel
theorem dX7_longest_25 : decode cX7_longest 25 = .ok (.istore_n 2, 1) := by decide +kernel
theorem dX7_longest_26 : decode cX7_longest 26 = .ok (.iload_n 2, 1) := by decide +kernel
theorem dX7_longest_27 : decode cX7_longest 27 = .ok (.aload_n 0, 1) := by decide +kernel
theorem dX7_longest_28 : decode cX7_longest 28 = .ok (.getfield 100, 3) := by decide +kernel
theorem dX7_longest_31 : decode cX7_longest 31 = .ok (.if_icmp .ge 29, 3) := by decide +kernel
theorem dX7_longest_34 : decode cX7_longest 34 = .ok (.aload_n 0, 1) := by decide +kernel
theorem dX7_longest_35 : decode cX7_longest 35 = .ok (.getfield 72, 3) := by decide +kernel
theorem dX7_longest_38 : decode cX7_longest 38 = .ok (.iload_n 2, 1) := by decide +kernel
theorem dX7_longest_39 : decode cX7_longest 39 = .ok (.aload_n 0, 1) := by decide +kernel
theorem dX7_longest_40 : decode cX7_longest 40 = .ok (.iload_n 2, 1) := by decide +kernel
theorem dX7_longest_41 : decode cX7_longest 41 = .ok (.iload_n 1, 1) := by decide +kernel
theorem dX7_longest_42 : decode cX7_longest 42 = .ok (.invokevirtual 178, 3) := by decide +kernel
theorem dX7_longest_45 : decode cX7_longest 45 = .ok (.ifCond .eq 7, 3) := by decide +kernel
theorem dX7_longest_48 : decode cX7_longest 48 = .ok (.iconst 1, 1) := by decide +kernel
theorem dX7_longest_49 : decode cX7_longest 49 = .ok (.goto 4, 3) := by decide +kernel
theorem dX7_longest_52 : decode cX7_longest 52 = .ok (.iconst 0, 1) := by decide +kernel
theorem dX7_longest_53 : decode cX7_longest 53 = .ok (.iastore, 1) := by decide +kernel
theorem dX7_longest_54 : decode cX7_longest 54 = .ok (.iinc 2 1, 3) := by decide +kernel
theorem dX7_longest_57 : decode cX7_longest 57 = .ok (.goto (-31), 3) := by decide +kernel
theorem dX7_longest_60 : decode cX7_longest 60 = .ok (.iconst 1, 1) := by decide +kernel
theorem dX7_longest_61 : decode cX7_longest 61 = .ok (.istore_n 2, 1) := by decide +kernel
theorem dX7_longest_62 : decode cX7_longest 62 = .ok (.iconst 0, 1) := by decide +kernel
theorem dX7_longest_63 : decode cX7_longest 63 = .ok (.istore_n 3, 1) := by decide +kernel
theorem dX7_longest_64 : decode cX7_longest 64 = .ok (.iload_n 2, 1) := by decide +kernel
theorem dX7_longest_65 : decode cX7_longest 65 = .ok (.ifCond .eq 120, 3) := by decide +kernel
theorem dX7_longest_68 : decode cX7_longest 68 = .ok (.iload_n 3, 1) := by decide +kernel
theorem dX7_longest_69 : decode cX7_longest 69 = .ok (.aload_n 0, 1) := by decide +kernel
theorem dX7_longest_70 : decode cX7_longest 70 = .ok (.getfield 100, 3) := by decide +kernel
theorem dX7_longest_73 : decode cX7_longest 73 = .ok (.if_icmp .gt 112, 3) := by decide +kernel
theorem dX7_longest_76 : decode cX7_longest 76 = .ok (.iconst 0, 1) := by decide +kernel
theorem dX7_longest_77 : decode cX7_longest 77 = .ok (.istore_n 2, 1) := by decide +kernel
theorem dX7_longest_78 : decode cX7_longest 78 = .ok (.iinc 3 1, 3) := by decide +kernel
theorem dX7_longest_81 : decode cX7_longest 81 = .ok (.iconst 0, 1) := by decide +kernel
theorem dX7_longest_82 : decode cX7_longest 82 = .ok (.istore 4, 2) := by decide +kernel
theorem dX7_longest_84 : decode cX7_longest 84 = .ok (.iload 4, 2) := by decide +kernel
theorem dX7_longest_86 : decode cX7_longest 86 = .ok (.aload_n 0, 1) := by decide +kernel
theorem dX7_longest_87 : decode cX7_longest 87 = .ok (.getfield 100, 3) := by decide +kernel
theorem dX7_longest_90 : decode cX7_longest 90 = .ok (.if_icmp .ge 92, 3) := by decide +kernel
theorem dX7_longest_93 : decode cX7_longest 93 = .ok (.iconst 0, 1) := by decide +kernel
theorem dX7_longest_94 : decode cX7_longest 94 = .ok (.istore 5, 2) := by decide +kernel
theorem dX7_longest_96 : decode cX7_longest 96 = .ok (.iload 5, 2) := by decide +kernel
theorem dX7_longest_98 : decode cX7_longest 98 = .ok (.aload_n 0, 1) := by decide +kernel
theorem dX7_longest_99 : decode cX7_longest 99 = .ok (.getfield 165, 3) := by decide +kernel
theorem dX7_longest_102 : decode cX7_longest 102 = .ok (.if_icmp .ge 74, 3) := by decide +kernel
theorem dX7_longest_105 : decode cX7_longest 105 = .ok (.aload_n 0, 1) := by decide +kernel
theorem dX7_longest_106 : decode cX7_longest 106 = .ok (.getfield 72, 3) := by decide +kernel
theorem dX7_longest_109 : decode cX7_longest 109 = .ok (.iload 4, 2) := by decide +kernel
theorem dX7_longest_111 : decode cX7_longest 111 = .ok (.iaload, 1) := by decide +kernel
theorem dX7_longest_112 : decode cX7_longest 112 = .ok (.ifCond .le 64, 3) := by decide +kernel
theorem dX7_longest_115 : decode cX7_longest 115 = .ok (.aload_n 0, 1) := by decide +kernel
theorem dX7_longest_116 : decode cX7_longest 116 = .ok (.getfield 66, 3) := by decide +kernel
theorem dX7_longest_119 : decode cX7_longest 119 = .ok (.bipush 10, 2) := by decide +kernel
theorem dX7_longest_121 : decode cX7_longest 121 = .ok (.iload 4, 2) := by decide +kernel
theorem dX7_longest_123 : decode cX7_longest 123 = .ok (.imul, 1) := by decide +kernel
theorem dX7_longest_124 : decode cX7_longest 124 = .ok (.iload 5, 2) := by decide +kernel
theorem dX7_longest_126 : decode cX7_longest 126 = .ok (.iadd, 1) := by decide +kernel
theorem dX7_longest_127 : decode cX7_longest 127 = .ok (.iaload, 1) := by decide +kernel
theorem dX7_longest_128 : decode cX7_longest 128 = .ok (.istore 6, 2) := by decide +kernel
theorem dX7_longest_130 : decode cX7_longest 130 = .ok (.aload_n 0, 1) := by decide +kernel
theorem dX7_longest_131 : decode cX7_longest 131 = .ok (.getfield 72, 3) := by decide +kernel
theorem dX7_longest_134 : decode cX7_longest 134 = .ok (.iload 6, 2) := by decide +kernel
theorem dX7_longest_136 : decode cX7_longest 136 = .ok (.iaload, 1) := by decide +kernel
theorem dX7_longest_137 : decode cX7_longest 137 = .ok (.iconst 1, 1) := by decide +kernel
theorem dX7_longest_138 : decode cX7_longest 138 = .ok (.iadd, 1) := by decide +kernel
theorem dX7_longest_139 : decode cX7_longest 139 = .ok (.aload_n 0, 1) := by decide +kernel
theorem dX7_longest_140 : decode cX7_longest 140 = .ok (.getfield 72, 3) := by decide +kernel
theorem dX7_longest_143 : decode cX7_longest 143 = .ok (.iload 4, 2) := by decide +kernel
theorem dX7_longest_145 : decode cX7_longest 145 = .ok (.iaload, 1) := by decide +kernel
theorem dX7_longest_146 : decode cX7_longest 146 = .ok (.if_icmp .gt 6, 3) := by decide +kernel
theorem dX7_longest_149 : decode cX7_longest 149 = .ok (.goto 21, 3) := by decide +kernel
theorem dX7_longest_152 : decode cX7_longest 152 = .ok (.aload_n 0, 1) := by decide +kernel
theorem dX7_longest_153 : decode cX7_longest 153 = .ok (.getfield 72, 3) := by decide +kernel
theorem dX7_longest_156 : decode cX7_longest 156 = .ok (.iload 4, 2) := by decide +kernel
theorem dX7_longest_158 : decode cX7_longest 158 = .ok (.aload_n 0, 1) := by decide +kernel
theorem dX7_longest_159 : decode cX7_longest 159 = .ok (.getfield 72, 3) := by decide +kernel
theorem dX7_longest_162 : decode cX7_longest 162 = .ok (.iload 6, 2) := by decide +kernel
theorem dX7_longest_164 : decode cX7_longest 164 = .ok (.iaload, 1) := by decide +kernel
theorem dX7_longest_165 : decode cX7_longest 165 = .ok (.iconst 1, 1) := by decide +kernel
theorem dX7_longest_166 : decode cX7_longest 166 = .ok (.iadd, 1) := by decide +kernel
theorem dX7_longest_167 : decode cX7_longest 167 = .ok (.iastore, 1) := by decide +kernel
theorem dX7_longest_168 : decode cX7_longest 168 = .ok (.iconst 1, 1) := by decide +kernel
theorem dX7_longest_169 : decode cX7_longest 169 = .ok (.istore_n 2, 1) := by decide +kernel
theorem dX7_longest_170 : decode cX7_longest 170 = .ok (.iinc 5 1, 3) := by decide +kernel
theorem dX7_longest_173 : decode cX7_longest 173 = .ok (.goto (-77), 3) := by decide +kernel
theorem dX7_longest_176 : decode cX7_longest 176 = .ok (.iinc 4 1, 3) := by decide +kernel
theorem dX7_longest_179 : decode cX7_longest 179 = .ok (.goto (-95), 3) := by decide +kernel
theorem dX7_longest_182 : decode cX7_longest 182 = .ok (.goto (-118), 3) := by decide +kernel
theorem dX7_longest_185 : decode cX7_longest 185 = .ok (.iload_n 2, 1) := by decide +kernel
theorem dX7_longest_186 : decode cX7_longest 186 = .ok (.ifCond .eq 5, 3) := by decide +kernel
theorem dX7_longest_189 : decode cX7_longest 189 = .ok (.iconst (-1), 1) := by decide +kernel
theorem dX7_longest_190 : decode cX7_longest 190 = .ok (.ireturn, 1) := by decide +kernel
theorem dX7_longest_191 : decode cX7_longest 191 = .ok (.iconst 0, 1) := by decide +kernel
theorem dX7_longest_192 : decode cX7_longest 192 = .ok (.istore 4, 2) := by decide +kernel
theorem dX7_longest_194 : decode cX7_longest 194 = .ok (.iconst 0, 1) := by decide +kernel
theorem dX7_longest_195 : decode cX7_longest 195 = .ok (.istore 5, 2) := by decide +kernel
theorem dX7_longest_197 : decode cX7_longest 197 = .ok (.iload 5, 2) := by decide +kernel
theorem dX7_longest_199 : decode cX7_longest 199 = .ok (.aload_n 0, 1) := by decide +kernel
theorem dX7_longest_200 : decode cX7_longest 200 = .ok (.getfield 100, 3) := by decide +kernel
theorem dX7_longest_203 : decode cX7_longest 203 = .ok (.if_icmp .ge 35, 3) := by decide +kernel
theorem dX7_longest_206 : decode cX7_longest 206 = .ok (.aload_n 0, 1) := by decide +kernel
theorem dX7_longest_207 : decode cX7_longest 207 = .ok (.getfield 72, 3) := by decide +kernel
theorem dX7_longest_210 : decode cX7_longest 210 = .ok (.iload 5, 2) := by decide +kernel
theorem dX7_longest_212 : decode cX7_longest 212 = .ok (.iaload, 1) := by decide +kernel
theorem dX7_longest_213 : decode cX7_longest 213 = .ok (.iload 4, 2) := by decide +kernel
theorem dX7_longest_215 : decode cX7_longest 215 = .ok (.if_icmp .le 13, 3) := by decide +kernel
theorem dX7_longest_218 : decode cX7_longest 218 = .ok (.aload_n 0, 1) := by decide +kernel
theorem dX7_longest_219 : decode cX7_longest 219 = .ok (.getfield 72, 3) := by decide +kernel
theorem dX7_longest_222 : decode cX7_longest 222 = .ok (.iload 5, 2) := by decide +kernel
theorem dX7_longest_224 : decode cX7_longest 224 = .ok (.iaload, 1) := by decide +kernel
theorem dX7_longest_225 : decode cX7_longest 225 = .ok (.goto 5, 3) := by decide +kernel
theorem dX7_longest_228 : decode cX7_longest 228 = .ok (.iload 4, 2) := by decide +kernel
theorem dX7_longest_230 : decode cX7_longest 230 = .ok (.istore 4, 2) := by decide +kernel
theorem dX7_longest_232 : decode cX7_longest 232 = .ok (.iinc 5 1, 3) := by decide +kernel
theorem dX7_longest_235 : decode cX7_longest 235 = .ok (.goto (-38), 3) := by decide +kernel
theorem dX7_longest_238 : decode cX7_longest 238 = .ok (.iload 4, 2) := by decide +kernel
theorem dX7_longest_240 : decode cX7_longest 240 = .ok (.ireturn, 1) := by decide +kernel
set_option maxRecDepth 20000 in
theorem ggX7_ring_X7_longest : GoodIn wsX7_ring wsX7_longest := goodIn_r _ [7, 1, 8, 9, 10, 11, 12, 13, 14, 15, 6, 16, 2, 17, 18, 19, 20, 21, 22, 23, 24, 25, 26, 27, 28, 29, 30, 31, 32, 33, 34, 35, 36, 37, 38, 39, 40, 41, 42, 43, 44, 45, 46, 47, 48, 49, 50, 51, 52] (by decide +kernel) (by decide +kernel)
set_option maxRecDepth 20000 in
theorem gX7_ring_X7_longest : GoodIn wsX7_ring (wsV RX7 181 RX7 yX7_longest wsX7_longest) := goodIn_app (goodIn_of _ (by decide +kernel)) ggX7_ring_X7_longest
theorem dX7_ring_0 : decode cX7_ring 0 = .ok (.aload_n 0, 1) := by decide +kernel
theorem dX7_ring_1 : decode cX7_ring 1 = .ok (.iconst 0, 1) := by decide +kernel
theorem dX7_ring_2 : decode cX7_ring 2 = .ok (.putfield 79, 3) := by decide +kernel
theorem dX7_ring_5 : decode cX7_ring 5 = .ok (.iload_n 1, 1) := by decide +kernel
theorem dX7_ring_6 : decode cX7_ring 6 = .ok (.istore_n 2, 1) := by decide +kernel
theorem dX7_ring_7 : decode cX7_ring 7 = .ok (.iconst 0, 1) := by decide +kernel
theorem dX7_ring_8 : decode cX7_ring 8 = .ok (.istore_n 3, 1) := by decide +kernel
theorem dX7_ring_9 : decode cX7_ring 9 = .ok (.iload_n 3, 1) := by decide +kernel
theorem dX7_ring_10 : decode cX7_ring 10 = .ok (.aload_n 0, 1) := by decide +kernel
theorem dX7_ring_11 : decode cX7_ring 11 = .ok (.getfield 82, 3) := by decide +kernel
theorem dX7_ring_14 : decode cX7_ring 14 = .ok (.if_icmp .ge 34, 3) := by decide +kernel
theorem dX7_ring_17 : decode cX7_ring 17 = .ok (.iload_n 1, 1) := by decide +kernel
theorem dX7_ring_18 : decode cX7_ring 18 = .ok (.ifCond .lt 30, 3) := by decide +kernel
theorem dX7_ring_21 : decode cX7_ring 21 = .ok (.aload_n 0, 1) := by decide +kernel
theorem dX7_ring_22 : decode cX7_ring 22 = .ok (.iload_n 3, 1) := by decide +kernel
theorem dX7_ring_23 : decode cX7_ring 23 = .ok (.invokevirtual 181, 3) := by decide +kernel
theorem dX7_ring_26 : decode cX7_ring 26 = .ok (.iconst (-1), 1) := by decide +kernel
theorem dX7_ring_27 : decode cX7_ring 27 = .ok (.if_icmp .eq 6, 3) := by decide +kernel
theorem dX7_ring_30 : decode cX7_ring 30 = .ok (.goto 12, 3) := by decide +kernel
theorem dX7_ring_33 : decode cX7_ring 33 = .ok (.iload_n 2, 1) := by decide +kernel
theorem dX7_ring_34 : decode cX7_ring 34 = .ok (.ifCond .ne 5, 3) := by decide +kernel
theorem dX7_ring_37 : decode cX7_ring 37 = .ok (.iload_n 3, 1) := by decide +kernel
theorem dX7_ring_38 : decode cX7_ring 38 = .ok (.ireturn, 1) := by decide +kernel
theorem dX7_ring_39 : decode cX7_ring 39 = .ok (.iinc 2 (-1), 3) := by decide +kernel
theorem dX7_ring_42 : decode cX7_ring 42 = .ok (.iinc 3 1, 3) := by decide +kernel
theorem dX7_ring_45 : decode cX7_ring 45 = .ok (.goto (-36), 3) := by decide +kernel
theorem dX7_ring_48 : decode cX7_ring 48 = .ok (.iconst (-1), 1) := by decide +kernel
theorem dX7_ring_49 : decode cX7_ring 49 = .ok (.ireturn, 1) := by decide +kernel
set_option maxRecDepth 20000 in
theorem ggX7_answered_X7_longest : GoodIn wsX7_answered wsX7_longest := goodIn_r _ [8, 1, 2, 9, 10, 11, 12, 13, 14, 15, 7, 16, 3, 17, 18, 19, 20, 21, 22, 23, 24, 25, 26, 27, 28, 29, 30, 31, 32, 33, 34, 35, 36, 37, 38, 39, 40, 41, 42, 43, 44, 45, 46, 47, 48, 49, 50, 51, 52] (by decide +kernel) (by decide +kernel)
set_option maxRecDepth 20000 in
theorem gX7_answered_X7_longest : GoodIn wsX7_answered (wsV RX7 181 RX7 yX7_longest wsX7_longest) := goodIn_app (goodIn_of _ (by decide +kernel)) ggX7_answered_X7_longest
theorem dX7_answered_0 : decode cX7_answered 0 = .ok (.aload_n 0, 1) := by decide +kernel
theorem dX7_answered_1 : decode cX7_answered 1 = .ok (.iconst 0, 1) := by decide +kernel
theorem dX7_answered_2 : decode cX7_answered 2 = .ok (.putfield 79, 3) := by decide +kernel
theorem dX7_answered_5 : decode cX7_answered 5 = .ok (.aload_n 0, 1) := by decide +kernel
theorem dX7_answered_6 : decode cX7_answered 6 = .ok (.getfield 53, 3) := by decide +kernel
theorem dX7_answered_9 : decode cX7_answered 9 = .ok (.iconst 1, 1) := by decide +kernel
theorem dX7_answered_10 : decode cX7_answered 10 = .ok (.if_icmp .ne 7, 3) := by decide +kernel
theorem dX7_answered_13 : decode cX7_answered 13 = .ok (.iconst 1, 1) := by decide +kernel
theorem dX7_answered_14 : decode cX7_answered 14 = .ok (.goto 4, 3) := by decide +kernel
theorem dX7_answered_17 : decode cX7_answered 17 = .ok (.iconst 0, 1) := by decide +kernel
theorem dX7_answered_18 : decode cX7_answered 18 = .ok (.istore_n 1, 1) := by decide +kernel
theorem dX7_answered_19 : decode cX7_answered 19 = .ok (.iconst 0, 1) := by decide +kernel
theorem dX7_answered_20 : decode cX7_answered 20 = .ok (.istore_n 2, 1) := by decide +kernel
theorem dX7_answered_21 : decode cX7_answered 21 = .ok (.iload_n 2, 1) := by decide +kernel
theorem dX7_answered_22 : decode cX7_answered 22 = .ok (.aload_n 0, 1) := by decide +kernel
theorem dX7_answered_23 : decode cX7_answered 23 = .ok (.getfield 82, 3) := by decide +kernel
theorem dX7_answered_26 : decode cX7_answered 26 = .ok (.if_icmp .ge 27, 3) := by decide +kernel
theorem dX7_answered_29 : decode cX7_answered 29 = .ok (.iload_n 1, 1) := by decide +kernel
theorem dX7_answered_30 : decode cX7_answered 30 = .ok (.ifCond .eq 23, 3) := by decide +kernel
theorem dX7_answered_33 : decode cX7_answered 33 = .ok (.aload_n 0, 1) := by decide +kernel
theorem dX7_answered_34 : decode cX7_answered 34 = .ok (.iload_n 2, 1) := by decide +kernel
theorem dX7_answered_35 : decode cX7_answered 35 = .ok (.invokevirtual 181, 3) := by decide +kernel
theorem dX7_answered_38 : decode cX7_answered 38 = .ok (.ifCond .lt 7, 3) := by decide +kernel
theorem dX7_answered_41 : decode cX7_answered 41 = .ok (.iconst 1, 1) := by decide +kernel
theorem dX7_answered_42 : decode cX7_answered 42 = .ok (.goto 4, 3) := by decide +kernel
theorem dX7_answered_45 : decode cX7_answered 45 = .ok (.iconst 0, 1) := by decide +kernel
theorem dX7_answered_46 : decode cX7_answered 46 = .ok (.istore_n 1, 1) := by decide +kernel
theorem dX7_answered_47 : decode cX7_answered 47 = .ok (.iinc 2 1, 3) := by decide +kernel
theorem dX7_answered_50 : decode cX7_answered 50 = .ok (.goto (-29), 3) := by decide +kernel
theorem dX7_answered_53 : decode cX7_answered 53 = .ok (.iload_n 1, 1) := by decide +kernel
theorem dX7_answered_54 : decode cX7_answered 54 = .ok (.ireturn, 1) := by decide +kernel
set_option maxRecDepth 20000 in
theorem ggX7_same_X7_take : GoodIn wsX7_same wsX7_take := goodIn_r _ [9, 10, 11, 59, 60, 61, 62, 63, 64, 65, 66, 67, 68, 69, 70, 71, 72, 73, 74, 75, 76, 77, 78, 79, 80, 81, 82, 83, 84, 85, 86, 87, 88, 89] (by decide +kernel) (by decide +kernel)
set_option maxRecDepth 20000 in
theorem gX7_same_X7_take : GoodIn wsX7_same (wsV RX7 150 RX7 yX7_take wsX7_take) := goodIn_app (goodIn_of _ (by decide +kernel)) ggX7_same_X7_take
set_option maxRecDepth 20000 in
theorem ggX7_same_X7_find : GoodIn wsX7_same wsX7_find := goodIn_r _ [15, 16, 17, 10, 59, 60, 61, 62, 63, 64, 65, 66, 67, 68, 69, 70, 71, 72, 73, 74, 75, 76, 77, 78, 79, 80, 81, 82, 83, 84, 85, 86, 87, 88, 89] (by decide +kernel) (by decide +kernel)
set_option maxRecDepth 20000 in
theorem gX7_same_X7_find : GoodIn wsX7_same (wsV RX7 159 RX7 yX7_find wsX7_find) := goodIn_app (goodIn_of _ (by decide +kernel)) ggX7_same_X7_find
set_option maxRecDepth 20000 in
theorem ggX7_same_X7_eventOf : GoodIn wsX7_same wsX7_eventOf := goodIn_r _ [21, 22, 23, 24, 59, 60, 61, 62, 63, 64, 65, 66, 67, 68, 69, 70, 71, 72, 73, 74, 75, 76, 77, 78, 79, 80, 81, 82, 83, 84, 85, 86, 87, 88, 89] (by decide +kernel) (by decide +kernel)
set_option maxRecDepth 20000 in
theorem gX7_same_X7_eventOf : GoodIn wsX7_same (wsV RX7 153 RX7 yX7_eventOf wsX7_eventOf) := goodIn_app (goodIn_of _ (by decide +kernel)) ggX7_same_X7_eventOf
set_option maxRecDepth 20000 in
theorem ggX7_same_X7_go : GoodIn wsX7_same wsX7_go := goodIn_r _ [28, 29, 10, 30, 31, 32, 33, 34, 35, 36, 8, 37, 38, 39, 40, 41, 42, 43, 44, 45, 46, 47, 48, 49, 50, 51, 52, 53, 54, 55, 56, 57, 58, 59, 60, 61, 62, 63, 64, 65, 66, 67, 68, 69, 70, 71, 72, 73, 74, 75, 76, 77, 78, 79, 80, 81, 82, 83, 84, 85, 86, 87, 88, 89] (by decide +kernel) (by decide +kernel)
set_option maxRecDepth 20000 in
theorem gX7_same_X7_go : GoodIn wsX7_same (wsV RX7 156 RX7 yX7_go wsX7_go) := goodIn_app (goodIn_of _ (by decide +kernel)) ggX7_same_X7_go
theorem dX7_same_0 : decode cX7_same 0 = .ok (.aload_n 0, 1) := by decide +kernel
theorem dX7_same_1 : decode cX7_same 1 = .ok (.iconst 0, 1) := by decide +kernel
theorem dX7_same_2 : decode cX7_same 2 = .ok (.putfield 79, 3) := by decide +kernel
theorem dX7_same_5 : decode cX7_same 5 = .ok (.aload_n 0, 1) := by decide +kernel
theorem dX7_same_6 : decode cX7_same 6 = .ok (.getfield 85, 3) := by decide +kernel
theorem dX7_same_9 : decode cX7_same 9 = .ok (.ifCond .eq 21, 3) := by decide +kernel
theorem dX7_same_12 : decode cX7_same 12 = .ok (.aload_n 0, 1) := by decide +kernel
theorem dX7_same_13 : decode cX7_same 13 = .ok (.getfield 53, 3) := by decide +kernel
theorem dX7_same_16 : decode cX7_same 16 = .ok (.iconst (-1), 1) := by decide +kernel
theorem dX7_same_17 : decode cX7_same 17 = .ok (.if_icmp .eq 13, 3) := by decide +kernel
theorem dX7_same_20 : decode cX7_same 20 = .ok (.iload_n 1, 1) := by decide +kernel
theorem dX7_same_21 : decode cX7_same 21 = .ok (.ifCond .lt 9, 3) := by decide +kernel
theorem dX7_same_24 : decode cX7_same 24 = .ok (.iload_n 1, 1) := by decide +kernel
theorem dX7_same_25 : decode cX7_same 25 = .ok (.bipush 100, 2) := by decide +kernel
theorem dX7_same_27 : decode cX7_same 27 = .ok (.if_icmp .le 5, 3) := by decide +kernel
theorem dX7_same_30 : decode cX7_same 30 = .ok (.iconst 0, 1) := by decide +kernel
theorem dX7_same_31 : decode cX7_same 31 = .ok (.ireturn, 1) := by decide +kernel
theorem dX7_same_32 : decode cX7_same 32 = .ok (.aload_n 0, 1) := by decide +kernel
theorem dX7_same_33 : decode cX7_same 33 = .ok (.invokevirtual 150, 3) := by decide +kernel
theorem dX7_same_36 : decode cX7_same 36 = .ok (.aload_n 0, 1) := by decide +kernel
theorem dX7_same_37 : decode cX7_same 37 = .ok (.invokevirtual 159, 3) := by decide +kernel
theorem dX7_same_40 : decode cX7_same 40 = .ok (.ifCond .lt 7, 3) := by decide +kernel
theorem dX7_same_43 : decode cX7_same 43 = .ok (.iconst 1, 1) := by decide +kernel
theorem dX7_same_44 : decode cX7_same 44 = .ok (.goto 4, 3) := by decide +kernel
theorem dX7_same_47 : decode cX7_same 47 = .ok (.iconst 0, 1) := by decide +kernel
theorem dX7_same_48 : decode cX7_same 48 = .ok (.istore_n 2, 1) := by decide +kernel
theorem dX7_same_49 : decode cX7_same 49 = .ok (.iconst 1, 1) := by decide +kernel
theorem dX7_same_50 : decode cX7_same 50 = .ok (.istore_n 3, 1) := by decide +kernel
theorem dX7_same_51 : decode cX7_same 51 = .ok (.iload_n 3, 1) := by decide +kernel
theorem dX7_same_52 : decode cX7_same 52 = .ok (.iload_n 1, 1) := by decide +kernel
theorem dX7_same_53 : decode cX7_same 53 = .ok (.if_icmp .gt 43, 3) := by decide +kernel
theorem dX7_same_56 : decode cX7_same 56 = .ok (.iload_n 2, 1) := by decide +kernel
theorem dX7_same_57 : decode cX7_same 57 = .ok (.ifCond .eq 39, 3) := by decide +kernel
theorem dX7_same_60 : decode cX7_same 60 = .ok (.aload_n 0, 1) := by decide +kernel
theorem dX7_same_61 : decode cX7_same 61 = .ok (.aload_n 0, 1) := by decide +kernel
theorem dX7_same_62 : decode cX7_same 62 = .ok (.aload_n 0, 1) := by decide +kernel
theorem dX7_same_63 : decode cX7_same 63 = .ok (.getfield 97, 3) := by decide +kernel
theorem dX7_same_66 : decode cX7_same 66 = .ok (.iload_n 3, 1) := by decide +kernel
theorem dX7_same_67 : decode cX7_same 67 = .ok (.iadd, 1) := by decide +kernel
theorem dX7_same_68 : decode cX7_same 68 = .ok (.invokevirtual 153, 3) := by decide +kernel
theorem dX7_same_71 : decode cX7_same 71 = .ok (.invokevirtual 156, 3) := by decide +kernel
theorem dX7_same_74 : decode cX7_same 74 = .ok (.ifCond .ne 14, 3) := by decide +kernel
theorem dX7_same_77 : decode cX7_same 77 = .ok (.aload_n 0, 1) := by decide +kernel
theorem dX7_same_78 : decode cX7_same 78 = .ok (.invokevirtual 159, 3) := by decide +kernel
theorem dX7_same_81 : decode cX7_same 81 = .ok (.ifCond .lt 7, 3) := by decide +kernel
theorem dX7_same_84 : decode cX7_same 84 = .ok (.iconst 1, 1) := by decide +kernel
theorem dX7_same_85 : decode cX7_same 85 = .ok (.goto 4, 3) := by decide +kernel
theorem dX7_same_88 : decode cX7_same 88 = .ok (.iconst 0, 1) := by decide +kernel
theorem dX7_same_89 : decode cX7_same 89 = .ok (.istore_n 2, 1) := by decide +kernel
theorem dX7_same_90 : decode cX7_same 90 = .ok (.iinc 3 1, 3) := by decide +kernel
theorem dX7_same_93 : decode cX7_same 93 = .ok (.goto (-42), 3) := by decide +kernel
theorem dX7_same_96 : decode cX7_same 96 = .ok (.iload_n 2, 1) := by decide +kernel
theorem dX7_same_97 : decode cX7_same 97 = .ok (.ireturn, 1) := by decide +kernel
theorem dX7_from_0 : decode cX7_from 0 = .ok (.aload_n 0, 1) := by decide +kernel
theorem dX7_from_1 : decode cX7_from 1 = .ok (.iconst 0, 1) := by decide +kernel
theorem dX7_from_2 : decode cX7_from 2 = .ok (.putfield 79, 3) := by decide +kernel
theorem dX7_from_5 : decode cX7_from 5 = .ok (.lload_n 1, 1) := by decide +kernel
theorem dX7_from_6 : decode cX7_from 6 = .ok (.lconst 0, 1) := by decide +kernel
theorem dX7_from_7 : decode cX7_from 7 = .ok (.lcmp, 1) := by decide +kernel
theorem dX7_from_8 : decode cX7_from 8 = .ok (.ifCond .lt 38, 3) := by decide +kernel
theorem dX7_from_11 : decode cX7_from 11 = .ok (.lload_n 1, 1) := by decide +kernel
theorem dX7_from_12 : decode cX7_from 12 = .ok (.ldc2_w 184, 3) := by decide +kernel
theorem dX7_from_15 : decode cX7_from 15 = .ok (.lcmp, 1) := by decide +kernel
theorem dX7_from_16 : decode cX7_from 16 = .ok (.ifCond .gt 30, 3) := by decide +kernel
theorem dX7_from_19 : decode cX7_from 19 = .ok (.lload_n 3, 1) := by decide +kernel
theorem dX7_from_20 : decode cX7_from 20 = .ok (.lconst 0, 1) := by decide +kernel
theorem dX7_from_21 : decode cX7_from 21 = .ok (.lcmp, 1) := by decide +kernel
theorem dX7_from_22 : decode cX7_from 22 = .ok (.ifCond .lt 24, 3) := by decide +kernel
theorem dX7_from_25 : decode cX7_from 25 = .ok (.lload_n 3, 1) := by decide +kernel
theorem dX7_from_26 : decode cX7_from 26 = .ok (.ldc2_w 184, 3) := by decide +kernel
theorem dX7_from_29 : decode cX7_from 29 = .ok (.lcmp, 1) := by decide +kernel
theorem dX7_from_30 : decode cX7_from 30 = .ok (.ifCond .gt 16, 3) := by decide +kernel
theorem dX7_from_33 : decode cX7_from 33 = .ok (.iload 5, 2) := by decide +kernel
theorem dX7_from_35 : decode cX7_from 35 = .ok (.iconst 1, 1) := by decide +kernel
theorem dX7_from_36 : decode cX7_from 36 = .ok (.if_icmp .lt 10, 3) := by decide +kernel
theorem dX7_from_39 : decode cX7_from 39 = .ok (.iload 5, 2) := by decide +kernel
theorem dX7_from_41 : decode cX7_from 41 = .ok (.bipush 50, 2) := by decide +kernel
theorem dX7_from_43 : decode cX7_from 43 = .ok (.if_icmp .le 5, 3) := by decide +kernel
theorem dX7_from_46 : decode cX7_from 46 = .ok (.iconst (-1), 1) := by decide +kernel
theorem dX7_from_47 : decode cX7_from 47 = .ok (.ireturn, 1) := by decide +kernel
theorem dX7_from_48 : decode cX7_from 48 = .ok (.lload_n 3, 1) := by decide +kernel
theorem dX7_from_49 : decode cX7_from 49 = .ok (.iload 5, 2) := by decide +kernel
theorem dX7_from_51 : decode cX7_from 51 = .ok (.i2l, 1) := by decide +kernel
theorem dX7_from_52 : decode cX7_from 52 = .ok (.ladd, 1) := by decide +kernel
theorem dX7_from_53 : decode cX7_from 53 = .ok (.lconst 1, 1) := by decide +kernel
theorem dX7_from_54 : decode cX7_from 54 = .ok (.lsub, 1) := by decide +kernel
theorem dX7_from_55 : decode cX7_from 55 = .ok (.iload 5, 2) := by decide +kernel
theorem dX7_from_57 : decode cX7_from 57 = .ok (.i2l, 1) := by decide +kernel
theorem dX7_from_58 : decode cX7_from 58 = .ok (.ldiv, 1) := by decide +kernel
theorem dX7_from_59 : decode cX7_from 59 = .ok (.lload_n 1, 1) := by decide +kernel
theorem dX7_from_60 : decode cX7_from 60 = .ok (.iload 5, 2) := by decide +kernel
theorem dX7_from_62 : decode cX7_from 62 = .ok (.i2l, 1) := by decide +kernel
theorem dX7_from_63 : decode cX7_from 63 = .ok (.ldiv, 1) := by decide +kernel
theorem dX7_from_64 : decode cX7_from 64 = .ok (.lsub, 1) := by decide +kernel
theorem dX7_from_65 : decode cX7_from 65 = .ok (.l2i, 1) := by decide +kernel
theorem dX7_from_66 : decode cX7_from 66 = .ok (.istore 6, 2) := by decide +kernel
theorem dX7_from_68 : decode cX7_from 68 = .ok (.iload 6, 2) := by decide +kernel
theorem dX7_from_70 : decode cX7_from 70 = .ok (.ifCond .ge 7, 3) := by decide +kernel
theorem dX7_from_73 : decode cX7_from 73 = .ok (.iconst 0, 1) := by decide +kernel
theorem dX7_from_74 : decode cX7_from 74 = .ok (.goto 5, 3) := by decide +kernel
theorem dX7_from_77 : decode cX7_from 77 = .ok (.iload 6, 2) := by decide +kernel
theorem dX7_from_79 : decode cX7_from 79 = .ok (.ireturn, 1) := by decide +kernel
