theorem dX5_init_0 : decode cX5_init 0 = .ok (.aload_n 0, 1) := by decide +kernel
theorem dX5_init_1 : decode cX5_init 1 = .ok (.invokespecial 3, 3) := by decide +kernel
theorem dX5_init_4 : decode cX5_init 4 = .ok (.aload_n 0, 1) := by decide +kernel
theorem dX5_init_5 : decode cX5_init 5 = .ok (.sipush 4000, 3) := by decide +kernel
theorem dX5_init_8 : decode cX5_init 8 = .ok (.newarray .int, 2) := by decide +kernel
theorem dX5_init_10 : decode cX5_init 10 = .ok (.putfield 9, 3) := by decide +kernel
theorem dX5_init_13 : decode cX5_init 13 = .ok (.aload_n 0, 1) := by decide +kernel
theorem dX5_init_14 : decode cX5_init 14 = .ok (.sipush 400, 3) := by decide +kernel
theorem dX5_init_17 : decode cX5_init 17 = .ok (.newarray .int, 2) := by decide +kernel
theorem dX5_init_19 : decode cX5_init 19 = .ok (.putfield 15, 3) := by decide +kernel
theorem dX5_init_22 : decode cX5_init 22 = .ok (.aload_n 0, 1) := by decide +kernel
theorem dX5_init_23 : decode cX5_init 23 = .ok (.sipush 400, 3) := by decide +kernel
theorem dX5_init_26 : decode cX5_init 26 = .ok (.newarray .int, 2) := by decide +kernel
theorem dX5_init_28 : decode cX5_init 28 = .ok (.putfield 18, 3) := by decide +kernel
theorem dX5_init_31 : decode cX5_init 31 = .ok (.aload_n 0, 1) := by decide +kernel
theorem dX5_init_32 : decode cX5_init 32 = .ok (.sipush 400, 3) := by decide +kernel
theorem dX5_init_35 : decode cX5_init 35 = .ok (.newarray .int, 2) := by decide +kernel
theorem dX5_init_37 : decode cX5_init 37 = .ok (.putfield 21, 3) := by decide +kernel
theorem dX5_init_40 : decode cX5_init 40 = .ok (.return_, 1) := by decide +kernel
theorem dX5_link_0 : decode cX5_link 0 = .ok (.iload_n 1, 1) := by decide +kernel
theorem dX5_link_1 : decode cX5_link 1 = .ok (.bipush 10, 2) := by decide +kernel
theorem dX5_link_3 : decode cX5_link 3 = .ok (.imul, 1) := by decide +kernel
theorem dX5_link_4 : decode cX5_link 4 = .ok (.iload_n 2, 1) := by decide +kernel
theorem dX5_link_5 : decode cX5_link 5 = .ok (.iadd, 1) := by decide +kernel
theorem dX5_link_6 : decode cX5_link 6 = .ok (.istore 4, 2) := by decide +kernel
theorem dX5_link_8 : decode cX5_link 8 = .ok (.iload 4, 2) := by decide +kernel
theorem dX5_link_10 : decode cX5_link 10 = .ok (.ifCond .lt 32, 3) := by decide +kernel
theorem dX5_link_13 : decode cX5_link 13 = .ok (.iload 4, 2) := by decide +kernel
theorem dX5_link_15 : decode cX5_link 15 = .ok (.aload_n 0, 1) := by decide +kernel
theorem dX5_link_16 : decode cX5_link 16 = .ok (.getfield 9, 3) := by decide +kernel
theorem dX5_link_19 : decode cX5_link 19 = .ok (.arraylength, 1) := by decide +kernel
theorem dX5_link_20 : decode cX5_link 20 = .ok (.if_icmp .ge 22, 3) := by decide +kernel
theorem dX5_link_23 : decode cX5_link 23 = .ok (.iload_n 3, 1) := by decide +kernel
theorem dX5_link_24 : decode cX5_link 24 = .ok (.ifCond .lt 18, 3) := by decide +kernel
theorem dX5_link_27 : decode cX5_link 27 = .ok (.iload_n 3, 1) := by decide +kernel
theorem dX5_link_28 : decode cX5_link 28 = .ok (.sipush 400, 3) := by decide +kernel
theorem dX5_link_31 : decode cX5_link 31 = .ok (.if_icmp .ge 11, 3) := by decide +kernel
theorem dX5_link_34 : decode cX5_link 34 = .ok (.aload_n 0, 1) := by decide +kernel
theorem dX5_link_35 : decode cX5_link 35 = .ok (.getfield 9, 3) := by decide +kernel
theorem dX5_link_38 : decode cX5_link 38 = .ok (.iload 4, 2) := by decide +kernel
theorem dX5_link_40 : decode cX5_link 40 = .ok (.iload_n 3, 1) := by decide +kernel
theorem dX5_link_41 : decode cX5_link 41 = .ok (.iastore, 1) := by decide +kernel
theorem dX5_link_42 : decode cX5_link 42 = .ok (.return_, 1) := by decide +kernel
set_option maxRecDepth 20000 in
theorem ggX5_longestChain_X5_countEdges : GoodIn wsX5_longestChain wsX5_countEdges := goodIn_r _ [13, 1, 3, 8, 14, 15, 16, 17, 18, 19, 20, 21, 22, 23, 24, 25] rfl (by decide +kernel)
set_option maxRecDepth 20000 in
theorem gX5_longestChain_X5_countEdges : GoodIn wsX5_longestChain (wsV RX5 24 RX5 yX5_countEdges wsX5_countEdges) := goodIn_app (goodIn_of _ (by decide +kernel)) ggX5_longestChain_X5_countEdges
set_option maxRecDepth 20000 in
theorem ggX5_longestChain_X2_waitsIn : GoodIn wsX5_longestChain wsX2_waitsIn := goodIn_r _ [21] rfl (by decide +kernel)
set_option maxRecDepth 20000 in
theorem gX5_longestChain_X2_waitsIn : GoodIn wsX5_longestChain (va_wsS RX5 28 yX2_waitsIn wsX2_waitsIn) := goodIn_app (goodIn_of _ (by decide +kernel)) ggX5_longestChain_X2_waitsIn
theorem dX5_longestChain_0 : decode cX5_longestChain 0 = .ok (.aload_n 0, 1) := by decide +kernel
theorem dX5_longestChain_1 : decode cX5_longestChain 1 = .ok (.aload_n 1, 1) := by decide +kernel
theorem dX5_longestChain_2 : decode cX5_longestChain 2 = .ok (.iload_n 2, 1) := by decide +kernel
theorem dX5_longestChain_3 : decode cX5_longestChain 3 = .ok (.iload_n 3, 1) := by decide +kernel
theorem dX5_longestChain_4 : decode cX5_longestChain 4 = .ok (.iload 4, 2) := by decide +kernel
theorem dX5_longestChain_6 : decode cX5_longestChain 6 = .ok (.invokevirtual 24, 3) := by decide +kernel
theorem dX5_longestChain_9 : decode cX5_longestChain 9 = .ok (.istore 5, 2) := by decide +kernel
theorem dX5_longestChain_11 : decode cX5_longestChain 11 = .ok (.iconst 0, 1) := by decide +kernel
theorem dX5_longestChain_12 : decode cX5_longestChain 12 = .ok (.istore 6, 2) := by decide +kernel
theorem dX5_longestChain_14 : decode cX5_longestChain 14 = .ok (.iconst 0, 1) := by decide +kernel
theorem dX5_longestChain_15 : decode cX5_longestChain 15 = .ok (.istore 7, 2) := by decide +kernel
theorem dX5_longestChain_17 : decode cX5_longestChain 17 = .ok (.iload 7, 2) := by decide +kernel
theorem dX5_longestChain_19 : decode cX5_longestChain 19 = .ok (.iload_n 2, 1) := by decide +kernel
theorem dX5_longestChain_20 : decode cX5_longestChain 20 = .ok (.if_icmp .ge 43, 3) := by decide +kernel
theorem dX5_longestChain_23 : decode cX5_longestChain 23 = .ok (.aload_n 1, 1) := by decide +kernel
theorem dX5_longestChain_24 : decode cX5_longestChain 24 = .ok (.iload 7, 2) := by decide +kernel
theorem dX5_longestChain_26 : decode cX5_longestChain 26 = .ok (.laload, 1) := by decide +kernel
theorem dX5_longestChain_27 : decode cX5_longestChain 27 = .ok (.iload 4, 2) := by decide +kernel
theorem dX5_longestChain_29 : decode cX5_longestChain 29 = .ok (.invokestatic 28, 3) := by decide +kernel
theorem dX5_longestChain_32 : decode cX5_longestChain 32 = .ok (.ifCond .eq 25, 3) := by decide +kernel
theorem dX5_longestChain_35 : decode cX5_longestChain 35 = .ok (.aload_n 0, 1) := by decide +kernel
theorem dX5_longestChain_36 : decode cX5_longestChain 36 = .ok (.getfield 15, 3) := by decide +kernel
theorem dX5_longestChain_39 : decode cX5_longestChain 39 = .ok (.iload 7, 2) := by decide +kernel
theorem dX5_longestChain_41 : decode cX5_longestChain 41 = .ok (.iaload, 1) := by decide +kernel
theorem dX5_longestChain_42 : decode cX5_longestChain 42 = .ok (.ifCond .ne 15, 3) := by decide +kernel
theorem dX5_longestChain_45 : decode cX5_longestChain 45 = .ok (.aload_n 0, 1) := by decide +kernel
theorem dX5_longestChain_46 : decode cX5_longestChain 46 = .ok (.getfield 21, 3) := by decide +kernel
theorem dX5_longestChain_49 : decode cX5_longestChain 49 = .ok (.iload 6, 2) := by decide +kernel
theorem dX5_longestChain_51 : decode cX5_longestChain 51 = .ok (.iload 7, 2) := by decide +kernel
theorem dX5_longestChain_53 : decode cX5_longestChain 53 = .ok (.iastore, 1) := by decide +kernel
theorem dX5_longestChain_54 : decode cX5_longestChain 54 = .ok (.iinc 6 1, 3) := by decide +kernel
theorem dX5_longestChain_57 : decode cX5_longestChain 57 = .ok (.iinc 7 1, 3) := by decide +kernel
theorem dX5_longestChain_60 : decode cX5_longestChain 60 = .ok (.goto (-43), 3) := by decide +kernel
theorem dX5_longestChain_63 : decode cX5_longestChain 63 = .ok (.iconst 0, 1) := by decide +kernel
theorem dX5_longestChain_64 : decode cX5_longestChain 64 = .ok (.istore 7, 2) := by decide +kernel
theorem dX5_longestChain_66 : decode cX5_longestChain 66 = .ok (.iconst 0, 1) := by decide +kernel
theorem dX5_longestChain_67 : decode cX5_longestChain 67 = .ok (.istore 8, 2) := by decide +kernel
theorem dX5_longestChain_69 : decode cX5_longestChain 69 = .ok (.iload 8, 2) := by decide +kernel
theorem dX5_longestChain_71 : decode cX5_longestChain 71 = .ok (.iload 5, 2) := by decide +kernel
theorem dX5_longestChain_73 : decode cX5_longestChain 73 = .ok (.if_icmp .ge 147, 3) := by decide +kernel
theorem dX5_longestChain_76 : decode cX5_longestChain 76 = .ok (.iload 8, 2) := by decide +kernel
theorem dX5_longestChain_78 : decode cX5_longestChain 78 = .ok (.iload 6, 2) := by decide +kernel
theorem dX5_longestChain_80 : decode cX5_longestChain 80 = .ok (.if_icmp .ge 140, 3) := by decide +kernel
theorem dX5_longestChain_83 : decode cX5_longestChain 83 = .ok (.aload_n 0, 1) := by decide +kernel
theorem dX5_longestChain_84 : decode cX5_longestChain 84 = .ok (.getfield 21, 3) := by decide +kernel
theorem dX5_longestChain_87 : decode cX5_longestChain 87 = .ok (.iload 8, 2) := by decide +kernel
theorem dX5_longestChain_89 : decode cX5_longestChain 89 = .ok (.iaload, 1) := by decide +kernel
theorem dX5_longestChain_90 : decode cX5_longestChain 90 = .ok (.istore 9, 2) := by decide +kernel
theorem dX5_longestChain_92 : decode cX5_longestChain 92 = .ok (.iload 7, 2) := by decide +kernel
theorem dX5_longestChain_94 : decode cX5_longestChain 94 = .ok (.aload_n 0, 1) := by decide +kernel
theorem dX5_longestChain_95 : decode cX5_longestChain 95 = .ok (.getfield 18, 3) := by decide +kernel
theorem dX5_longestChain_98 : decode cX5_longestChain 98 = .ok (.iload 9, 2) := by decide +kernel
theorem dX5_longestChain_100 : decode cX5_longestChain 100 = .ok (.iaload, 1) := by decide +kernel
theorem dX5_longestChain_101 : decode cX5_longestChain 101 = .ok (.invokestatic 34, 3) := by decide +kernel
theorem dX5_longestChain_104 : decode cX5_longestChain 104 = .ok (.istore 7, 2) := by decide +kernel
theorem dX5_longestChain_106 : decode cX5_longestChain 106 = .ok (.iconst 0, 1) := by decide +kernel
theorem dX5_longestChain_107 : decode cX5_longestChain 107 = .ok (.istore 10, 2) := by decide +kernel
theorem dX5_longestChain_109 : decode cX5_longestChain 109 = .ok (.iload 10, 2) := by decide +kernel
theorem dX5_longestChain_111 : decode cX5_longestChain 111 = .ok (.iload_n 3, 1) := by decide +kernel
theorem dX5_longestChain_112 : decode cX5_longestChain 112 = .ok (.if_icmp .ge 102, 3) := by decide +kernel
theorem dX5_longestChain_115 : decode cX5_longestChain 115 = .ok (.aload_n 0, 1) := by decide +kernel
theorem dX5_longestChain_116 : decode cX5_longestChain 116 = .ok (.getfield 9, 3) := by decide +kernel
theorem dX5_longestChain_119 : decode cX5_longestChain 119 = .ok (.iload 9, 2) := by decide +kernel
theorem dX5_longestChain_121 : decode cX5_longestChain 121 = .ok (.bipush 10, 2) := by decide +kernel
theorem dX5_longestChain_123 : decode cX5_longestChain 123 = .ok (.imul, 1) := by decide +kernel
theorem dX5_longestChain_124 : decode cX5_longestChain 124 = .ok (.iload 10, 2) := by decide +kernel
theorem dX5_longestChain_126 : decode cX5_longestChain 126 = .ok (.iadd, 1) := by decide +kernel
theorem dX5_longestChain_127 : decode cX5_longestChain 127 = .ok (.iaload, 1) := by decide +kernel
theorem dX5_longestChain_128 : decode cX5_longestChain 128 = .ok (.istore 11, 2) := by decide +kernel
theorem dX5_longestChain_130 : decode cX5_longestChain 130 = .ok (.aload_n 1, 1) := by decide +kernel
theorem dX5_longestChain_131 : decode cX5_longestChain 131 = .ok (.iload 11, 2) := by decide +kernel
theorem dX5_longestChain_133 : decode cX5_longestChain 133 = .ok (.laload, 1) := by decide +kernel
theorem dX5_longestChain_134 : decode cX5_longestChain 134 = .ok (.iload 4, 2) := by decide +kernel
theorem dX5_longestChain_136 : decode cX5_longestChain 136 = .ok (.invokestatic 28, 3) := by decide +kernel
theorem dX5_longestChain_139 : decode cX5_longestChain 139 = .ok (.ifCond .eq 69, 3) := by decide +kernel
theorem dX5_longestChain_142 : decode cX5_longestChain 142 = .ok (.aload_n 0, 1) := by decide +kernel
theorem dX5_longestChain_143 : decode cX5_longestChain 143 = .ok (.getfield 18, 3) := by decide +kernel
theorem dX5_longestChain_146 : decode cX5_longestChain 146 = .ok (.iload 11, 2) := by decide +kernel
theorem dX5_longestChain_148 : decode cX5_longestChain 148 = .ok (.aload_n 0, 1) := by decide +kernel
theorem dX5_longestChain_149 : decode cX5_longestChain 149 = .ok (.getfield 18, 3) := by decide +kernel
theorem dX5_longestChain_152 : decode cX5_longestChain 152 = .ok (.iload 11, 2) := by decide +kernel
theorem dX5_longestChain_154 : decode cX5_longestChain 154 = .ok (.iaload, 1) := by decide +kernel
theorem dX5_longestChain_155 : decode cX5_longestChain 155 = .ok (.aload_n 0, 1) := by decide +kernel
theorem dX5_longestChain_156 : decode cX5_longestChain 156 = .ok (.getfield 18, 3) := by decide +kernel
theorem dX5_longestChain_159 : decode cX5_longestChain 159 = .ok (.iload 9, 2) := by decide +kernel
theorem dX5_longestChain_161 : decode cX5_longestChain 161 = .ok (.iaload, 1) := by decide +kernel
theorem dX5_longestChain_162 : decode cX5_longestChain 162 = .ok (.iconst 1, 1) := by decide +kernel
theorem dX5_longestChain_163 : decode cX5_longestChain 163 = .ok (.iadd, 1) := by decide +kernel
theorem dX5_longestChain_164 : decode cX5_longestChain 164 = .ok (.invokestatic 34, 3) := by decide +kernel
theorem dX5_longestChain_167 : decode cX5_longestChain 167 = .ok (.iastore, 1) := by decide +kernel
theorem dX5_longestChain_168 : decode cX5_longestChain 168 = .ok (.aload_n 0, 1) := by decide +kernel
theorem dX5_longestChain_169 : decode cX5_longestChain 169 = .ok (.getfield 15, 3) := by decide +kernel
theorem dX5_longestChain_172 : decode cX5_longestChain 172 = .ok (.iload 11, 2) := by decide +kernel
theorem dX5_longestChain_174 : decode cX5_longestChain 174 = .ok (.dup2, 1) := by decide +kernel
theorem dX5_longestChain_175 : decode cX5_longestChain 175 = .ok (.iaload, 1) := by decide +kernel
theorem dX5_longestChain_176 : decode cX5_longestChain 176 = .ok (.iconst 1, 1) := by decide +kernel
theorem dX5_longestChain_177 : decode cX5_longestChain 177 = .ok (.isub, 1) := by decide +kernel
theorem dX5_longestChain_178 : decode cX5_longestChain 178 = .ok (.iastore, 1) := by decide +kernel
theorem dX5_longestChain_179 : decode cX5_longestChain 179 = .ok (.aload_n 0, 1) := by decide +kernel
theorem dX5_longestChain_180 : decode cX5_longestChain 180 = .ok (.getfield 15, 3) := by decide +kernel
theorem dX5_longestChain_183 : decode cX5_longestChain 183 = .ok (.iload 11, 2) := by decide +kernel
theorem dX5_longestChain_185 : decode cX5_longestChain 185 = .ok (.iaload, 1) := by decide +kernel
theorem dX5_longestChain_186 : decode cX5_longestChain 186 = .ok (.ifCond .ne 22, 3) := by decide +kernel
theorem dX5_longestChain_189 : decode cX5_longestChain 189 = .ok (.iload 6, 2) := by decide +kernel
theorem dX5_longestChain_191 : decode cX5_longestChain 191 = .ok (.iload 5, 2) := by decide +kernel
theorem dX5_longestChain_193 : decode cX5_longestChain 193 = .ok (.if_icmp .ge 15, 3) := by decide +kernel
theorem dX5_longestChain_196 : decode cX5_longestChain 196 = .ok (.aload_n 0, 1) := by decide +kernel
theorem dX5_longestChain_197 : decode cX5_longestChain 197 = .ok (.getfield 21, 3) := by decide +kernel
theorem dX5_longestChain_200 : decode cX5_longestChain 200 = .ok (.iload 6, 2) := by decide +kernel
theorem dX5_longestChain_202 : decode cX5_longestChain 202 = .ok (.iload 11, 2) := by decide +kernel
theorem dX5_longestChain_204 : decode cX5_longestChain 204 = .ok (.iastore, 1) := by decide +kernel
theorem dX5_longestChain_205 : decode cX5_longestChain 205 = .ok (.iinc 6 1, 3) := by decide +kernel
theorem dX5_longestChain_208 : decode cX5_longestChain 208 = .ok (.iinc 10 1, 3) := by decide +kernel
theorem dX5_longestChain_211 : decode cX5_longestChain 211 = .ok (.goto (-102), 3) := by decide +kernel
theorem dX5_longestChain_214 : decode cX5_longestChain 214 = .ok (.iinc 8 1, 3) := by decide +kernel
theorem dX5_longestChain_217 : decode cX5_longestChain 217 = .ok (.goto (-148), 3) := by decide +kernel
theorem dX5_longestChain_220 : decode cX5_longestChain 220 = .ok (.iload 6, 2) := by decide +kernel
theorem dX5_longestChain_222 : decode cX5_longestChain 222 = .ok (.iload 5, 2) := by decide +kernel
theorem dX5_longestChain_224 : decode cX5_longestChain 224 = .ok (.if_icmp .ge 7, 3) := by decide +kernel
theorem dX5_longestChain_227 : decode cX5_longestChain 227 = .ok (.iconst (-1), 1) := by decide +kernel
theorem dX5_longestChain_228 : decode cX5_longestChain 228 = .ok (.goto 5, 3) := by decide +kernel
theorem dX5_longestChain_231 : decode cX5_longestChain 231 = .ok (.iload 7, 2) := by decide +kernel
theorem dX5_longestChain_233 : decode cX5_longestChain 233 = .ok (.ireturn, 1) := by decide +kernel
set_option maxRecDepth 20000 in
theorem ggX5_countEdges_J7_fill_53178 : GoodIn wsX5_countEdges wsJ7_fill_53178 := goodIn_r _ [7] rfl (by decide +kernel)
set_option maxRecDepth 20000 in
theorem gX5_countEdges_J7_fill_53178 : GoodIn wsX5_countEdges (va_wsS RX5 42 yJ7_fill_53178 wsJ7_fill_53178) := goodIn_app (goodIn_of _ (by decide +kernel)) ggX5_countEdges_J7_fill_53178
set_option maxRecDepth 20000 in
theorem ggX5_countEdges_X2_waitsIn : GoodIn wsX5_countEdges wsX2_waitsIn := goodIn_r _ [11] rfl (by decide +kernel)
set_option maxRecDepth 20000 in
theorem gX5_countEdges_X2_waitsIn : GoodIn wsX5_countEdges (va_wsS RX5 28 yX2_waitsIn wsX2_waitsIn) := goodIn_app (goodIn_of _ (by decide +kernel)) ggX5_countEdges_X2_waitsIn
theorem dX5_countEdges_0 : decode cX5_countEdges 0 = .ok (.aload_n 0, 1) := by decide +kernel
theorem dX5_countEdges_1 : decode cX5_countEdges 1 = .ok (.getfield 15, 3) := by decide +kernel
theorem dX5_countEdges_4 : decode cX5_countEdges 4 = .ok (.iconst 0, 1) := by decide +kernel
theorem dX5_countEdges_5 : decode cX5_countEdges 5 = .ok (.invokestatic 42, 3) := by decide +kernel
theorem dX5_countEdges_8 : decode cX5_countEdges 8 = .ok (.aload_n 0, 1) := by decide +kernel
theorem dX5_countEdges_9 : decode cX5_countEdges 9 = .ok (.getfield 18, 3) := by decide +kernel
theorem dX5_countEdges_12 : decode cX5_countEdges 12 = .ok (.iconst 1, 1) := by decide +kernel
theorem dX5_countEdges_13 : decode cX5_countEdges 13 = .ok (.invokestatic 42, 3) := by decide +kernel
theorem dX5_countEdges_16 : decode cX5_countEdges 16 = .ok (.iconst 0, 1) := by decide +kernel
theorem dX5_countEdges_17 : decode cX5_countEdges 17 = .ok (.istore 5, 2) := by decide +kernel
theorem dX5_countEdges_19 : decode cX5_countEdges 19 = .ok (.iconst 0, 1) := by decide +kernel
theorem dX5_countEdges_20 : decode cX5_countEdges 20 = .ok (.istore 6, 2) := by decide +kernel
theorem dX5_countEdges_22 : decode cX5_countEdges 22 = .ok (.iload 6, 2) := by decide +kernel
theorem dX5_countEdges_24 : decode cX5_countEdges 24 = .ok (.iload_n 2, 1) := by decide +kernel
theorem dX5_countEdges_25 : decode cX5_countEdges 25 = .ok (.if_icmp .ge 61, 3) := by decide +kernel
theorem dX5_countEdges_28 : decode cX5_countEdges 28 = .ok (.aload_n 1, 1) := by decide +kernel
theorem dX5_countEdges_29 : decode cX5_countEdges 29 = .ok (.iload 6, 2) := by decide +kernel
theorem dX5_countEdges_31 : decode cX5_countEdges 31 = .ok (.laload, 1) := by decide +kernel
theorem dX5_countEdges_32 : decode cX5_countEdges 32 = .ok (.iload 4, 2) := by decide +kernel
theorem dX5_countEdges_34 : decode cX5_countEdges 34 = .ok (.invokestatic 28, 3) := by decide +kernel
theorem dX5_countEdges_37 : decode cX5_countEdges 37 = .ok (.ifCond .eq 43, 3) := by decide +kernel
theorem dX5_countEdges_40 : decode cX5_countEdges 40 = .ok (.iinc 5 1, 3) := by decide +kernel
theorem dX5_countEdges_43 : decode cX5_countEdges 43 = .ok (.iconst 0, 1) := by decide +kernel
theorem dX5_countEdges_44 : decode cX5_countEdges 44 = .ok (.istore 7, 2) := by decide +kernel
theorem dX5_countEdges_46 : decode cX5_countEdges 46 = .ok (.iload 7, 2) := by decide +kernel
theorem dX5_countEdges_48 : decode cX5_countEdges 48 = .ok (.iload_n 3, 1) := by decide +kernel
theorem dX5_countEdges_49 : decode cX5_countEdges 49 = .ok (.if_icmp .ge 31, 3) := by decide +kernel
theorem dX5_countEdges_52 : decode cX5_countEdges 52 = .ok (.aload_n 0, 1) := by decide +kernel
theorem dX5_countEdges_53 : decode cX5_countEdges 53 = .ok (.getfield 15, 3) := by decide +kernel
theorem dX5_countEdges_56 : decode cX5_countEdges 56 = .ok (.aload_n 0, 1) := by decide +kernel
theorem dX5_countEdges_57 : decode cX5_countEdges 57 = .ok (.getfield 9, 3) := by decide +kernel
theorem dX5_countEdges_60 : decode cX5_countEdges 60 = .ok (.iload 6, 2) := by decide +kernel
theorem dX5_countEdges_62 : decode cX5_countEdges 62 = .ok (.bipush 10, 2) := by decide +kernel
theorem dX5_countEdges_64 : decode cX5_countEdges 64 = .ok (.imul, 1) := by decide +kernel
theorem dX5_countEdges_65 : decode cX5_countEdges 65 = .ok (.iload 7, 2) := by decide +kernel
theorem dX5_countEdges_67 : decode cX5_countEdges 67 = .ok (.iadd, 1) := by decide +kernel
theorem dX5_countEdges_68 : decode cX5_countEdges 68 = .ok (.iaload, 1) := by decide +kernel
theorem dX5_countEdges_69 : decode cX5_countEdges 69 = .ok (.dup2, 1) := by decide +kernel
theorem dX5_countEdges_70 : decode cX5_countEdges 70 = .ok (.iaload, 1) := by decide +kernel
theorem dX5_countEdges_71 : decode cX5_countEdges 71 = .ok (.iconst 1, 1) := by decide +kernel
theorem dX5_countEdges_72 : decode cX5_countEdges 72 = .ok (.iadd, 1) := by decide +kernel
theorem dX5_countEdges_73 : decode cX5_countEdges 73 = .ok (.iastore, 1) := by decide +kernel
theorem dX5_countEdges_74 : decode cX5_countEdges 74 = .ok (.iinc 7 1, 3) := by decide +kernel
theorem dX5_countEdges_77 : decode cX5_countEdges 77 = .ok (.goto (-31), 3) := by decide +kernel
theorem dX5_countEdges_80 : decode cX5_countEdges 80 = .ok (.iinc 6 1, 3) := by decide +kernel
theorem dX5_countEdges_83 : decode cX5_countEdges 83 = .ok (.goto (-61), 3) := by decide +kernel
theorem dX5_countEdges_86 : decode cX5_countEdges 86 = .ok (.iload 5, 2) := by decide +kernel
theorem dX5_countEdges_88 : decode cX5_countEdges 88 = .ok (.ireturn, 1) := by decide +kernel
