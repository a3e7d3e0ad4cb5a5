theorem dX7_go_200 : decode cX7_go 200 = .ok (.iastore, 1) := by decide +kernel
theorem dX7_go_201 : decode cX7_go 201 = .ok (.aload_n 0, 1) := by decide +kernel
theorem dX7_go_202 : decode cX7_go 202 = .ok (.getfield 47, 3) := by decide +kernel
theorem dX7_go_205 : decode cX7_go 205 = .ok (.iconst 3, 1) := by decide +kernel
theorem dX7_go_206 : decode cX7_go 206 = .ok (.iaload, 1) := by decide +kernel
theorem dX7_go_207 : decode cX7_go 207 = .ok (.ifCond .ne 137, 3) := by decide +kernel
theorem dX7_go_210 : decode cX7_go 210 = .ok (.aload_n 0, 1) := by decide +kernel
theorem dX7_go_211 : decode cX7_go 211 = .ok (.invokevirtual 133, 3) := by decide +kernel
theorem dX7_go_214 : decode cX7_go 214 = .ok (.goto 130, 3) := by decide +kernel
theorem dX7_go_217 : decode cX7_go 217 = .ok (.iconst 5, 1) := by decide +kernel
theorem dX7_go_218 : decode cX7_go 218 = .ok (.aload_n 0, 1) := by decide +kernel
theorem dX7_go_219 : decode cX7_go 219 = .ok (.getfield 47, 3) := by decide +kernel
theorem dX7_go_222 : decode cX7_go 222 = .ok (.iconst 0, 1) := by decide +kernel
theorem dX7_go_223 : decode cX7_go 223 = .ok (.iaload, 1) := by decide +kernel
theorem dX7_go_224 : decode cX7_go 224 = .ok (.imul, 1) := by decide +kernel
theorem dX7_go_225 : decode cX7_go 225 = .ok (.aload_n 0, 1) := by decide +kernel
theorem dX7_go_226 : decode cX7_go 226 = .ok (.getfield 47, 3) := by decide +kernel
theorem dX7_go_229 : decode cX7_go 229 = .ok (.iconst 1, 1) := by decide +kernel
theorem dX7_go_230 : decode cX7_go 230 = .ok (.iaload, 1) := by decide +kernel
theorem dX7_go_231 : decode cX7_go 231 = .ok (.iadd, 1) := by decide +kernel
theorem dX7_go_232 : decode cX7_go 232 = .ok (.istore_n 3, 1) := by decide +kernel
theorem dX7_go_233 : decode cX7_go 233 = .ok (.aload_n 0, 1) := by decide +kernel
theorem dX7_go_234 : decode cX7_go 234 = .ok (.getfield 47, 3) := by decide +kernel
theorem dX7_go_237 : decode cX7_go 237 = .ok (.iconst 2, 1) := by decide +kernel
theorem dX7_go_238 : decode cX7_go 238 = .ok (.aload_n 0, 1) := by decide +kernel
theorem dX7_go_239 : decode cX7_go 239 = .ok (.getfield 47, 3) := by decide +kernel
theorem dX7_go_242 : decode cX7_go 242 = .ok (.iconst 2, 1) := by decide +kernel
theorem dX7_go_243 : decode cX7_go 243 = .ok (.iaload, 1) := by decide +kernel
theorem dX7_go_244 : decode cX7_go 244 = .ok (.bipush 31, 2) := by decide +kernel
theorem dX7_go_246 : decode cX7_go 246 = .ok (.if_icmp .ge 14, 3) := by decide +kernel
theorem dX7_go_249 : decode cX7_go 249 = .ok (.aload_n 0, 1) := by decide +kernel
theorem dX7_go_250 : decode cX7_go 250 = .ok (.getfield 47, 3) := by decide +kernel
theorem dX7_go_253 : decode cX7_go 253 = .ok (.iconst 2, 1) := by decide +kernel
theorem dX7_go_254 : decode cX7_go 254 = .ok (.iaload, 1) := by decide +kernel
theorem dX7_go_255 : decode cX7_go 255 = .ok (.iconst 1, 1) := by decide +kernel
theorem dX7_go_256 : decode cX7_go 256 = .ok (.iadd, 1) := by decide +kernel
theorem dX7_go_257 : decode cX7_go 257 = .ok (.goto 5, 3) := by decide +kernel
theorem dX7_go_260 : decode cX7_go 260 = .ok (.bipush 31, 2) := by decide +kernel
theorem dX7_go_262 : decode cX7_go 262 = .ok (.iastore, 1) := by decide +kernel
theorem dX7_go_263 : decode cX7_go 263 = .ok (.aload_n 0, 1) := by decide +kernel
theorem dX7_go_264 : decode cX7_go 264 = .ok (.getfield 47, 3) := by decide +kernel
theorem dX7_go_267 : decode cX7_go 267 = .ok (.bipush 7, 2) := by decide +kernel
theorem dX7_go_269 : decode cX7_go 269 = .ok (.iaload, 1) := by decide +kernel
theorem dX7_go_270 : decode cX7_go 270 = .ok (.aload_n 0, 1) := by decide +kernel
theorem dX7_go_271 : decode cX7_go 271 = .ok (.getfield 26, 3) := by decide +kernel
theorem dX7_go_274 : decode cX7_go 274 = .ok (.iload_n 3, 1) := by decide +kernel
theorem dX7_go_275 : decode cX7_go 275 = .ok (.iaload, 1) := by decide +kernel
theorem dX7_go_276 : decode cX7_go 276 = .ok (.iconst (-1), 1) := by decide +kernel
theorem dX7_go_277 : decode cX7_go 277 = .ok (.ixor, 1) := by decide +kernel
theorem dX7_go_278 : decode cX7_go 278 = .ok (.iand, 1) := by decide +kernel
theorem dX7_go_279 : decode cX7_go 279 = .ok (.ifCond .ne 19, 3) := by decide +kernel
theorem dX7_go_282 : decode cX7_go 282 = .ok (.aload_n 0, 1) := by decide +kernel
theorem dX7_go_283 : decode cX7_go 283 = .ok (.getfield 47, 3) := by decide +kernel
theorem dX7_go_286 : decode cX7_go 286 = .ok (.bipush 6, 2) := by decide +kernel
theorem dX7_go_288 : decode cX7_go 288 = .ok (.iaload, 1) := by decide +kernel
theorem dX7_go_289 : decode cX7_go 289 = .ok (.aload_n 0, 1) := by decide +kernel
theorem dX7_go_290 : decode cX7_go 290 = .ok (.getfield 47, 3) := by decide +kernel
theorem dX7_go_293 : decode cX7_go 293 = .ok (.iconst 0, 1) := by decide +kernel
theorem dX7_go_294 : decode cX7_go 294 = .ok (.iaload, 1) := by decide +kernel
theorem dX7_go_295 : decode cX7_go 295 = .ok (.if_icmp .eq 7, 3) := by decide +kernel
theorem dX7_go_298 : decode cX7_go 298 = .ok (.iconst 1, 1) := by decide +kernel
theorem dX7_go_299 : decode cX7_go 299 = .ok (.goto 4, 3) := by decide +kernel
theorem dX7_go_302 : decode cX7_go 302 = .ok (.iconst 0, 1) := by decide +kernel
theorem dX7_go_303 : decode cX7_go 303 = .ok (.istore 4, 2) := by decide +kernel
theorem dX7_go_305 : decode cX7_go 305 = .ok (.aload_n 0, 1) := by decide +kernel
theorem dX7_go_306 : decode cX7_go 306 = .ok (.getfield 47, 3) := by decide +kernel
theorem dX7_go_309 : decode cX7_go 309 = .ok (.iconst 2, 1) := by decide +kernel
theorem dX7_go_310 : decode cX7_go 310 = .ok (.iaload, 1) := by decide +kernel
theorem dX7_go_311 : decode cX7_go 311 = .ok (.aload_n 0, 1) := by decide +kernel
theorem dX7_go_312 : decode cX7_go 312 = .ok (.getfield 32, 3) := by decide +kernel
theorem dX7_go_315 : decode cX7_go 315 = .ok (.iload_n 3, 1) := by decide +kernel
theorem dX7_go_316 : decode cX7_go 316 = .ok (.iaload, 1) := by decide +kernel
theorem dX7_go_317 : decode cX7_go 317 = .ok (.if_icmp .ge 23, 3) := by decide +kernel
theorem dX7_go_320 : decode cX7_go 320 = .ok (.aload_n 0, 1) := by decide +kernel
theorem dX7_go_321 : decode cX7_go 321 = .ok (.getfield 47, 3) := by decide +kernel
theorem dX7_go_324 : decode cX7_go 324 = .ok (.iconst 2, 1) := by decide +kernel
theorem dX7_go_325 : decode cX7_go 325 = .ok (.iaload, 1) := by decide +kernel
theorem dX7_go_326 : decode cX7_go 326 = .ok (.aload_n 0, 1) := by decide +kernel
theorem dX7_go_327 : decode cX7_go 327 = .ok (.getfield 29, 3) := by decide +kernel
theorem dX7_go_330 : decode cX7_go 330 = .ok (.iload_n 3, 1) := by decide +kernel
theorem dX7_go_331 : decode cX7_go 331 = .ok (.iaload, 1) := by decide +kernel
theorem dX7_go_332 : decode cX7_go 332 = .ok (.if_icmp .lt 12, 3) := by decide +kernel
theorem dX7_go_335 : decode cX7_go 335 = .ok (.iload 4, 2) := by decide +kernel
theorem dX7_go_337 : decode cX7_go 337 = .ok (.ifCond .eq 7, 3) := by decide +kernel
theorem dX7_go_340 : decode cX7_go 340 = .ok (.aload_n 0, 1) := by decide +kernel
theorem dX7_go_341 : decode cX7_go 341 = .ok (.invokevirtual 140, 3) := by decide +kernel
theorem dX7_go_344 : decode cX7_go 344 = .ok (.aload_n 0, 1) := by decide +kernel
theorem dX7_go_345 : decode cX7_go 345 = .ok (.iload_n 2, 1) := by decide +kernel
theorem dX7_go_346 : decode cX7_go 346 = .ok (.aload_n 0, 1) := by decide +kernel
theorem dX7_go_347 : decode cX7_go 347 = .ok (.invokevirtual 136, 3) := by decide +kernel
theorem dX7_go_350 : decode cX7_go 350 = .ok (.invokevirtual 143, 3) := by decide +kernel
theorem dX7_go_353 : decode cX7_go 353 = .ok (.ireturn, 1) := by decide +kernel
theorem dX7_fault_0 : decode cX7_fault 0 = .ok (.iconst 0, 1) := by decide +kernel
theorem dX7_fault_1 : decode cX7_fault 1 = .ok (.istore_n 3, 1) := by decide +kernel
theorem dX7_fault_2 : decode cX7_fault 2 = .ok (.iload_n 3, 1) := by decide +kernel
theorem dX7_fault_3 : decode cX7_fault 3 = .ok (.aload_n 0, 1) := by decide +kernel
theorem dX7_fault_4 : decode cX7_fault 4 = .ok (.getfield 82, 3) := by decide +kernel
theorem dX7_fault_7 : decode cX7_fault 7 = .ok (.if_icmp .ge 58, 3) := by decide +kernel
theorem dX7_fault_10 : decode cX7_fault 10 = .ok (.iconst 0, 1) := by decide +kernel
theorem dX7_fault_11 : decode cX7_fault 11 = .ok (.istore 4, 2) := by decide +kernel
theorem dX7_fault_13 : decode cX7_fault 13 = .ok (.iload 4, 2) := by decide +kernel
theorem dX7_fault_15 : decode cX7_fault 15 = .ok (.aload_n 0, 1) := by decide +kernel
theorem dX7_fault_16 : decode cX7_fault 16 = .ok (.getfield 82, 3) := by decide +kernel
theorem dX7_fault_19 : decode cX7_fault 19 = .ok (.if_icmp .ge 40, 3) := by decide +kernel
theorem dX7_fault_22 : decode cX7_fault 22 = .ok (.aload_n 0, 1) := by decide +kernel
theorem dX7_fault_23 : decode cX7_fault 23 = .ok (.getfield 7, 3) := by decide +kernel
theorem dX7_fault_26 : decode cX7_fault 26 = .ok (.bipush 6, 2) := by decide +kernel
theorem dX7_fault_28 : decode cX7_fault 28 = .ok (.iload_n 3, 1) := by decide +kernel
theorem dX7_fault_29 : decode cX7_fault 29 = .ok (.imul, 1) := by decide +kernel
theorem dX7_fault_30 : decode cX7_fault 30 = .ok (.iload 4, 2) := by decide +kernel
theorem dX7_fault_32 : decode cX7_fault 32 = .ok (.iadd, 1) := by decide +kernel
theorem dX7_fault_33 : decode cX7_fault 33 = .ok (.baload, 1) := by decide +kernel
theorem dX7_fault_34 : decode cX7_fault 34 = .ok (.ifCond .eq 19, 3) := by decide +kernel
theorem dX7_fault_37 : decode cX7_fault 37 = .ok (.iload_n 2, 1) := by decide +kernel
theorem dX7_fault_38 : decode cX7_fault 38 = .ok (.iload_n 3, 1) := by decide +kernel
theorem dX7_fault_39 : decode cX7_fault 39 = .ok (.ishr, 1) := by decide +kernel
theorem dX7_fault_40 : decode cX7_fault 40 = .ok (.iload_n 2, 1) := by decide +kernel
theorem dX7_fault_41 : decode cX7_fault 41 = .ok (.iload 4, 2) := by decide +kernel
theorem dX7_fault_43 : decode cX7_fault 43 = .ok (.ishr, 1) := by decide +kernel
theorem dX7_fault_44 : decode cX7_fault 44 = .ok (.iand, 1) := by decide +kernel
theorem dX7_fault_45 : decode cX7_fault 45 = .ok (.iconst 1, 1) := by decide +kernel
theorem dX7_fault_46 : decode cX7_fault 46 = .ok (.iand, 1) := by decide +kernel
theorem dX7_fault_47 : decode cX7_fault 47 = .ok (.iconst 1, 1) := by decide +kernel
theorem dX7_fault_48 : decode cX7_fault 48 = .ok (.if_icmp .ne 5, 3) := by decide +kernel
theorem dX7_fault_51 : decode cX7_fault 51 = .ok (.iconst 1, 1) := by decide +kernel
theorem dX7_fault_52 : decode cX7_fault 52 = .ok (.ireturn, 1) := by decide +kernel
theorem dX7_fault_53 : decode cX7_fault 53 = .ok (.iinc 4 1, 3) := by decide +kernel
theorem dX7_fault_56 : decode cX7_fault 56 = .ok (.goto (-43), 3) := by decide +kernel
theorem dX7_fault_59 : decode cX7_fault 59 = .ok (.iinc 3 1, 3) := by decide +kernel
theorem dX7_fault_62 : decode cX7_fault 62 = .ok (.goto (-60), 3) := by decide +kernel
theorem dX7_fault_65 : decode cX7_fault 65 = .ok (.iconst 0, 1) := by decide +kernel
theorem dX7_fault_66 : decode cX7_fault 66 = .ok (.istore_n 3, 1) := by decide +kernel
theorem dX7_fault_67 : decode cX7_fault 67 = .ok (.iload_n 3, 1) := by decide +kernel
theorem dX7_fault_68 : decode cX7_fault 68 = .ok (.aload_n 0, 1) := by decide +kernel
theorem dX7_fault_69 : decode cX7_fault 69 = .ok (.getfield 82, 3) := by decide +kernel
theorem dX7_fault_72 : decode cX7_fault 72 = .ok (.if_icmp .ge 98, 3) := by decide +kernel
theorem dX7_fault_75 : decode cX7_fault 75 = .ok (.iload_n 2, 1) := by decide +kernel
theorem dX7_fault_76 : decode cX7_fault 76 = .ok (.iload_n 3, 1) := by decide +kernel
theorem dX7_fault_77 : decode cX7_fault 77 = .ok (.ishr, 1) := by decide +kernel
theorem dX7_fault_78 : decode cX7_fault 78 = .ok (.iconst 1, 1) := by decide +kernel
theorem dX7_fault_79 : decode cX7_fault 79 = .ok (.iand, 1) := by decide +kernel
theorem dX7_fault_80 : decode cX7_fault 80 = .ok (.ifCond .eq 84, 3) := by decide +kernel
theorem dX7_fault_83 : decode cX7_fault 83 = .ok (.iload_n 1, 1) := by decide +kernel
theorem dX7_fault_84 : decode cX7_fault 84 = .ok (.iload_n 3, 1) := by decide +kernel
theorem dX7_fault_85 : decode cX7_fault 85 = .ok (.ishr, 1) := by decide +kernel
theorem dX7_fault_86 : decode cX7_fault 86 = .ok (.iconst 1, 1) := by decide +kernel
theorem dX7_fault_87 : decode cX7_fault 87 = .ok (.iand, 1) := by decide +kernel
theorem dX7_fault_88 : decode cX7_fault 88 = .ok (.iconst 1, 1) := by decide +kernel
theorem dX7_fault_89 : decode cX7_fault 89 = .ok (.if_icmp .ne 6, 3) := by decide +kernel
theorem dX7_fault_92 : decode cX7_fault 92 = .ok (.goto 72, 3) := by decide +kernel
theorem dX7_fault_95 : decode cX7_fault 95 = .ok (.iconst 0, 1) := by decide +kernel
theorem dX7_fault_96 : decode cX7_fault 96 = .ok (.istore 4, 2) := by decide +kernel
theorem dX7_fault_98 : decode cX7_fault 98 = .ok (.iload 4, 2) := by decide +kernel
theorem dX7_fault_100 : decode cX7_fault 100 = .ok (.aload_n 0, 1) := by decide +kernel
theorem dX7_fault_101 : decode cX7_fault 101 = .ok (.getfield 82, 3) := by decide +kernel
theorem dX7_fault_104 : decode cX7_fault 104 = .ok (.if_icmp .ge 60, 3) := by decide +kernel
theorem dX7_fault_107 : decode cX7_fault 107 = .ok (.aload_n 0, 1) := by decide +kernel
theorem dX7_fault_108 : decode cX7_fault 108 = .ok (.getfield 7, 3) := by decide +kernel
theorem dX7_fault_111 : decode cX7_fault 111 = .ok (.bipush 6, 2) := by decide +kernel
theorem dX7_fault_113 : decode cX7_fault 113 = .ok (.iload 4, 2) := by decide +kernel
theorem dX7_fault_115 : decode cX7_fault 115 = .ok (.imul, 1) := by decide +kernel
theorem dX7_fault_116 : decode cX7_fault 116 = .ok (.iload_n 3, 1) := by decide +kernel
theorem dX7_fault_117 : decode cX7_fault 117 = .ok (.iadd, 1) := by decide +kernel
theorem dX7_fault_118 : decode cX7_fault 118 = .ok (.baload, 1) := by decide +kernel
theorem dX7_fault_119 : decode cX7_fault 119 = .ok (.ifCond .eq 39, 3) := by decide +kernel
theorem dX7_fault_122 : decode cX7_fault 122 = .ok (.iload_n 2, 1) := by decide +kernel
theorem dX7_fault_123 : decode cX7_fault 123 = .ok (.iload 4, 2) := by decide +kernel
theorem dX7_fault_125 : decode cX7_fault 125 = .ok (.ishr, 1) := by decide +kernel
theorem dX7_fault_126 : decode cX7_fault 126 = .ok (.iconst 1, 1) := by decide +kernel
theorem dX7_fault_127 : decode cX7_fault 127 = .ok (.iand, 1) := by decide +kernel
theorem dX7_fault_128 : decode cX7_fault 128 = .ok (.ifCond .ne 30, 3) := by decide +kernel
theorem dX7_fault_131 : decode cX7_fault 131 = .ok (.aload_n 0, 1) := by decide +kernel
theorem dX7_fault_132 : decode cX7_fault 132 = .ok (.getfield 47, 3) := by decide +kernel
theorem dX7_fault_135 : decode cX7_fault 135 = .ok (.bipush 8, 2) := by decide +kernel
theorem dX7_fault_137 : decode cX7_fault 137 = .ok (.iload 4, 2) := by decide +kernel
theorem dX7_fault_139 : decode cX7_fault 139 = .ok (.iadd, 1) := by decide +kernel
theorem dX7_fault_140 : decode cX7_fault 140 = .ok (.iaload, 1) := by decide +kernel
theorem dX7_fault_141 : decode cX7_fault 141 = .ok (.aload_n 0, 1) := by decide +kernel
theorem dX7_fault_142 : decode cX7_fault 142 = .ok (.getfield 13, 3) := by decide +kernel
theorem dX7_fault_145 : decode cX7_fault 145 = .ok (.bipush 6, 2) := by decide +kernel
theorem dX7_fault_147 : decode cX7_fault 147 = .ok (.iload 4, 2) := by decide +kernel
theorem dX7_fault_149 : decode cX7_fault 149 = .ok (.imul, 1) := by decide +kernel
theorem dX7_fault_150 : decode cX7_fault 150 = .ok (.iload_n 3, 1) := by decide +kernel
theorem dX7_fault_151 : decode cX7_fault 151 = .ok (.iadd, 1) := by decide +kernel
theorem dX7_fault_152 : decode cX7_fault 152 = .ok (.iaload, 1) := by decide +kernel
theorem dX7_fault_153 : decode cX7_fault 153 = .ok (.if_icmp .ge 5, 3) := by decide +kernel
theorem dX7_fault_156 : decode cX7_fault 156 = .ok (.iconst 2, 1) := by decide +kernel
theorem dX7_fault_157 : decode cX7_fault 157 = .ok (.ireturn, 1) := by decide +kernel
theorem dX7_fault_158 : decode cX7_fault 158 = .ok (.iinc 4 1, 3) := by decide +kernel
theorem dX7_fault_161 : decode cX7_fault 161 = .ok (.goto (-63), 3) := by decide +kernel
theorem dX7_fault_164 : decode cX7_fault 164 = .ok (.iinc 3 1, 3) := by decide +kernel
theorem dX7_fault_167 : decode cX7_fault 167 = .ok (.goto (-100), 3) := by decide +kernel
theorem dX7_fault_170 : decode cX7_fault 170 = .ok (.iconst 0, 1) := by decide +kernel
theorem dX7_fault_171 : decode cX7_fault 171 = .ok (.istore_n 3, 1) := by decide +kernel
theorem dX7_fault_172 : decode cX7_fault 172 = .ok (.iload_n 3, 1) := by decide +kernel
theorem dX7_fault_173 : decode cX7_fault 173 = .ok (.aload_n 0, 1) := by decide +kernel
theorem dX7_fault_174 : decode cX7_fault 174 = .ok (.getfield 82, 3) := by decide +kernel
theorem dX7_fault_177 : decode cX7_fault 177 = .ok (.if_icmp .ge 46, 3) := by decide +kernel
theorem dX7_fault_180 : decode cX7_fault 180 = .ok (.iload_n 1, 1) := by decide +kernel
theorem dX7_fault_181 : decode cX7_fault 181 = .ok (.iload_n 3, 1) := by decide +kernel
theorem dX7_fault_182 : decode cX7_fault 182 = .ok (.ishr, 1) := by decide +kernel
theorem dX7_fault_183 : decode cX7_fault 183 = .ok (.iconst 1, 1) := by decide +kernel
theorem dX7_fault_184 : decode cX7_fault 184 = .ok (.iand, 1) := by decide +kernel
theorem dX7_fault_185 : decode cX7_fault 185 = .ok (.iconst 1, 1) := by decide +kernel
theorem dX7_fault_186 : decode cX7_fault 186 = .ok (.if_icmp .ne 31, 3) := by decide +kernel
theorem dX7_fault_189 : decode cX7_fault 189 = .ok (.iload_n 2, 1) := by decide +kernel
theorem dX7_fault_190 : decode cX7_fault 190 = .ok (.iload_n 3, 1) := by decide +kernel
theorem dX7_fault_191 : decode cX7_fault 191 = .ok (.ishr, 1) := by decide +kernel
theorem dX7_fault_192 : decode cX7_fault 192 = .ok (.iconst 1, 1) := by decide +kernel
theorem dX7_fault_193 : decode cX7_fault 193 = .ok (.iand, 1) := by decide +kernel
theorem dX7_fault_194 : decode cX7_fault 194 = .ok (.ifCond .ne 23, 3) := by decide +kernel
theorem dX7_fault_197 : decode cX7_fault 197 = .ok (.aload_n 0, 1) := by decide +kernel
theorem dX7_fault_198 : decode cX7_fault 198 = .ok (.getfield 50, 3) := by decide +kernel
theorem dX7_fault_201 : decode cX7_fault 201 = .ok (.bipush 8, 2) := by decide +kernel
theorem dX7_fault_203 : decode cX7_fault 203 = .ok (.iload_n 3, 1) := by decide +kernel
theorem dX7_fault_204 : decode cX7_fault 204 = .ok (.iadd, 1) := by decide +kernel
theorem dX7_fault_205 : decode cX7_fault 205 = .ok (.iaload, 1) := by decide +kernel
theorem dX7_fault_206 : decode cX7_fault 206 = .ok (.aload_n 0, 1) := by decide +kernel
theorem dX7_fault_207 : decode cX7_fault 207 = .ok (.getfield 17, 3) := by decide +kernel
theorem dX7_fault_210 : decode cX7_fault 210 = .ok (.iload_n 3, 1) := by decide +kernel
theorem dX7_fault_211 : decode cX7_fault 211 = .ok (.iaload, 1) := by decide +kernel
theorem dX7_fault_212 : decode cX7_fault 212 = .ok (.if_icmp .ge 5, 3) := by decide +kernel
theorem dX7_fault_215 : decode cX7_fault 215 = .ok (.iconst 3, 1) := by decide +kernel
theorem dX7_fault_216 : decode cX7_fault 216 = .ok (.ireturn, 1) := by decide +kernel
theorem dX7_fault_217 : decode cX7_fault 217 = .ok (.iinc 3 1, 3) := by decide +kernel
theorem dX7_fault_220 : decode cX7_fault 220 = .ok (.goto (-48), 3) := by decide +kernel
theorem dX7_fault_223 : decode cX7_fault 223 = .ok (.iconst 0, 1) := by decide +kernel
theorem dX7_fault_224 : decode cX7_fault 224 = .ok (.istore_n 3, 1) := by decide +kernel
theorem dX7_fault_225 : decode cX7_fault 225 = .ok (.iload_n 3, 1) := by decide +kernel
theorem dX7_fault_226 : decode cX7_fault 226 = .ok (.aload_n 0, 1) := by decide +kernel
theorem dX7_fault_227 : decode cX7_fault 227 = .ok (.getfield 82, 3) := by decide +kernel
theorem dX7_fault_230 : decode cX7_fault 230 = .ok (.if_icmp .ge 89, 3) := by decide +kernel
theorem dX7_fault_233 : decode cX7_fault 233 = .ok (.iload_n 2, 1) := by decide +kernel
theorem dX7_fault_234 : decode cX7_fault 234 = .ok (.iload_n 3, 1) := by decide +kernel
theorem dX7_fault_235 : decode cX7_fault 235 = .ok (.ishr, 1) := by decide +kernel
theorem dX7_fault_236 : decode cX7_fault 236 = .ok (.iconst 1, 1) := by decide +kernel
theorem dX7_fault_237 : decode cX7_fault 237 = .ok (.iand, 1) := by decide +kernel
theorem dX7_fault_238 : decode cX7_fault 238 = .ok (.ifCond .eq 75, 3) := by decide +kernel
theorem dX7_fault_241 : decode cX7_fault 241 = .ok (.aload_n 0, 1) := by decide +kernel
theorem dX7_fault_242 : decode cX7_fault 242 = .ok (.getfield 47, 3) := by decide +kernel
theorem dX7_fault_245 : decode cX7_fault 245 = .ok (.bipush 8, 2) := by decide +kernel
theorem dX7_fault_247 : decode cX7_fault 247 = .ok (.iload_n 3, 1) := by decide +kernel
theorem dX7_fault_248 : decode cX7_fault 248 = .ok (.iadd, 1) := by decide +kernel
theorem dX7_fault_249 : decode cX7_fault 249 = .ok (.iaload, 1) := by decide +kernel
theorem dX7_fault_250 : decode cX7_fault 250 = .ok (.aload_n 0, 1) := by decide +kernel
theorem dX7_fault_251 : decode cX7_fault 251 = .ok (.getfield 20, 3) := by decide +kernel
theorem dX7_fault_254 : decode cX7_fault 254 = .ok (.iload_n 3, 1) := by decide +kernel
theorem dX7_fault_255 : decode cX7_fault 255 = .ok (.iaload, 1) := by decide +kernel
theorem dX7_fault_256 : decode cX7_fault 256 = .ok (.if_icmp .gt 6, 3) := by decide +kernel
theorem dX7_fault_259 : decode cX7_fault 259 = .ok (.goto 54, 3) := by decide +kernel
theorem dX7_fault_262 : decode cX7_fault 262 = .ok (.iconst 0, 1) := by decide +kernel
theorem dX7_fault_263 : decode cX7_fault 263 = .ok (.istore 4, 2) := by decide +kernel
theorem dX7_fault_265 : decode cX7_fault 265 = .ok (.iload 4, 2) := by decide +kernel
theorem dX7_fault_267 : decode cX7_fault 267 = .ok (.aload_n 0, 1) := by decide +kernel
theorem dX7_fault_268 : decode cX7_fault 268 = .ok (.getfield 82, 3) := by decide +kernel
theorem dX7_fault_271 : decode cX7_fault 271 = .ok (.if_icmp .ge 42, 3) := by decide +kernel
theorem dX7_fault_274 : decode cX7_fault 274 = .ok (.aload_n 0, 1) := by decide +kernel
theorem dX7_fault_275 : decode cX7_fault 275 = .ok (.getfield 7, 3) := by decide +kernel
theorem dX7_fault_278 : decode cX7_fault 278 = .ok (.bipush 6, 2) := by decide +kernel
theorem dX7_fault_280 : decode cX7_fault 280 = .ok (.iload_n 3, 1) := by decide +kernel
theorem dX7_fault_281 : decode cX7_fault 281 = .ok (.imul, 1) := by decide +kernel
theorem dX7_fault_282 : decode cX7_fault 282 = .ok (.iload 4, 2) := by decide +kernel
theorem dX7_fault_284 : decode cX7_fault 284 = .ok (.iadd, 1) := by decide +kernel
theorem dX7_fault_285 : decode cX7_fault 285 = .ok (.baload, 1) := by decide +kernel
theorem dX7_fault_286 : decode cX7_fault 286 = .ok (.ifCond .eq 21, 3) := by decide +kernel
theorem dX7_fault_289 : decode cX7_fault 289 = .ok (.aload_n 0, 1) := by decide +kernel
theorem dX7_fault_290 : decode cX7_fault 290 = .ok (.getfield 47, 3) := by decide +kernel
theorem dX7_fault_293 : decode cX7_fault 293 = .ok (.bipush 7, 2) := by decide +kernel
theorem dX7_fault_295 : decode cX7_fault 295 = .ok (.iaload, 1) := by decide +kernel
theorem dX7_fault_296 : decode cX7_fault 296 = .ok (.iload 4, 2) := by decide +kernel
theorem dX7_fault_298 : decode cX7_fault 298 = .ok (.ishr, 1) := by decide +kernel
theorem dX7_fault_299 : decode cX7_fault 299 = .ok (.iconst 1, 1) := by decide +kernel
theorem dX7_fault_300 : decode cX7_fault 300 = .ok (.iand, 1) := by decide +kernel
theorem dX7_fault_301 : decode cX7_fault 301 = .ok (.iconst 1, 1) := by decide +kernel
theorem dX7_fault_302 : decode cX7_fault 302 = .ok (.if_icmp .ne 5, 3) := by decide +kernel
theorem dX7_fault_305 : decode cX7_fault 305 = .ok (.iconst 4, 1) := by decide +kernel
theorem dX7_fault_306 : decode cX7_fault 306 = .ok (.ireturn, 1) := by decide +kernel
theorem dX7_fault_307 : decode cX7_fault 307 = .ok (.iinc 4 1, 3) := by decide +kernel
theorem dX7_fault_310 : decode cX7_fault 310 = .ok (.goto (-45), 3) := by decide +kernel
theorem dX7_fault_313 : decode cX7_fault 313 = .ok (.iinc 3 1, 3) := by decide +kernel
theorem dX7_fault_316 : decode cX7_fault 316 = .ok (.goto (-91), 3) := by decide +kernel
theorem dX7_fault_319 : decode cX7_fault 319 = .ok (.iconst 0, 1) := by decide +kernel
theorem dX7_fault_320 : decode cX7_fault 320 = .ok (.ireturn, 1) := by decide +kernel
theorem dX7_tell_0 : decode cX7_tell 0 = .ok (.iload_n 1, 1) := by decide +kernel
theorem dX7_tell_1 : decode cX7_tell 1 = .ok (.aload_n 0, 1) := by decide +kernel
theorem dX7_tell_2 : decode cX7_tell 2 = .ok (.getfield 97, 3) := by decide +kernel
theorem dX7_tell_5 : decode cX7_tell 5 = .ok (.if_icmp .le 12, 3) := by decide +kernel
theorem dX7_tell_8 : decode cX7_tell 8 = .ok (.aload_n 0, 1) := by decide +kernel
theorem dX7_tell_9 : decode cX7_tell 9 = .ok (.getfield 94, 3) := by decide +kernel
theorem dX7_tell_12 : decode cX7_tell 12 = .ok (.bipush 60, 2) := by decide +kernel
theorem dX7_tell_14 : decode cX7_tell 14 = .ok (.if_icmp .ne 5, 3) := by decide +kernel
theorem dX7_tell_17 : decode cX7_tell 17 = .ok (.iconst 0, 1) := by decide +kernel
theorem dX7_tell_18 : decode cX7_tell 18 = .ok (.ireturn, 1) := by decide +kernel
theorem dX7_tell_19 : decode cX7_tell 19 = .ok (.iconst 0, 1) := by decide +kernel
theorem dX7_tell_20 : decode cX7_tell 20 = .ok (.istore_n 3, 1) := by decide +kernel
theorem dX7_tell_21 : decode cX7_tell 21 = .ok (.iload_n 3, 1) := by decide +kernel
theorem dX7_tell_22 : decode cX7_tell 22 = .ok (.aload_n 0, 1) := by decide +kernel
theorem dX7_tell_23 : decode cX7_tell 23 = .ok (.getfield 94, 3) := by decide +kernel
theorem dX7_tell_26 : decode cX7_tell 26 = .ok (.if_icmp .ge 21, 3) := by decide +kernel
theorem dX7_tell_29 : decode cX7_tell 29 = .ok (.aload_n 0, 1) := by decide +kernel
theorem dX7_tell_30 : decode cX7_tell 30 = .ok (.getfield 38, 3) := by decide +kernel
theorem dX7_tell_33 : decode cX7_tell 33 = .ok (.iload_n 3, 1) := by decide +kernel
theorem dX7_tell_34 : decode cX7_tell 34 = .ok (.iaload, 1) := by decide +kernel
theorem dX7_tell_35 : decode cX7_tell 35 = .ok (.iload_n 1, 1) := by decide +kernel
theorem dX7_tell_36 : decode cX7_tell 36 = .ok (.if_icmp .ne 5, 3) := by decide +kernel
theorem dX7_tell_39 : decode cX7_tell 39 = .ok (.iconst 0, 1) := by decide +kernel
theorem dX7_tell_40 : decode cX7_tell 40 = .ok (.ireturn, 1) := by decide +kernel
theorem dX7_tell_41 : decode cX7_tell 41 = .ok (.iinc 3 1, 3) := by decide +kernel
theorem dX7_tell_44 : decode cX7_tell 44 = .ok (.goto (-23), 3) := by decide +kernel
theorem dX7_tell_47 : decode cX7_tell 47 = .ok (.aload_n 0, 1) := by decide +kernel
theorem dX7_tell_48 : decode cX7_tell 48 = .ok (.getfield 38, 3) := by decide +kernel
theorem dX7_tell_51 : decode cX7_tell 51 = .ok (.aload_n 0, 1) := by decide +kernel
theorem dX7_tell_52 : decode cX7_tell 52 = .ok (.getfield 94, 3) := by decide +kernel
theorem dX7_tell_55 : decode cX7_tell 55 = .ok (.iload_n 1, 1) := by decide +kernel
theorem dX7_tell_56 : decode cX7_tell 56 = .ok (.iastore, 1) := by decide +kernel
theorem dX7_tell_57 : decode cX7_tell 57 = .ok (.aload_n 0, 1) := by decide +kernel
theorem dX7_tell_58 : decode cX7_tell 58 = .ok (.getfield 41, 3) := by decide +kernel
theorem dX7_tell_61 : decode cX7_tell 61 = .ok (.aload_n 0, 1) := by decide +kernel
theorem dX7_tell_62 : decode cX7_tell 62 = .ok (.getfield 94, 3) := by decide +kernel
theorem dX7_tell_65 : decode cX7_tell 65 = .ok (.iload_n 2, 1) := by decide +kernel
theorem dX7_tell_66 : decode cX7_tell 66 = .ok (.iastore, 1) := by decide +kernel
theorem dX7_tell_67 : decode cX7_tell 67 = .ok (.aload_n 0, 1) := by decide +kernel
theorem dX7_tell_68 : decode cX7_tell 68 = .ok (.dup, 1) := by decide +kernel
theorem dX7_tell_69 : decode cX7_tell 69 = .ok (.getfield 94, 3) := by decide +kernel
theorem dX7_tell_72 : decode cX7_tell 72 = .ok (.iconst 1, 1) := by decide +kernel
theorem dX7_tell_73 : decode cX7_tell 73 = .ok (.iadd, 1) := by decide +kernel
theorem dX7_tell_74 : decode cX7_tell 74 = .ok (.putfield 94, 3) := by decide +kernel
theorem dX7_tell_77 : decode cX7_tell 77 = .ok (.iconst 1, 1) := by decide +kernel
theorem dX7_tell_78 : decode cX7_tell 78 = .ok (.ireturn, 1) := by decide +kernel
set_option maxRecDepth 20000 in
theorem ggX7_call_X7_isGroup : GoodIn wsX7_call wsX7_isGroup := goodIn_r _ [6, 7, 16, 17, 18, 19, 20, 21, 22, 23, 24, 25, 26, 27, 28, 29, 30, 31, 32, 33, 34, 35, 36, 37, 38, 39, 40, 41, 42, 43, 44, 45, 46] (by decide +kernel) (by decide +kernel)
set_option maxRecDepth 20000 in
theorem gX7_call_X7_isGroup : GoodIn wsX7_call (wsV RX7 106 RX7 yX7_isGroup wsX7_isGroup) := goodIn_app (goodIn_of _ (by decide +kernel)) ggX7_call_X7_isGroup
set_option maxRecDepth 20000 in
theorem ggX7_call_X7_tell : GoodIn wsX7_call wsX7_tell := goodIn_r _ [11, 12, 13, 14, 15, 16, 17, 18, 19, 20, 21, 22, 23, 24, 25, 26, 27, 28, 29, 30, 31, 32, 33, 34, 35, 36, 37, 38, 39, 40, 41, 42, 43, 44, 45, 46] (by decide +kernel) (by decide +kernel)
set_option maxRecDepth 20000 in
theorem gX7_call_X7_tell : GoodIn wsX7_call (wsV RX7 146 RX7 yX7_tell wsX7_tell) := goodIn_app (goodIn_of _ (by decide +kernel)) ggX7_call_X7_tell
theorem dX7_call_0 : decode cX7_call 0 = .ok (.aload_n 0, 1) := by decide +kernel
theorem dX7_call_1 : decode cX7_call 1 = .ok (.iconst 0, 1) := by decide +kernel
theorem dX7_call_2 : decode cX7_call 2 = .ok (.putfield 79, 3) := by decide +kernel
theorem dX7_call_5 : decode cX7_call 5 = .ok (.aload_n 0, 1) := by decide +kernel
theorem dX7_call_6 : decode cX7_call 6 = .ok (.iload_n 1, 1) := by decide +kernel
theorem dX7_call_7 : decode cX7_call 7 = .ok (.invokevirtual 106, 3) := by decide +kernel
theorem dX7_call_10 : decode cX7_call 10 = .ok (.ifCond .eq 18, 3) := by decide +kernel
theorem dX7_call_13 : decode cX7_call 13 = .ok (.aload_n 0, 1) := by decide +kernel
theorem dX7_call_14 : decode cX7_call 14 = .ok (.iload_n 2, 1) := by decide +kernel
theorem dX7_call_15 : decode cX7_call 15 = .ok (.iconst 1, 1) := by decide +kernel
theorem dX7_call_16 : decode cX7_call 16 = .ok (.iload_n 1, 1) := by decide +kernel
theorem dX7_call_17 : decode cX7_call 17 = .ok (.iadd, 1) := by decide +kernel
theorem dX7_call_18 : decode cX7_call 18 = .ok (.invokevirtual 146, 3) := by decide +kernel
theorem dX7_call_21 : decode cX7_call 21 = .ok (.ifCond .eq 7, 3) := by decide +kernel
theorem dX7_call_24 : decode cX7_call 24 = .ok (.iconst 1, 1) := by decide +kernel
theorem dX7_call_25 : decode cX7_call 25 = .ok (.goto 4, 3) := by decide +kernel
theorem dX7_call_28 : decode cX7_call 28 = .ok (.iconst 0, 1) := by decide +kernel
theorem dX7_call_29 : decode cX7_call 29 = .ok (.ireturn, 1) := by decide +kernel
set_option maxRecDepth 20000 in
theorem ggX7_plan_X7_tell : GoodIn wsX7_plan wsX7_tell := goodIn_r _ [8, 9, 10, 11, 12, 13, 14, 15, 16, 17, 18, 19, 20, 21, 22, 23, 24, 25, 26, 27, 28, 29, 30, 31, 32, 33, 34, 35, 36, 37, 38, 39, 40, 41, 42, 43] (by decide +kernel) (by decide +kernel)
set_option maxRecDepth 20000 in
theorem gX7_plan_X7_tell : GoodIn wsX7_plan (wsV RX7 146 RX7 yX7_tell wsX7_tell) := goodIn_app (goodIn_of _ (by decide +kernel)) ggX7_plan_X7_tell
theorem dX7_plan_0 : decode cX7_plan 0 = .ok (.aload_n 0, 1) := by decide +kernel
theorem dX7_plan_1 : decode cX7_plan 1 = .ok (.iconst 0, 1) := by decide +kernel
theorem dX7_plan_2 : decode cX7_plan 2 = .ok (.putfield 79, 3) := by decide +kernel
theorem dX7_plan_5 : decode cX7_plan 5 = .ok (.iload_n 1, 1) := by decide +kernel
theorem dX7_plan_6 : decode cX7_plan 6 = .ok (.ifCond .lt 31, 3) := by decide +kernel
theorem dX7_plan_9 : decode cX7_plan 9 = .ok (.iload_n 1, 1) := by decide +kernel
theorem dX7_plan_10 : decode cX7_plan 10 = .ok (.aload_n 0, 1) := by decide +kernel
theorem dX7_plan_11 : decode cX7_plan 11 = .ok (.getfield 85, 3) := by decide +kernel
theorem dX7_plan_14 : decode cX7_plan 14 = .ok (.if_icmp .ge 23, 3) := by decide +kernel
theorem dX7_plan_17 : decode cX7_plan 17 = .ok (.aload_n 0, 1) := by decide +kernel
theorem dX7_plan_18 : decode cX7_plan 18 = .ok (.iload_n 2, 1) := by decide +kernel
theorem dX7_plan_19 : decode cX7_plan 19 = .ok (.iconst 1, 1) := by decide +kernel
theorem dX7_plan_20 : decode cX7_plan 20 = .ok (.aload_n 0, 1) := by decide +kernel
theorem dX7_plan_21 : decode cX7_plan 21 = .ok (.getfield 82, 3) := by decide +kernel
theorem dX7_plan_24 : decode cX7_plan 24 = .ok (.iadd, 1) := by decide +kernel
theorem dX7_plan_25 : decode cX7_plan 25 = .ok (.iload_n 1, 1) := by decide +kernel
theorem dX7_plan_26 : decode cX7_plan 26 = .ok (.iadd, 1) := by decide +kernel
theorem dX7_plan_27 : decode cX7_plan 27 = .ok (.invokevirtual 146, 3) := by decide +kernel
theorem dX7_plan_30 : decode cX7_plan 30 = .ok (.ifCond .eq 7, 3) := by decide +kernel
theorem dX7_plan_33 : decode cX7_plan 33 = .ok (.iconst 1, 1) := by decide +kernel
theorem dX7_plan_34 : decode cX7_plan 34 = .ok (.goto 4, 3) := by decide +kernel
theorem dX7_plan_37 : decode cX7_plan 37 = .ok (.iconst 0, 1) := by decide +kernel
theorem dX7_plan_38 : decode cX7_plan 38 = .ok (.ireturn, 1) := by decide +kernel
theorem dX7_eventOf_0 : decode cX7_eventOf 0 = .ok (.iconst 0, 1) := by decide +kernel
theorem dX7_eventOf_1 : decode cX7_eventOf 1 = .ok (.istore_n 2, 1) := by decide +kernel
theorem dX7_eventOf_2 : decode cX7_eventOf 2 = .ok (.iconst 0, 1) := by decide +kernel
theorem dX7_eventOf_3 : decode cX7_eventOf 3 = .ok (.istore_n 3, 1) := by decide +kernel
theorem dX7_eventOf_4 : decode cX7_eventOf 4 = .ok (.iload_n 3, 1) := by decide +kernel
theorem dX7_eventOf_5 : decode cX7_eventOf 5 = .ok (.aload_n 0, 1) := by decide +kernel
theorem dX7_eventOf_6 : decode cX7_eventOf 6 = .ok (.getfield 94, 3) := by decide +kernel
theorem dX7_eventOf_9 : decode cX7_eventOf 9 = .ok (.if_icmp .ge 30, 3) := by decide +kernel
theorem dX7_eventOf_12 : decode cX7_eventOf 12 = .ok (.aload_n 0, 1) := by decide +kernel
theorem dX7_eventOf_13 : decode cX7_eventOf 13 = .ok (.getfield 38, 3) := by decide +kernel
theorem dX7_eventOf_16 : decode cX7_eventOf 16 = .ok (.iload_n 3, 1) := by decide +kernel
theorem dX7_eventOf_17 : decode cX7_eventOf 17 = .ok (.iaload, 1) := by decide +kernel
theorem dX7_eventOf_18 : decode cX7_eventOf 18 = .ok (.iload_n 1, 1) := by decide +kernel
theorem dX7_eventOf_19 : decode cX7_eventOf 19 = .ok (.if_icmp .ne 12, 3) := by decide +kernel
theorem dX7_eventOf_22 : decode cX7_eventOf 22 = .ok (.aload_n 0, 1) := by decide +kernel
theorem dX7_eventOf_23 : decode cX7_eventOf 23 = .ok (.getfield 41, 3) := by decide +kernel
theorem dX7_eventOf_26 : decode cX7_eventOf 26 = .ok (.iload_n 3, 1) := by decide +kernel
theorem dX7_eventOf_27 : decode cX7_eventOf 27 = .ok (.iaload, 1) := by decide +kernel
theorem dX7_eventOf_28 : decode cX7_eventOf 28 = .ok (.goto 4, 3) := by decide +kernel
theorem dX7_eventOf_31 : decode cX7_eventOf 31 = .ok (.iload_n 2, 1) := by decide +kernel
theorem dX7_eventOf_32 : decode cX7_eventOf 32 = .ok (.istore_n 2, 1) := by decide +kernel
theorem dX7_eventOf_33 : decode cX7_eventOf 33 = .ok (.iinc 3 1, 3) := by decide +kernel
theorem dX7_eventOf_36 : decode cX7_eventOf 36 = .ok (.goto (-32), 3) := by decide +kernel
theorem dX7_eventOf_39 : decode cX7_eventOf 39 = .ok (.iload_n 2, 1) := by decide +kernel
theorem dX7_eventOf_40 : decode cX7_eventOf 40 = .ok (.ireturn, 1) := by decide +kernel
theorem dX7_take_0 : decode cX7_take 0 = .ok (.iconst 0, 1) := by decide +kernel
theorem dX7_take_1 : decode cX7_take 1 = .ok (.istore_n 1, 1) := by decide +kernel
theorem dX7_take_2 : decode cX7_take 2 = .ok (.iload_n 1, 1) := by decide +kernel
theorem dX7_take_3 : decode cX7_take 3 = .ok (.bipush 14, 2) := by decide +kernel
theorem dX7_take_5 : decode cX7_take 5 = .ok (.if_icmp .ge 21, 3) := by decide +kernel
theorem dX7_take_8 : decode cX7_take 8 = .ok (.aload_n 0, 1) := by decide +kernel
theorem dX7_take_9 : decode cX7_take 9 = .ok (.getfield 47, 3) := by decide +kernel
theorem dX7_take_12 : decode cX7_take 12 = .ok (.iload_n 1, 1) := by decide +kernel
theorem dX7_take_13 : decode cX7_take 13 = .ok (.aload_n 0, 1) := by decide +kernel
theorem dX7_take_14 : decode cX7_take 14 = .ok (.getfield 44, 3) := by decide +kernel
theorem dX7_take_17 : decode cX7_take 17 = .ok (.iload_n 1, 1) := by decide +kernel
theorem dX7_take_18 : decode cX7_take 18 = .ok (.iaload, 1) := by decide +kernel
theorem dX7_take_19 : decode cX7_take 19 = .ok (.iastore, 1) := by decide +kernel
theorem dX7_take_20 : decode cX7_take 20 = .ok (.iinc 1 1, 3) := by decide +kernel
theorem dX7_take_23 : decode cX7_take 23 = .ok (.goto (-21), 3) := by decide +kernel
theorem dX7_take_26 : decode cX7_take 26 = .ok (.return_, 1) := by decide +kernel
set_option maxRecDepth 20000 in
theorem ggX7_second_X7_take : GoodIn wsX7_second wsX7_take := goodIn_r _ [10, 5, 4, 52, 53, 54, 55, 56, 57, 58, 59, 60, 61, 62, 63, 64, 65, 66, 67, 68, 69, 70, 71, 72, 73, 74, 75, 76, 77, 78, 79, 80, 81, 82] (by decide +kernel) (by decide +kernel)
set_option maxRecDepth 20000 in
theorem gX7_second_X7_take : GoodIn wsX7_second (wsV RX7 150 RX7 yX7_take wsX7_take) := goodIn_app (goodIn_of _ (by decide +kernel)) ggX7_second_X7_take
set_option maxRecDepth 20000 in
theorem ggX7_second_X7_eventOf : GoodIn wsX7_second wsX7_eventOf := goodIn_r _ [14, 15, 16, 17, 52, 53, 54, 55, 56, 57, 58, 59, 60, 61, 62, 63, 64, 65, 66, 67, 68, 69, 70, 71, 72, 73, 74, 75, 76, 77, 78, 79, 80, 81, 82] (by decide +kernel) (by decide +kernel)
set_option maxRecDepth 20000 in
theorem gX7_second_X7_eventOf : GoodIn wsX7_second (wsV RX7 153 RX7 yX7_eventOf wsX7_eventOf) := goodIn_app (goodIn_of _ (by decide +kernel)) ggX7_second_X7_eventOf
set_option maxRecDepth 20000 in
theorem ggX7_second_X7_go : GoodIn wsX7_second wsX7_go := goodIn_r _ [21, 22, 5, 23, 24, 25, 26, 27, 28, 29, 9, 30, 31, 32, 33, 34, 35, 36, 37, 38, 39, 40, 41, 42, 43, 44, 45, 46, 47, 48, 49, 50, 51, 52, 53, 54, 55, 56, 57, 58, 59, 60, 61, 62, 63, 64, 65, 66, 67, 68, 69, 70, 71, 72, 73, 74, 75, 76, 77, 78, 79, 80, 81, 82] (by decide +kernel) (by decide +kernel)
set_option maxRecDepth 20000 in
theorem gX7_second_X7_go : GoodIn wsX7_second (wsV RX7 156 RX7 yX7_go wsX7_go) := goodIn_app (goodIn_of _ (by decide +kernel)) ggX7_second_X7_go
theorem dX7_second_0 : decode cX7_second 0 = .ok (.aload_n 0, 1) := by decide +kernel
theorem dX7_second_1 : decode cX7_second 1 = .ok (.iconst 0, 1) := by decide +kernel
theorem dX7_second_2 : decode cX7_second 2 = .ok (.putfield 79, 3) := by decide +kernel
theorem dX7_second_5 : decode cX7_second 5 = .ok (.aload_n 0, 1) := by decide +kernel
theorem dX7_second_6 : decode cX7_second 6 = .ok (.getfield 85, 3) := by decide +kernel
theorem dX7_second_9 : decode cX7_second 9 = .ok (.ifCond .ne 5, 3) := by decide +kernel
theorem dX7_second_12 : decode cX7_second 12 = .ok (.iconst (-1), 1) := by decide +kernel
theorem dX7_second_13 : decode cX7_second 13 = .ok (.ireturn, 1) := by decide +kernel
theorem dX7_second_14 : decode cX7_second 14 = .ok (.aload_n 0, 1) := by decide +kernel
theorem dX7_second_15 : decode cX7_second 15 = .ok (.invokevirtual 150, 3) := by decide +kernel
theorem dX7_second_18 : decode cX7_second 18 = .ok (.aload_n 0, 1) := by decide +kernel
theorem dX7_second_19 : decode cX7_second 19 = .ok (.dup, 1) := by decide +kernel
theorem dX7_second_20 : decode cX7_second 20 = .ok (.getfield 97, 3) := by decide +kernel
theorem dX7_second_23 : decode cX7_second 23 = .ok (.iconst 1, 1) := by decide +kernel
theorem dX7_second_24 : decode cX7_second 24 = .ok (.iadd, 1) := by decide +kernel
theorem dX7_second_25 : decode cX7_second 25 = .ok (.putfield 97, 3) := by decide +kernel
theorem dX7_second_28 : decode cX7_second 28 = .ok (.aload_n 0, 1) := by decide +kernel
theorem dX7_second_29 : decode cX7_second 29 = .ok (.aload_n 0, 1) := by decide +kernel
theorem dX7_second_30 : decode cX7_second 30 = .ok (.aload_n 0, 1) := by decide +kernel
theorem dX7_second_31 : decode cX7_second 31 = .ok (.getfield 97, 3) := by decide +kernel
theorem dX7_second_34 : decode cX7_second 34 = .ok (.invokevirtual 153, 3) := by decide +kernel
theorem dX7_second_37 : decode cX7_second 37 = .ok (.invokevirtual 156, 3) := by decide +kernel
theorem dX7_second_40 : decode cX7_second 40 = .ok (.istore_n 1, 1) := by decide +kernel
theorem dX7_second_41 : decode cX7_second 41 = .ok (.iconst 0, 1) := by decide +kernel
theorem dX7_second_42 : decode cX7_second 42 = .ok (.istore_n 2, 1) := by decide +kernel
theorem dX7_second_43 : decode cX7_second 43 = .ok (.iload_n 2, 1) := by decide +kernel
theorem dX7_second_44 : decode cX7_second 44 = .ok (.bipush 14, 2) := by decide +kernel
theorem dX7_second_46 : decode cX7_second 46 = .ok (.if_icmp .ge 21, 3) := by decide +kernel
theorem dX7_second_49 : decode cX7_second 49 = .ok (.aload_n 0, 1) := by decide +kernel
theorem dX7_second_50 : decode cX7_second 50 = .ok (.getfield 44, 3) := by decide +kernel
theorem dX7_second_53 : decode cX7_second 53 = .ok (.iload_n 2, 1) := by decide +kernel
theorem dX7_second_54 : decode cX7_second 54 = .ok (.aload_n 0, 1) := by decide +kernel
theorem dX7_second_55 : decode cX7_second 55 = .ok (.getfield 47, 3) := by decide +kernel
theorem dX7_second_58 : decode cX7_second 58 = .ok (.iload_n 2, 1) := by decide +kernel
theorem dX7_second_59 : decode cX7_second 59 = .ok (.iaload, 1) := by decide +kernel
theorem dX7_second_60 : decode cX7_second 60 = .ok (.iastore, 1) := by decide +kernel
theorem dX7_second_61 : decode cX7_second 61 = .ok (.iinc 2 1, 3) := by decide +kernel
theorem dX7_second_64 : decode cX7_second 64 = .ok (.goto (-21), 3) := by decide +kernel
theorem dX7_second_67 : decode cX7_second 67 = .ok (.iload_n 1, 1) := by decide +kernel
theorem dX7_second_68 : decode cX7_second 68 = .ok (.ireturn, 1) := by decide +kernel
set_option maxRecDepth 20000 in
theorem ggX7_told_X7_take : GoodIn wsX7_told wsX7_take := goodIn_r _ [10, 5, 11, 27, 28, 29, 30, 31, 32, 33, 34, 35, 36, 37, 38, 39, 40, 41, 42, 43, 44, 45, 46, 47, 48, 49, 50, 51, 52, 53, 54, 55, 56, 57] (by decide +kernel) (by decide +kernel)
set_option maxRecDepth 20000 in
theorem gX7_told_X7_take : GoodIn wsX7_told (wsV RX7 150 RX7 yX7_take wsX7_take) := goodIn_app (goodIn_of _ (by decide +kernel)) ggX7_told_X7_take
set_option maxRecDepth 20000 in
theorem ggX7_told_X7_shownNow : GoodIn wsX7_told wsX7_shownNow := goodIn_r _ [15, 5, 16, 17, 18, 9, 19, 20, 27, 28, 29, 30, 31, 32, 33, 34, 35, 36, 37, 38, 39, 40, 41, 42, 43, 44, 45, 46, 47, 48, 49, 50, 51, 52, 53, 54, 55, 56, 57] (by decide +kernel) (by decide +kernel)
set_option maxRecDepth 20000 in
theorem gX7_told_X7_shownNow : GoodIn wsX7_told (wsV RX7 136 RX7 yX7_shownNow wsX7_shownNow) := goodIn_app (goodIn_of _ (by decide +kernel)) ggX7_told_X7_shownNow
set_option maxRecDepth 20000 in
theorem ggX7_told_X7_find : GoodIn wsX7_told wsX7_find := goodIn_r _ [24, 25, 26, 5, 27, 28, 29, 30, 31, 32, 33, 34, 35, 36, 37, 38, 39, 40, 41, 42, 43, 44, 45, 46, 47, 48, 49, 50, 51, 52, 53, 54, 55, 56, 57] (by decide +kernel) (by decide +kernel)
set_option maxRecDepth 20000 in
theorem gX7_told_X7_find : GoodIn wsX7_told (wsV RX7 159 RX7 yX7_find wsX7_find) := goodIn_app (goodIn_of _ (by decide +kernel)) ggX7_told_X7_find
theorem dX7_told_0 : decode cX7_told 0 = .ok (.aload_n 0, 1) := by decide +kernel
theorem dX7_told_1 : decode cX7_told 1 = .ok (.iconst 0, 1) := by decide +kernel
theorem dX7_told_2 : decode cX7_told 2 = .ok (.putfield 79, 3) := by decide +kernel
theorem dX7_told_5 : decode cX7_told 5 = .ok (.aload_n 0, 1) := by decide +kernel
theorem dX7_told_6 : decode cX7_told 6 = .ok (.getfield 85, 3) := by decide +kernel
theorem dX7_told_9 : decode cX7_told 9 = .ok (.ifCond .eq 18, 3) := by decide +kernel
theorem dX7_told_12 : decode cX7_told 12 = .ok (.iload_n 1, 1) := by decide +kernel
theorem dX7_told_13 : decode cX7_told 13 = .ok (.ifCond .lt 14, 3) := by decide +kernel
theorem dX7_told_16 : decode cX7_told 16 = .ok (.iload_n 1, 1) := by decide +kernel
theorem dX7_told_17 : decode cX7_told 17 = .ok (.bipush 8, 2) := by decide +kernel
theorem dX7_told_19 : decode cX7_told 19 = .ok (.aload_n 0, 1) := by decide +kernel
theorem dX7_told_20 : decode cX7_told 20 = .ok (.getfield 82, 3) := by decide +kernel
theorem dX7_told_23 : decode cX7_told 23 = .ok (.iadd, 1) := by decide +kernel
theorem dX7_told_24 : decode cX7_told 24 = .ok (.if_icmp .le 5, 3) := by decide +kernel
theorem dX7_told_27 : decode cX7_told 27 = .ok (.iconst (-1), 1) := by decide +kernel
theorem dX7_told_28 : decode cX7_told 28 = .ok (.ireturn, 1) := by decide +kernel
theorem dX7_told_29 : decode cX7_told 29 = .ok (.aload_n 0, 1) := by decide +kernel
theorem dX7_told_30 : decode cX7_told 30 = .ok (.invokevirtual 150, 3) := by decide +kernel
theorem dX7_told_33 : decode cX7_told 33 = .ok (.iload_n 1, 1) := by decide +kernel
theorem dX7_told_34 : decode cX7_told 34 = .ok (.tableswitch 109 0 8 #[50, 55, 62, 69, 76, 83, 91, 99, 104], 50) := by decide +kernel
theorem dX7_told_84 : decode cX7_told 84 = .ok (.aload_n 0, 1) := by decide +kernel
theorem dX7_told_85 : decode cX7_told 85 = .ok (.getfield 97, 3) := by decide +kernel
theorem dX7_told_88 : decode cX7_told 88 = .ok (.ireturn, 1) := by decide +kernel
theorem dX7_told_89 : decode cX7_told 89 = .ok (.aload_n 0, 1) := by decide +kernel
theorem dX7_told_90 : decode cX7_told 90 = .ok (.getfield 47, 3) := by decide +kernel
theorem dX7_told_93 : decode cX7_told 93 = .ok (.iconst 0, 1) := by decide +kernel
theorem dX7_told_94 : decode cX7_told 94 = .ok (.iaload, 1) := by decide +kernel
theorem dX7_told_95 : decode cX7_told 95 = .ok (.ireturn, 1) := by decide +kernel
theorem dX7_told_96 : decode cX7_told 96 = .ok (.aload_n 0, 1) := by decide +kernel
theorem dX7_told_97 : decode cX7_told 97 = .ok (.getfield 47, 3) := by decide +kernel
theorem dX7_told_100 : decode cX7_told 100 = .ok (.iconst 1, 1) := by decide +kernel
theorem dX7_told_101 : decode cX7_told 101 = .ok (.iaload, 1) := by decide +kernel
theorem dX7_told_102 : decode cX7_told 102 = .ok (.ireturn, 1) := by decide +kernel
theorem dX7_told_103 : decode cX7_told 103 = .ok (.aload_n 0, 1) := by decide +kernel
theorem dX7_told_104 : decode cX7_told 104 = .ok (.getfield 47, 3) := by decide +kernel
theorem dX7_told_107 : decode cX7_told 107 = .ok (.iconst 2, 1) := by decide +kernel
theorem dX7_told_108 : decode cX7_told 108 = .ok (.iaload, 1) := by decide +kernel
theorem dX7_told_109 : decode cX7_told 109 = .ok (.ireturn, 1) := by decide +kernel
theorem dX7_told_110 : decode cX7_told 110 = .ok (.aload_n 0, 1) := by decide +kernel
theorem dX7_told_111 : decode cX7_told 111 = .ok (.getfield 47, 3) := by decide +kernel
theorem dX7_told_114 : decode cX7_told 114 = .ok (.iconst 3, 1) := by decide +kernel
theorem dX7_told_115 : decode cX7_told 115 = .ok (.iaload, 1) := by decide +kernel
theorem dX7_told_116 : decode cX7_told 116 = .ok (.ireturn, 1) := by decide +kernel
theorem dX7_told_117 : decode cX7_told 117 = .ok (.aload_n 0, 1) := by decide +kernel
theorem dX7_told_118 : decode cX7_told 118 = .ok (.getfield 47, 3) := by decide +kernel
theorem dX7_told_121 : decode cX7_told 121 = .ok (.bipush 6, 2) := by decide +kernel
theorem dX7_told_123 : decode cX7_told 123 = .ok (.iaload, 1) := by decide +kernel
theorem dX7_told_124 : decode cX7_told 124 = .ok (.ireturn, 1) := by decide +kernel
theorem dX7_told_125 : decode cX7_told 125 = .ok (.aload_n 0, 1) := by decide +kernel
theorem dX7_told_126 : decode cX7_told 126 = .ok (.getfield 47, 3) := by decide +kernel
theorem dX7_told_129 : decode cX7_told 129 = .ok (.bipush 7, 2) := by decide +kernel
theorem dX7_told_131 : decode cX7_told 131 = .ok (.iaload, 1) := by decide +kernel
theorem dX7_told_132 : decode cX7_told 132 = .ok (.ireturn, 1) := by decide +kernel
theorem dX7_told_133 : decode cX7_told 133 = .ok (.aload_n 0, 1) := by decide +kernel
theorem dX7_told_134 : decode cX7_told 134 = .ok (.invokevirtual 136, 3) := by decide +kernel
theorem dX7_told_137 : decode cX7_told 137 = .ok (.ireturn, 1) := by decide +kernel
theorem dX7_told_138 : decode cX7_told 138 = .ok (.aload_n 0, 1) := by decide +kernel
theorem dX7_told_139 : decode cX7_told 139 = .ok (.invokevirtual 159, 3) := by decide +kernel
theorem dX7_told_142 : decode cX7_told 142 = .ok (.ireturn, 1) := by decide +kernel
theorem dX7_told_143 : decode cX7_told 143 = .ok (.aload_n 0, 1) := by decide +kernel
theorem dX7_told_144 : decode cX7_told 144 = .ok (.getfield 47, 3) := by decide +kernel
theorem dX7_told_147 : decode cX7_told 147 = .ok (.bipush 8, 2) := by decide +kernel
theorem dX7_told_149 : decode cX7_told 149 = .ok (.iload_n 1, 1) := by decide +kernel
theorem dX7_told_150 : decode cX7_told 150 = .ok (.iadd, 1) := by decide +kernel
theorem dX7_told_151 : decode cX7_told 151 = .ok (.bipush 9, 2) := by decide +kernel
theorem dX7_told_153 : decode cX7_told 153 = .ok (.isub, 1) := by decide +kernel
theorem dX7_told_154 : decode cX7_told 154 = .ok (.iaload, 1) := by decide +kernel
theorem dX7_told_155 : decode cX7_told 155 = .ok (.ireturn, 1) := by decide +kernel
set_option maxRecDepth 20000 in
theorem ggX7_shown_X7_isGroup : GoodIn wsX7_shown wsX7_isGroup := goodIn_r _ [7, 8, 24, 25, 26, 27, 28, 29, 30, 31, 32, 33, 34, 35, 36, 37, 38, 39, 40, 41, 42, 43, 44, 45, 46, 47, 48, 49, 50, 51, 52, 53, 54] (by decide +kernel) (by decide +kernel)
set_option maxRecDepth 20000 in
theorem gX7_shown_X7_isGroup : GoodIn wsX7_shown (wsV RX7 106 RX7 yX7_isGroup wsX7_isGroup) := goodIn_app (goodIn_of _ (by decide +kernel)) ggX7_shown_X7_isGroup
set_option maxRecDepth 20000 in
theorem ggX7_shown_X7_take : GoodIn wsX7_shown wsX7_take := goodIn_r _ [12, 13, 14, 24, 25, 26, 27, 28, 29, 30, 31, 32, 33, 34, 35, 36, 37, 38, 39, 40, 41, 42, 43, 44, 45, 46, 47, 48, 49, 50, 51, 52, 53, 54] (by decide +kernel) (by decide +kernel)
set_option maxRecDepth 20000 in
theorem gX7_shown_X7_take : GoodIn wsX7_shown (wsV RX7 150 RX7 yX7_take wsX7_take) := goodIn_app (goodIn_of _ (by decide +kernel)) ggX7_shown_X7_take
set_option maxRecDepth 20000 in
theorem ggX7_shown_X7_shownNow : GoodIn wsX7_shown wsX7_shownNow := goodIn_r _ [18, 13, 19, 20, 21, 6, 22, 23, 24, 25, 26, 27, 28, 29, 30, 31, 32, 33, 34, 35, 36, 37, 38, 39, 40, 41, 42, 43, 44, 45, 46, 47, 48, 49, 50, 51, 52, 53, 54] (by decide +kernel) (by decide +kernel)
set_option maxRecDepth 20000 in
theorem gX7_shown_X7_shownNow : GoodIn wsX7_shown (wsV RX7 136 RX7 yX7_shownNow wsX7_shownNow) := goodIn_app (goodIn_of _ (by decide +kernel)) ggX7_shown_X7_shownNow
theorem dX7_shown_0 : decode cX7_shown 0 = .ok (.aload_n 0, 1) := by decide +kernel
theorem dX7_shown_1 : decode cX7_shown 1 = .ok (.iconst 0, 1) := by decide +kernel
theorem dX7_shown_2 : decode cX7_shown 2 = .ok (.putfield 79, 3) := by decide +kernel
theorem dX7_shown_5 : decode cX7_shown 5 = .ok (.aload_n 0, 1) := by decide +kernel
theorem dX7_shown_6 : decode cX7_shown 6 = .ok (.getfield 85, 3) := by decide +kernel
theorem dX7_shown_9 : decode cX7_shown 9 = .ok (.ifCond .eq 11, 3) := by decide +kernel
theorem dX7_shown_12 : decode cX7_shown 12 = .ok (.aload_n 0, 1) := by decide +kernel
theorem dX7_shown_13 : decode cX7_shown 13 = .ok (.iload_n 1, 1) := by decide +kernel
theorem dX7_shown_14 : decode cX7_shown 14 = .ok (.invokevirtual 106, 3) := by decide +kernel
theorem dX7_shown_17 : decode cX7_shown 17 = .ok (.ifCond .ne 5, 3) := by decide +kernel
theorem dX7_shown_20 : decode cX7_shown 20 = .ok (.iconst (-1), 1) := by decide +kernel
theorem dX7_shown_21 : decode cX7_shown 21 = .ok (.ireturn, 1) := by decide +kernel
theorem dX7_shown_22 : decode cX7_shown 22 = .ok (.aload_n 0, 1) := by decide +kernel
theorem dX7_shown_23 : decode cX7_shown 23 = .ok (.invokevirtual 150, 3) := by decide +kernel
theorem dX7_shown_26 : decode cX7_shown 26 = .ok (.aload_n 0, 1) := by decide +kernel
theorem dX7_shown_27 : decode cX7_shown 27 = .ok (.invokevirtual 136, 3) := by decide +kernel
theorem dX7_shown_30 : decode cX7_shown 30 = .ok (.iload_n 1, 1) := by decide +kernel
theorem dX7_shown_31 : decode cX7_shown 31 = .ok (.ishr, 1) := by decide +kernel
theorem dX7_shown_32 : decode cX7_shown 32 = .ok (.iconst 1, 1) := by decide +kernel
theorem dX7_shown_33 : decode cX7_shown 33 = .ok (.iand, 1) := by decide +kernel
theorem dX7_shown_34 : decode cX7_shown 34 = .ok (.ireturn, 1) := by decide +kernel
theorem dX7_find_0 : decode cX7_find 0 = .ok (.iconst 0, 1) := by decide +kernel
theorem dX7_find_1 : decode cX7_find 1 = .ok (.istore_n 1, 1) := by decide +kernel
theorem dX7_find_2 : decode cX7_find 2 = .ok (.iload_n 1, 1) := by decide +kernel
theorem dX7_find_3 : decode cX7_find 3 = .ok (.aload_n 0, 1) := by decide +kernel
theorem dX7_find_4 : decode cX7_find 4 = .ok (.getfield 100, 3) := by decide +kernel
theorem dX7_find_7 : decode cX7_find 7 = .ok (.if_icmp .ge 61, 3) := by decide +kernel
theorem dX7_find_10 : decode cX7_find 10 = .ok (.iconst 1, 1) := by decide +kernel
theorem dX7_find_11 : decode cX7_find 11 = .ok (.istore_n 2, 1) := by decide +kernel
theorem dX7_find_12 : decode cX7_find 12 = .ok (.iconst 0, 1) := by decide +kernel
theorem dX7_find_13 : decode cX7_find 13 = .ok (.istore_n 3, 1) := by decide +kernel
theorem dX7_find_14 : decode cX7_find 14 = .ok (.iload_n 3, 1) := by decide +kernel
theorem dX7_find_15 : decode cX7_find 15 = .ok (.bipush 14, 2) := by decide +kernel
theorem dX7_find_17 : decode cX7_find 17 = .ok (.if_icmp .ge 39, 3) := by decide +kernel
theorem dX7_find_20 : decode cX7_find 20 = .ok (.iload_n 2, 1) := by decide +kernel
theorem dX7_find_21 : decode cX7_find 21 = .ok (.ifCond .eq 35, 3) := by decide +kernel
theorem dX7_find_24 : decode cX7_find 24 = .ok (.aload_n 0, 1) := by decide +kernel
theorem dX7_find_25 : decode cX7_find 25 = .ok (.getfield 57, 3) := by decide +kernel
theorem dX7_find_28 : decode cX7_find 28 = .ok (.bipush 14, 2) := by decide +kernel
theorem dX7_find_30 : decode cX7_find 30 = .ok (.iload_n 1, 1) := by decide +kernel
theorem dX7_find_31 : decode cX7_find 31 = .ok (.imul, 1) := by decide +kernel
theorem dX7_find_32 : decode cX7_find 32 = .ok (.iload_n 3, 1) := by decide +kernel
theorem dX7_find_33 : decode cX7_find 33 = .ok (.iadd, 1) := by decide +kernel
theorem dX7_find_34 : decode cX7_find 34 = .ok (.iaload, 1) := by decide +kernel
theorem dX7_find_35 : decode cX7_find 35 = .ok (.aload_n 0, 1) := by decide +kernel
theorem dX7_find_36 : decode cX7_find 36 = .ok (.getfield 47, 3) := by decide +kernel
theorem dX7_find_39 : decode cX7_find 39 = .ok (.iload_n 3, 1) := by decide +kernel
theorem dX7_find_40 : decode cX7_find 40 = .ok (.iaload, 1) := by decide +kernel
theorem dX7_find_41 : decode cX7_find 41 = .ok (.if_icmp .ne 7, 3) := by decide +kernel
theorem dX7_find_44 : decode cX7_find 44 = .ok (.iconst 1, 1) := by decide +kernel
theorem dX7_find_45 : decode cX7_find 45 = .ok (.goto 4, 3) := by decide +kernel
theorem dX7_find_48 : decode cX7_find 48 = .ok (.iconst 0, 1) := by decide +kernel
theorem dX7_find_49 : decode cX7_find 49 = .ok (.istore_n 2, 1) := by decide +kernel
theorem dX7_find_50 : decode cX7_find 50 = .ok (.iinc 3 1, 3) := by decide +kernel
theorem dX7_find_53 : decode cX7_find 53 = .ok (.goto (-39), 3) := by decide +kernel
theorem dX7_find_56 : decode cX7_find 56 = .ok (.iload_n 2, 1) := by decide +kernel
theorem dX7_find_57 : decode cX7_find 57 = .ok (.ifCond .eq 5, 3) := by decide +kernel
theorem dX7_find_60 : decode cX7_find 60 = .ok (.iload_n 1, 1) := by decide +kernel
theorem dX7_find_61 : decode cX7_find 61 = .ok (.ireturn, 1) := by decide +kernel
theorem dX7_find_62 : decode cX7_find 62 = .ok (.iinc 1 1, 3) := by decide +kernel
theorem dX7_find_65 : decode cX7_find 65 = .ok (.goto (-63), 3) := by decide +kernel
theorem dX7_find_68 : decode cX7_find 68 = .ok (.iconst (-1), 1) := by decide +kernel
theorem dX7_find_69 : decode cX7_find 69 = .ok (.ireturn, 1) := by decide +kernel
theorem dX7_add_0 : decode cX7_add 0 = .ok (.iconst 0, 1) := by decide +kernel
theorem dX7_add_1 : decode cX7_add 1 = .ok (.istore_n 3, 1) := by decide +kernel
theorem dX7_add_2 : decode cX7_add 2 = .ok (.iload_n 3, 1) := by decide +kernel
theorem dX7_add_3 : decode cX7_add 3 = .ok (.bipush 14, 2) := by decide +kernel
theorem dX7_add_5 : decode cX7_add 5 = .ok (.if_icmp .ge 29, 3) := by decide +kernel
theorem dX7_add_8 : decode cX7_add 8 = .ok (.aload_n 0, 1) := by decide +kernel
theorem dX7_add_9 : decode cX7_add 9 = .ok (.getfield 57, 3) := by decide +kernel
theorem dX7_add_12 : decode cX7_add 12 = .ok (.bipush 14, 2) := by decide +kernel
theorem dX7_add_14 : decode cX7_add 14 = .ok (.aload_n 0, 1) := by decide +kernel
theorem dX7_add_15 : decode cX7_add 15 = .ok (.getfield 100, 3) := by decide +kernel
theorem dX7_add_18 : decode cX7_add 18 = .ok (.imul, 1) := by decide +kernel
theorem dX7_add_19 : decode cX7_add 19 = .ok (.iload_n 3, 1) := by decide +kernel
theorem dX7_add_20 : decode cX7_add 20 = .ok (.iadd, 1) := by decide +kernel
theorem dX7_add_21 : decode cX7_add 21 = .ok (.aload_n 0, 1) := by decide +kernel
theorem dX7_add_22 : decode cX7_add 22 = .ok (.getfield 47, 3) := by decide +kernel
theorem dX7_add_25 : decode cX7_add 25 = .ok (.iload_n 3, 1) := by decide +kernel
theorem dX7_add_26 : decode cX7_add 26 = .ok (.iaload, 1) := by decide +kernel
theorem dX7_add_27 : decode cX7_add 27 = .ok (.iastore, 1) := by decide +kernel
theorem dX7_add_28 : decode cX7_add 28 = .ok (.iinc 3 1, 3) := by decide +kernel
theorem dX7_add_31 : decode cX7_add 31 = .ok (.goto (-29), 3) := by decide +kernel
theorem dX7_add_34 : decode cX7_add 34 = .ok (.aload_n 0, 1) := by decide +kernel
theorem dX7_add_35 : decode cX7_add 35 = .ok (.getfield 60, 3) := by decide +kernel
theorem dX7_add_38 : decode cX7_add 38 = .ok (.aload_n 0, 1) := by decide +kernel
theorem dX7_add_39 : decode cX7_add 39 = .ok (.getfield 100, 3) := by decide +kernel
theorem dX7_add_42 : decode cX7_add 42 = .ok (.iload_n 1, 1) := by decide +kernel
theorem dX7_add_43 : decode cX7_add 43 = .ok (.iastore, 1) := by decide +kernel
theorem dX7_add_44 : decode cX7_add 44 = .ok (.aload_n 0, 1) := by decide +kernel
theorem dX7_add_45 : decode cX7_add 45 = .ok (.getfield 63, 3) := by decide +kernel
theorem dX7_add_48 : decode cX7_add 48 = .ok (.aload_n 0, 1) := by decide +kernel
theorem dX7_add_49 : decode cX7_add 49 = .ok (.getfield 100, 3) := by decide +kernel
theorem dX7_add_52 : decode cX7_add 52 = .ok (.iload_n 2, 1) := by decide +kernel
theorem dX7_add_53 : decode cX7_add 53 = .ok (.iastore, 1) := by decide +kernel
theorem dX7_add_54 : decode cX7_add 54 = .ok (.aload_n 0, 1) := by decide +kernel
theorem dX7_add_55 : decode cX7_add 55 = .ok (.dup, 1) := by decide +kernel
theorem dX7_add_56 : decode cX7_add 56 = .ok (.getfield 100, 3) := by decide +kernel
theorem dX7_add_59 : decode cX7_add 59 = .ok (.iconst 1, 1) := by decide +kernel
theorem dX7_add_60 : decode cX7_add 60 = .ok (.iadd, 1) := by decide +kernel
theorem dX7_add_61 : decode cX7_add 61 = .ok (.putfield 100, 3) := by decide +kernel
theorem dX7_add_64 : decode cX7_add 64 = .ok (.return_, 1) := by decide +kernel
theorem dX7_load_0 : decode cX7_load 0 = .ok (.iconst 0, 1) := by decide +kernel
theorem dX7_load_1 : decode cX7_load 1 = .ok (.istore_n 2, 1) := by decide +kernel
theorem dX7_load_2 : decode cX7_load 2 = .ok (.iload_n 2, 1) := by decide +kernel
theorem dX7_load_3 : decode cX7_load 3 = .ok (.bipush 14, 2) := by decide +kernel
theorem dX7_load_5 : decode cX7_load 5 = .ok (.if_icmp .ge 26, 3) := by decide +kernel
theorem dX7_load_8 : decode cX7_load 8 = .ok (.aload_n 0, 1) := by decide +kernel
theorem dX7_load_9 : decode cX7_load 9 = .ok (.getfield 47, 3) := by decide +kernel
theorem dX7_load_12 : decode cX7_load 12 = .ok (.iload_n 2, 1) := by decide +kernel
theorem dX7_load_13 : decode cX7_load 13 = .ok (.aload_n 0, 1) := by decide +kernel
theorem dX7_load_14 : decode cX7_load 14 = .ok (.getfield 57, 3) := by decide +kernel
theorem dX7_load_17 : decode cX7_load 17 = .ok (.bipush 14, 2) := by decide +kernel
theorem dX7_load_19 : decode cX7_load 19 = .ok (.iload_n 1, 1) := by decide +kernel
theorem dX7_load_20 : decode cX7_load 20 = .ok (.imul, 1) := by decide +kernel
theorem dX7_load_21 : decode cX7_load 21 = .ok (.iload_n 2, 1) := by decide +kernel
theorem dX7_load_22 : decode cX7_load 22 = .ok (.iadd, 1) := by decide +kernel
theorem dX7_load_23 : decode cX7_load 23 = .ok (.iaload, 1) := by decide +kernel
theorem dX7_load_24 : decode cX7_load 24 = .ok (.iastore, 1) := by decide +kernel
theorem dX7_load_25 : decode cX7_load 25 = .ok (.iinc 2 1, 3) := by decide +kernel
theorem dX7_load_28 : decode cX7_load 28 = .ok (.goto (-26), 3) := by decide +kernel
theorem dX7_load_31 : decode cX7_load 31 = .ok (.return_, 1) := by decide +kernel
theorem dX7_tellRow_0 : decode cX7_tellRow 0 = .ok (.aload_n 0, 1) := by decide +kernel
theorem dX7_tellRow_1 : decode cX7_tellRow 1 = .ok (.iconst 1, 1) := by decide +kernel
theorem dX7_tellRow_2 : decode cX7_tellRow 2 = .ok (.putfield 162, 3) := by decide +kernel
theorem dX7_tellRow_5 : decode cX7_tellRow 5 = .ok (.iload_n 1, 1) := by decide +kernel
theorem dX7_tellRow_6 : decode cX7_tellRow 6 = .ok (.istore_n 3, 1) := by decide +kernel
theorem dX7_tellRow_7 : decode cX7_tellRow 7 = .ok (.iload_n 3, 1) := by decide +kernel
theorem dX7_tellRow_8 : decode cX7_tellRow 8 = .ok (.ifCond .le 23, 3) := by decide +kernel
theorem dX7_tellRow_11 : decode cX7_tellRow 11 = .ok (.aload_n 0, 1) := by decide +kernel
theorem dX7_tellRow_12 : decode cX7_tellRow 12 = .ok (.dup, 1) := by decide +kernel
theorem dX7_tellRow_13 : decode cX7_tellRow 13 = .ok (.getfield 162, 3) := by decide +kernel
theorem dX7_tellRow_16 : decode cX7_tellRow 16 = .ok (.iconst 1, 1) := by decide +kernel
theorem dX7_tellRow_17 : decode cX7_tellRow 17 = .ok (.iadd, 1) := by decide +kernel
theorem dX7_tellRow_18 : decode cX7_tellRow 18 = .ok (.putfield 162, 3) := by decide +kernel
theorem dX7_tellRow_21 : decode cX7_tellRow 21 = .ok (.aload_n 0, 1) := by decide +kernel
theorem dX7_tellRow_22 : decode cX7_tellRow 22 = .ok (.getfield 60, 3) := by decide +kernel
theorem dX7_tellRow_25 : decode cX7_tellRow 25 = .ok (.iload_n 3, 1) := by decide +kernel
theorem dX7_tellRow_26 : decode cX7_tellRow 26 = .ok (.iaload, 1) := by decide +kernel
theorem dX7_tellRow_27 : decode cX7_tellRow 27 = .ok (.istore_n 3, 1) := by decide +kernel
theorem dX7_tellRow_28 : decode cX7_tellRow 28 = .ok (.goto (-21), 3) := by decide +kernel
theorem dX7_tellRow_31 : decode cX7_tellRow 31 = .ok (.aload_n 0, 1) := by decide +kernel
theorem dX7_tellRow_32 : decode cX7_tellRow 32 = .ok (.getfield 69, 3) := by decide +kernel
theorem dX7_tellRow_35 : decode cX7_tellRow 35 = .ok (.aload_n 0, 1) := by decide +kernel
theorem dX7_tellRow_36 : decode cX7_tellRow 36 = .ok (.getfield 162, 3) := by decide +kernel
theorem dX7_tellRow_39 : decode cX7_tellRow 39 = .ok (.iconst 1, 1) := by decide +kernel
theorem dX7_tellRow_40 : decode cX7_tellRow 40 = .ok (.isub, 1) := by decide +kernel
theorem dX7_tellRow_41 : decode cX7_tellRow 41 = .ok (.iload_n 2, 1) := by decide +kernel
theorem dX7_tellRow_42 : decode cX7_tellRow 42 = .ok (.iastore, 1) := by decide +kernel
theorem dX7_tellRow_43 : decode cX7_tellRow 43 = .ok (.aload_n 0, 1) := by decide +kernel
theorem dX7_tellRow_44 : decode cX7_tellRow 44 = .ok (.getfield 162, 3) := by decide +kernel
theorem dX7_tellRow_47 : decode cX7_tellRow 47 = .ok (.iconst 2, 1) := by decide +kernel
theorem dX7_tellRow_48 : decode cX7_tellRow 48 = .ok (.isub, 1) := by decide +kernel
theorem dX7_tellRow_49 : decode cX7_tellRow 49 = .ok (.istore_n 3, 1) := by decide +kernel
theorem dX7_tellRow_50 : decode cX7_tellRow 50 = .ok (.iload_n 1, 1) := by decide +kernel
theorem dX7_tellRow_51 : decode cX7_tellRow 51 = .ok (.istore 4, 2) := by decide +kernel
theorem dX7_tellRow_53 : decode cX7_tellRow 53 = .ok (.iload 4, 2) := by decide +kernel
theorem dX7_tellRow_55 : decode cX7_tellRow 55 = .ok (.ifCond .le 31, 3) := by decide +kernel
theorem dX7_tellRow_58 : decode cX7_tellRow 58 = .ok (.aload_n 0, 1) := by decide +kernel
theorem dX7_tellRow_59 : decode cX7_tellRow 59 = .ok (.getfield 69, 3) := by decide +kernel
theorem dX7_tellRow_62 : decode cX7_tellRow 62 = .ok (.iload_n 3, 1) := by decide +kernel
theorem dX7_tellRow_63 : decode cX7_tellRow 63 = .ok (.aload_n 0, 1) := by decide +kernel
theorem dX7_tellRow_64 : decode cX7_tellRow 64 = .ok (.getfield 63, 3) := by decide +kernel
theorem dX7_tellRow_67 : decode cX7_tellRow 67 = .ok (.iload 4, 2) := by decide +kernel
theorem dX7_tellRow_69 : decode cX7_tellRow 69 = .ok (.iaload, 1) := by decide +kernel
theorem dX7_tellRow_70 : decode cX7_tellRow 70 = .ok (.iastore, 1) := by decide +kernel
theorem dX7_tellRow_71 : decode cX7_tellRow 71 = .ok (.iinc 3 (-1), 3) := by decide +kernel
theorem dX7_tellRow_74 : decode cX7_tellRow 74 = .ok (.aload_n 0, 1) := by decide +kernel
theorem dX7_tellRow_75 : decode cX7_tellRow 75 = .ok (.getfield 60, 3) := by decide +kernel
theorem dX7_tellRow_78 : decode cX7_tellRow 78 = .ok (.iload 4, 2) := by decide +kernel
theorem dX7_tellRow_80 : decode cX7_tellRow 80 = .ok (.iaload, 1) := by decide +kernel
theorem dX7_tellRow_81 : decode cX7_tellRow 81 = .ok (.istore 4, 2) := by decide +kernel
theorem dX7_tellRow_83 : decode cX7_tellRow 83 = .ok (.goto (-30), 3) := by decide +kernel
theorem dX7_tellRow_86 : decode cX7_tellRow 86 = .ok (.return_, 1) := by decide +kernel
set_option maxRecDepth 20000 in
theorem ggX7_prove_X7_first : GoodIn wsX7_prove wsX7_first := goodIn_r _ [12, 13, 5, 4, 14, 68, 69, 70, 71, 72, 73, 74, 75, 76, 77, 78, 79, 80, 81, 82, 83, 84, 85, 86, 87, 88, 89, 90, 91, 92, 93, 94, 95, 96, 97, 98] (by decide +kernel) (by decide +kernel)
set_option maxRecDepth 20000 in
theorem gX7_prove_X7_first : GoodIn wsX7_prove (wsV RX7 103 RX7 yX7_first wsX7_first) := goodIn_app (goodIn_of _ (by decide +kernel)) ggX7_prove_X7_first
set_option maxRecDepth 20000 in
theorem ggX7_prove_X7_add : GoodIn wsX7_prove wsX7_add := goodIn_r _ [18, 19, 3, 13, 20, 21, 68, 69, 70, 71, 72, 73, 74, 75, 76, 77, 78, 79, 80, 81, 82, 83, 84, 85, 86, 87, 88, 89, 90, 91, 92, 93, 94, 95, 96, 97, 98] (by decide +kernel) (by decide +kernel)
set_option maxRecDepth 20000 in
theorem gX7_prove_X7_add : GoodIn wsX7_prove (wsV RX7 168 RX7 yX7_add wsX7_add) := goodIn_app (goodIn_of _ (by decide +kernel)) ggX7_prove_X7_add
set_option maxRecDepth 20000 in
theorem ggX7_prove_X7_load : GoodIn wsX7_prove wsX7_load := goodIn_r _ [25, 13, 19, 68, 69, 70, 71, 72, 73, 74, 75, 76, 77, 78, 79, 80, 81, 82, 83, 84, 85, 86, 87, 88, 89, 90, 91, 92, 93, 94, 95, 96, 97, 98] (by decide +kernel) (by decide +kernel)
set_option maxRecDepth 20000 in
theorem gX7_prove_X7_load : GoodIn wsX7_prove (wsV RX7 172 RX7 yX7_load wsX7_load) := goodIn_app (goodIn_of _ (by decide +kernel)) ggX7_prove_X7_load
set_option maxRecDepth 20000 in
theorem ggX7_prove_X7_go : GoodIn wsX7_prove wsX7_go := goodIn_r _ [29, 30, 13, 5, 14, 31, 32, 33, 34, 35, 11, 36, 37, 38, 39, 40, 41, 42, 43, 44, 45, 46, 47, 48, 49, 50, 51, 52, 53, 54, 55, 56, 57, 68, 69, 70, 71, 72, 73, 74, 75, 76, 77, 78, 79, 80, 81, 82, 83, 84, 85, 86, 87, 88, 89, 90, 91, 92, 93, 94, 95, 96, 97, 98] (by decide +kernel) (by decide +kernel)
set_option maxRecDepth 20000 in
theorem gX7_prove_X7_go : GoodIn wsX7_prove (wsV RX7 156 RX7 yX7_go wsX7_go) := goodIn_app (goodIn_of _ (by decide +kernel)) ggX7_prove_X7_go
set_option maxRecDepth 20000 in
theorem ggX7_prove_X7_tellRow : GoodIn wsX7_prove wsX7_tellRow := goodIn_r _ [61, 62, 20, 63, 21, 68, 69, 70, 71, 72, 73, 74, 75, 76, 77, 78, 79, 80, 81, 82, 83, 84, 85, 86, 87, 88, 89, 90, 91, 92, 93, 94, 95, 96, 97, 98] (by decide +kernel) (by decide +kernel)
set_option maxRecDepth 20000 in
theorem gX7_prove_X7_tellRow : GoodIn wsX7_prove (wsV RX7 175 RX7 yX7_tellRow wsX7_tellRow) := goodIn_app (goodIn_of _ (by decide +kernel)) ggX7_prove_X7_tellRow
set_option maxRecDepth 20000 in
theorem ggX7_prove_X7_find : GoodIn wsX7_prove wsX7_find := goodIn_r _ [67, 3, 19, 13, 68, 69, 70, 71, 72, 73, 74, 75, 76, 77, 78, 79, 80, 81, 82, 83, 84, 85, 86, 87, 88, 89, 90, 91, 92, 93, 94, 95, 96, 97, 98] (by decide +kernel) (by decide +kernel)
set_option maxRecDepth 20000 in
theorem gX7_prove_X7_find : GoodIn wsX7_prove (wsV RX7 159 RX7 yX7_find wsX7_find) := goodIn_app (goodIn_of _ (by decide +kernel)) ggX7_prove_X7_find
theorem dX7_prove_0 : decode cX7_prove 0 = .ok (.aload_n 0, 1) := by decide +kernel
theorem dX7_prove_1 : decode cX7_prove 1 = .ok (.iconst 0, 1) := by decide +kernel
theorem dX7_prove_2 : decode cX7_prove 2 = .ok (.putfield 79, 3) := by decide +kernel
theorem dX7_prove_5 : decode cX7_prove 5 = .ok (.aload_n 0, 1) := by decide +kernel
theorem dX7_prove_6 : decode cX7_prove 6 = .ok (.iconst (-1), 1) := by decide +kernel
theorem dX7_prove_7 : decode cX7_prove 7 = .ok (.putfield 53, 3) := by decide +kernel
theorem dX7_prove_10 : decode cX7_prove 10 = .ok (.aload_n 0, 1) := by decide +kernel
theorem dX7_prove_11 : decode cX7_prove 11 = .ok (.iconst 0, 1) := by decide +kernel
theorem dX7_prove_12 : decode cX7_prove 12 = .ok (.putfield 100, 3) := by decide +kernel
theorem dX7_prove_15 : decode cX7_prove 15 = .ok (.iload_n 1, 1) := by decide +kernel
theorem dX7_prove_16 : decode cX7_prove 16 = .ok (.iconst 1, 1) := by decide +kernel
theorem dX7_prove_17 : decode cX7_prove 17 = .ok (.if_icmp .lt 17, 3) := by decide +kernel
theorem dX7_prove_20 : decode cX7_prove 20 = .ok (.iload_n 1, 1) := by decide +kernel
theorem dX7_prove_21 : decode cX7_prove 21 = .ok (.sipush 400, 3) := by decide +kernel
theorem dX7_prove_24 : decode cX7_prove 24 = .ok (.if_icmp .gt 10, 3) := by decide +kernel
theorem dX7_prove_27 : decode cX7_prove 27 = .ok (.aload_n 0, 1) := by decide +kernel
theorem dX7_prove_28 : decode cX7_prove 28 = .ok (.getfield 85, 3) := by decide +kernel
theorem dX7_prove_31 : decode cX7_prove 31 = .ok (.ifCond .ne 5, 3) := by decide +kernel
theorem dX7_prove_34 : decode cX7_prove 34 = .ok (.iconst (-1), 1) := by decide +kernel
theorem dX7_prove_35 : decode cX7_prove 35 = .ok (.ireturn, 1) := by decide +kernel
theorem dX7_prove_36 : decode cX7_prove 36 = .ok (.aload_n 0, 1) := by decide +kernel
theorem dX7_prove_37 : decode cX7_prove 37 = .ok (.iconst 1, 1) := by decide +kernel
theorem dX7_prove_38 : decode cX7_prove 38 = .ok (.aload_n 0, 1) := by decide +kernel
theorem dX7_prove_39 : decode cX7_prove 39 = .ok (.getfield 82, 3) := by decide +kernel
theorem dX7_prove_42 : decode cX7_prove 42 = .ok (.iadd, 1) := by decide +kernel
theorem dX7_prove_43 : decode cX7_prove 43 = .ok (.aload_n 0, 1) := by decide +kernel
theorem dX7_prove_44 : decode cX7_prove 44 = .ok (.getfield 85, 3) := by decide +kernel
theorem dX7_prove_47 : decode cX7_prove 47 = .ok (.iadd, 1) := by decide +kernel
theorem dX7_prove_48 : decode cX7_prove 48 = .ok (.putfield 165, 3) := by decide +kernel
theorem dX7_prove_51 : decode cX7_prove 51 = .ok (.aload_n 0, 1) := by decide +kernel
theorem dX7_prove_52 : decode cX7_prove 52 = .ok (.invokevirtual 103, 3) := by decide +kernel
theorem dX7_prove_55 : decode cX7_prove 55 = .ok (.aload_n 0, 1) := by decide +kernel
theorem dX7_prove_56 : decode cX7_prove 56 = .ok (.iconst 0, 1) := by decide +kernel
theorem dX7_prove_57 : decode cX7_prove 57 = .ok (.iconst 0, 1) := by decide +kernel
theorem dX7_prove_58 : decode cX7_prove 58 = .ok (.invokevirtual 168, 3) := by decide +kernel
theorem dX7_prove_61 : decode cX7_prove 61 = .ok (.iconst 0, 1) := by decide +kernel
theorem dX7_prove_62 : decode cX7_prove 62 = .ok (.istore_n 2, 1) := by decide +kernel
theorem dX7_prove_63 : decode cX7_prove 63 = .ok (.iload_n 2, 1) := by decide +kernel
theorem dX7_prove_64 : decode cX7_prove 64 = .ok (.aload_n 0, 1) := by decide +kernel
theorem dX7_prove_65 : decode cX7_prove 65 = .ok (.getfield 100, 3) := by decide +kernel
theorem dX7_prove_68 : decode cX7_prove 68 = .ok (.if_icmp .ge 107, 3) := by decide +kernel
theorem dX7_prove_71 : decode cX7_prove 71 = .ok (.iconst 0, 1) := by decide +kernel
theorem dX7_prove_72 : decode cX7_prove 72 = .ok (.istore_n 3, 1) := by decide +kernel
theorem dX7_prove_73 : decode cX7_prove 73 = .ok (.iload_n 3, 1) := by decide +kernel
theorem dX7_prove_74 : decode cX7_prove 74 = .ok (.aload_n 0, 1) := by decide +kernel
theorem dX7_prove_75 : decode cX7_prove 75 = .ok (.getfield 165, 3) := by decide +kernel
theorem dX7_prove_78 : decode cX7_prove 78 = .ok (.if_icmp .ge 91, 3) := by decide +kernel
theorem dX7_prove_81 : decode cX7_prove 81 = .ok (.aload_n 0, 1) := by decide +kernel
theorem dX7_prove_82 : decode cX7_prove 82 = .ok (.iload_n 2, 1) := by decide +kernel
theorem dX7_prove_83 : decode cX7_prove 83 = .ok (.invokevirtual 172, 3) := by decide +kernel
theorem dX7_prove_86 : decode cX7_prove 86 = .ok (.aload_n 0, 1) := by decide +kernel
theorem dX7_prove_87 : decode cX7_prove 87 = .ok (.iload_n 3, 1) := by decide +kernel
theorem dX7_prove_88 : decode cX7_prove 88 = .ok (.invokevirtual 156, 3) := by decide +kernel
theorem dX7_prove_91 : decode cX7_prove 91 = .ok (.ifCond .le 16, 3) := by decide +kernel
theorem dX7_prove_94 : decode cX7_prove 94 = .ok (.aload_n 0, 1) := by decide +kernel
theorem dX7_prove_95 : decode cX7_prove 95 = .ok (.iload_n 2, 1) := by decide +kernel
theorem dX7_prove_96 : decode cX7_prove 96 = .ok (.iload_n 3, 1) := by decide +kernel
theorem dX7_prove_97 : decode cX7_prove 97 = .ok (.invokevirtual 175, 3) := by decide +kernel
theorem dX7_prove_100 : decode cX7_prove 100 = .ok (.aload_n 0, 1) := by decide +kernel
theorem dX7_prove_101 : decode cX7_prove 101 = .ok (.iconst 0, 1) := by decide +kernel
theorem dX7_prove_102 : decode cX7_prove 102 = .ok (.putfield 53, 3) := by decide +kernel
theorem dX7_prove_105 : decode cX7_prove 105 = .ok (.iconst 0, 1) := by decide +kernel
theorem dX7_prove_106 : decode cX7_prove 106 = .ok (.ireturn, 1) := by decide +kernel
theorem dX7_prove_107 : decode cX7_prove 107 = .ok (.aload_n 0, 1) := by decide +kernel
theorem dX7_prove_108 : decode cX7_prove 108 = .ok (.invokevirtual 159, 3) := by decide +kernel
theorem dX7_prove_111 : decode cX7_prove 111 = .ok (.istore 4, 2) := by decide +kernel
theorem dX7_prove_113 : decode cX7_prove 113 = .ok (.iload 4, 2) := by decide +kernel
theorem dX7_prove_115 : decode cX7_prove 115 = .ok (.ifCond .ge 18, 3) := by decide +kernel
theorem dX7_prove_118 : decode cX7_prove 118 = .ok (.aload_n 0, 1) := by decide +kernel
theorem dX7_prove_119 : decode cX7_prove 119 = .ok (.getfield 100, 3) := by decide +kernel
theorem dX7_prove_122 : decode cX7_prove 122 = .ok (.iload_n 1, 1) := by decide +kernel
theorem dX7_prove_123 : decode cX7_prove 123 = .ok (.if_icmp .ne 10, 3) := by decide +kernel
theorem dX7_prove_126 : decode cX7_prove 126 = .ok (.aload_n 0, 1) := by decide +kernel
theorem dX7_prove_127 : decode cX7_prove 127 = .ok (.iconst 2, 1) := by decide +kernel
theorem dX7_prove_128 : decode cX7_prove 128 = .ok (.putfield 53, 3) := by decide +kernel
theorem dX7_prove_131 : decode cX7_prove 131 = .ok (.iconst 2, 1) := by decide +kernel
theorem dX7_prove_132 : decode cX7_prove 132 = .ok (.ireturn, 1) := by decide +kernel
theorem dX7_prove_133 : decode cX7_prove 133 = .ok (.iload 4, 2) := by decide +kernel
theorem dX7_prove_135 : decode cX7_prove 135 = .ok (.ifCond .ge 15, 3) := by decide +kernel
theorem dX7_prove_138 : decode cX7_prove 138 = .ok (.aload_n 0, 1) := by decide +kernel
theorem dX7_prove_139 : decode cX7_prove 139 = .ok (.getfield 100, 3) := by decide +kernel
theorem dX7_prove_142 : decode cX7_prove 142 = .ok (.istore 4, 2) := by decide +kernel
theorem dX7_prove_144 : decode cX7_prove 144 = .ok (.aload_n 0, 1) := by decide +kernel
theorem dX7_prove_145 : decode cX7_prove 145 = .ok (.iload_n 2, 1) := by decide +kernel
theorem dX7_prove_146 : decode cX7_prove 146 = .ok (.iload_n 3, 1) := by decide +kernel
theorem dX7_prove_147 : decode cX7_prove 147 = .ok (.invokevirtual 168, 3) := by decide +kernel
theorem dX7_prove_150 : decode cX7_prove 150 = .ok (.aload_n 0, 1) := by decide +kernel
theorem dX7_prove_151 : decode cX7_prove 151 = .ok (.getfield 66, 3) := by decide +kernel
theorem dX7_prove_154 : decode cX7_prove 154 = .ok (.bipush 10, 2) := by decide +kernel
theorem dX7_prove_156 : decode cX7_prove 156 = .ok (.iload_n 2, 1) := by decide +kernel
theorem dX7_prove_157 : decode cX7_prove 157 = .ok (.imul, 1) := by decide +kernel
theorem dX7_prove_158 : decode cX7_prove 158 = .ok (.iload_n 3, 1) := by decide +kernel
theorem dX7_prove_159 : decode cX7_prove 159 = .ok (.iadd, 1) := by decide +kernel
theorem dX7_prove_160 : decode cX7_prove 160 = .ok (.iload 4, 2) := by decide +kernel
theorem dX7_prove_162 : decode cX7_prove 162 = .ok (.iastore, 1) := by decide +kernel
theorem dX7_prove_163 : decode cX7_prove 163 = .ok (.iinc 3 1, 3) := by decide +kernel
theorem dX7_prove_166 : decode cX7_prove 166 = .ok (.goto (-93), 3) := by decide +kernel
theorem dX7_prove_169 : decode cX7_prove 169 = .ok (.iinc 2 1, 3) := by decide +kernel
theorem dX7_prove_172 : decode cX7_prove 172 = .ok (.goto (-109), 3) := by decide +kernel
theorem dX7_prove_175 : decode cX7_prove 175 = .ok (.aload_n 0, 1) := by decide +kernel
theorem dX7_prove_176 : decode cX7_prove 176 = .ok (.iconst 1, 1) := by decide +kernel
theorem dX7_prove_177 : decode cX7_prove 177 = .ok (.putfield 53, 3) := by decide +kernel
theorem dX7_prove_180 : decode cX7_prove 180 = .ok (.iconst 1, 1) := by decide +kernel
theorem dX7_prove_181 : decode cX7_prove 181 = .ok (.ireturn, 1) := by decide +kernel
theorem dX7_states_0 : decode cX7_states 0 = .ok (.aload_n 0, 1) := by decide +kernel
theorem dX7_states_1 : decode cX7_states 1 = .ok (.iconst 0, 1) := by decide +kernel
theorem dX7_states_2 : decode cX7_states 2 = .ok (.putfield 79, 3) := by decide +kernel
theorem dX7_states_5 : decode cX7_states 5 = .ok (.aload_n 0, 1) := by decide +kernel
theorem dX7_states_6 : decode cX7_states 6 = .ok (.getfield 100, 3) := by decide +kernel
theorem dX7_states_9 : decode cX7_states 9 = .ok (.ireturn, 1) := by decide +kernel
set_option maxRecDepth 20000 in
theorem ggX7_row_X7_first : GoodIn wsX7_row wsX7_first := goodIn_r _ [10, 5, 11, 12, 13, 46, 47, 48, 49, 50, 51, 52, 53, 54, 55, 56, 57, 58, 59, 60, 61, 62, 63, 64, 65, 66, 67, 68, 69, 70, 71, 72, 73, 74, 75, 76] (by decide +kernel) (by decide +kernel)
set_option maxRecDepth 20000 in
theorem gX7_row_X7_first : GoodIn wsX7_row (wsV RX7 103 RX7 yX7_first wsX7_first) := goodIn_app (goodIn_of _ (by decide +kernel)) ggX7_row_X7_first
set_option maxRecDepth 20000 in
theorem ggX7_row_X7_go : GoodIn wsX7_row wsX7_go := goodIn_r _ [17, 18, 5, 11, 13, 19, 20, 21, 22, 23, 9, 24, 25, 26, 27, 28, 29, 30, 31, 32, 33, 34, 35, 36, 37, 38, 39, 40, 41, 42, 43, 44, 45, 46, 47, 48, 49, 50, 51, 52, 53, 54, 55, 56, 57, 58, 59, 60, 61, 62, 63, 64, 65, 66, 67, 68, 69, 70, 71, 72, 73, 74, 75, 76] (by decide +kernel) (by decide +kernel)
set_option maxRecDepth 20000 in
theorem gX7_row_X7_go : GoodIn wsX7_row (wsV RX7 156 RX7 yX7_go wsX7_go) := goodIn_app (goodIn_of _ (by decide +kernel)) ggX7_row_X7_go
set_option maxRecDepth 20000 in
theorem ggX7_row_X7_shownNow : GoodIn wsX7_row wsX7_shownNow := goodIn_r _ [24, 5, 25, 26, 27, 9, 28, 13, 46, 47, 48, 49, 50, 51, 52, 53, 54, 55, 56, 57, 58, 59, 60, 61, 62, 63, 64, 65, 66, 67, 68, 69, 70, 71, 72, 73, 74, 75, 76] (by decide +kernel) (by decide +kernel)
set_option maxRecDepth 20000 in
theorem gX7_row_X7_shownNow : GoodIn wsX7_row (wsV RX7 136 RX7 yX7_shownNow wsX7_shownNow) := goodIn_app (goodIn_of _ (by decide +kernel)) ggX7_row_X7_shownNow
theorem dX7_row_0 : decode cX7_row 0 = .ok (.aload_n 0, 1) := by decide +kernel
theorem dX7_row_1 : decode cX7_row 1 = .ok (.iconst 0, 1) := by decide +kernel
theorem dX7_row_2 : decode cX7_row 2 = .ok (.putfield 79, 3) := by decide +kernel
theorem dX7_row_5 : decode cX7_row 5 = .ok (.aload_n 0, 1) := by decide +kernel
theorem dX7_row_6 : decode cX7_row 6 = .ok (.getfield 53, 3) := by decide +kernel
theorem dX7_row_9 : decode cX7_row 9 = .ok (.ifCond .ne 25, 3) := by decide +kernel
theorem dX7_row_12 : decode cX7_row 12 = .ok (.iload_n 1, 1) := by decide +kernel
theorem dX7_row_13 : decode cX7_row 13 = .ok (.ifCond .lt 21, 3) := by decide +kernel
theorem dX7_row_16 : decode cX7_row 16 = .ok (.iload_n 1, 1) := by decide +kernel
theorem dX7_row_17 : decode cX7_row 17 = .ok (.aload_n 0, 1) := by decide +kernel
theorem dX7_row_18 : decode cX7_row 18 = .ok (.getfield 162, 3) := by decide +kernel
theorem dX7_row_21 : decode cX7_row 21 = .ok (.if_icmp .ge 13, 3) := by decide +kernel
theorem dX7_row_24 : decode cX7_row 24 = .ok (.iload_n 2, 1) := by decide +kernel
theorem dX7_row_25 : decode cX7_row 25 = .ok (.ifCond .lt 9, 3) := by decide +kernel
theorem dX7_row_28 : decode cX7_row 28 = .ok (.iload_n 2, 1) := by decide +kernel
theorem dX7_row_29 : decode cX7_row 29 = .ok (.bipush 6, 2) := by decide +kernel
theorem dX7_row_31 : decode cX7_row 31 = .ok (.if_icmp .le 5, 3) := by decide +kernel
theorem dX7_row_34 : decode cX7_row 34 = .ok (.iconst (-1), 1) := by decide +kernel
theorem dX7_row_35 : decode cX7_row 35 = .ok (.ireturn, 1) := by decide +kernel
theorem dX7_row_36 : decode cX7_row 36 = .ok (.aload_n 0, 1) := by decide +kernel
theorem dX7_row_37 : decode cX7_row 37 = .ok (.invokevirtual 103, 3) := by decide +kernel
theorem dX7_row_40 : decode cX7_row 40 = .ok (.iconst 0, 1) := by decide +kernel
theorem dX7_row_41 : decode cX7_row 41 = .ok (.istore_n 3, 1) := by decide +kernel
theorem dX7_row_42 : decode cX7_row 42 = .ok (.iconst 0, 1) := by decide +kernel
theorem dX7_row_43 : decode cX7_row 43 = .ok (.istore 4, 2) := by decide +kernel
theorem dX7_row_45 : decode cX7_row 45 = .ok (.iload 4, 2) := by decide +kernel
theorem dX7_row_47 : decode cX7_row 47 = .ok (.iload_n 1, 1) := by decide +kernel
theorem dX7_row_48 : decode cX7_row 48 = .ok (.if_icmp .gt 21, 3) := by decide +kernel
theorem dX7_row_51 : decode cX7_row 51 = .ok (.aload_n 0, 1) := by decide +kernel
theorem dX7_row_52 : decode cX7_row 52 = .ok (.aload_n 0, 1) := by decide +kernel
theorem dX7_row_53 : decode cX7_row 53 = .ok (.getfield 69, 3) := by decide +kernel
theorem dX7_row_56 : decode cX7_row 56 = .ok (.iload 4, 2) := by decide +kernel
theorem dX7_row_58 : decode cX7_row 58 = .ok (.iaload, 1) := by decide +kernel
theorem dX7_row_59 : decode cX7_row 59 = .ok (.invokevirtual 156, 3) := by decide +kernel
theorem dX7_row_62 : decode cX7_row 62 = .ok (.istore_n 3, 1) := by decide +kernel
theorem dX7_row_63 : decode cX7_row 63 = .ok (.iinc 4 1, 3) := by decide +kernel
theorem dX7_row_66 : decode cX7_row 66 = .ok (.goto (-21), 3) := by decide +kernel
theorem dX7_row_69 : decode cX7_row 69 = .ok (.iload_n 2, 1) := by decide +kernel
theorem dX7_row_70 : decode cX7_row 70 = .ok (.tableswitch 79 0 5 #[38, 45, 52, 59, 64, 71], 38) := by decide +kernel
theorem dX7_row_108 : decode cX7_row 108 = .ok (.aload_n 0, 1) := by decide +kernel
theorem dX7_row_109 : decode cX7_row 109 = .ok (.getfield 69, 3) := by decide +kernel
theorem dX7_row_112 : decode cX7_row 112 = .ok (.iload_n 1, 1) := by decide +kernel
theorem dX7_row_113 : decode cX7_row 113 = .ok (.iaload, 1) := by decide +kernel
theorem dX7_row_114 : decode cX7_row 114 = .ok (.ireturn, 1) := by decide +kernel
theorem dX7_row_115 : decode cX7_row 115 = .ok (.aload_n 0, 1) := by decide +kernel
theorem dX7_row_116 : decode cX7_row 116 = .ok (.getfield 47, 3) := by decide +kernel
theorem dX7_row_119 : decode cX7_row 119 = .ok (.iconst 0, 1) := by decide +kernel
theorem dX7_row_120 : decode cX7_row 120 = .ok (.iaload, 1) := by decide +kernel
theorem dX7_row_121 : decode cX7_row 121 = .ok (.ireturn, 1) := by decide +kernel
theorem dX7_row_122 : decode cX7_row 122 = .ok (.aload_n 0, 1) := by decide +kernel
theorem dX7_row_123 : decode cX7_row 123 = .ok (.getfield 47, 3) := by decide +kernel
theorem dX7_row_126 : decode cX7_row 126 = .ok (.iconst 1, 1) := by decide +kernel
theorem dX7_row_127 : decode cX7_row 127 = .ok (.iaload, 1) := by decide +kernel
theorem dX7_row_128 : decode cX7_row 128 = .ok (.ireturn, 1) := by decide +kernel
theorem dX7_row_129 : decode cX7_row 129 = .ok (.aload_n 0, 1) := by decide +kernel
theorem dX7_row_130 : decode cX7_row 130 = .ok (.invokevirtual 136, 3) := by decide +kernel
theorem dX7_row_133 : decode cX7_row 133 = .ok (.ireturn, 1) := by decide +kernel
theorem dX7_row_134 : decode cX7_row 134 = .ok (.aload_n 0, 1) := by decide +kernel
theorem dX7_row_135 : decode cX7_row 135 = .ok (.getfield 47, 3) := by decide +kernel
theorem dX7_row_138 : decode cX7_row 138 = .ok (.iconst 3, 1) := by decide +kernel
theorem dX7_row_139 : decode cX7_row 139 = .ok (.iaload, 1) := by decide +kernel
theorem dX7_row_140 : decode cX7_row 140 = .ok (.ireturn, 1) := by decide +kernel
theorem dX7_row_141 : decode cX7_row 141 = .ok (.aload_n 0, 1) := by decide +kernel
theorem dX7_row_142 : decode cX7_row 142 = .ok (.getfield 47, 3) := by decide +kernel
theorem dX7_row_145 : decode cX7_row 145 = .ok (.bipush 7, 2) := by decide +kernel
theorem dX7_row_147 : decode cX7_row 147 = .ok (.iaload, 1) := by decide +kernel
theorem dX7_row_148 : decode cX7_row 148 = .ok (.ireturn, 1) := by decide +kernel
theorem dX7_row_149 : decode cX7_row 149 = .ok (.iload_n 3, 1) := by decide +kernel
theorem dX7_row_150 : decode cX7_row 150 = .ok (.ireturn, 1) := by decide +kernel
theorem dX7_waitsIn_0 : decode cX7_waitsIn 0 = .ok (.aload_n 0, 1) := by decide +kernel
theorem dX7_waitsIn_1 : decode cX7_waitsIn 1 = .ok (.getfield 57, 3) := by decide +kernel
theorem dX7_waitsIn_4 : decode cX7_waitsIn 4 = .ok (.bipush 14, 2) := by decide +kernel
theorem dX7_waitsIn_6 : decode cX7_waitsIn 6 = .ok (.iload_n 1, 1) := by decide +kernel
theorem dX7_waitsIn_7 : decode cX7_waitsIn 7 = .ok (.imul, 1) := by decide +kernel
theorem dX7_waitsIn_8 : decode cX7_waitsIn 8 = .ok (.bipush 7, 2) := by decide +kernel
theorem dX7_waitsIn_10 : decode cX7_waitsIn 10 = .ok (.iadd, 1) := by decide +kernel
theorem dX7_waitsIn_11 : decode cX7_waitsIn 11 = .ok (.iaload, 1) := by decide +kernel
theorem dX7_waitsIn_12 : decode cX7_waitsIn 12 = .ok (.iload_n 2, 1) := by decide +kernel
theorem dX7_waitsIn_13 : decode cX7_waitsIn 13 = .ok (.ishr, 1) := by decide +kernel
theorem dX7_waitsIn_14 : decode cX7_waitsIn 14 = .ok (.iconst 1, 1) := by decide +kernel
theorem dX7_waitsIn_15 : decode cX7_waitsIn 15 = .ok (.iand, 1) := by decide +kernel
theorem dX7_waitsIn_16 : decode cX7_waitsIn 16 = .ok (.iconst 1, 1) := by decide +kernel
theorem dX7_waitsIn_17 : decode cX7_waitsIn 17 = .ok (.if_icmp .ne 7, 3) := by decide +kernel
theorem dX7_waitsIn_20 : decode cX7_waitsIn 20 = .ok (.iconst 1, 1) := by decide +kernel
theorem dX7_waitsIn_21 : decode cX7_waitsIn 21 = .ok (.goto 4, 3) := by decide +kernel
theorem dX7_waitsIn_24 : decode cX7_waitsIn 24 = .ok (.iconst 0, 1) := by decide +kernel
theorem dX7_waitsIn_25 : decode cX7_waitsIn 25 = .ok (.ireturn, 1) := by decide +kernel
set_option maxRecDepth 20000 in
theorem ggX7_longest_X7_isGroup : GoodIn wsX7_longest wsX7_isGroup := goodIn_r _ [11, 12, 18, 19, 20, 21, 22, 23, 24, 25, 26, 27, 28, 29, 30, 31, 32, 33, 34, 35, 36, 37, 38, 39, 40, 41, 42, 43, 44, 45, 46, 47, 48] (by decide +kernel) (by decide +kernel)
set_option maxRecDepth 20000 in
theorem gX7_longest_X7_isGroup : GoodIn wsX7_longest (wsV RX7 106 RX7 yX7_isGroup wsX7_isGroup) := goodIn_app (goodIn_of _ (by decide +kernel)) ggX7_longest_X7_isGroup
set_option maxRecDepth 20000 in
theorem ggX7_longest_X7_waitsIn : GoodIn wsX7_longest wsX7_waitsIn := goodIn_r _ [16, 17, 18, 19, 20, 21, 22, 23, 24, 25, 26, 27, 28, 29, 30, 31, 32, 33, 34, 35, 36, 37, 38, 39, 40, 41, 42, 43, 44, 45, 46, 47, 48] (by decide +kernel) (by decide +kernel)
set_option maxRecDepth 20000 in
theorem gX7_longest_X7_waitsIn : GoodIn wsX7_longest (wsV RX7 178 RX7 yX7_waitsIn wsX7_waitsIn) := goodIn_app (goodIn_of _ (by decide +kernel)) ggX7_longest_X7_waitsIn
theorem dX7_longest_0 : decode cX7_longest 0 = .ok (.aload_n 0, 1) := by decide +kernel
theorem dX7_longest_1 : decode cX7_longest 1 = .ok (.iconst 0, 1) := by decide +kernel
theorem dX7_longest_2 : decode cX7_longest 2 = .ok (.putfield 79, 3) := by decide +kernel
theorem dX7_longest_5 : decode cX7_longest 5 = .ok (.aload_n 0, 1) := by decide +kernel
theorem dX7_longest_6 : decode cX7_longest 6 = .ok (.getfield 53, 3) := by decide +kernel
theorem dX7_longest_9 : decode cX7_longest 9 = .ok (.iconst 1, 1) := by decide +kernel
theorem dX7_longest_10 : decode cX7_longest 10 = .ok (.if_icmp .ne 11, 3) := by decide +kernel
theorem dX7_longest_13 : decode cX7_longest 13 = .ok (.aload_n 0, 1) := by decide +kernel
theorem dX7_longest_14 : decode cX7_longest 14 = .ok (.iload_n 1, 1) := by decide +kernel
theorem dX7_longest_15 : decode cX7_longest 15 = .ok (.invokevirtual 106, 3) := by decide +kernel
theorem dX7_longest_18 : decode cX7_longest 18 = .ok (.ifCond .ne 6, 3) := by decide +kernel
theorem dX7_longest_21 : decode cX7_longest 21 = .ok (.bipush (-2), 2) := by decide +kernel
theorem dX7_longest_23 : decode cX7_longest 23 = .ok (.ireturn, 1) := by decide +kernel
theorem dX7_longest_24 : decode cX7_longest 24 = .ok (.iconst 0, 1) := by decide +kernel
theorem dX7_longest_25 : decode cX7_longest 25 = .ok (.istore_n 2, 1) := by decide +kernel
theorem dX7_longest_26 : decode cX7_longest 26 = .ok (.iload_n 2, 1) := by decide +kernel
theorem dX7_longest_27 : decode cX7_longest 27 = .ok (.aload_n 0, 1) := by decide +kernel
theorem dX7_longest_28 : decode cX7_longest 28 = .ok (.getfield 100, 3) := by decide +kernel
theorem dX7_longest_31 : decode cX7_longest 31 = .ok (.if_icmp .ge 29, 3) := by decide +kernel
theorem dX7_longest_34 : decode cX7_longest 34 = .ok (.aload_n 0, 1) := by decide +kernel
theorem dX7_longest_35 : decode cX7_longest 35 = .ok (.getfield 72, 3) := by decide +kernel
theorem dX7_longest_38 : decode cX7_longest 38 = .ok (.iload_n 2, 1) := by decide +kernel
theorem dX7_longest_39 : decode cX7_longest 39 = .ok (.aload_n 0, 1) := by decide +kernel
theorem dX7_longest_40 : decode cX7_longest 40 = .ok (.iload_n 2, 1) := by decide +kernel
theorem dX7_longest_41 : decode cX7_longest 41 = .ok (.iload_n 1, 1) := by decide +kernel
theorem dX7_longest_42 : decode cX7_longest 42 = .ok (.invokevirtual 178, 3) := by decide +kernel
theorem dX7_longest_45 : decode cX7_longest 45 = .ok (.ifCond .eq 7, 3) := by decide +kernel
theorem dX7_longest_48 : decode cX7_longest 48 = .ok (.iconst 1, 1) := by decide +kernel
theorem dX7_longest_49 : decode cX7_longest 49 = .ok (.goto 4, 3) := by decide +kernel
theorem dX7_longest_52 : decode cX7_longest 52 = .ok (.iconst 0, 1) := by decide +kernel
theorem dX7_longest_53 : decode cX7_longest 53 = .ok (.iastore, 1) := by decide +kernel
theorem dX7_longest_54 : decode cX7_longest 54 = .ok (.iinc 2 1, 3) := by decide +kernel
theorem dX7_longest_57 : decode cX7_longest 57 = .ok (.goto (-31), 3) := by decide +kernel
theorem dX7_longest_60 : decode cX7_longest 60 = .ok (.iconst 1, 1) := by decide +kernel
theorem dX7_longest_61 : decode cX7_longest 61 = .ok (.istore_n 2, 1) := by decide +kernel
theorem dX7_longest_62 : decode cX7_longest 62 = .ok (.iconst 0, 1) := by decide +kernel
theorem dX7_longest_63 : decode cX7_longest 63 = .ok (.istore_n 3, 1) := by decide +kernel
theorem dX7_longest_64 : decode cX7_longest 64 = .ok (.iload_n 2, 1) := by decide +kernel
theorem dX7_longest_65 : decode cX7_longest 65 = .ok (.ifCond .eq 120, 3) := by decide +kernel
theorem dX7_longest_68 : decode cX7_longest 68 = .ok (.iload_n 3, 1) := by decide +kernel
theorem dX7_longest_69 : decode cX7_longest 69 = .ok (.aload_n 0, 1) := by decide +kernel
theorem dX7_longest_70 : decode cX7_longest 70 = .ok (.getfield 100, 3) := by decide +kernel
theorem dX7_longest_73 : decode cX7_longest 73 = .ok (.if_icmp .gt 112, 3) := by decide +kernel
theorem dX7_longest_76 : decode cX7_longest 76 = .ok (.iconst 0, 1) := by decide +kernel
theorem dX7_longest_77 : decode cX7_longest 77 = .ok (.istore_n 2, 1) := by decide +kernel
theorem dX7_longest_78 : decode cX7_longest 78 = .ok (.iinc 3 1, 3) := by decide +kernel
theorem dX7_longest_81 : decode cX7_longest 81 = .ok (.iconst 0, 1) := by decide +kernel
theorem dX7_longest_82 : decode cX7_longest 82 = .ok (.istore 4, 2) := by decide +kernel
theorem dX7_longest_84 : decode cX7_longest 84 = .ok (.iload 4, 2) := by decide +kernel
theorem dX7_longest_86 : decode cX7_longest 86 = .ok (.aload_n 0, 1) := by decide +kernel
theorem dX7_longest_87 : decode cX7_longest 87 = .ok (.getfield 100, 3) := by decide +kernel
theorem dX7_longest_90 : decode cX7_longest 90 = .ok (.if_icmp .ge 92, 3) := by decide +kernel
theorem dX7_longest_93 : decode cX7_longest 93 = .ok (.iconst 0, 1) := by decide +kernel
theorem dX7_longest_94 : decode cX7_longest 94 = .ok (.istore 5, 2) := by decide +kernel
theorem dX7_longest_96 : decode cX7_longest 96 = .ok (.iload 5, 2) := by decide +kernel
theorem dX7_longest_98 : decode cX7_longest 98 = .ok (.aload_n 0, 1) := by decide +kernel
theorem dX7_longest_99 : decode cX7_longest 99 = .ok (.getfield 165, 3) := by decide +kernel
theorem dX7_longest_102 : decode cX7_longest 102 = .ok (.if_icmp .ge 74, 3) := by decide +kernel
theorem dX7_longest_105 : decode cX7_longest 105 = .ok (.aload_n 0, 1) := by decide +kernel
theorem dX7_longest_106 : decode cX7_longest 106 = .ok (.getfield 72, 3) := by decide +kernel
theorem dX7_longest_109 : decode cX7_longest 109 = .ok (.iload 4, 2) := by decide +kernel
theorem dX7_longest_111 : decode cX7_longest 111 = .ok (.iaload, 1) := by decide +kernel
theorem dX7_longest_112 : decode cX7_longest 112 = .ok (.ifCond .le 64, 3) := by decide +kernel
theorem dX7_longest_115 : decode cX7_longest 115 = .ok (.aload_n 0, 1) := by decide +kernel
theorem dX7_longest_116 : decode cX7_longest 116 = .ok (.getfield 66, 3) := by decide +kernel
theorem dX7_longest_119 : decode cX7_longest 119 = .ok (.bipush 10, 2) := by decide +kernel
theorem dX7_longest_121 : decode cX7_longest 121 = .ok (.iload 4, 2) := by decide +kernel
theorem dX7_longest_123 : decode cX7_longest 123 = .ok (.imul, 1) := by decide +kernel
theorem dX7_longest_124 : decode cX7_longest 124 = .ok (.iload 5, 2) := by decide +kernel
theorem dX7_longest_126 : decode cX7_longest 126 = .ok (.iadd, 1) := by decide +kernel
theorem dX7_longest_127 : decode cX7_longest 127 = .ok (.iaload, 1) := by decide +kernel
theorem dX7_longest_128 : decode cX7_longest 128 = .ok (.istore 6, 2) := by decide +kernel
theorem dX7_longest_130 : decode cX7_longest 130 = .ok (.aload_n 0, 1) := by decide +kernel
theorem dX7_longest_131 : decode cX7_longest 131 = .ok (.getfield 72, 3) := by decide +kernel
theorem dX7_longest_134 : decode cX7_longest 134 = .ok (.iload 6, 2) := by decide +kernel
theorem dX7_longest_136 : decode cX7_longest 136 = .ok (.iaload, 1) := by decide +kernel
theorem dX7_longest_137 : decode cX7_longest 137 = .ok (.iconst 1, 1) := by decide +kernel
theorem dX7_longest_138 : decode cX7_longest 138 = .ok (.iadd, 1) := by decide +kernel
theorem dX7_longest_139 : decode cX7_longest 139 = .ok (.aload_n 0, 1) := by decide +kernel
theorem dX7_longest_140 : decode cX7_longest 140 = .ok (.getfield 72, 3) := by decide +kernel
theorem dX7_longest_143 : decode cX7_longest 143 = .ok (.iload 4, 2) := by decide +kernel
theorem dX7_longest_145 : decode cX7_longest 145 = .ok (.iaload, 1) := by decide +kernel
theorem dX7_longest_146 : decode cX7_longest 146 = .ok (.if_icmp .gt 6, 3) := by decide +kernel
theorem dX7_longest_149 : decode cX7_longest 149 = .ok (.goto 21, 3) := by decide +kernel
theorem dX7_longest_152 : decode cX7_longest 152 = .ok (.aload_n 0, 1) := by decide +kernel
theorem dX7_longest_153 : decode cX7_longest 153 = .ok (.getfield 72, 3) := by decide +kernel
theorem dX7_longest_156 : decode cX7_longest 156 = .ok (.iload 4, 2) := by decide +kernel
theorem dX7_longest_158 : decode cX7_longest 158 = .ok (.aload_n 0, 1) := by decide +kernel
theorem dX7_longest_159 : decode cX7_longest 159 = .ok (.getfield 72, 3) := by decide +kernel
theorem dX7_longest_162 : decode cX7_longest 162 = .ok (.iload 6, 2) := by decide +kernel
theorem dX7_longest_164 : decode cX7_longest 164 = .ok (.iaload, 1) := by decide +kernel
theorem dX7_longest_165 : decode cX7_longest 165 = .ok (.iconst 1, 1) := by decide +kernel
theorem dX7_longest_166 : decode cX7_longest 166 = .ok (.iadd, 1) := by decide +kernel
theorem dX7_longest_167 : decode cX7_longest 167 = .ok (.iastore, 1) := by decide +kernel
theorem dX7_longest_168 : decode cX7_longest 168 = .ok (.iconst 1, 1) := by decide +kernel
theorem dX7_longest_169 : decode cX7_longest 169 = .ok (.istore_n 2, 1) := by decide +kernel
theorem dX7_longest_170 : decode cX7_longest 170 = .ok (.iinc 5 1, 3) := by decide +kernel
theorem dX7_longest_173 : decode cX7_longest 173 = .ok (.goto (-77), 3) := by decide +kernel
theorem dX7_longest_176 : decode cX7_longest 176 = .ok (.iinc 4 1, 3) := by decide +kernel
theorem dX7_longest_179 : decode cX7_longest 179 = .ok (.goto (-95), 3) := by decide +kernel
theorem dX7_longest_182 : decode cX7_longest 182 = .ok (.goto (-118), 3) := by decide +kernel
theorem dX7_longest_185 : decode cX7_longest 185 = .ok (.iload_n 2, 1) := by decide +kernel
theorem dX7_longest_186 : decode cX7_longest 186 = .ok (.ifCond .eq 5, 3) := by decide +kernel
theorem dX7_longest_189 : decode cX7_longest 189 = .ok (.iconst (-1), 1) := by decide +kernel
theorem dX7_longest_190 : decode cX7_longest 190 = .ok (.ireturn, 1) := by decide +kernel
theorem dX7_longest_191 : decode cX7_longest 191 = .ok (.iconst 0, 1) := by decide +kernel
theorem dX7_longest_192 : decode cX7_longest 192 = .ok (.istore 4, 2) := by decide +kernel
theorem dX7_longest_194 : decode cX7_longest 194 = .ok (.iconst 0, 1) := by decide +kernel
theorem dX7_longest_195 : decode cX7_longest 195 = .ok (.istore 5, 2) := by decide +kernel
theorem dX7_longest_197 : decode cX7_longest 197 = .ok (.iload 5, 2) := by decide +kernel
theorem dX7_longest_199 : decode cX7_longest 199 = .ok (.aload_n 0, 1) := by decide +kernel
theorem dX7_longest_200 : decode cX7_longest 200 = .ok (.getfield 100, 3) := by decide +kernel
theorem dX7_longest_203 : decode cX7_longest 203 = .ok (.if_icmp .ge 35, 3) := by decide +kernel
theorem dX7_longest_206 : decode cX7_longest 206 = .ok (.aload_n 0, 1) := by decide +kernel
theorem dX7_longest_207 : decode cX7_longest 207 = .ok (.getfield 72, 3) := by decide +kernel
theorem dX7_longest_210 : decode cX7_longest 210 = .ok (.iload 5, 2) := by decide +kernel
theorem dX7_longest_212 : decode cX7_longest 212 = .ok (.iaload, 1) := by decide +kernel
theorem dX7_longest_213 : decode cX7_longest 213 = .ok (.iload 4, 2) := by decide +kernel
theorem dX7_longest_215 : decode cX7_longest 215 = .ok (.if_icmp .le 13, 3) := by decide +kernel
theorem dX7_longest_218 : decode cX7_longest 218 = .ok (.aload_n 0, 1) := by decide +kernel
theorem dX7_longest_219 : decode cX7_longest 219 = .ok (.getfield 72, 3) := by decide +kernel
theorem dX7_longest_222 : decode cX7_longest 222 = .ok (.iload 5, 2) := by decide +kernel
theorem dX7_longest_224 : decode cX7_longest 224 = .ok (.iaload, 1) := by decide +kernel
theorem dX7_longest_225 : decode cX7_longest 225 = .ok (.goto 5, 3) := by decide +kernel
theorem dX7_longest_228 : decode cX7_longest 228 = .ok (.iload 4, 2) := by decide +kernel
theorem dX7_longest_230 : decode cX7_longest 230 = .ok (.istore 4, 2) := by decide +kernel
theorem dX7_longest_232 : decode cX7_longest 232 = .ok (.iinc 5 1, 3) := by decide +kernel
theorem dX7_longest_235 : decode cX7_longest 235 = .ok (.goto (-38), 3) := by decide +kernel
theorem dX7_longest_238 : decode cX7_longest 238 = .ok (.iload 4, 2) := by decide +kernel
theorem dX7_longest_240 : decode cX7_longest 240 = .ok (.ireturn, 1) := by decide +kernel
set_option maxRecDepth 20000 in
theorem ggX7_ring_X7_longest : GoodIn wsX7_ring wsX7_longest := goodIn_r _ [7, 1, 8, 9, 10, 11, 12, 13, 14, 15, 6, 16, 2, 17, 18, 19, 20, 21, 22, 23, 24, 25, 26, 27, 28, 29, 30, 31, 32, 33, 34, 35, 36, 37, 38, 39, 40, 41, 42, 43, 44, 45, 46, 47, 48, 49, 50, 51, 52] (by decide +kernel) (by decide +kernel)
set_option maxRecDepth 20000 in
theorem gX7_ring_X7_longest : GoodIn wsX7_ring (wsV RX7 181 RX7 yX7_longest wsX7_longest) := goodIn_app (goodIn_of _ (by decide +kernel)) ggX7_ring_X7_longest
theorem dX7_ring_0 : decode cX7_ring 0 = .ok (.aload_n 0, 1) := by decide +kernel
theorem dX7_ring_1 : decode cX7_ring 1 = .ok (.iconst 0, 1) := by decide +kernel
theorem dX7_ring_2 : decode cX7_ring 2 = .ok (.putfield 79, 3) := by decide +kernel
theorem dX7_ring_5 : decode cX7_ring 5 = .ok (.iload_n 1, 1) := by decide +kernel
theorem dX7_ring_6 : decode cX7_ring 6 = .ok (.istore_n 2, 1) := by decide +kernel
theorem dX7_ring_7 : decode cX7_ring 7 = .ok (.iconst 0, 1) := by decide +kernel
theorem dX7_ring_8 : decode cX7_ring 8 = .ok (.istore_n 3, 1) := by decide +kernel
theorem dX7_ring_9 : decode cX7_ring 9 = .ok (.iload_n 3, 1) := by decide +kernel
theorem dX7_ring_10 : decode cX7_ring 10 = .ok (.aload_n 0, 1) := by decide +kernel
theorem dX7_ring_11 : decode cX7_ring 11 = .ok (.getfield 82, 3) := by decide +kernel
theorem dX7_ring_14 : decode cX7_ring 14 = .ok (.if_icmp .ge 34, 3) := by decide +kernel
theorem dX7_ring_17 : decode cX7_ring 17 = .ok (.iload_n 1, 1) := by decide +kernel
theorem dX7_ring_18 : decode cX7_ring 18 = .ok (.ifCond .lt 30, 3) := by decide +kernel
theorem dX7_ring_21 : decode cX7_ring 21 = .ok (.aload_n 0, 1) := by decide +kernel
theorem dX7_ring_22 : decode cX7_ring 22 = .ok (.iload_n 3, 1) := by decide +kernel
theorem dX7_ring_23 : decode cX7_ring 23 = .ok (.invokevirtual 181, 3) := by decide +kernel
theorem dX7_ring_26 : decode cX7_ring 26 = .ok (.iconst (-1), 1) := by decide +kernel
theorem dX7_ring_27 : decode cX7_ring 27 = .ok (.if_icmp .eq 6, 3) := by decide +kernel
theorem dX7_ring_30 : decode cX7_ring 30 = .ok (.goto 12, 3) := by decide +kernel
theorem dX7_ring_33 : decode cX7_ring 33 = .ok (.iload_n 2, 1) := by decide +kernel
theorem dX7_ring_34 : decode cX7_ring 34 = .ok (.ifCond .ne 5, 3) := by decide +kernel
theorem dX7_ring_37 : decode cX7_ring 37 = .ok (.iload_n 3, 1) := by decide +kernel
theorem dX7_ring_38 : decode cX7_ring 38 = .ok (.ireturn, 1) := by decide +kernel
theorem dX7_ring_39 : decode cX7_ring 39 = .ok (.iinc 2 (-1), 3) := by decide +kernel
theorem dX7_ring_42 : decode cX7_ring 42 = .ok (.iinc 3 1, 3) := by decide +kernel
theorem dX7_ring_45 : decode cX7_ring 45 = .ok (.goto (-36), 3) := by decide +kernel
theorem dX7_ring_48 : decode cX7_ring 48 = .ok (.iconst (-1), 1) := by decide +kernel
theorem dX7_ring_49 : decode cX7_ring 49 = .ok (.ireturn, 1) := by decide +kernel
set_option maxRecDepth 20000 in
theorem ggX7_answered_X7_longest : GoodIn wsX7_answered wsX7_longest := goodIn_r _ [8, 1, 2, 9, 10, 11, 12, 13, 14, 15, 7, 16, 3, 17, 18, 19, 20, 21, 22, 23, 24, 25, 26, 27, 28, 29, 30, 31, 32, 33, 34, 35, 36, 37, 38, 39, 40, 41, 42, 43, 44, 45, 46, 47, 48, 49, 50, 51, 52] (by decide +kernel) (by decide +kernel)
set_option maxRecDepth 20000 in
theorem gX7_answered_X7_longest : GoodIn wsX7_answered (wsV RX7 181 RX7 yX7_longest wsX7_longest) := goodIn_app (goodIn_of _ (by decide +kernel)) ggX7_answered_X7_longest
theorem dX7_answered_0 : decode cX7_answered 0 = .ok (.aload_n 0, 1) := by decide +kernel
theorem dX7_answered_1 : decode cX7_answered 1 = .ok (.iconst 0, 1) := by decide +kernel
theorem dX7_answered_2 : decode cX7_answered 2 = .ok (.putfield 79, 3) := by decide +kernel
theorem dX7_answered_5 : decode cX7_answered 5 = .ok (.aload_n 0, 1) := by decide +kernel
theorem dX7_answered_6 : decode cX7_answered 6 = .ok (.getfield 53, 3) := by decide +kernel
theorem dX7_answered_9 : decode cX7_answered 9 = .ok (.iconst 1, 1) := by decide +kernel
theorem dX7_answered_10 : decode cX7_answered 10 = .ok (.if_icmp .ne 7, 3) := by decide +kernel
theorem dX7_answered_13 : decode cX7_answered 13 = .ok (.iconst 1, 1) := by decide +kernel
theorem dX7_answered_14 : decode cX7_answered 14 = .ok (.goto 4, 3) := by decide +kernel
theorem dX7_answered_17 : decode cX7_answered 17 = .ok (.iconst 0, 1) := by decide +kernel
theorem dX7_answered_18 : decode cX7_answered 18 = .ok (.istore_n 1, 1) := by decide +kernel
theorem dX7_answered_19 : decode cX7_answered 19 = .ok (.iconst 0, 1) := by decide +kernel
theorem dX7_answered_20 : decode cX7_answered 20 = .ok (.istore_n 2, 1) := by decide +kernel
theorem dX7_answered_21 : decode cX7_answered 21 = .ok (.iload_n 2, 1) := by decide +kernel
theorem dX7_answered_22 : decode cX7_answered 22 = .ok (.aload_n 0, 1) := by decide +kernel
theorem dX7_answered_23 : decode cX7_answered 23 = .ok (.getfield 82, 3) := by decide +kernel
theorem dX7_answered_26 : decode cX7_answered 26 = .ok (.if_icmp .ge 27, 3) := by decide +kernel
theorem dX7_answered_29 : decode cX7_answered 29 = .ok (.iload_n 1, 1) := by decide +kernel
theorem dX7_answered_30 : decode cX7_answered 30 = .ok (.ifCond .eq 23, 3) := by decide +kernel
theorem dX7_answered_33 : decode cX7_answered 33 = .ok (.aload_n 0, 1) := by decide +kernel
theorem dX7_answered_34 : decode cX7_answered 34 = .ok (.iload_n 2, 1) := by decide +kernel
theorem dX7_answered_35 : decode cX7_answered 35 = .ok (.invokevirtual 181, 3) := by decide +kernel
theorem dX7_answered_38 : decode cX7_answered 38 = .ok (.ifCond .lt 7, 3) := by decide +kernel
theorem dX7_answered_41 : decode cX7_answered 41 = .ok (.iconst 1, 1) := by decide +kernel
theorem dX7_answered_42 : decode cX7_answered 42 = .ok (.goto 4, 3) := by decide +kernel
theorem dX7_answered_45 : decode cX7_answered 45 = .ok (.iconst 0, 1) := by decide +kernel
theorem dX7_answered_46 : decode cX7_answered 46 = .ok (.istore_n 1, 1) := by decide +kernel
theorem dX7_answered_47 : decode cX7_answered 47 = .ok (.iinc 2 1, 3) := by decide +kernel
theorem dX7_answered_50 : decode cX7_answered 50 = .ok (.goto (-29), 3) := by decide +kernel
theorem dX7_answered_53 : decode cX7_answered 53 = .ok (.iload_n 1, 1) := by decide +kernel
theorem dX7_answered_54 : decode cX7_answered 54 = .ok (.ireturn, 1) := by decide +kernel
set_option maxRecDepth 20000 in
theorem ggX7_same_X7_take : GoodIn wsX7_same wsX7_take := goodIn_r _ [9, 10, 11, 59, 60, 61, 62, 63, 64, 65, 66, 67, 68, 69, 70, 71, 72, 73, 74, 75, 76, 77, 78, 79, 80, 81, 82, 83, 84, 85, 86, 87, 88, 89] (by decide +kernel) (by decide +kernel)
set_option maxRecDepth 20000 in
theorem gX7_same_X7_take : GoodIn wsX7_same (wsV RX7 150 RX7 yX7_take wsX7_take) := goodIn_app (goodIn_of _ (by decide +kernel)) ggX7_same_X7_take
set_option maxRecDepth 20000 in
theorem ggX7_same_X7_find : GoodIn wsX7_same wsX7_find := goodIn_r _ [15, 16, 17, 10, 59, 60, 61, 62, 63, 64, 65, 66, 67, 68, 69, 70, 71, 72, 73, 74, 75, 76, 77, 78, 79, 80, 81, 82, 83, 84, 85, 86, 87, 88, 89] (by decide +kernel) (by decide +kernel)
set_option maxRecDepth 20000 in
theorem gX7_same_X7_find : GoodIn wsX7_same (wsV RX7 159 RX7 yX7_find wsX7_find) := goodIn_app (goodIn_of _ (by decide +kernel)) ggX7_same_X7_find
set_option maxRecDepth 20000 in
theorem ggX7_same_X7_eventOf : GoodIn wsX7_same wsX7_eventOf := goodIn_r _ [21, 22, 23, 24, 59, 60, 61, 62, 63, 64, 65, 66, 67, 68, 69, 70, 71, 72, 73, 74, 75, 76, 77, 78, 79, 80, 81, 82, 83, 84, 85, 86, 87, 88, 89] (by decide +kernel) (by decide +kernel)
set_option maxRecDepth 20000 in
theorem gX7_same_X7_eventOf : GoodIn wsX7_same (wsV RX7 153 RX7 yX7_eventOf wsX7_eventOf) := goodIn_app (goodIn_of _ (by decide +kernel)) ggX7_same_X7_eventOf
set_option maxRecDepth 20000 in
theorem ggX7_same_X7_go : GoodIn wsX7_same wsX7_go := goodIn_r _ [28, 29, 10, 30, 31, 32, 33, 34, 35, 36, 8, 37, 38, 39, 40, 41, 42, 43, 44, 45, 46, 47, 48, 49, 50, 51, 52, 53, 54, 55, 56, 57, 58, 59, 60, 61, 62, 63, 64, 65, 66, 67, 68, 69, 70, 71, 72, 73, 74, 75, 76, 77, 78, 79, 80, 81, 82, 83, 84, 85, 86, 87, 88, 89] (by decide +kernel) (by decide +kernel)
set_option maxRecDepth 20000 in
theorem gX7_same_X7_go : GoodIn wsX7_same (wsV RX7 156 RX7 yX7_go wsX7_go) := goodIn_app (goodIn_of _ (by decide +kernel)) ggX7_same_X7_go
theorem dX7_same_0 : decode cX7_same 0 = .ok (.aload_n 0, 1) := by decide +kernel
theorem dX7_same_1 : decode cX7_same 1 = .ok (.iconst 0, 1) := by decide +kernel
theorem dX7_same_2 : decode cX7_same 2 = .ok (.putfield 79, 3) := by decide +kernel
theorem dX7_same_5 : decode cX7_same 5 = .ok (.aload_n 0, 1) := by decide +kernel
theorem dX7_same_6 : decode cX7_same 6 = .ok (.getfield 85, 3) := by decide +kernel
theorem dX7_same_9 : decode cX7_same 9 = .ok (.ifCond .eq 21, 3) := by decide +kernel
theorem dX7_same_12 : decode cX7_same 12 = .ok (.aload_n 0, 1) := by decide +kernel
theorem dX7_same_13 : decode cX7_same 13 = .ok (.getfield 53, 3) := by decide +kernel
theorem dX7_same_16 : decode cX7_same 16 = .ok (.iconst (-1), 1) := by decide +kernel
theorem dX7_same_17 : decode cX7_same 17 = .ok (.if_icmp .eq 13, 3) := by decide +kernel
theorem dX7_same_20 : decode cX7_same 20 = .ok (.iload_n 1, 1) := by decide +kernel
theorem dX7_same_21 : decode cX7_same 21 = .ok (.ifCond .lt 9, 3) := by decide +kernel
theorem dX7_same_24 : decode cX7_same 24 = .ok (.iload_n 1, 1) := by decide +kernel
theorem dX7_same_25 : decode cX7_same 25 = .ok (.bipush 100, 2) := by decide +kernel
theorem dX7_same_27 : decode cX7_same 27 = .ok (.if_icmp .le 5, 3) := by decide +kernel
theorem dX7_same_30 : decode cX7_same 30 = .ok (.iconst 0, 1) := by decide +kernel
theorem dX7_same_31 : decode cX7_same 31 = .ok (.ireturn, 1) := by decide +kernel
theorem dX7_same_32 : decode cX7_same 32 = .ok (.aload_n 0, 1) := by decide +kernel
theorem dX7_same_33 : decode cX7_same 33 = .ok (.invokevirtual 150, 3) := by decide +kernel
theorem dX7_same_36 : decode cX7_same 36 = .ok (.aload_n 0, 1) := by decide +kernel
theorem dX7_same_37 : decode cX7_same 37 = .ok (.invokevirtual 159, 3) := by decide +kernel
theorem dX7_same_40 : decode cX7_same 40 = .ok (.ifCond .lt 7, 3) := by decide +kernel
theorem dX7_same_43 : decode cX7_same 43 = .ok (.iconst 1, 1) := by decide +kernel
theorem dX7_same_44 : decode cX7_same 44 = .ok (.goto 4, 3) := by decide +kernel
theorem dX7_same_47 : decode cX7_same 47 = .ok (.iconst 0, 1) := by decide +kernel
theorem dX7_same_48 : decode cX7_same 48 = .ok (.istore_n 2, 1) := by decide +kernel
theorem dX7_same_49 : decode cX7_same 49 = .ok (.iconst 1, 1) := by decide +kernel
theorem dX7_same_50 : decode cX7_same 50 = .ok (.istore_n 3, 1) := by decide +kernel
theorem dX7_same_51 : decode cX7_same 51 = .ok (.iload_n 3, 1) := by decide +kernel
theorem dX7_same_52 : decode cX7_same 52 = .ok (.iload_n 1, 1) := by decide +kernel
theorem dX7_same_53 : decode cX7_same 53 = .ok (.if_icmp .gt 43, 3) := by decide +kernel
theorem dX7_same_56 : decode cX7_same 56 = .ok (.iload_n 2, 1) := by decide +kernel
theorem dX7_same_57 : decode cX7_same 57 = .ok (.ifCond .eq 39, 3) := by decide +kernel
theorem dX7_same_60 : decode cX7_same 60 = .ok (.aload_n 0, 1) := by decide +kernel
theorem dX7_same_61 : decode cX7_same 61 = .ok (.aload_n 0, 1) := by decide +kernel
theorem dX7_same_62 : decode cX7_same 62 = .ok (.aload_n 0, 1) := by decide +kernel
theorem dX7_same_63 : decode cX7_same 63 = .ok (.getfield 97, 3) := by decide +kernel
theorem dX7_same_66 : decode cX7_same 66 = .ok (.iload_n 3, 1) := by decide +kernel
theorem dX7_same_67 : decode cX7_same 67 = .ok (.iadd, 1) := by decide +kernel
theorem dX7_same_68 : decode cX7_same 68 = .ok (.invokevirtual 153, 3) := by decide +kernel
theorem dX7_same_71 : decode cX7_same 71 = .ok (.invokevirtual 156, 3) := by decide +kernel
theorem dX7_same_74 : decode cX7_same 74 = .ok (.ifCond .ne 14, 3) := by decide +kernel
theorem dX7_same_77 : decode cX7_same 77 = .ok (.aload_n 0, 1) := by decide +kernel
theorem dX7_same_78 : decode cX7_same 78 = .ok (.invokevirtual 159, 3) := by decide +kernel
theorem dX7_same_81 : decode cX7_same 81 = .ok (.ifCond .lt 7, 3) := by decide +kernel
theorem dX7_same_84 : decode cX7_same 84 = .ok (.iconst 1, 1) := by decide +kernel
theorem dX7_same_85 : decode cX7_same 85 = .ok (.goto 4, 3) := by decide +kernel
theorem dX7_same_88 : decode cX7_same 88 = .ok (.iconst 0, 1) := by decide +kernel
theorem dX7_same_89 : decode cX7_same 89 = .ok (.istore_n 2, 1) := by decide +kernel
theorem dX7_same_90 : decode cX7_same 90 = .ok (.iinc 3 1, 3) := by decide +kernel
theorem dX7_same_93 : decode cX7_same 93 = .ok (.goto (-42), 3) := by decide +kernel
theorem dX7_same_96 : decode cX7_same 96 = .ok (.iload_n 2, 1) := by decide +kernel
theorem dX7_same_97 : decode cX7_same 97 = .ok (.ireturn, 1) := by decide +kernel
theorem dX7_from_0 : decode cX7_from 0 = .ok (.aload_n 0, 1) := by decide +kernel
theorem dX7_from_1 : decode cX7_from 1 = .ok (.iconst 0, 1) := by decide +kernel
theorem dX7_from_2 : decode cX7_from 2 = .ok (.putfield 79, 3) := by decide +kernel
theorem dX7_from_5 : decode cX7_from 5 = .ok (.lload_n 1, 1) := by decide +kernel
theorem dX7_from_6 : decode cX7_from 6 = .ok (.lconst 0, 1) := by decide +kernel
theorem dX7_from_7 : decode cX7_from 7 = .ok (.lcmp, 1) := by decide +kernel
theorem dX7_from_8 : decode cX7_from 8 = .ok (.ifCond .lt 38, 3) := by decide +kernel
theorem dX7_from_11 : decode cX7_from 11 = .ok (.lload_n 1, 1) := by decide +kernel
theorem dX7_from_12 : decode cX7_from 12 = .ok (.ldc2_w 184, 3) := by decide +kernel
theorem dX7_from_15 : decode cX7_from 15 = .ok (.lcmp, 1) := by decide +kernel
theorem dX7_from_16 : decode cX7_from 16 = .ok (.ifCond .gt 30, 3) := by decide +kernel
theorem dX7_from_19 : decode cX7_from 19 = .ok (.lload_n 3, 1) := by decide +kernel
theorem dX7_from_20 : decode cX7_from 20 = .ok (.lconst 0, 1) := by decide +kernel
theorem dX7_from_21 : decode cX7_from 21 = .ok (.lcmp, 1) := by decide +kernel
theorem dX7_from_22 : decode cX7_from 22 = .ok (.ifCond .lt 24, 3) := by decide +kernel
theorem dX7_from_25 : decode cX7_from 25 = .ok (.lload_n 3, 1) := by decide +kernel
theorem dX7_from_26 : decode cX7_from 26 = .ok (.ldc2_w 184, 3) := by decide +kernel
theorem dX7_from_29 : decode cX7_from 29 = .ok (.lcmp, 1) := by decide +kernel
theorem dX7_from_30 : decode cX7_from 30 = .ok (.ifCond .gt 16, 3) := by decide +kernel
theorem dX7_from_33 : decode cX7_from 33 = .ok (.iload 5, 2) := by decide +kernel
theorem dX7_from_35 : decode cX7_from 35 = .ok (.iconst 1, 1) := by decide +kernel
theorem dX7_from_36 : decode cX7_from 36 = .ok (.if_icmp .lt 10, 3) := by decide +kernel
theorem dX7_from_39 : decode cX7_from 39 = .ok (.iload 5, 2) := by decide +kernel
theorem dX7_from_41 : decode cX7_from 41 = .ok (.bipush 50, 2) := by decide +kernel
theorem dX7_from_43 : decode cX7_from 43 = .ok (.if_icmp .le 5, 3) := by decide +kernel
theorem dX7_from_46 : decode cX7_from 46 = .ok (.iconst (-1), 1) := by decide +kernel
theorem dX7_from_47 : decode cX7_from 47 = .ok (.ireturn, 1) := by decide +kernel
theorem dX7_from_48 : decode cX7_from 48 = .ok (.lload_n 3, 1) := by decide +kernel
theorem dX7_from_49 : decode cX7_from 49 = .ok (.iload 5, 2) := by decide +kernel
theorem dX7_from_51 : decode cX7_from 51 = .ok (.i2l, 1) := by decide +kernel
theorem dX7_from_52 : decode cX7_from 52 = .ok (.ladd, 1) := by decide +kernel
theorem dX7_from_53 : decode cX7_from 53 = .ok (.lconst 1, 1) := by decide +kernel
theorem dX7_from_54 : decode cX7_from 54 = .ok (.lsub, 1) := by decide +kernel
theorem dX7_from_55 : decode cX7_from 55 = .ok (.iload 5, 2) := by decide +kernel
theorem dX7_from_57 : decode cX7_from 57 = .ok (.i2l, 1) := by decide +kernel
theorem dX7_from_58 : decode cX7_from 58 = .ok (.ldiv, 1) := by decide +kernel
theorem dX7_from_59 : decode cX7_from 59 = .ok (.lload_n 1, 1) := by decide +kernel
theorem dX7_from_60 : decode cX7_from 60 = .ok (.iload 5, 2) := by decide +kernel
theorem dX7_from_62 : decode cX7_from 62 = .ok (.i2l, 1) := by decide +kernel
theorem dX7_from_63 : decode cX7_from 63 = .ok (.ldiv, 1) := by decide +kernel
theorem dX7_from_64 : decode cX7_from 64 = .ok (.lsub, 1) := by decide +kernel
theorem dX7_from_65 : decode cX7_from 65 = .ok (.l2i, 1) := by decide +kernel
theorem dX7_from_66 : decode cX7_from 66 = .ok (.istore 6, 2) := by decide +kernel
theorem dX7_from_68 : decode cX7_from 68 = .ok (.iload 6, 2) := by decide +kernel
theorem dX7_from_70 : decode cX7_from 70 = .ok (.ifCond .ge 7, 3) := by decide +kernel
theorem dX7_from_73 : decode cX7_from 73 = .ok (.iconst 0, 1) := by decide +kernel
theorem dX7_from_74 : decode cX7_from 74 = .ok (.goto 5, 3) := by decide +kernel
theorem dX7_from_77 : decode cX7_from 77 = .ok (.iload 6, 2) := by decide +kernel
theorem dX7_from_79 : decode cX7_from 79 = .ok (.ireturn, 1) := by decide +kernel
