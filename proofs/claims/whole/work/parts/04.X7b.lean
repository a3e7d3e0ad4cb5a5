theorem dX7_go_200 : decode cX7_go 200 = .ok (.iastore, 1) := by decide +kernel
theorem dX7_go_201 : decode cX7_go 201 = .ok (.aload_n 0, 1) := by decide +kernel
theorem dX7_go_202 : decode cX7_go 202 = .ok (.getfield 47, 3) := by decide +kernel
theorem dX7_go_205 : decode cX7_go 205 = .ok (.iconst 3, 1) := by decide +kernel
theorem dX7_go_206 : decode cX7_go 206 = .ok (.iaload, 1) := by decide +kernel
theorem dX7_go_207 : decode cX7_go 207 = .ok (.ifCond .ne 137, 3) := by decide +kernel
theorem dX7_go_210 : decode cX7_go 210 = .ok (.aload_n 0, 1) := by decide +kernel
theorem dX7_go_211 : decode cX7_go 211 = .ok (.invokevirtual 133, 3) := by decide +kernel
theorem dX7_go_214 : decode cX7_go 214 = .ok (.goto 130, 3) := by decide +kernel
theorem dX7_go_217 : decode cX7_go 217 = .ok (.iconst 5, 1) := by decide +kernel
theorem dX7_go_218 : decode cX7_go 218 = .ok (.aload_n 0, 1) := by decide +kernel
theorem dX7_go_219 : decode cX7_go 219 = .ok (.getfield 47, 3) := by decide +kernel
theorem dX7_go_222 : decode cX7_go 222 = .ok (.iconst 0, 1) := by decide +kernel
theorem dX7_go_223 : decode cX7_go 223 = .ok (.iaload, 1) := by decide +kernel
theorem dX7_go_224 : decode cX7_go 224 = .ok (.imul, 1) := by decide +kernel
theorem dX7_go_225 : decode cX7_go 225 = .ok (.aload_n 0, 1) := by decide +kernel
theorem dX7_go_226 : decode cX7_go 226 = .ok (.getfield 47, 3) := by decide +kernel
theorem dX7_go_229 : decode cX7_go 229 = .ok (.iconst 1, 1) := by decide +kernel
theorem dX7_go_230 : decode cX7_go 230 = .ok (.iaload, 1) := by decide +kernel
theorem dX7_go_231 : decode cX7_go 231 = .ok (.iadd, 1) := by decide +kernel
theorem dX7_go_232 : decode cX7_go 232 = .ok (.istore_n 3, 1) := by decide +kernel
theorem dX7_go_233 : decode cX7_go 233 = .ok (.aload_n 0, 1) := by decide +kernel
theorem dX7_go_234 : decode cX7_go 234 = .ok (.getfield 47, 3) := by decide +kernel
theorem dX7_go_237 : decode cX7_go 237 = .ok (.iconst 2, 1) := by decide +kernel
theorem dX7_go_238 : decode cX7_go 238 = .ok (.aload_n 0, 1) := by decide +kernel
theorem dX7_go_239 : decode cX7_go 239 = .ok (.getfield 47, 3) := by decide +kernel
theorem dX7_go_242 : decode cX7_go 242 = .ok (.iconst 2, 1) := by decide +kernel
theorem dX7_go_243 : decode cX7_go 243 = .ok (.iaload, 1) := by decide +kernel
theorem dX7_go_244 : decode cX7_go 244 = .ok (.bipush 31, 2) := by decide +kernel
theorem dX7_go_246 : decode cX7_go 246 = .ok (.if_icmp .ge 14, 3) := by decide +kernel
theorem dX7_go_249 : decode cX7_go 249 = .ok (.aload_n 0, 1) := by decide +kernel
theorem dX7_go_250 : decode cX7_go 250 = .ok (.getfield 47, 3) := by decide +kernel
theorem dX7_go_253 : decode cX7_go 253 = .ok (.iconst 2, 1) := by decide +kernel
theorem dX7_go_254 : decode cX7_go 254 = .ok (.iaload, 1) := by decide +kernel
theorem dX7_go_255 : decode cX7_go 255 = .ok (.iconst 1, 1) := by decide +kernel
theorem dX7_go_256 : decode cX7_go 256 = .ok (.iadd, 1) := by decide +kernel
theorem dX7_go_257 : decode cX7_go 257 = .ok (.goto 5, 3) := by decide +kernel
theorem dX7_go_260 : decode cX7_go 260 = .ok (.bipush 31, 2) := by decide +kernel
theorem dX7_go_262 : decode cX7_go 262 = .ok (.iastore, 1) := by decide +kernel
theorem dX7_go_263 : decode cX7_go 263 = .ok (.aload_n 0, 1) := by decide +kernel
theorem dX7_go_264 : decode cX7_go 264 = .ok (.getfield 47, 3) := by decide +kernel
theorem dX7_go_267 : decode cX7_go 267 = .ok (.bipush 7, 2) := by decide +kernel
theorem dX7_go_269 : decode cX7_go 269 = .ok (.iaload, 1) := by decide +kernel
theorem dX7_go_270 : decode cX7_go 270 = .ok (.aload_n 0, 1) := by decide +kernel
theorem dX7_go_271 : decode cX7_go 271 = .ok (.getfield 26, 3) := by decide +kernel
theorem dX7_go_274 : decode cX7_go 274 = .ok (.iload_n 3, 1) := by decide +kernel
theorem dX7_go_275 : decode cX7_go 275 = .ok (.iaload, 1) := by decide +kernel
theorem dX7_go_276 : decode cX7_go 276 = .ok (.iconst (-1), 1) := by decide +kernel
theorem dX7_go_277 : decode cX7_go 277 = .ok (.ixor, 1) := by decide +kernel
theorem dX7_go_278 : decode cX7_go 278 = .ok (.iand, 1) := by decide +kernel
theorem dX7_go_279 : decode cX7_go 279 = .ok (.ifCond .ne 19, 3) := by decide +kernel
theorem dX7_go_282 : decode cX7_go 282 = .ok (.aload_n 0, 1) := by decide +kernel
theorem dX7_go_283 : decode cX7_go 283 = .ok (.getfield 47, 3) := by decide +kernel
theorem dX7_go_286 : decode cX7_go 286 = .ok (.bipush 6, 2) := by decide +kernel
theorem dX7_go_288 : decode cX7_go 288 = .ok (.iaload, 1) := by decide +kernel
theorem dX7_go_289 : decode cX7_go 289 = .ok (.aload_n 0, 1) := by decide +kernel
theorem dX7_go_290 : decode cX7_go 290 = .ok (.getfield 47, 3) := by decide +kernel
theorem dX7_go_293 : decode cX7_go 293 = .ok (.iconst 0, 1) := by decide +kernel
theorem dX7_go_294 : decode cX7_go 294 = .ok (.iaload, 1) := by decide +kernel
theorem dX7_go_295 : decode cX7_go 295 = .ok (.if_icmp .eq 7, 3) := by decide +kernel
theorem dX7_go_298 : decode cX7_go 298 = .ok (.iconst 1, 1) := by decide +kernel
theorem dX7_go_299 : decode cX7_go 299 = .ok (.goto 4, 3) := by decide +kernel
theorem dX7_go_302 : decode cX7_go 302 = .ok (.iconst 0, 1) := by decide +kernel
theorem dX7_go_303 : decode cX7_go 303 = .ok (.istore 4, 2) := by decide +kernel
theorem dX7_go_305 : decode cX7_go 305 = .ok (.aload_n 0, 1) := by decide +kernel
theorem dX7_go_306 : decode cX7_go 306 = .ok (.getfield 47, 3) := by decide +kernel
theorem dX7_go_309 : decode cX7_go 309 = .ok (.iconst 2, 1) := by decide +kernel
theorem dX7_go_310 : decode cX7_go 310 = .ok (.iaload, 1) := by decide +kernel
theorem dX7_go_311 : decode cX7_go 311 = .ok (.aload_n 0, 1) := by decide +kernel
theorem dX7_go_312 : decode cX7_go 312 = .ok (.getfield 32, 3) := by decide +kernel
theorem dX7_go_315 : decode cX7_go 315 = .ok (.iload_n 3, 1) := by decide +kernel
theorem dX7_go_316 : decode cX7_go 316 = .ok (.iaload, 1) := by decide +kernel
theorem dX7_go_317 : decode cX7_go 317 = .ok (.if_icmp .ge 23, 3) := by decide +kernel
theorem dX7_go_320 : decode cX7_go 320 = .ok (.aload_n 0, 1) := by decide +kernel
theorem dX7_go_321 : decode cX7_go 321 = .ok (.getfield 47, 3) := by decide +kernel
theorem dX7_go_324 : decode cX7_go 324 = .ok (.iconst 2, 1) := by decide +kernel
theorem dX7_go_325 : decode cX7_go 325 = .ok (.iaload, 1) := by decide +kernel
theorem dX7_go_326 : decode cX7_go 326 = .ok (.aload_n 0, 1) := by decide +kernel
theorem dX7_go_327 : decode cX7_go 327 = .ok (.getfield 29, 3) := by decide +kernel
theorem dX7_go_330 : decode cX7_go 330 = .ok (.iload_n 3, 1) := by decide +kernel
theorem dX7_go_331 : decode cX7_go 331 = .ok (.iaload, 1) := by decide +kernel
theorem dX7_go_332 : decode cX7_go 332 = .ok (.if_icmp .lt 12, 3) := by decide +kernel
theorem dX7_go_335 : decode cX7_go 335 = .ok (.iload 4, 2) := by decide +kernel
theorem dX7_go_337 : decode cX7_go 337 = .ok (.ifCond .eq 7, 3) := by decide +kernel
theorem dX7_go_340 : decode cX7_go 340 = .ok (.aload_n 0, 1) := by decide +kernel
theorem dX7_go_341 : decode cX7_go 341 = .ok (.invokevirtual 140, 3) := by decide +kernel
theorem dX7_go_344 : decode cX7_go 344 = .ok (.aload_n 0, 1) := by decide +kernel
theorem dX7_go_345 : decode cX7_go 345 = .ok (.iload_n 2, 1) := by decide +kernel
theorem dX7_go_346 : decode cX7_go 346 = .ok (.aload_n 0, 1) := by decide +kernel
theorem dX7_go_347 : decode cX7_go 347 = .ok (.invokevirtual 136, 3) := by decide +kernel
theorem dX7_go_350 : decode cX7_go 350 = .ok (.invokevirtual 143, 3) := by decide +kernel
theorem dX7_go_353 : decode cX7_go 353 = .ok (.ireturn, 1) := by decide +kernel
theorem dX7_fault_0 : decode cX7_fault 0 = .ok (.iconst 0, 1) := by decide +kernel
theorem dX7_fault_1 : decode cX7_fault 1 = .ok (.istore_n 3, 1) := by decide +kernel
theorem dX7_fault_2 : decode cX7_fault 2 = .ok (.iload_n 3, 1) := by decide +kernel
theorem dX7_fault_3 : decode cX7_fault 3 = .ok (.aload_n 0, 1) := by decide +kernel
theorem dX7_fault_4 : decode cX7_fault 4 = .ok (.getfield 82, 3) := by decide +kernel
theorem dX7_fault_7 : decode cX7_fault 7 = .ok (.if_icmp .ge 58, 3) := by decide +kernel
theorem dX7_fault_10 : decode cX7_fault 10 = .ok (.iconst 0, 1) := by decide +kernel
theorem dX7_fault_11 : decode cX7_fault 11 = .ok (.istore 4, 2) := by decide +kernel
theorem dX7_fault_13 : decode cX7_fault 13 = .ok (.iload 4, 2) := by decide +kernel
theorem dX7_fault_15 : decode cX7_fault 15 = .ok (.aload_n 0, 1) := by decide +kernel
theorem dX7_fault_16 : decode cX7_fault 16 = .ok (.getfield 82, 3) := by decide +kernel
theorem dX7_fault_19 : decode cX7_fault 19 = .ok (.if_icmp .ge 40, 3) := by decide +kernel
theorem dX7_fault_22 : decode cX7_fault 22 = .ok (.aload_n 0, 1) := by decide +kernel
theorem dX7_fault_23 : decode cX7_fault 23 = .ok (.getfield 7, 3) := by decide +kernel
theorem dX7_fault_26 : decode cX7_fault 26 = .ok (.bipush 6, 2) := by decide +kernel
theorem dX7_fault_28 : decode cX7_fault 28 = .ok (.iload_n 3, 1) := by decide +kernel
theorem dX7_fault_29 : decode cX7_fault 29 = .ok (.imul, 1) := by decide +kernel
theorem dX7_fault_30 : decode cX7_fault 30 = .ok (.iload 4, 2) := by decide +kernel
theorem dX7_fault_32 : decode cX7_fault 32 = .ok (.iadd, 1) := by decide +kernel
theorem dX7_fault_33 : decode cX7_fault 33 = .ok (.baload, 1) := by decide +kernel
theorem dX7_fault_34 : decode cX7_fault 34 = .ok (.ifCond .eq 19, 3) := by decide +kernel
theorem dX7_fault_37 : decode cX7_fault 37 = .ok (.iload_n 2, 1) := by decide +kernel
theorem dX7_fault_38 : decode cX7_fault 38 = .ok (.iload_n 3, 1) := by decide +kernel
theorem dX7_fault_39 : decode cX7_fault 39 = .ok (.ishr, 1) := by decide +kernel
theorem dX7_fault_40 : decode cX7_fault 40 = .ok (.iload_n 2, 1) := by decide +kernel
theorem dX7_fault_41 : decode cX7_fault 41 = .ok (.iload 4, 2) := by decide +kernel
theorem dX7_fault_43 : decode cX7_fault 43 = .ok (.ishr, 1) := by decide +kernel
theorem dX7_fault_44 : decode cX7_fault 44 = .ok (.iand, 1) := by decide +kernel
theorem dX7_fault_45 : decode cX7_fault 45 = .ok (.iconst 1, 1) := by decide +kernel
theorem dX7_fault_46 : decode cX7_fault 46 = .ok (.iand, 1) := by decide +kernel
theorem dX7_fault_47 : decode cX7_fault 47 = .ok (.iconst 1, 1) := by decide +kernel
theorem dX7_fault_48 : decode cX7_fault 48 = .ok (.if_icmp .ne 5, 3) := by decide +kernel
theorem dX7_fault_51 : decode cX7_fault 51 = .ok (.iconst 1, 1) := by decide +kernel
theorem dX7_fault_52 : decode cX7_fault 52 = .ok (.ireturn, 1) := by decide +kernel
theorem dX7_fault_53 : decode cX7_fault 53 = .ok (.iinc 4 1, 3) := by decide +kernel
theorem dX7_fault_56 : decode cX7_fault 56 = .ok (.goto (-43), 3) := by decide +kernel
theorem dX7_fault_59 : decode cX7_fault 59 = .ok (.iinc 3 1, 3) := by decide +kernel
theorem dX7_fault_62 : decode cX7_fault 62 = .ok (.goto (-60), 3) := by decide +kernel
theorem dX7_fault_65 : decode cX7_fault 65 = .ok (.iconst 0, 1) := by decide +kernel
theorem dX7_fault_66 : decode cX7_fault 66 = .ok (.istore_n 3, 1) := by decide +kernel
theorem dX7_fault_67 : decode cX7_fault 67 = .ok (.iload_n 3, 1) := by decide +kernel
theorem dX7_fault_68 : decode cX7_fault 68 = .ok (.aload_n 0, 1) := by decide +kernel
theorem dX7_fault_69 : decode cX7_fault 69 = .ok (.getfield 82, 3) := by decide +kernel
theorem dX7_fault_72 : decode cX7_fault 72 = .ok (.if_icmp .ge 98, 3) := by decide +kernel
theorem dX7_fault_75 : decode cX7_fault 75 = .ok (.iload_n 2, 1) := by decide +kernel
theorem dX7_fault_76 : decode cX7_fault 76 = .ok (.iload_n 3, 1) := by decide +kernel
theorem dX7_fault_77 : decode cX7_fault 77 = .ok (.ishr, 1) := by decide +kernel
theorem dX7_fault_78 : decode cX7_fault 78 = .ok (.iconst 1, 1) := by decide +kernel
theorem dX7_fault_79 : decode cX7_fault 79 = .ok (.iand, 1) := by decide +kernel
theorem dX7_fault_80 : decode cX7_fault 80 = .ok (.ifCond .eq 84, 3) := by decide +kernel
theorem dX7_fault_83 : decode cX7_fault 83 = .ok (.iload_n 1, 1) := by decide +kernel
theorem dX7_fault_84 : decode cX7_fault 84 = .ok (.iload_n 3, 1) := by decide +kernel
theorem dX7_fault_85 : decode cX7_fault 85 = .ok (.ishr, 1) := by decide +kernel
theorem dX7_fault_86 : decode cX7_fault 86 = .ok (.iconst 1, 1) := by decide +kernel
theorem dX7_fault_87 : decode cX7_fault 87 = .ok (.iand, 1) := by decide +kernel
theorem dX7_fault_88 : decode cX7_fault 88 = .ok (.iconst 1, 1) := by decide +kernel
theorem dX7_fault_89 : decode cX7_fault 89 = .ok (.if_icmp .ne 6, 3) := by decide +kernel
theorem dX7_fault_92 : decode cX7_fault 92 = .ok (.goto 72, 3) := by decide +kernel
theorem dX7_fault_95 : decode cX7_fault 95 = .ok (.iconst 0, 1) := by decide +kernel
theorem dX7_fault_96 : decode cX7_fault 96 = .ok (.istore 4, 2) := by decide +kernel
theorem dX7_fault_98 : decode cX7_fault 98 = .ok (.iload 4, 2) := by decide +kernel
theorem dX7_fault_100 : decode cX7_fault 100 = .ok (.aload_n 0, 1) := by decide +kernel
theorem dX7_fault_101 : decode cX7_fault 101 = .ok (.getfield 82, 3) := by decide +kernel
theorem dX7_fault_104 : decode cX7_fault 104 = .ok (.if_icmp .ge 60, 3) := by decide +kernel
theorem dX7_fault_107 : decode cX7_fault 107 = .ok (.aload_n 0, 1) := by decide +kernel
theorem dX7_fault_108 : decode cX7_fault 108 = .ok (.getfield 7, 3) := by decide +kernel
theorem dX7_fault_111 : decode cX7_fault 111 = .ok (.bipush 6, 2) := by decide +kernel
theorem dX7_fault_113 : decode cX7_fault 113 = .ok (.iload 4, 2) := by decide +kernel
theorem dX7_fault_115 : decode cX7_fault 115 = .ok (.imul, 1) := by decide +kernel
theorem dX7_fault_116 : decode cX7_fault 116 = .ok (.iload_n 3, 1) := by decide +kernel
theorem dX7_fault_117 : decode cX7_fault 117 = .ok (.iadd, 1) := by decide +kernel
theorem dX7_fault_118 : decode cX7_fault 118 = .ok (.baload, 1) := by decide +kernel
theorem dX7_fault_119 : decode cX7_fault 119 = .ok (.ifCond .eq 39, 3) := by decide +kernel
theorem dX7_fault_122 : decode cX7_fault 122 = .ok (.iload_n 2, 1) := by decide +kernel
theorem dX7_fault_123 : decode cX7_fault 123 = .ok (.iload 4, 2) := by decide +kernel
theorem dX7_fault_125 : decode cX7_fault 125 = .ok (.ishr, 1) := by decide +kernel
theorem dX7_fault_126 : decode cX7_fault 126 = .ok (.iconst 1, 1) := by decide +kernel
theorem dX7_fault_127 : decode cX7_fault 127 = .ok (.iand, 1) := by decide +kernel
theorem dX7_fault_128 : decode cX7_fault 128 = .ok (.ifCond .ne 30, 3) := by decide +kernel
theorem dX7_fault_131 : decode cX7_fault 131 = .ok (.aload_n 0, 1) := by decide +kernel
theorem dX7_fault_132 : decode cX7_fault 132 = .ok (.getfield 47, 3) := by decide +kernel
theorem dX7_fault_135 : decode cX7_fault 135 = .ok (.bipush 8, 2) := by decide +kernel
theorem dX7_fault_137 : decode cX7_fault 137 = .ok (.iload 4, 2) := by decide +kernel
theorem dX7_fault_139 : decode cX7_fault 139 = .ok (.iadd, 1) := by decide +kernel
theorem dX7_fault_140 : decode cX7_fault 140 = .ok (.iaload, 1) := by decide +kernel
theorem dX7_fault_141 : decode cX7_fault 141 = .ok (.aload_n 0, 1) := by decide +kernel
theorem dX7_fault_142 : decode cX7_fault 142 = .ok (.getfield 13, 3) := by decide +kernel
theorem dX7_fault_145 : decode cX7_fault 145 = .ok (.bipush 6, 2) := by decide +kernel
theorem dX7_fault_147 : decode cX7_fault 147 = .ok (.iload 4, 2) := by decide +kernel
theorem dX7_fault_149 : decode cX7_fault 149 = .ok (.imul, 1) := by decide +kernel
theorem dX7_fault_150 : decode cX7_fault 150 = .ok (.iload_n 3, 1) := by decide +kernel
theorem dX7_fault_151 : decode cX7_fault 151 = .ok (.iadd, 1) := by decide +kernel
theorem dX7_fault_152 : decode cX7_fault 152 = .ok (.iaload, 1) := by decide +kernel
theorem dX7_fault_153 : decode cX7_fault 153 = .ok (.if_icmp .ge 5, 3) := by decide +kernel
theorem dX7_fault_156 : decode cX7_fault 156 = .ok (.iconst 2, 1) := by decide +kernel
theorem dX7_fault_157 : decode cX7_fault 157 = .ok (.ireturn, 1) := by decide +kernel
theorem dX7_fault_158 : decode cX7_fault 158 = .ok (.iinc 4 1, 3) := by decide +kernel
theorem dX7_fault_161 : decode cX7_fault 161 = .ok (.goto (-63), 3) := by decide +kernel
theorem dX7_fault_164 : decode cX7_fault 164 = .ok (.iinc 3 1, 3) := by decide +kernel
theorem dX7_fault_167 : decode cX7_fault 167 = .ok (.goto (-100), 3) := by decide +kernel
theorem dX7_fault_170 : decode cX7_fault 170 = .ok (.iconst 0, 1) := by decide +kernel
theorem dX7_fault_171 : decode cX7_fault 171 = .ok (.istore_n 3, 1) := by decide +kernel
theorem dX7_fault_172 : decode cX7_fault 172 = .ok (.iload_n 3, 1) := by decide +kernel
theorem dX7_fault_173 : decode cX7_fault 173 = .ok (.aload_n 0, 1) := by decide +kernel
theorem dX7_fault_174 : decode cX7_fault 174 = .ok (.getfield 82, 3) := by decide +kernel
theorem dX7_fault_177 : decode cX7_fault 177 = .ok (.if_icmp .ge 46, 3) := by decide +kernel
theorem dX7_fault_180 : decode cX7_fault 180 = .ok (.iload_n 1, 1) := by decide +kernel
theorem dX7_fault_181 : decode cX7_fault 181 = .ok (.iload_n 3, 1) := by decide +kernel
theorem dX7_fault_182 : decode cX7_fault 182 = .ok (.ishr, 1) := by decide +kernel
theorem dX7_fault_183 : decode cX7_fault 183 = .ok (.iconst 1, 1) := by decide +kernel
theorem dX7_fault_184 : decode cX7_fault 184 = .ok (.iand, 1) := by decide +kernel
theorem dX7_fault_185 : decode cX7_fault 185 = .ok (.iconst 1, 1) := by decide +kernel
theorem dX7_fault_186 : decode cX7_fault 186 = .ok (.if_icmp .ne 31, 3) := by decide +kernel
theorem dX7_fault_189 : decode cX7_fault 189 = .ok (.iload_n 2, 1) := by decide +kernel
theorem dX7_fault_190 : decode cX7_fault 190 = .ok (.iload_n 3, 1) := by decide +kernel
theorem dX7_fault_191 : decode cX7_fault 191 = .ok (.ishr, 1) := by decide +kernel
theorem dX7_fault_192 : decode cX7_fault 192 = .ok (.iconst 1, 1) := by decide +kernel
theorem dX7_fault_193 : decode cX7_fault 193 = .ok (.iand, 1) := by decide +kernel
theorem dX7_fault_194 : decode cX7_fault 194 = .ok (.ifCond .ne 23, 3) := by decide +kernel
theorem dX7_fault_197 : decode cX7_fault 197 = .ok (.aload_n 0, 1) := by decide +kernel
theorem dX7_fault_198 : decode cX7_fault 198 = .ok (.getfield 50, 3) := by decide +kernel
theorem dX7_fault_201 : decode cX7_fault 201 = .ok (.bipush 8, 2) := by decide +kernel
theorem dX7_fault_203 : decode cX7_fault 203 = .ok (.iload_n 3, 1) := by decide +kernel
theorem dX7_fault_204 : decode cX7_fault 204 = .ok (.iadd, 1) := by decide +kernel
theorem dX7_fault_205 : decode cX7_fault 205 = .ok (.iaload, 1) := by decide +kernel
theorem dX7_fault_206 : decode cX7_fault 206 = .ok (.aload_n 0, 1) := by decide +kernel
theorem dX7_fault_207 : decode cX7_fault 207 = .ok (.getfield 17, 3) := by decide +kernel
theorem dX7_fault_210 : decode cX7_fault 210 = .ok (.iload_n 3, 1) := by decide +kernel
theorem dX7_fault_211 : decode cX7_fault 211 = .ok (.iaload, 1) := by decide +kernel
theorem dX7_fault_212 : decode cX7_fault 212 = .ok (.if_icmp .ge 5, 3) := by decide +kernel
theorem dX7_fault_215 : decode cX7_fault 215 = .ok (.iconst 3, 1) := by decide +kernel
theorem dX7_fault_216 : decode cX7_fault 216 = .ok (.ireturn, 1) := by decide +kernel
theorem dX7_fault_217 : decode cX7_fault 217 = .ok (.iinc 3 1, 3) := by decide +kernel
theorem dX7_fault_220 : decode cX7_fault 220 = .ok (.goto (-48), 3) := by decide +kernel
theorem dX7_fault_223 : decode cX7_fault 223 = .ok (.iconst 0, 1) := by decide +kernel
theorem dX7_fault_224 : decode cX7_fault 224 = .ok (.istore_n 3, 1) := by decide +kernel
theorem dX7_fault_225 : decode cX7_fault 225 = .ok (.iload_n 3, 1) := by decide +kernel
theorem dX7_fault_226 : decode cX7_fault 226 = .ok (.aload_n 0, 1) := by decide +kernel
theorem dX7_fault_227 : decode cX7_fault 227 = .ok (.getfield 82, 3) := by decide +kernel
theorem dX7_fault_230 : decode cX7_fault 230 = .ok (.if_icmp .ge 89, 3) := by decide +kernel
theorem dX7_fault_233 : decode cX7_fault 233 = .ok (.iload_n 2, 1) := by decide +kernel
theorem dX7_fault_234 : decode cX7_fault 234 = .ok (.iload_n 3, 1) := by decide +kernel
theorem dX7_fault_235 : decode cX7_fault 235 = .ok (.ishr, 1) := by decide +kernel
theorem dX7_fault_236 : decode cX7_fault 236 = .ok (.iconst 1, 1) := by decide +kernel
theorem dX7_fault_237 : decode cX7_fault 237 = .ok (.iand, 1) := by decide +kernel
theorem dX7_fault_238 : decode cX7_fault 238 = .ok (.ifCond .eq 75, 3) := by decide +kernel
theorem dX7_fault_241 : decode cX7_fault 241 = .ok (.aload_n 0, 1) := by decide +kernel
theorem dX7_fault_242 : decode cX7_fault 242 = .ok (.getfield 47, 3) := by decide +kernel
theorem dX7_fault_245 : decode cX7_fault 245 = .ok (.bipush 8, 2) := by decide +kernel
theorem dX7_fault_247 : decode cX7_fault 247 = .ok (.iload_n 3, 1) := by decide +kernel
theorem dX7_fault_248 : decode cX7_fault 248 = .ok (.iadd, 1) := by decide +kernel
theorem dX7_fault_249 : decode cX7_fault 249 = .ok (.iaload, 1) := by decide +kernel
theorem dX7_fault_250 : decode cX7_fault 250 = .ok (.aload_n 0, 1) := by decide +kernel
theorem dX7_fault_251 : decode cX7_fault 251 = .ok (.getfield 20, 3) := by decide +kernel
theorem dX7_fault_254 : decode cX7_fault 254 = .ok (.iload_n 3, 1) := by decide +kernel
theorem dX7_fault_255 : decode cX7_fault 255 = .ok (.iaload, 1) := by decide +kernel
theorem dX7_fault_256 : decode cX7_fault 256 = .ok (.if_icmp .gt 6, 3) := by decide +kernel
theorem dX7_fault_259 : decode cX7_fault 259 = .ok (.goto 54, 3) := by decide +kernel
theorem dX7_fault_262 : decode cX7_fault 262 = .ok (.iconst 0, 1) := by decide +kernel
theorem dX7_fault_263 : decode cX7_fault 263 = .ok (.istore 4, 2) := by decide +kernel
theorem dX7_fault_265 : decode cX7_fault 265 = .ok (.iload 4, 2) := by decide +kernel
theorem dX7_fault_267 : decode cX7_fault 267 = .ok (.aload_n 0, 1) := by decide +kernel
theorem dX7_fault_268 : decode cX7_fault 268 = .ok (.getfield 82, 3) := by decide +kernel
theorem dX7_fault_271 : decode cX7_fault 271 = .ok (.if_icmp .ge 42, 3) := by decide +kernel
theorem dX7_fault_274 : decode cX7_fault 274 = .ok (.aload_n 0, 1) := by decide +kernel
theorem dX7_fault_275 : decode cX7_fault 275 = .ok (.getfield 7, 3) := by decide +kernel
theorem dX7_fault_278 : decode cX7_fault 278 = .ok (.bipush 6, 2) := by decide +kernel
theorem dX7_fault_280 : decode cX7_fault 280 = .ok (.iload_n 3, 1) := by decide +kernel
theorem dX7_fault_281 : decode cX7_fault 281 = .ok (.imul, 1) := by decide +kernel
theorem dX7_fault_282 : decode cX7_fault 282 = .ok (.iload 4, 2) := by decide +kernel
theorem dX7_fault_284 : decode cX7_fault 284 = .ok (.iadd, 1) := by decide +kernel
theorem dX7_fault_285 : decode cX7_fault 285 = .ok (.baload, 1) := by decide +kernel
theorem dX7_fault_286 : decode cX7_fault 286 = .ok (.ifCond .eq 21, 3) := by decide +kernel
theorem dX7_fault_289 : decode cX7_fault 289 = .ok (.aload_n 0, 1) := by decide +kernel
theorem dX7_fault_290 : decode cX7_fault 290 = .ok (.getfield 47, 3) := by decide +kernel
theorem dX7_fault_293 : decode cX7_fault 293 = .ok (.bipush 7, 2) := by decide +kernel
theorem dX7_fault_295 : decode cX7_fault 295 = .ok (.iaload, 1) := by decide +kernel
theorem dX7_fault_296 : decode cX7_fault 296 = .ok (.iload 4, 2) := by decide +kernel
theorem dX7_fault_298 : decode cX7_fault 298 = .ok (.ishr, 1) := by decide +kernel
theorem dX7_fault_299 : decode cX7_fault 299 = .ok (.iconst 1, 1) := by decide +kernel
theorem dX7_fault_300 : decode cX7_fault 300 = .ok (.iand, 1) := by decide +kernel
theorem dX7_fault_301 : decode cX7_fault 301 = .ok (.iconst 1, 1) := by decide +kernel
theorem dX7_fault_302 : decode cX7_fault 302 = .ok (.if_icmp .ne 5, 3) := by decide +kernel
theorem dX7_fault_305 : decode cX7_fault 305 = .ok (.iconst 4, 1) := by decide +kernel
theorem dX7_fault_306 : decode cX7_fault 306 = .ok (.ireturn, 1) := by decide +kernel
theorem dX7_fault_307 : decode cX7_fault 307 = .ok (.iinc 4 1, 3) := by decide +kernel
theorem dX7_fault_310 : decode cX7_fault 310 = .ok (.goto (-45), 3) := by decide +kernel
theorem dX7_fault_313 : decode cX7_fault 313 = .ok (.iinc 3 1, 3) := by decide +kernel
theorem dX7_fault_316 : decode cX7_fault 316 = .ok (.goto (-91), 3) := by decide +kernel
theorem dX7_fault_319 : decode cX7_fault 319 = .ok (.iconst 0, 1) := by decide +kernel
theorem dX7_fault_320 : decode cX7_fault 320 = .ok (.ireturn, 1) := by decide +kernel
theorem dX7_tell_0 : decode cX7_tell 0 = .ok (.iload_n 1, 1) := by decide +kernel
theorem dX7_tell_1 : decode cX7_tell 1 = .ok (.aload_n 0, 1) := by decide +kernel
theorem dX7_tell_2 : decode cX7_tell 2 = .ok (.getfield 97, 3) := by decide +kernel
theorem dX7_tell_5 : decode cX7_tell 5 = .ok (.if_icmp .le 12, 3) := by decide +kernel
theorem dX7_tell_8 : decode cX7_tell 8 = .ok (.aload_n 0, 1) := by decide +kernel
theorem dX7_tell_9 : decode cX7_tell 9 = .ok (.getfield 94, 3) := by decide +kernel
theorem dX7_tell_12 : decode cX7_tell 12 = .ok (.bipush 60, 2) := by decide +kernel
theorem dX7_tell_14 : decode cX7_tell 14 = .ok (.if_icmp .ne 5, 3) := by decide +kernel
theorem dX7_tell_17 : decode cX7_tell 17 = .ok (.iconst 0, 1) := by decide +kernel
theorem dX7_tell_18 : decode cX7_tell 18 = .ok (.ireturn, 1) := by decide +kernel
theorem dX7_tell_19 : decode cX7_tell 19 = .ok (.iconst 0, 1) := by decide +kernel
theorem dX7_tell_20 : decode cX7_tell 20 = .ok (.istore_n 3, 1) := by decide +kernel
theorem dX7_tell_21 : decode cX7_tell 21 = .ok (.iload_n 3, 1) := by decide +kernel
theorem dX7_tell_22 : decode cX7_tell 22 = .ok (.aload_n 0, 1) := by decide +kernel
theorem dX7_tell_23 : decode cX7_tell 23 = .ok (.getfield 94, 3) := by decide +kernel
theorem dX7_tell_26 : decode cX7_tell 26 = .ok (.if_icmp .ge 21, 3) := by decide +kernel
theorem dX7_tell_29 : decode cX7_tell 29 = .ok (.aload_n 0, 1) := by decide +kernel
theorem dX7_tell_30 : decode cX7_tell 30 = .ok (.getfield 38, 3) := by decide +kernel
theorem dX7_tell_33 : decode cX7_tell 33 = .ok (.iload_n 3, 1) := by decide +kernel
theorem dX7_tell_34 : decode cX7_tell 34 = .ok (.iaload, 1) := by decide +kernel
theorem dX7_tell_35 : decode cX7_tell 35 = .ok (.iload_n 1, 1) := by decide +kernel
theorem dX7_tell_36 : decode cX7_tell 36 = .ok (.if_icmp .ne 5, 3) := by decide +kernel
theorem dX7_tell_39 : decode cX7_tell 39 = .ok (.iconst 0, 1) := by decide +kernel
theorem dX7_tell_40 : decode cX7_tell 40 = .ok (.ireturn, 1) := by decide +kernel
theorem dX7_tell_41 : decode cX7_tell 41 = .ok (.iinc 3 1, 3) := by decide +kernel
theorem dX7_tell_44 : decode cX7_tell 44 = .ok (.goto (-23), 3) := by decide +kernel
theorem dX7_tell_47 : decode cX7_tell 47 = .ok (.aload_n 0, 1) := by decide +kernel
