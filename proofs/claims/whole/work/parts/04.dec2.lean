theorem d_Md_cut_286 : decode prog_8_method_12_code 286 = .ok (.bastore, 1) := by decide +kernel
theorem d_Md_cut_287 : decode prog_8_method_12_code 287 = .ok (.aload_n 0, 1) := by decide +kernel
theorem d_Md_cut_288 : decode prog_8_method_12_code 288 = .ok (.iload_n 1, 1) := by decide +kernel
theorem d_Md_cut_289 : decode prog_8_method_12_code 289 = .ok (.iconst 0, 1) := by decide +kernel
theorem d_Md_cut_290 : decode prog_8_method_12_code 290 = .ok (.invokevirtual 117, 3) := by decide +kernel
theorem d_Md_cut_293 : decode prog_8_method_12_code 293 = .ok (.aload_n 0, 1) := by decide +kernel
theorem d_Md_cut_294 : decode prog_8_method_12_code 294 = .ok (.invokevirtual 120, 3) := by decide +kernel
theorem d_Md_cut_297 : decode prog_8_method_12_code 297 = .ok (.if_icmp .ne 37, 3) := by decide +kernel
theorem d_Md_cut_300 : decode prog_8_method_12_code 300 = .ok (.aload_n 0, 1) := by decide +kernel
theorem d_Md_cut_301 : decode prog_8_method_12_code 301 = .ok (.getfield 41, 3) := by decide +kernel
theorem d_Md_cut_304 : decode prog_8_method_12_code 304 = .ok (.aload_n 0, 1) := by decide +kernel
theorem d_Md_cut_305 : decode prog_8_method_12_code 305 = .ok (.getfield 111, 3) := by decide +kernel
theorem d_Md_cut_308 : decode prog_8_method_12_code 308 = .ok (.iload_n 1, 1) := by decide +kernel
theorem d_Md_cut_309 : decode prog_8_method_12_code 309 = .ok (.iastore, 1) := by decide +kernel
theorem d_Md_cut_310 : decode prog_8_method_12_code 310 = .ok (.aload_n 0, 1) := by decide +kernel
theorem d_Md_cut_311 : decode prog_8_method_12_code 311 = .ok (.getfield 44, 3) := by decide +kernel
theorem d_Md_cut_314 : decode prog_8_method_12_code 314 = .ok (.aload_n 0, 1) := by decide +kernel
theorem d_Md_cut_315 : decode prog_8_method_12_code 315 = .ok (.getfield 111, 3) := by decide +kernel
theorem d_Md_cut_318 : decode prog_8_method_12_code 318 = .ok (.aload_n 0, 1) := by decide +kernel
theorem d_Md_cut_319 : decode prog_8_method_12_code 319 = .ok (.iload_n 1, 1) := by decide +kernel
theorem d_Md_cut_320 : decode prog_8_method_12_code 320 = .ok (.invokevirtual 124, 3) := by decide +kernel
theorem d_Md_cut_323 : decode prog_8_method_12_code 323 = .ok (.iastore, 1) := by decide +kernel
theorem d_Md_cut_324 : decode prog_8_method_12_code 324 = .ok (.aload_n 0, 1) := by decide +kernel
theorem d_Md_cut_325 : decode prog_8_method_12_code 325 = .ok (.dup, 1) := by decide +kernel
theorem d_Md_cut_326 : decode prog_8_method_12_code 326 = .ok (.getfield 111, 3) := by decide +kernel
theorem d_Md_cut_329 : decode prog_8_method_12_code 329 = .ok (.iconst 1, 1) := by decide +kernel
theorem d_Md_cut_330 : decode prog_8_method_12_code 330 = .ok (.iadd, 1) := by decide +kernel
theorem d_Md_cut_331 : decode prog_8_method_12_code 331 = .ok (.putfield 111, 3) := by decide +kernel
theorem d_Md_cut_334 : decode prog_8_method_12_code 334 = .ok (.iinc 1 1, 3) := by decide +kernel
theorem d_Md_cut_337 : decode prog_8_method_12_code 337 = .ok (.goto (-70), 3) := by decide +kernel
theorem d_Md_cut_340 : decode prog_8_method_12_code 340 = .ok (.return_, 1) := by decide +kernel
theorem d_Md_isThere_0 : decode prog_8_method_8_code 0 = .ok (.iload_n 1, 1) := by decide +kernel
theorem d_Md_isThere_1 : decode prog_8_method_8_code 1 = .ok (.bipush 6, 2) := by decide +kernel
theorem d_Md_isThere_3 : decode prog_8_method_8_code 3 = .ok (.if_icmp .ge 11, 3) := by decide +kernel
theorem d_Md_isThere_6 : decode prog_8_method_8_code 6 = .ok (.iload_n 1, 1) := by decide +kernel
theorem d_Md_isThere_7 : decode prog_8_method_8_code 7 = .ok (.aload_n 0, 1) := by decide +kernel
theorem d_Md_isThere_8 : decode prog_8_method_8_code 8 = .ok (.getfield 83, 3) := by decide +kernel
theorem d_Md_isThere_11 : decode prog_8_method_8_code 11 = .ok (.if_icmp .ge 7, 3) := by decide +kernel
theorem d_Md_isThere_14 : decode prog_8_method_8_code 14 = .ok (.iconst 1, 1) := by decide +kernel
theorem d_Md_isThere_15 : decode prog_8_method_8_code 15 = .ok (.goto 4, 3) := by decide +kernel
theorem d_Md_isThere_18 : decode prog_8_method_8_code 18 = .ok (.iconst 0, 1) := by decide +kernel
theorem d_Md_isThere_19 : decode prog_8_method_8_code 19 = .ok (.ireturn, 1) := by decide +kernel
theorem d_Md_make_0 : decode prog_8_method_11_code 0 = .ok (.aload_n 0, 1) := by decide +kernel
theorem d_Md_make_1 : decode prog_8_method_11_code 1 = .ok (.iload_n 1, 1) := by decide +kernel
theorem d_Md_make_2 : decode prog_8_method_11_code 2 = .ok (.iload_n 2, 1) := by decide +kernel
theorem d_Md_make_3 : decode prog_8_method_11_code 3 = .ok (.iload_n 3, 1) := by decide +kernel
theorem d_Md_make_4 : decode prog_8_method_11_code 4 = .ok (.iconst 3, 1) := by decide +kernel
theorem d_Md_make_5 : decode prog_8_method_11_code 5 = .ok (.invokevirtual 86, 3) := by decide +kernel
theorem d_Md_make_8 : decode prog_8_method_11_code 8 = .ok (.istore 4, 2) := by decide +kernel
theorem d_Md_make_10 : decode prog_8_method_11_code 10 = .ok (.iload 4, 2) := by decide +kernel
theorem d_Md_make_12 : decode prog_8_method_11_code 12 = .ok (.ifCond .ne 4, 3) := by decide +kernel
theorem d_Md_make_15 : decode prog_8_method_11_code 15 = .ok (.return_, 1) := by decide +kernel
theorem d_Md_make_16 : decode prog_8_method_11_code 16 = .ok (.iload 4, 2) := by decide +kernel
theorem d_Md_make_18 : decode prog_8_method_11_code 18 = .ok (.ifCond .ge 7, 3) := by decide +kernel
theorem d_Md_make_21 : decode prog_8_method_11_code 21 = .ok (.iconst (-1), 1) := by decide +kernel
theorem d_Md_make_22 : decode prog_8_method_11_code 22 = .ok (.goto 4, 3) := by decide +kernel
theorem d_Md_make_25 : decode prog_8_method_11_code 25 = .ok (.iconst 1, 1) := by decide +kernel
theorem d_Md_make_26 : decode prog_8_method_11_code 26 = .ok (.istore 5, 2) := by decide +kernel
theorem d_Md_make_28 : decode prog_8_method_11_code 28 = .ok (.iload 4, 2) := by decide +kernel
theorem d_Md_make_30 : decode prog_8_method_11_code 30 = .ok (.istore 6, 2) := by decide +kernel
theorem d_Md_make_32 : decode prog_8_method_11_code 32 = .ok (.iconst 0, 1) := by decide +kernel
theorem d_Md_make_33 : decode prog_8_method_11_code 33 = .ok (.istore 7, 2) := by decide +kernel
theorem d_Md_make_35 : decode prog_8_method_11_code 35 = .ok (.iload 7, 2) := by decide +kernel
theorem d_Md_make_37 : decode prog_8_method_11_code 37 = .ok (.iconst 3, 1) := by decide +kernel
theorem d_Md_make_38 : decode prog_8_method_11_code 38 = .ok (.if_icmp .ge 39, 3) := by decide +kernel
theorem d_Md_make_41 : decode prog_8_method_11_code 41 = .ok (.aload_n 0, 1) := by decide +kernel
theorem d_Md_make_42 : decode prog_8_method_11_code 42 = .ok (.getfield 38, 3) := by decide +kernel
theorem d_Md_make_45 : decode prog_8_method_11_code 45 = .ok (.iload 7, 2) := by decide +kernel
theorem d_Md_make_47 : decode prog_8_method_11_code 47 = .ok (.aload_n 0, 1) := by decide +kernel
theorem d_Md_make_48 : decode prog_8_method_11_code 48 = .ok (.iload_n 1, 1) := by decide +kernel
theorem d_Md_make_49 : decode prog_8_method_11_code 49 = .ok (.iload_n 2, 1) := by decide +kernel
theorem d_Md_make_50 : decode prog_8_method_11_code 50 = .ok (.iload_n 3, 1) := by decide +kernel
theorem d_Md_make_51 : decode prog_8_method_11_code 51 = .ok (.iload 7, 2) := by decide +kernel
theorem d_Md_make_53 : decode prog_8_method_11_code 53 = .ok (.invokevirtual 86, 3) := by decide +kernel
theorem d_Md_make_56 : decode prog_8_method_11_code 56 = .ok (.iastore, 1) := by decide +kernel
theorem d_Md_make_57 : decode prog_8_method_11_code 57 = .ok (.iload 6, 2) := by decide +kernel
theorem d_Md_make_59 : decode prog_8_method_11_code 59 = .ok (.aload_n 0, 1) := by decide +kernel
theorem d_Md_make_60 : decode prog_8_method_11_code 60 = .ok (.getfield 38, 3) := by decide +kernel
theorem d_Md_make_63 : decode prog_8_method_11_code 63 = .ok (.iload 7, 2) := by decide +kernel
theorem d_Md_make_65 : decode prog_8_method_11_code 65 = .ok (.iaload, 1) := by decide +kernel
theorem d_Md_make_66 : decode prog_8_method_11_code 66 = .ok (.invokestatic 90, 3) := by decide +kernel
theorem d_Md_make_69 : decode prog_8_method_11_code 69 = .ok (.istore 6, 2) := by decide +kernel
theorem d_Md_make_71 : decode prog_8_method_11_code 71 = .ok (.iinc 7 1, 3) := by decide +kernel
theorem d_Md_make_74 : decode prog_8_method_11_code 74 = .ok (.goto (-39), 3) := by decide +kernel
theorem d_Md_make_77 : decode prog_8_method_11_code 77 = .ok (.aload_n 0, 1) := by decide +kernel
theorem d_Md_make_78 : decode prog_8_method_11_code 78 = .ok (.getfield 38, 3) := by decide +kernel
theorem d_Md_make_81 : decode prog_8_method_11_code 81 = .ok (.iconst 3, 1) := by decide +kernel
theorem d_Md_make_82 : decode prog_8_method_11_code 82 = .ok (.iload 5, 2) := by decide +kernel
theorem d_Md_make_84 : decode prog_8_method_11_code 84 = .ok (.iload 4, 2) := by decide +kernel
theorem d_Md_make_86 : decode prog_8_method_11_code 86 = .ok (.imul, 1) := by decide +kernel
theorem d_Md_make_87 : decode prog_8_method_11_code 87 = .ok (.iload 6, 2) := by decide +kernel
theorem d_Md_make_89 : decode prog_8_method_11_code 89 = .ok (.idiv, 1) := by decide +kernel
theorem d_Md_make_90 : decode prog_8_method_11_code 90 = .ok (.iastore, 1) := by decide +kernel
theorem d_Md_make_91 : decode prog_8_method_11_code 91 = .ok (.iconst 0, 1) := by decide +kernel
theorem d_Md_make_92 : decode prog_8_method_11_code 92 = .ok (.istore 7, 2) := by decide +kernel
theorem d_Md_make_94 : decode prog_8_method_11_code 94 = .ok (.iload 7, 2) := by decide +kernel
theorem d_Md_make_96 : decode prog_8_method_11_code 96 = .ok (.iconst 3, 1) := by decide +kernel
theorem d_Md_make_97 : decode prog_8_method_11_code 97 = .ok (.if_icmp .ge 64, 3) := by decide +kernel
theorem d_Md_make_100 : decode prog_8_method_11_code 100 = .ok (.aload_n 0, 1) := by decide +kernel
theorem d_Md_make_101 : decode prog_8_method_11_code 101 = .ok (.getfield 38, 3) := by decide +kernel
theorem d_Md_make_104 : decode prog_8_method_11_code 104 = .ok (.iload 7, 2) := by decide +kernel
theorem d_Md_make_106 : decode prog_8_method_11_code 106 = .ok (.iload 5, 2) := by decide +kernel
theorem d_Md_make_108 : decode prog_8_method_11_code 108 = .ok (.aload_n 0, 1) := by decide +kernel
theorem d_Md_make_109 : decode prog_8_method_11_code 109 = .ok (.getfield 38, 3) := by decide +kernel
theorem d_Md_make_112 : decode prog_8_method_11_code 112 = .ok (.iload 7, 2) := by decide +kernel
theorem d_Md_make_114 : decode prog_8_method_11_code 114 = .ok (.iaload, 1) := by decide +kernel
theorem d_Md_make_115 : decode prog_8_method_11_code 115 = .ok (.imul, 1) := by decide +kernel
theorem d_Md_make_116 : decode prog_8_method_11_code 116 = .ok (.iload 6, 2) := by decide +kernel
theorem d_Md_make_118 : decode prog_8_method_11_code 118 = .ok (.idiv, 1) := by decide +kernel
theorem d_Md_make_119 : decode prog_8_method_11_code 119 = .ok (.iastore, 1) := by decide +kernel
theorem d_Md_make_120 : decode prog_8_method_11_code 120 = .ok (.aload_n 0, 1) := by decide +kernel
theorem d_Md_make_121 : decode prog_8_method_11_code 121 = .ok (.getfield 38, 3) := by decide +kernel
theorem d_Md_make_124 : decode prog_8_method_11_code 124 = .ok (.iload 7, 2) := by decide +kernel
theorem d_Md_make_126 : decode prog_8_method_11_code 126 = .ok (.iaload, 1) := by decide +kernel
theorem d_Md_make_127 : decode prog_8_method_11_code 127 = .ok (.ifCond .lt 27, 3) := by decide +kernel
theorem d_Md_make_130 : decode prog_8_method_11_code 130 = .ok (.aload_n 0, 1) := by decide +kernel
theorem d_Md_make_131 : decode prog_8_method_11_code 131 = .ok (.getfield 38, 3) := by decide +kernel
theorem d_Md_make_134 : decode prog_8_method_11_code 134 = .ok (.iload 7, 2) := by decide +kernel
theorem d_Md_make_136 : decode prog_8_method_11_code 136 = .ok (.iaload, 1) := by decide +kernel
theorem d_Md_make_137 : decode prog_8_method_11_code 137 = .ok (.aload_n 0, 1) := by decide +kernel
theorem d_Md_make_138 : decode prog_8_method_11_code 138 = .ok (.getfield 7, 3) := by decide +kernel
theorem d_Md_make_141 : decode prog_8_method_11_code 141 = .ok (.iload 7, 2) := by decide +kernel
theorem d_Md_make_143 : decode prog_8_method_11_code 143 = .ok (.iaload, 1) := by decide +kernel
theorem d_Md_make_144 : decode prog_8_method_11_code 144 = .ok (.aload_n 0, 1) := by decide +kernel
theorem d_Md_make_145 : decode prog_8_method_11_code 145 = .ok (.getfield 38, 3) := by decide +kernel
theorem d_Md_make_148 : decode prog_8_method_11_code 148 = .ok (.iconst 3, 1) := by decide +kernel
theorem d_Md_make_149 : decode prog_8_method_11_code 149 = .ok (.iaload, 1) := by decide +kernel
theorem d_Md_make_150 : decode prog_8_method_11_code 150 = .ok (.imul, 1) := by decide +kernel
theorem d_Md_make_151 : decode prog_8_method_11_code 151 = .ok (.if_icmp .le 4, 3) := by decide +kernel
theorem d_Md_make_154 : decode prog_8_method_11_code 154 = .ok (.return_, 1) := by decide +kernel
theorem d_Md_make_155 : decode prog_8_method_11_code 155 = .ok (.iinc 7 1, 3) := by decide +kernel
theorem d_Md_make_158 : decode prog_8_method_11_code 158 = .ok (.goto (-64), 3) := by decide +kernel
theorem d_Md_make_161 : decode prog_8_method_11_code 161 = .ok (.aload_n 0, 1) := by decide +kernel
theorem d_Md_make_162 : decode prog_8_method_11_code 162 = .ok (.getfield 94, 3) := by decide +kernel
theorem d_Md_make_165 : decode prog_8_method_11_code 165 = .ok (.istore 7, 2) := by decide +kernel
theorem d_Md_make_167 : decode prog_8_method_11_code 167 = .ok (.iload 7, 2) := by decide +kernel
theorem d_Md_make_169 : decode prog_8_method_11_code 169 = .ok (.ifCond .le 20, 3) := by decide +kernel
theorem d_Md_make_172 : decode prog_8_method_11_code 172 = .ok (.aload_n 0, 1) := by decide +kernel
theorem d_Md_make_173 : decode prog_8_method_11_code 173 = .ok (.iload 7, 2) := by decide +kernel
theorem d_Md_make_175 : decode prog_8_method_11_code 175 = .ok (.iconst 1, 1) := by decide +kernel
theorem d_Md_make_176 : decode prog_8_method_11_code 176 = .ok (.isub, 1) := by decide +kernel
theorem d_Md_make_177 : decode prog_8_method_11_code 177 = .ok (.invokevirtual 97, 3) := by decide +kernel
theorem d_Md_make_180 : decode prog_8_method_11_code 180 = .ok (.ifCond .ge 9, 3) := by decide +kernel
theorem d_Md_make_183 : decode prog_8_method_11_code 183 = .ok (.iinc 7 (-1), 3) := by decide +kernel
theorem d_Md_make_186 : decode prog_8_method_11_code 186 = .ok (.goto (-19), 3) := by decide +kernel
theorem d_Md_make_189 : decode prog_8_method_11_code 189 = .ok (.iload 7, 2) := by decide +kernel
theorem d_Md_make_191 : decode prog_8_method_11_code 191 = .ok (.ifCond .le 15, 3) := by decide +kernel
theorem d_Md_make_194 : decode prog_8_method_11_code 194 = .ok (.aload_n 0, 1) := by decide +kernel
theorem d_Md_make_195 : decode prog_8_method_11_code 195 = .ok (.iload 7, 2) := by decide +kernel
theorem d_Md_make_197 : decode prog_8_method_11_code 197 = .ok (.iconst 1, 1) := by decide +kernel
theorem d_Md_make_198 : decode prog_8_method_11_code 198 = .ok (.isub, 1) := by decide +kernel
theorem d_Md_make_199 : decode prog_8_method_11_code 199 = .ok (.invokevirtual 97, 3) := by decide +kernel
theorem d_Md_make_202 : decode prog_8_method_11_code 202 = .ok (.ifCond .ne 4, 3) := by decide +kernel
theorem d_Md_make_205 : decode prog_8_method_11_code 205 = .ok (.return_, 1) := by decide +kernel
theorem d_Md_make_206 : decode prog_8_method_11_code 206 = .ok (.iconst 4, 1) := by decide +kernel
theorem d_Md_make_207 : decode prog_8_method_11_code 207 = .ok (.aload_n 0, 1) := by decide +kernel
theorem d_Md_make_208 : decode prog_8_method_11_code 208 = .ok (.getfield 94, 3) := by decide +kernel
theorem d_Md_make_211 : decode prog_8_method_11_code 211 = .ok (.imul, 1) := by decide +kernel
theorem d_Md_make_212 : decode prog_8_method_11_code 212 = .ok (.iconst 1, 1) := by decide +kernel
theorem d_Md_make_213 : decode prog_8_method_11_code 213 = .ok (.isub, 1) := by decide +kernel
theorem d_Md_make_214 : decode prog_8_method_11_code 214 = .ok (.istore 8, 2) := by decide +kernel
theorem d_Md_make_216 : decode prog_8_method_11_code 216 = .ok (.iload 8, 2) := by decide +kernel
theorem d_Md_make_218 : decode prog_8_method_11_code 218 = .ok (.iconst 4, 1) := by decide +kernel
theorem d_Md_make_219 : decode prog_8_method_11_code 219 = .ok (.iload 7, 2) := by decide +kernel
theorem d_Md_make_221 : decode prog_8_method_11_code 221 = .ok (.imul, 1) := by decide +kernel
theorem d_Md_make_222 : decode prog_8_method_11_code 222 = .ok (.if_icmp .lt 25, 3) := by decide +kernel
theorem d_Md_make_225 : decode prog_8_method_11_code 225 = .ok (.aload_n 0, 1) := by decide +kernel
theorem d_Md_make_226 : decode prog_8_method_11_code 226 = .ok (.getfield 26, 3) := by decide +kernel
theorem d_Md_make_229 : decode prog_8_method_11_code 229 = .ok (.iload 8, 2) := by decide +kernel
theorem d_Md_make_231 : decode prog_8_method_11_code 231 = .ok (.iconst 4, 1) := by decide +kernel
theorem d_Md_make_232 : decode prog_8_method_11_code 232 = .ok (.iadd, 1) := by decide +kernel
theorem d_Md_make_233 : decode prog_8_method_11_code 233 = .ok (.aload_n 0, 1) := by decide +kernel
theorem d_Md_make_234 : decode prog_8_method_11_code 234 = .ok (.getfield 26, 3) := by decide +kernel
theorem d_Md_make_237 : decode prog_8_method_11_code 237 = .ok (.iload 8, 2) := by decide +kernel
theorem d_Md_make_239 : decode prog_8_method_11_code 239 = .ok (.iaload, 1) := by decide +kernel
theorem d_Md_make_240 : decode prog_8_method_11_code 240 = .ok (.iastore, 1) := by decide +kernel
theorem d_Md_make_241 : decode prog_8_method_11_code 241 = .ok (.iinc 8 (-1), 3) := by decide +kernel
theorem d_Md_make_244 : decode prog_8_method_11_code 244 = .ok (.goto (-28), 3) := by decide +kernel
theorem d_Md_make_247 : decode prog_8_method_11_code 247 = .ok (.iconst 0, 1) := by decide +kernel
theorem d_Md_make_248 : decode prog_8_method_11_code 248 = .ok (.istore 8, 2) := by decide +kernel
theorem d_Md_make_250 : decode prog_8_method_11_code 250 = .ok (.iload 8, 2) := by decide +kernel
theorem d_Md_make_252 : decode prog_8_method_11_code 252 = .ok (.iconst 4, 1) := by decide +kernel
theorem d_Md_make_253 : decode prog_8_method_11_code 253 = .ok (.if_icmp .ge 28, 3) := by decide +kernel
theorem d_Md_make_256 : decode prog_8_method_11_code 256 = .ok (.aload_n 0, 1) := by decide +kernel
theorem d_Md_make_257 : decode prog_8_method_11_code 257 = .ok (.getfield 26, 3) := by decide +kernel
theorem d_Md_make_260 : decode prog_8_method_11_code 260 = .ok (.iconst 4, 1) := by decide +kernel
theorem d_Md_make_261 : decode prog_8_method_11_code 261 = .ok (.iload 7, 2) := by decide +kernel
theorem d_Md_make_263 : decode prog_8_method_11_code 263 = .ok (.imul, 1) := by decide +kernel
theorem d_Md_make_264 : decode prog_8_method_11_code 264 = .ok (.iload 8, 2) := by decide +kernel
theorem d_Md_make_266 : decode prog_8_method_11_code 266 = .ok (.iadd, 1) := by decide +kernel
theorem d_Md_make_267 : decode prog_8_method_11_code 267 = .ok (.aload_n 0, 1) := by decide +kernel
theorem d_Md_make_268 : decode prog_8_method_11_code 268 = .ok (.getfield 38, 3) := by decide +kernel
theorem d_Md_make_271 : decode prog_8_method_11_code 271 = .ok (.iload 8, 2) := by decide +kernel
theorem d_Md_make_273 : decode prog_8_method_11_code 273 = .ok (.iaload, 1) := by decide +kernel
theorem d_Md_make_274 : decode prog_8_method_11_code 274 = .ok (.iastore, 1) := by decide +kernel
theorem d_Md_make_275 : decode prog_8_method_11_code 275 = .ok (.iinc 8 1, 3) := by decide +kernel
theorem d_Md_make_278 : decode prog_8_method_11_code 278 = .ok (.goto (-28), 3) := by decide +kernel
theorem d_Md_make_281 : decode prog_8_method_11_code 281 = .ok (.aload_n 0, 1) := by decide +kernel
theorem d_Md_make_282 : decode prog_8_method_11_code 282 = .ok (.dup, 1) := by decide +kernel
theorem d_Md_make_283 : decode prog_8_method_11_code 283 = .ok (.getfield 94, 3) := by decide +kernel
theorem d_Md_make_286 : decode prog_8_method_11_code 286 = .ok (.iconst 1, 1) := by decide +kernel
theorem d_Md_make_287 : decode prog_8_method_11_code 287 = .ok (.iadd, 1) := by decide +kernel
theorem d_Md_make_288 : decode prog_8_method_11_code 288 = .ok (.putfield 94, 3) := by decide +kernel
theorem d_Md_make_291 : decode prog_8_method_11_code 291 = .ok (.return_, 1) := by decide +kernel
theorem d_Md_determinant_0 : decode prog_8_method_7_code 0 = .ok (.aload_n 0, 1) := by decide +kernel
theorem d_Md_determinant_1 : decode prog_8_method_7_code 1 = .ok (.iload_n 1, 1) := by decide +kernel
theorem d_Md_determinant_2 : decode prog_8_method_7_code 2 = .ok (.iconst 0, 1) := by decide +kernel
theorem d_Md_determinant_3 : decode prog_8_method_7_code 3 = .ok (.iload 4, 2) := by decide +kernel
theorem d_Md_determinant_5 : decode prog_8_method_7_code 5 = .ok (.invokevirtual 79, 3) := by decide +kernel
theorem d_Md_determinant_8 : decode prog_8_method_7_code 8 = .ok (.aload_n 0, 1) := by decide +kernel
theorem d_Md_determinant_9 : decode prog_8_method_7_code 9 = .ok (.iload_n 2, 1) := by decide +kernel
theorem d_Md_determinant_10 : decode prog_8_method_7_code 10 = .ok (.iconst 1, 1) := by decide +kernel
theorem d_Md_determinant_11 : decode prog_8_method_7_code 11 = .ok (.iload 4, 2) := by decide +kernel
theorem d_Md_determinant_13 : decode prog_8_method_7_code 13 = .ok (.invokevirtual 79, 3) := by decide +kernel
theorem d_Md_determinant_16 : decode prog_8_method_7_code 16 = .ok (.aload_n 0, 1) := by decide +kernel
theorem d_Md_determinant_17 : decode prog_8_method_7_code 17 = .ok (.iload_n 3, 1) := by decide +kernel
theorem d_Md_determinant_18 : decode prog_8_method_7_code 18 = .ok (.iconst 2, 1) := by decide +kernel
theorem d_Md_determinant_19 : decode prog_8_method_7_code 19 = .ok (.iload 4, 2) := by decide +kernel
theorem d_Md_determinant_21 : decode prog_8_method_7_code 21 = .ok (.invokevirtual 79, 3) := by decide +kernel
theorem d_Md_determinant_24 : decode prog_8_method_7_code 24 = .ok (.imul, 1) := by decide +kernel
theorem d_Md_determinant_25 : decode prog_8_method_7_code 25 = .ok (.aload_n 0, 1) := by decide +kernel
theorem d_Md_determinant_26 : decode prog_8_method_7_code 26 = .ok (.iload_n 2, 1) := by decide +kernel
theorem d_Md_determinant_27 : decode prog_8_method_7_code 27 = .ok (.iconst 2, 1) := by decide +kernel
theorem d_Md_determinant_28 : decode prog_8_method_7_code 28 = .ok (.iload 4, 2) := by decide +kernel
theorem d_Md_determinant_30 : decode prog_8_method_7_code 30 = .ok (.invokevirtual 79, 3) := by decide +kernel
theorem d_Md_determinant_33 : decode prog_8_method_7_code 33 = .ok (.aload_n 0, 1) := by decide +kernel
theorem d_Md_determinant_34 : decode prog_8_method_7_code 34 = .ok (.iload_n 3, 1) := by decide +kernel
theorem d_Md_determinant_35 : decode prog_8_method_7_code 35 = .ok (.iconst 1, 1) := by decide +kernel
theorem d_Md_determinant_36 : decode prog_8_method_7_code 36 = .ok (.iload 4, 2) := by decide +kernel
theorem d_Md_determinant_38 : decode prog_8_method_7_code 38 = .ok (.invokevirtual 79, 3) := by decide +kernel
theorem d_Md_determinant_41 : decode prog_8_method_7_code 41 = .ok (.imul, 1) := by decide +kernel
theorem d_Md_determinant_42 : decode prog_8_method_7_code 42 = .ok (.isub, 1) := by decide +kernel
theorem d_Md_determinant_43 : decode prog_8_method_7_code 43 = .ok (.imul, 1) := by decide +kernel
theorem d_Md_determinant_44 : decode prog_8_method_7_code 44 = .ok (.istore 5, 2) := by decide +kernel
theorem d_Md_determinant_46 : decode prog_8_method_7_code 46 = .ok (.aload_n 0, 1) := by decide +kernel
theorem d_Md_determinant_47 : decode prog_8_method_7_code 47 = .ok (.iload_n 1, 1) := by decide +kernel
theorem d_Md_determinant_48 : decode prog_8_method_7_code 48 = .ok (.iconst 1, 1) := by decide +kernel
theorem d_Md_determinant_49 : decode prog_8_method_7_code 49 = .ok (.iload 4, 2) := by decide +kernel
theorem d_Md_determinant_51 : decode prog_8_method_7_code 51 = .ok (.invokevirtual 79, 3) := by decide +kernel
theorem d_Md_determinant_54 : decode prog_8_method_7_code 54 = .ok (.aload_n 0, 1) := by decide +kernel
theorem d_Md_determinant_55 : decode prog_8_method_7_code 55 = .ok (.iload_n 2, 1) := by decide +kernel
theorem d_Md_determinant_56 : decode prog_8_method_7_code 56 = .ok (.iconst 0, 1) := by decide +kernel
theorem d_Md_determinant_57 : decode prog_8_method_7_code 57 = .ok (.iload 4, 2) := by decide +kernel
theorem d_Md_determinant_59 : decode prog_8_method_7_code 59 = .ok (.invokevirtual 79, 3) := by decide +kernel
theorem d_Md_determinant_62 : decode prog_8_method_7_code 62 = .ok (.aload_n 0, 1) := by decide +kernel
theorem d_Md_determinant_63 : decode prog_8_method_7_code 63 = .ok (.iload_n 3, 1) := by decide +kernel
theorem d_Md_determinant_64 : decode prog_8_method_7_code 64 = .ok (.iconst 2, 1) := by decide +kernel
theorem d_Md_determinant_65 : decode prog_8_method_7_code 65 = .ok (.iload 4, 2) := by decide +kernel
theorem d_Md_determinant_67 : decode prog_8_method_7_code 67 = .ok (.invokevirtual 79, 3) := by decide +kernel
theorem d_Md_determinant_70 : decode prog_8_method_7_code 70 = .ok (.imul, 1) := by decide +kernel
theorem d_Md_determinant_71 : decode prog_8_method_7_code 71 = .ok (.aload_n 0, 1) := by decide +kernel
theorem d_Md_determinant_72 : decode prog_8_method_7_code 72 = .ok (.iload_n 2, 1) := by decide +kernel
theorem d_Md_determinant_73 : decode prog_8_method_7_code 73 = .ok (.iconst 2, 1) := by decide +kernel
theorem d_Md_determinant_74 : decode prog_8_method_7_code 74 = .ok (.iload 4, 2) := by decide +kernel
theorem d_Md_determinant_76 : decode prog_8_method_7_code 76 = .ok (.invokevirtual 79, 3) := by decide +kernel
theorem d_Md_determinant_79 : decode prog_8_method_7_code 79 = .ok (.aload_n 0, 1) := by decide +kernel
theorem d_Md_determinant_80 : decode prog_8_method_7_code 80 = .ok (.iload_n 3, 1) := by decide +kernel
theorem d_Md_determinant_81 : decode prog_8_method_7_code 81 = .ok (.iconst 0, 1) := by decide +kernel
theorem d_Md_determinant_82 : decode prog_8_method_7_code 82 = .ok (.iload 4, 2) := by decide +kernel
theorem d_Md_determinant_84 : decode prog_8_method_7_code 84 = .ok (.invokevirtual 79, 3) := by decide +kernel
theorem d_Md_determinant_87 : decode prog_8_method_7_code 87 = .ok (.imul, 1) := by decide +kernel
theorem d_Md_determinant_88 : decode prog_8_method_7_code 88 = .ok (.isub, 1) := by decide +kernel
theorem d_Md_determinant_89 : decode prog_8_method_7_code 89 = .ok (.imul, 1) := by decide +kernel
theorem d_Md_determinant_90 : decode prog_8_method_7_code 90 = .ok (.istore 6, 2) := by decide +kernel
theorem d_Md_determinant_92 : decode prog_8_method_7_code 92 = .ok (.aload_n 0, 1) := by decide +kernel
theorem d_Md_determinant_93 : decode prog_8_method_7_code 93 = .ok (.iload_n 1, 1) := by decide +kernel
theorem d_Md_determinant_94 : decode prog_8_method_7_code 94 = .ok (.iconst 2, 1) := by decide +kernel
theorem d_Md_determinant_95 : decode prog_8_method_7_code 95 = .ok (.iload 4, 2) := by decide +kernel
theorem d_Md_determinant_97 : decode prog_8_method_7_code 97 = .ok (.invokevirtual 79, 3) := by decide +kernel
theorem d_Md_determinant_100 : decode prog_8_method_7_code 100 = .ok (.aload_n 0, 1) := by decide +kernel
theorem d_Md_determinant_101 : decode prog_8_method_7_code 101 = .ok (.iload_n 2, 1) := by decide +kernel
theorem d_Md_determinant_102 : decode prog_8_method_7_code 102 = .ok (.iconst 0, 1) := by decide +kernel
theorem d_Md_determinant_103 : decode prog_8_method_7_code 103 = .ok (.iload 4, 2) := by decide +kernel
theorem d_Md_determinant_105 : decode prog_8_method_7_code 105 = .ok (.invokevirtual 79, 3) := by decide +kernel
theorem d_Md_determinant_108 : decode prog_8_method_7_code 108 = .ok (.aload_n 0, 1) := by decide +kernel
theorem d_Md_determinant_109 : decode prog_8_method_7_code 109 = .ok (.iload_n 3, 1) := by decide +kernel
theorem d_Md_determinant_110 : decode prog_8_method_7_code 110 = .ok (.iconst 1, 1) := by decide +kernel
theorem d_Md_determinant_111 : decode prog_8_method_7_code 111 = .ok (.iload 4, 2) := by decide +kernel
theorem d_Md_determinant_113 : decode prog_8_method_7_code 113 = .ok (.invokevirtual 79, 3) := by decide +kernel
theorem d_Md_determinant_116 : decode prog_8_method_7_code 116 = .ok (.imul, 1) := by decide +kernel
theorem d_Md_determinant_117 : decode prog_8_method_7_code 117 = .ok (.aload_n 0, 1) := by decide +kernel
theorem d_Md_determinant_118 : decode prog_8_method_7_code 118 = .ok (.iload_n 2, 1) := by decide +kernel
theorem d_Md_determinant_119 : decode prog_8_method_7_code 119 = .ok (.iconst 1, 1) := by decide +kernel
theorem d_Md_determinant_120 : decode prog_8_method_7_code 120 = .ok (.iload 4, 2) := by decide +kernel
theorem d_Md_determinant_122 : decode prog_8_method_7_code 122 = .ok (.invokevirtual 79, 3) := by decide +kernel
theorem d_Md_determinant_125 : decode prog_8_method_7_code 125 = .ok (.aload_n 0, 1) := by decide +kernel
theorem d_Md_determinant_126 : decode prog_8_method_7_code 126 = .ok (.iload_n 3, 1) := by decide +kernel
theorem d_Md_determinant_127 : decode prog_8_method_7_code 127 = .ok (.iconst 0, 1) := by decide +kernel
theorem d_Md_determinant_128 : decode prog_8_method_7_code 128 = .ok (.iload 4, 2) := by decide +kernel
theorem d_Md_determinant_130 : decode prog_8_method_7_code 130 = .ok (.invokevirtual 79, 3) := by decide +kernel
theorem d_Md_determinant_133 : decode prog_8_method_7_code 133 = .ok (.imul, 1) := by decide +kernel
theorem d_Md_determinant_134 : decode prog_8_method_7_code 134 = .ok (.isub, 1) := by decide +kernel
theorem d_Md_determinant_135 : decode prog_8_method_7_code 135 = .ok (.imul, 1) := by decide +kernel
theorem d_Md_determinant_136 : decode prog_8_method_7_code 136 = .ok (.istore 7, 2) := by decide +kernel
theorem d_Md_determinant_138 : decode prog_8_method_7_code 138 = .ok (.iload 5, 2) := by decide +kernel
theorem d_Md_determinant_140 : decode prog_8_method_7_code 140 = .ok (.iload 6, 2) := by decide +kernel
theorem d_Md_determinant_142 : decode prog_8_method_7_code 142 = .ok (.isub, 1) := by decide +kernel
theorem d_Md_determinant_143 : decode prog_8_method_7_code 143 = .ok (.iload 7, 2) := by decide +kernel
theorem d_Md_determinant_145 : decode prog_8_method_7_code 145 = .ok (.iadd, 1) := by decide +kernel
theorem d_Md_determinant_146 : decode prog_8_method_7_code 146 = .ok (.ireturn, 1) := by decide +kernel
theorem d_Md_part_0 : decode prog_8_method_6_code 0 = .ok (.aload_n 0, 1) := by decide +kernel
theorem d_Md_part_1 : decode prog_8_method_6_code 1 = .ok (.getfield 13, 3) := by decide +kernel
theorem d_Md_part_4 : decode prog_8_method_6_code 4 = .ok (.iconst 4, 1) := by decide +kernel
theorem d_Md_part_5 : decode prog_8_method_6_code 5 = .ok (.iload_n 1, 1) := by decide +kernel
theorem d_Md_part_6 : decode prog_8_method_6_code 6 = .ok (.imul, 1) := by decide +kernel
theorem d_Md_part_7 : decode prog_8_method_6_code 7 = .ok (.iload_n 2, 1) := by decide +kernel
theorem d_Md_part_8 : decode prog_8_method_6_code 8 = .ok (.iload_n 3, 1) := by decide +kernel
theorem d_Md_part_9 : decode prog_8_method_6_code 9 = .ok (.if_icmp .ne 7, 3) := by decide +kernel
theorem d_Md_part_12 : decode prog_8_method_6_code 12 = .ok (.iconst 3, 1) := by decide +kernel
theorem d_Md_part_13 : decode prog_8_method_6_code 13 = .ok (.goto 4, 3) := by decide +kernel
theorem d_Md_part_16 : decode prog_8_method_6_code 16 = .ok (.iload_n 2, 1) := by decide +kernel
theorem d_Md_part_17 : decode prog_8_method_6_code 17 = .ok (.iadd, 1) := by decide +kernel
theorem d_Md_part_18 : decode prog_8_method_6_code 18 = .ok (.iaload, 1) := by decide +kernel
theorem d_Md_part_19 : decode prog_8_method_6_code 19 = .ok (.ireturn, 1) := by decide +kernel
theorem d_Md_common_0 : decode prog_8_method_5_code 0 = .ok (.iload_n 0, 1) := by decide +kernel
theorem d_Md_common_1 : decode prog_8_method_5_code 1 = .ok (.ifCond .ge 8, 3) := by decide +kernel
theorem d_Md_common_4 : decode prog_8_method_5_code 4 = .ok (.iload_n 0, 1) := by decide +kernel
theorem d_Md_common_5 : decode prog_8_method_5_code 5 = .ok (.ineg, 1) := by decide +kernel
theorem d_Md_common_6 : decode prog_8_method_5_code 6 = .ok (.goto 4, 3) := by decide +kernel
theorem d_Md_common_9 : decode prog_8_method_5_code 9 = .ok (.iload_n 0, 1) := by decide +kernel
theorem d_Md_common_10 : decode prog_8_method_5_code 10 = .ok (.istore_n 2, 1) := by decide +kernel
theorem d_Md_common_11 : decode prog_8_method_5_code 11 = .ok (.iload_n 1, 1) := by decide +kernel
theorem d_Md_common_12 : decode prog_8_method_5_code 12 = .ok (.ifCond .ge 8, 3) := by decide +kernel
theorem d_Md_common_15 : decode prog_8_method_5_code 15 = .ok (.iload_n 1, 1) := by decide +kernel
theorem d_Md_common_16 : decode prog_8_method_5_code 16 = .ok (.ineg, 1) := by decide +kernel
theorem d_Md_common_17 : decode prog_8_method_5_code 17 = .ok (.goto 4, 3) := by decide +kernel
theorem d_Md_common_20 : decode prog_8_method_5_code 20 = .ok (.iload_n 1, 1) := by decide +kernel
theorem d_Md_common_21 : decode prog_8_method_5_code 21 = .ok (.istore_n 3, 1) := by decide +kernel
theorem d_Md_common_22 : decode prog_8_method_5_code 22 = .ok (.iload_n 3, 1) := by decide +kernel
theorem d_Md_common_23 : decode prog_8_method_5_code 23 = .ok (.ifCond .eq 16, 3) := by decide +kernel
theorem d_Md_common_26 : decode prog_8_method_5_code 26 = .ok (.iload_n 2, 1) := by decide +kernel
theorem d_Md_common_27 : decode prog_8_method_5_code 27 = .ok (.iload_n 3, 1) := by decide +kernel
theorem d_Md_common_28 : decode prog_8_method_5_code 28 = .ok (.irem, 1) := by decide +kernel
theorem d_Md_common_29 : decode prog_8_method_5_code 29 = .ok (.istore 4, 2) := by decide +kernel
theorem d_Md_common_31 : decode prog_8_method_5_code 31 = .ok (.iload_n 3, 1) := by decide +kernel
theorem d_Md_common_32 : decode prog_8_method_5_code 32 = .ok (.istore_n 2, 1) := by decide +kernel
theorem d_Md_common_33 : decode prog_8_method_5_code 33 = .ok (.iload 4, 2) := by decide +kernel
theorem d_Md_common_35 : decode prog_8_method_5_code 35 = .ok (.istore_n 3, 1) := by decide +kernel
theorem d_Md_common_36 : decode prog_8_method_5_code 36 = .ok (.goto (-14), 3) := by decide +kernel
theorem d_Md_common_39 : decode prog_8_method_5_code 39 = .ok (.iload_n 2, 1) := by decide +kernel
theorem d_Md_common_40 : decode prog_8_method_5_code 40 = .ok (.ireturn, 1) := by decide +kernel
theorem d_Md_orderP_0 : decode prog_8_method_10_code 0 = .ok (.iconst 0, 1) := by decide +kernel
theorem d_Md_orderP_1 : decode prog_8_method_10_code 1 = .ok (.istore_n 2, 1) := by decide +kernel
theorem d_Md_orderP_2 : decode prog_8_method_10_code 2 = .ok (.iload_n 2, 1) := by decide +kernel
theorem d_Md_orderP_3 : decode prog_8_method_10_code 3 = .ok (.iconst 3, 1) := by decide +kernel
theorem d_Md_orderP_4 : decode prog_8_method_10_code 4 = .ok (.if_icmp .ge 59, 3) := by decide +kernel
theorem d_Md_orderP_7 : decode prog_8_method_10_code 7 = .ok (.aload_n 0, 1) := by decide +kernel
theorem d_Md_orderP_8 : decode prog_8_method_10_code 8 = .ok (.getfield 38, 3) := by decide +kernel
theorem d_Md_orderP_11 : decode prog_8_method_10_code 11 = .ok (.iload_n 2, 1) := by decide +kernel
theorem d_Md_orderP_12 : decode prog_8_method_10_code 12 = .ok (.iaload, 1) := by decide +kernel
theorem d_Md_orderP_13 : decode prog_8_method_10_code 13 = .ok (.aload_n 0, 1) := by decide +kernel
theorem d_Md_orderP_14 : decode prog_8_method_10_code 14 = .ok (.getfield 26, 3) := by decide +kernel
theorem d_Md_orderP_17 : decode prog_8_method_10_code 17 = .ok (.iconst 4, 1) := by decide +kernel
theorem d_Md_orderP_18 : decode prog_8_method_10_code 18 = .ok (.iload_n 1, 1) := by decide +kernel
theorem d_Md_orderP_19 : decode prog_8_method_10_code 19 = .ok (.imul, 1) := by decide +kernel
theorem d_Md_orderP_20 : decode prog_8_method_10_code 20 = .ok (.iconst 3, 1) := by decide +kernel
theorem d_Md_orderP_21 : decode prog_8_method_10_code 21 = .ok (.iadd, 1) := by decide +kernel
theorem d_Md_orderP_22 : decode prog_8_method_10_code 22 = .ok (.iaload, 1) := by decide +kernel
theorem d_Md_orderP_23 : decode prog_8_method_10_code 23 = .ok (.imul, 1) := by decide +kernel
theorem d_Md_orderP_24 : decode prog_8_method_10_code 24 = .ok (.aload_n 0, 1) := by decide +kernel
theorem d_Md_orderP_25 : decode prog_8_method_10_code 25 = .ok (.getfield 26, 3) := by decide +kernel
theorem d_Md_orderP_28 : decode prog_8_method_10_code 28 = .ok (.iconst 4, 1) := by decide +kernel
theorem d_Md_orderP_29 : decode prog_8_method_10_code 29 = .ok (.iload_n 1, 1) := by decide +kernel
theorem d_Md_orderP_30 : decode prog_8_method_10_code 30 = .ok (.imul, 1) := by decide +kernel
theorem d_Md_orderP_31 : decode prog_8_method_10_code 31 = .ok (.iload_n 2, 1) := by decide +kernel
theorem d_Md_orderP_32 : decode prog_8_method_10_code 32 = .ok (.iadd, 1) := by decide +kernel
theorem d_Md_orderP_33 : decode prog_8_method_10_code 33 = .ok (.iaload, 1) := by decide +kernel
theorem d_Md_orderP_34 : decode prog_8_method_10_code 34 = .ok (.aload_n 0, 1) := by decide +kernel
theorem d_Md_orderP_35 : decode prog_8_method_10_code 35 = .ok (.getfield 38, 3) := by decide +kernel
theorem d_Md_orderP_38 : decode prog_8_method_10_code 38 = .ok (.iconst 3, 1) := by decide +kernel
theorem d_Md_orderP_39 : decode prog_8_method_10_code 39 = .ok (.iaload, 1) := by decide +kernel
theorem d_Md_orderP_40 : decode prog_8_method_10_code 40 = .ok (.imul, 1) := by decide +kernel
theorem d_Md_orderP_41 : decode prog_8_method_10_code 41 = .ok (.isub, 1) := by decide +kernel
theorem d_Md_orderP_42 : decode prog_8_method_10_code 42 = .ok (.istore_n 3, 1) := by decide +kernel
theorem d_Md_orderP_43 : decode prog_8_method_10_code 43 = .ok (.iload_n 3, 1) := by decide +kernel
theorem d_Md_orderP_44 : decode prog_8_method_10_code 44 = .ok (.ifCond .eq 13, 3) := by decide +kernel
theorem d_Md_orderP_47 : decode prog_8_method_10_code 47 = .ok (.iload_n 3, 1) := by decide +kernel
theorem d_Md_orderP_48 : decode prog_8_method_10_code 48 = .ok (.ifCond .ge 7, 3) := by decide +kernel
theorem d_Md_orderP_51 : decode prog_8_method_10_code 51 = .ok (.iconst (-1), 1) := by decide +kernel
theorem d_Md_orderP_52 : decode prog_8_method_10_code 52 = .ok (.goto 4, 3) := by decide +kernel
theorem d_Md_orderP_55 : decode prog_8_method_10_code 55 = .ok (.iconst 1, 1) := by decide +kernel
theorem d_Md_orderP_56 : decode prog_8_method_10_code 56 = .ok (.ireturn, 1) := by decide +kernel
theorem d_Md_orderP_57 : decode prog_8_method_10_code 57 = .ok (.iinc 2 1, 3) := by decide +kernel
theorem d_Md_orderP_60 : decode prog_8_method_10_code 60 = .ok (.goto (-58), 3) := by decide +kernel
theorem d_Md_orderP_63 : decode prog_8_method_10_code 63 = .ok (.iconst 0, 1) := by decide +kernel
theorem d_Md_orderP_64 : decode prog_8_method_10_code 64 = .ok (.ireturn, 1) := by decide +kernel
theorem d_Md_more_0 : decode prog_8_method_9_code 0 = .ok (.aload_n 0, 1) := by decide +kernel
theorem d_Md_more_1 : decode prog_8_method_9_code 1 = .ok (.getfield 13, 3) := by decide +kernel
theorem d_Md_more_4 : decode prog_8_method_9_code 4 = .ok (.iconst 4, 1) := by decide +kernel
theorem d_Md_more_5 : decode prog_8_method_9_code 5 = .ok (.iload_n 2, 1) := by decide +kernel
theorem d_Md_more_6 : decode prog_8_method_9_code 6 = .ok (.imul, 1) := by decide +kernel
theorem d_Md_more_7 : decode prog_8_method_9_code 7 = .ok (.iaload, 1) := by decide +kernel
theorem d_Md_more_8 : decode prog_8_method_9_code 8 = .ok (.aload_n 0, 1) := by decide +kernel
theorem d_Md_more_9 : decode prog_8_method_9_code 9 = .ok (.getfield 26, 3) := by decide +kernel
theorem d_Md_more_12 : decode prog_8_method_9_code 12 = .ok (.iconst 4, 1) := by decide +kernel
theorem d_Md_more_13 : decode prog_8_method_9_code 13 = .ok (.iload_n 1, 1) := by decide +kernel
theorem d_Md_more_14 : decode prog_8_method_9_code 14 = .ok (.imul, 1) := by decide +kernel
theorem d_Md_more_15 : decode prog_8_method_9_code 15 = .ok (.iaload, 1) := by decide +kernel
theorem d_Md_more_16 : decode prog_8_method_9_code 16 = .ok (.imul, 1) := by decide +kernel
theorem d_Md_more_17 : decode prog_8_method_9_code 17 = .ok (.aload_n 0, 1) := by decide +kernel
theorem d_Md_more_18 : decode prog_8_method_9_code 18 = .ok (.getfield 13, 3) := by decide +kernel
theorem d_Md_more_21 : decode prog_8_method_9_code 21 = .ok (.iconst 4, 1) := by decide +kernel
theorem d_Md_more_22 : decode prog_8_method_9_code 22 = .ok (.iload_n 2, 1) := by decide +kernel
theorem d_Md_more_23 : decode prog_8_method_9_code 23 = .ok (.imul, 1) := by decide +kernel
theorem d_Md_more_24 : decode prog_8_method_9_code 24 = .ok (.iconst 1, 1) := by decide +kernel
theorem d_Md_more_25 : decode prog_8_method_9_code 25 = .ok (.iadd, 1) := by decide +kernel
theorem d_Md_more_26 : decode prog_8_method_9_code 26 = .ok (.iaload, 1) := by decide +kernel
theorem d_Md_more_27 : decode prog_8_method_9_code 27 = .ok (.aload_n 0, 1) := by decide +kernel
theorem d_Md_more_28 : decode prog_8_method_9_code 28 = .ok (.getfield 26, 3) := by decide +kernel
theorem d_Md_more_31 : decode prog_8_method_9_code 31 = .ok (.iconst 4, 1) := by decide +kernel
theorem d_Md_more_32 : decode prog_8_method_9_code 32 = .ok (.iload_n 1, 1) := by decide +kernel
theorem d_Md_more_33 : decode prog_8_method_9_code 33 = .ok (.imul, 1) := by decide +kernel
theorem d_Md_more_34 : decode prog_8_method_9_code 34 = .ok (.iconst 1, 1) := by decide +kernel
theorem d_Md_more_35 : decode prog_8_method_9_code 35 = .ok (.iadd, 1) := by decide +kernel
theorem d_Md_more_36 : decode prog_8_method_9_code 36 = .ok (.iaload, 1) := by decide +kernel
theorem d_Md_more_37 : decode prog_8_method_9_code 37 = .ok (.imul, 1) := by decide +kernel
theorem d_Md_more_38 : decode prog_8_method_9_code 38 = .ok (.iadd, 1) := by decide +kernel
theorem d_Md_more_39 : decode prog_8_method_9_code 39 = .ok (.aload_n 0, 1) := by decide +kernel
theorem d_Md_more_40 : decode prog_8_method_9_code 40 = .ok (.getfield 13, 3) := by decide +kernel
theorem d_Md_more_43 : decode prog_8_method_9_code 43 = .ok (.iconst 4, 1) := by decide +kernel
theorem d_Md_more_44 : decode prog_8_method_9_code 44 = .ok (.iload_n 2, 1) := by decide +kernel
theorem d_Md_more_45 : decode prog_8_method_9_code 45 = .ok (.imul, 1) := by decide +kernel
theorem d_Md_more_46 : decode prog_8_method_9_code 46 = .ok (.iconst 2, 1) := by decide +kernel
theorem d_Md_more_47 : decode prog_8_method_9_code 47 = .ok (.iadd, 1) := by decide +kernel
theorem d_Md_more_48 : decode prog_8_method_9_code 48 = .ok (.iaload, 1) := by decide +kernel
theorem d_Md_more_49 : decode prog_8_method_9_code 49 = .ok (.aload_n 0, 1) := by decide +kernel
theorem d_Md_more_50 : decode prog_8_method_9_code 50 = .ok (.getfield 26, 3) := by decide +kernel
theorem d_Md_more_53 : decode prog_8_method_9_code 53 = .ok (.iconst 4, 1) := by decide +kernel
theorem d_Md_more_54 : decode prog_8_method_9_code 54 = .ok (.iload_n 1, 1) := by decide +kernel
theorem d_Md_more_55 : decode prog_8_method_9_code 55 = .ok (.imul, 1) := by decide +kernel
theorem d_Md_more_56 : decode prog_8_method_9_code 56 = .ok (.iconst 2, 1) := by decide +kernel
theorem d_Md_more_57 : decode prog_8_method_9_code 57 = .ok (.iadd, 1) := by decide +kernel
theorem d_Md_more_58 : decode prog_8_method_9_code 58 = .ok (.iaload, 1) := by decide +kernel
theorem d_Md_more_59 : decode prog_8_method_9_code 59 = .ok (.imul, 1) := by decide +kernel
theorem d_Md_more_60 : decode prog_8_method_9_code 60 = .ok (.iadd, 1) := by decide +kernel
theorem d_Md_more_61 : decode prog_8_method_9_code 61 = .ok (.aload_n 0, 1) := by decide +kernel
theorem d_Md_more_62 : decode prog_8_method_9_code 62 = .ok (.getfield 13, 3) := by decide +kernel
theorem d_Md_more_65 : decode prog_8_method_9_code 65 = .ok (.iconst 4, 1) := by decide +kernel
theorem d_Md_more_66 : decode prog_8_method_9_code 66 = .ok (.iload_n 2, 1) := by decide +kernel
theorem d_Md_more_67 : decode prog_8_method_9_code 67 = .ok (.imul, 1) := by decide +kernel
theorem d_Md_more_68 : decode prog_8_method_9_code 68 = .ok (.iconst 3, 1) := by decide +kernel
theorem d_Md_more_69 : decode prog_8_method_9_code 69 = .ok (.iadd, 1) := by decide +kernel
theorem d_Md_more_70 : decode prog_8_method_9_code 70 = .ok (.iaload, 1) := by decide +kernel
theorem d_Md_more_71 : decode prog_8_method_9_code 71 = .ok (.aload_n 0, 1) := by decide +kernel
theorem d_Md_more_72 : decode prog_8_method_9_code 72 = .ok (.getfield 26, 3) := by decide +kernel
theorem d_Md_more_75 : decode prog_8_method_9_code 75 = .ok (.iconst 4, 1) := by decide +kernel
theorem d_Md_more_76 : decode prog_8_method_9_code 76 = .ok (.iload_n 1, 1) := by decide +kernel
theorem d_Md_more_77 : decode prog_8_method_9_code 77 = .ok (.imul, 1) := by decide +kernel
theorem d_Md_more_78 : decode prog_8_method_9_code 78 = .ok (.iconst 3, 1) := by decide +kernel
theorem d_Md_more_79 : decode prog_8_method_9_code 79 = .ok (.iadd, 1) := by decide +kernel
theorem d_Md_more_80 : decode prog_8_method_9_code 80 = .ok (.iaload, 1) := by decide +kernel
theorem d_Md_more_81 : decode prog_8_method_9_code 81 = .ok (.imul, 1) := by decide +kernel
theorem d_Md_more_82 : decode prog_8_method_9_code 82 = .ok (.isub, 1) := by decide +kernel
theorem d_Md_more_83 : decode prog_8_method_9_code 83 = .ok (.ireturn, 1) := by decide +kernel
theorem d_Md_freeOf_0 : decode prog_8_method_15_code 0 = .ok (.iconst 0, 1) := by decide +kernel
theorem d_Md_freeOf_1 : decode prog_8_method_15_code 1 = .ok (.istore_n 3, 1) := by decide +kernel
theorem d_Md_freeOf_2 : decode prog_8_method_15_code 2 = .ok (.iconst 0, 1) := by decide +kernel
theorem d_Md_freeOf_3 : decode prog_8_method_15_code 3 = .ok (.istore 4, 2) := by decide +kernel
theorem d_Md_freeOf_5 : decode prog_8_method_15_code 5 = .ok (.iload 4, 2) := by decide +kernel
theorem d_Md_freeOf_7 : decode prog_8_method_15_code 7 = .ok (.aload_n 0, 1) := by decide +kernel
theorem d_Md_freeOf_8 : decode prog_8_method_15_code 8 = .ok (.getfield 94, 3) := by decide +kernel
theorem d_Md_freeOf_11 : decode prog_8_method_15_code 11 = .ok (.if_icmp .ge 48, 3) := by decide +kernel
theorem d_Md_freeOf_14 : decode prog_8_method_15_code 14 = .ok (.aload_n 0, 1) := by decide +kernel
theorem d_Md_freeOf_15 : decode prog_8_method_15_code 15 = .ok (.iload 4, 2) := by decide +kernel
theorem d_Md_freeOf_17 : decode prog_8_method_15_code 17 = .ok (.iload_n 1, 1) := by decide +kernel
theorem d_Md_freeOf_18 : decode prog_8_method_15_code 18 = .ok (.invokevirtual 127, 3) := by decide +kernel
theorem d_Md_freeOf_21 : decode prog_8_method_15_code 21 = .ok (.ifCond .eq 30, 3) := by decide +kernel
theorem d_Md_freeOf_24 : decode prog_8_method_15_code 24 = .ok (.aload_n 0, 1) := by decide +kernel
theorem d_Md_freeOf_25 : decode prog_8_method_15_code 25 = .ok (.getfield 29, 3) := by decide +kernel
theorem d_Md_freeOf_28 : decode prog_8_method_15_code 28 = .ok (.iload 4, 2) := by decide +kernel
theorem d_Md_freeOf_30 : decode prog_8_method_15_code 30 = .ok (.iaload, 1) := by decide +kernel
theorem d_Md_freeOf_31 : decode prog_8_method_15_code 31 = .ok (.iload_n 2, 1) := by decide +kernel
theorem d_Md_freeOf_32 : decode prog_8_method_15_code 32 = .ok (.iand, 1) := by decide +kernel
theorem d_Md_freeOf_33 : decode prog_8_method_15_code 33 = .ok (.iload_n 2, 1) := by decide +kernel
theorem d_Md_freeOf_34 : decode prog_8_method_15_code 34 = .ok (.if_icmp .ne 17, 3) := by decide +kernel
theorem d_Md_freeOf_37 : decode prog_8_method_15_code 37 = .ok (.iload_n 3, 1) := by decide +kernel
theorem d_Md_freeOf_38 : decode prog_8_method_15_code 38 = .ok (.aload_n 0, 1) := by decide +kernel
theorem d_Md_freeOf_39 : decode prog_8_method_15_code 39 = .ok (.getfield 29, 3) := by decide +kernel
theorem d_Md_freeOf_42 : decode prog_8_method_15_code 42 = .ok (.iload 4, 2) := by decide +kernel
theorem d_Md_freeOf_44 : decode prog_8_method_15_code 44 = .ok (.iaload, 1) := by decide +kernel
theorem d_Md_freeOf_45 : decode prog_8_method_15_code 45 = .ok (.iconst (-1), 1) := by decide +kernel
theorem d_Md_freeOf_46 : decode prog_8_method_15_code 46 = .ok (.ixor, 1) := by decide +kernel
theorem d_Md_freeOf_47 : decode prog_8_method_15_code 47 = .ok (.ior, 1) := by decide +kernel
theorem d_Md_freeOf_48 : decode prog_8_method_15_code 48 = .ok (.goto 4, 3) := by decide +kernel
theorem d_Md_freeOf_51 : decode prog_8_method_15_code 51 = .ok (.iload_n 3, 1) := by decide +kernel
theorem d_Md_freeOf_52 : decode prog_8_method_15_code 52 = .ok (.istore_n 3, 1) := by decide +kernel
theorem d_Md_freeOf_53 : decode prog_8_method_15_code 53 = .ok (.iinc 4 1, 3) := by decide +kernel
theorem d_Md_freeOf_56 : decode prog_8_method_15_code 56 = .ok (.goto (-51), 3) := by decide +kernel
theorem d_Md_freeOf_59 : decode prog_8_method_15_code 59 = .ok (.iload_n 3, 1) := by decide +kernel
theorem d_Md_freeOf_60 : decode prog_8_method_15_code 60 = .ok (.aload_n 0, 1) := by decide +kernel
theorem d_Md_freeOf_61 : decode prog_8_method_15_code 61 = .ok (.invokevirtual 120, 3) := by decide +kernel
theorem d_Md_freeOf_64 : decode prog_8_method_15_code 64 = .ok (.iand, 1) := by decide +kernel
theorem d_Md_freeOf_65 : decode prog_8_method_15_code 65 = .ok (.ireturn, 1) := by decide +kernel
theorem d_Md_isOf_0 : decode prog_8_method_14_code 0 = .ok (.aload_n 0, 1) := by decide +kernel
theorem d_Md_isOf_1 : decode prog_8_method_14_code 1 = .ok (.getfield 32, 3) := by decide +kernel
theorem d_Md_isOf_4 : decode prog_8_method_14_code 4 = .ok (.iload_n 1, 1) := by decide +kernel
theorem d_Md_isOf_5 : decode prog_8_method_14_code 5 = .ok (.iaload, 1) := by decide +kernel
theorem d_Md_isOf_6 : decode prog_8_method_14_code 6 = .ok (.iload_n 2, 1) := by decide +kernel
theorem d_Md_isOf_7 : decode prog_8_method_14_code 7 = .ok (.iconst (-1), 1) := by decide +kernel
theorem d_Md_isOf_8 : decode prog_8_method_14_code 8 = .ok (.ixor, 1) := by decide +kernel
theorem d_Md_isOf_9 : decode prog_8_method_14_code 9 = .ok (.iand, 1) := by decide +kernel
theorem d_Md_isOf_10 : decode prog_8_method_14_code 10 = .ok (.ifCond .ne 18, 3) := by decide +kernel
theorem d_Md_isOf_13 : decode prog_8_method_14_code 13 = .ok (.aload_n 0, 1) := by decide +kernel
theorem d_Md_isOf_14 : decode prog_8_method_14_code 14 = .ok (.getfield 35, 3) := by decide +kernel
theorem d_Md_isOf_17 : decode prog_8_method_14_code 17 = .ok (.iload_n 1, 1) := by decide +kernel
theorem d_Md_isOf_18 : decode prog_8_method_14_code 18 = .ok (.iaload, 1) := by decide +kernel
theorem d_Md_isOf_19 : decode prog_8_method_14_code 19 = .ok (.iload_n 2, 1) := by decide +kernel
theorem d_Md_isOf_20 : decode prog_8_method_14_code 20 = .ok (.iand, 1) := by decide +kernel
theorem d_Md_isOf_21 : decode prog_8_method_14_code 21 = .ok (.ifCond .ne 7, 3) := by decide +kernel
theorem d_Md_isOf_24 : decode prog_8_method_14_code 24 = .ok (.iconst 1, 1) := by decide +kernel
theorem d_Md_isOf_25 : decode prog_8_method_14_code 25 = .ok (.goto 4, 3) := by decide +kernel
theorem d_Md_isOf_28 : decode prog_8_method_14_code 28 = .ok (.iconst 0, 1) := by decide +kernel
theorem d_Md_isOf_29 : decode prog_8_method_14_code 29 = .ok (.ireturn, 1) := by decide +kernel
theorem d_Md_all_0 : decode prog_8_method_13_code 0 = .ok (.iconst 1, 1) := by decide +kernel
theorem d_Md_all_1 : decode prog_8_method_13_code 1 = .ok (.aload_n 0, 1) := by decide +kernel
theorem d_Md_all_2 : decode prog_8_method_13_code 2 = .ok (.getfield 83, 3) := by decide +kernel
theorem d_Md_all_5 : decode prog_8_method_13_code 5 = .ok (.ishl, 1) := by decide +kernel
theorem d_Md_all_6 : decode prog_8_method_13_code 6 = .ok (.iconst 1, 1) := by decide +kernel
theorem d_Md_all_7 : decode prog_8_method_13_code 7 = .ok (.isub, 1) := by decide +kernel
theorem d_Md_all_8 : decode prog_8_method_13_code 8 = .ok (.sipush 4032, 3) := by decide +kernel
theorem d_Md_all_11 : decode prog_8_method_13_code 11 = .ok (.iadd, 1) := by decide +kernel
theorem d_Md_all_12 : decode prog_8_method_13_code 12 = .ok (.ireturn, 1) := by decide +kernel
theorem d_Md_findFaces_0 : decode prog_8_method_16_code 0 = .ok (.iconst 0, 1) := by decide +kernel
theorem d_Md_findFaces_1 : decode prog_8_method_16_code 1 = .ok (.istore_n 2, 1) := by decide +kernel
theorem d_Md_findFaces_2 : decode prog_8_method_16_code 2 = .ok (.iconst 0, 1) := by decide +kernel
theorem d_Md_findFaces_3 : decode prog_8_method_16_code 3 = .ok (.istore_n 3, 1) := by decide +kernel
theorem d_Md_findFaces_4 : decode prog_8_method_16_code 4 = .ok (.iload_n 3, 1) := by decide +kernel
theorem d_Md_findFaces_5 : decode prog_8_method_16_code 5 = .ok (.bipush 12, 2) := by decide +kernel
theorem d_Md_findFaces_7 : decode prog_8_method_16_code 7 = .ok (.if_icmp .ge 44, 3) := by decide +kernel
theorem d_Md_findFaces_10 : decode prog_8_method_16_code 10 = .ok (.aload_n 0, 1) := by decide +kernel
theorem d_Md_findFaces_11 : decode prog_8_method_16_code 11 = .ok (.iload_n 3, 1) := by decide +kernel
theorem d_Md_findFaces_12 : decode prog_8_method_16_code 12 = .ok (.invokevirtual 100, 3) := by decide +kernel
theorem d_Md_findFaces_15 : decode prog_8_method_16_code 15 = .ok (.ifCond .eq 30, 3) := by decide +kernel
theorem d_Md_findFaces_18 : decode prog_8_method_16_code 18 = .ok (.aload_n 0, 1) := by decide +kernel
theorem d_Md_findFaces_19 : decode prog_8_method_16_code 19 = .ok (.iload_n 1, 1) := by decide +kernel
theorem d_Md_findFaces_20 : decode prog_8_method_16_code 20 = .ok (.iconst 1, 1) := by decide +kernel
theorem d_Md_findFaces_21 : decode prog_8_method_16_code 21 = .ok (.iload_n 3, 1) := by decide +kernel
theorem d_Md_findFaces_22 : decode prog_8_method_16_code 22 = .ok (.ishl, 1) := by decide +kernel
theorem d_Md_findFaces_23 : decode prog_8_method_16_code 23 = .ok (.invokevirtual 117, 3) := by decide +kernel
theorem d_Md_findFaces_26 : decode prog_8_method_16_code 26 = .ok (.aload_n 0, 1) := by decide +kernel
theorem d_Md_findFaces_27 : decode prog_8_method_16_code 27 = .ok (.invokevirtual 120, 3) := by decide +kernel
theorem d_Md_findFaces_30 : decode prog_8_method_16_code 30 = .ok (.iconst 1, 1) := by decide +kernel
theorem d_Md_findFaces_31 : decode prog_8_method_16_code 31 = .ok (.iload_n 3, 1) := by decide +kernel
theorem d_Md_findFaces_32 : decode prog_8_method_16_code 32 = .ok (.ishl, 1) := by decide +kernel
theorem d_Md_findFaces_33 : decode prog_8_method_16_code 33 = .ok (.iconst (-1), 1) := by decide +kernel
theorem d_Md_findFaces_34 : decode prog_8_method_16_code 34 = .ok (.ixor, 1) := by decide +kernel
theorem d_Md_findFaces_35 : decode prog_8_method_16_code 35 = .ok (.iand, 1) := by decide +kernel
theorem d_Md_findFaces_36 : decode prog_8_method_16_code 36 = .ok (.if_icmp .ne 9, 3) := by decide +kernel
theorem d_Md_findFaces_39 : decode prog_8_method_16_code 39 = .ok (.iload_n 2, 1) := by decide +kernel
theorem d_Md_findFaces_40 : decode prog_8_method_16_code 40 = .ok (.iconst 1, 1) := by decide +kernel
theorem d_Md_findFaces_41 : decode prog_8_method_16_code 41 = .ok (.iload_n 3, 1) := by decide +kernel
theorem d_Md_findFaces_42 : decode prog_8_method_16_code 42 = .ok (.ishl, 1) := by decide +kernel
theorem d_Md_findFaces_43 : decode prog_8_method_16_code 43 = .ok (.ior, 1) := by decide +kernel
theorem d_Md_findFaces_44 : decode prog_8_method_16_code 44 = .ok (.istore_n 2, 1) := by decide +kernel
theorem d_Md_findFaces_45 : decode prog_8_method_16_code 45 = .ok (.iinc 3 1, 3) := by decide +kernel
theorem d_Md_findFaces_48 : decode prog_8_method_16_code 48 = .ok (.goto (-44), 3) := by decide +kernel
theorem d_Md_findFaces_51 : decode prog_8_method_16_code 51 = .ok (.iload_n 2, 1) := by decide +kernel
theorem d_Md_findFaces_52 : decode prog_8_method_16_code 52 = .ok (.ireturn, 1) := by decide +kernel
theorem d_Md_thrown_0 : decode prog_8_method_2_code 0 = .ok (.aload_n 0, 1) := by decide +kernel
theorem d_Md_thrown_1 : decode prog_8_method_2_code 1 = .ok (.getfield 75, 3) := by decide +kernel
theorem d_Md_thrown_4 : decode prog_8_method_2_code 4 = .ok (.ireturn, 1) := by decide +kernel
theorem d_Md_joint_0 : decode prog_8_method_19_code 0 = .ok (.aload_n 0, 1) := by decide +kernel
theorem d_Md_joint_1 : decode prog_8_method_19_code 1 = .ok (.aload_n 0, 1) := by decide +kernel
theorem d_Md_joint_2 : decode prog_8_method_19_code 2 = .ok (.iload_n 1, 1) := by decide +kernel
theorem d_Md_joint_3 : decode prog_8_method_19_code 3 = .ok (.iload_n 2, 1) := by decide +kernel
theorem d_Md_joint_4 : decode prog_8_method_19_code 4 = .ok (.iload_n 3, 1) := by decide +kernel
theorem d_Md_joint_5 : decode prog_8_method_19_code 5 = .ok (.iload 4, 2) := by decide +kernel
theorem d_Md_joint_7 : decode prog_8_method_19_code 7 = .ok (.invokevirtual 139, 3) := by decide +kernel
theorem d_Md_joint_10 : decode prog_8_method_19_code 10 = .ok (.ifCond .ne 7, 3) := by decide +kernel
theorem d_Md_joint_13 : decode prog_8_method_19_code 13 = .ok (.iconst 1, 1) := by decide +kernel
theorem d_Md_joint_14 : decode prog_8_method_19_code 14 = .ok (.goto 17, 3) := by decide +kernel
theorem d_Md_joint_17 : decode prog_8_method_19_code 17 = .ok (.aload_n 0, 1) := by decide +kernel
theorem d_Md_joint_18 : decode prog_8_method_19_code 18 = .ok (.getfield 83, 3) := by decide +kernel
theorem d_Md_joint_21 : decode prog_8_method_19_code 21 = .ok (.bipush 6, 2) := by decide +kernel
theorem d_Md_joint_23 : decode prog_8_method_19_code 23 = .ok (.if_icmp .ne 7, 3) := by decide +kernel
theorem d_Md_joint_26 : decode prog_8_method_19_code 26 = .ok (.iconst 2, 1) := by decide +kernel
theorem d_Md_joint_27 : decode prog_8_method_19_code 27 = .ok (.goto 4, 3) := by decide +kernel
theorem d_Md_joint_30 : decode prog_8_method_19_code 30 = .ok (.iconst 0, 1) := by decide +kernel
theorem d_Md_joint_31 : decode prog_8_method_19_code 31 = .ok (.putfield 75, 3) := by decide +kernel
theorem d_Md_joint_34 : decode prog_8_method_19_code 34 = .ok (.aload_n 0, 1) := by decide +kernel
theorem d_Md_joint_35 : decode prog_8_method_19_code 35 = .ok (.getfield 75, 3) := by decide +kernel
theorem d_Md_joint_38 : decode prog_8_method_19_code 38 = .ok (.ifCond .le 5, 3) := by decide +kernel
theorem d_Md_joint_41 : decode prog_8_method_19_code 41 = .ok (.iconst 0, 1) := by decide +kernel
theorem d_Md_joint_42 : decode prog_8_method_19_code 42 = .ok (.ireturn, 1) := by decide +kernel
theorem d_Md_joint_43 : decode prog_8_method_19_code 43 = .ok (.aload_n 0, 1) := by decide +kernel
theorem d_Md_joint_44 : decode prog_8_method_19_code 44 = .ok (.getfield 13, 3) := by decide +kernel
theorem d_Md_joint_47 : decode prog_8_method_19_code 47 = .ok (.iconst 4, 1) := by decide +kernel
theorem d_Md_joint_48 : decode prog_8_method_19_code 48 = .ok (.aload_n 0, 1) := by decide +kernel
theorem d_Md_joint_49 : decode prog_8_method_19_code 49 = .ok (.getfield 83, 3) := by decide +kernel
theorem d_Md_joint_52 : decode prog_8_method_19_code 52 = .ok (.imul, 1) := by decide +kernel
theorem d_Md_joint_53 : decode prog_8_method_19_code 53 = .ok (.iload_n 1, 1) := by decide +kernel
theorem d_Md_joint_54 : decode prog_8_method_19_code 54 = .ok (.iastore, 1) := by decide +kernel
theorem d_Md_joint_55 : decode prog_8_method_19_code 55 = .ok (.aload_n 0, 1) := by decide +kernel
theorem d_Md_joint_56 : decode prog_8_method_19_code 56 = .ok (.getfield 13, 3) := by decide +kernel
theorem d_Md_joint_59 : decode prog_8_method_19_code 59 = .ok (.iconst 4, 1) := by decide +kernel
theorem d_Md_joint_60 : decode prog_8_method_19_code 60 = .ok (.aload_n 0, 1) := by decide +kernel
theorem d_Md_joint_61 : decode prog_8_method_19_code 61 = .ok (.getfield 83, 3) := by decide +kernel
theorem d_Md_joint_64 : decode prog_8_method_19_code 64 = .ok (.imul, 1) := by decide +kernel
theorem d_Md_joint_65 : decode prog_8_method_19_code 65 = .ok (.iconst 1, 1) := by decide +kernel
theorem d_Md_joint_66 : decode prog_8_method_19_code 66 = .ok (.iadd, 1) := by decide +kernel
theorem d_Md_joint_67 : decode prog_8_method_19_code 67 = .ok (.iload_n 2, 1) := by decide +kernel
theorem d_Md_joint_68 : decode prog_8_method_19_code 68 = .ok (.iastore, 1) := by decide +kernel
theorem d_Md_joint_69 : decode prog_8_method_19_code 69 = .ok (.aload_n 0, 1) := by decide +kernel
theorem d_Md_joint_70 : decode prog_8_method_19_code 70 = .ok (.getfield 13, 3) := by decide +kernel
theorem d_Md_joint_73 : decode prog_8_method_19_code 73 = .ok (.iconst 4, 1) := by decide +kernel
theorem d_Md_joint_74 : decode prog_8_method_19_code 74 = .ok (.aload_n 0, 1) := by decide +kernel
theorem d_Md_joint_75 : decode prog_8_method_19_code 75 = .ok (.getfield 83, 3) := by decide +kernel
theorem d_Md_joint_78 : decode prog_8_method_19_code 78 = .ok (.imul, 1) := by decide +kernel
theorem d_Md_joint_79 : decode prog_8_method_19_code 79 = .ok (.iconst 2, 1) := by decide +kernel
theorem d_Md_joint_80 : decode prog_8_method_19_code 80 = .ok (.iadd, 1) := by decide +kernel
theorem d_Md_joint_81 : decode prog_8_method_19_code 81 = .ok (.iload_n 3, 1) := by decide +kernel
theorem d_Md_joint_82 : decode prog_8_method_19_code 82 = .ok (.iastore, 1) := by decide +kernel
theorem d_Md_joint_83 : decode prog_8_method_19_code 83 = .ok (.aload_n 0, 1) := by decide +kernel
theorem d_Md_joint_84 : decode prog_8_method_19_code 84 = .ok (.getfield 13, 3) := by decide +kernel
theorem d_Md_joint_87 : decode prog_8_method_19_code 87 = .ok (.iconst 4, 1) := by decide +kernel
theorem d_Md_joint_88 : decode prog_8_method_19_code 88 = .ok (.aload_n 0, 1) := by decide +kernel
theorem d_Md_joint_89 : decode prog_8_method_19_code 89 = .ok (.getfield 83, 3) := by decide +kernel
theorem d_Md_joint_92 : decode prog_8_method_19_code 92 = .ok (.imul, 1) := by decide +kernel
theorem d_Md_joint_93 : decode prog_8_method_19_code 93 = .ok (.iconst 3, 1) := by decide +kernel
theorem d_Md_joint_94 : decode prog_8_method_19_code 94 = .ok (.iadd, 1) := by decide +kernel
theorem d_Md_joint_95 : decode prog_8_method_19_code 95 = .ok (.iload 4, 2) := by decide +kernel
theorem d_Md_joint_97 : decode prog_8_method_19_code 97 = .ok (.iastore, 1) := by decide +kernel
theorem d_Md_joint_98 : decode prog_8_method_19_code 98 = .ok (.aload_n 0, 1) := by decide +kernel
theorem d_Md_joint_99 : decode prog_8_method_19_code 99 = .ok (.dup, 1) := by decide +kernel
theorem d_Md_joint_100 : decode prog_8_method_19_code 100 = .ok (.getfield 83, 3) := by decide +kernel
theorem d_Md_joint_103 : decode prog_8_method_19_code 103 = .ok (.iconst 1, 1) := by decide +kernel
theorem d_Md_joint_104 : decode prog_8_method_19_code 104 = .ok (.iadd, 1) := by decide +kernel
theorem d_Md_joint_105 : decode prog_8_method_19_code 105 = .ok (.putfield 83, 3) := by decide +kernel
theorem d_Md_joint_108 : decode prog_8_method_19_code 108 = .ok (.aload_n 0, 1) := by decide +kernel
theorem d_Md_joint_109 : decode prog_8_method_19_code 109 = .ok (.invokevirtual 72, 3) := by decide +kernel
theorem d_Md_joint_112 : decode prog_8_method_19_code 112 = .ok (.aload_n 0, 1) := by decide +kernel
theorem d_Md_joint_113 : decode prog_8_method_19_code 113 = .ok (.getfield 83, 3) := by decide +kernel
theorem d_Md_joint_116 : decode prog_8_method_19_code 116 = .ok (.iconst 1, 1) := by decide +kernel
theorem d_Md_joint_117 : decode prog_8_method_19_code 117 = .ok (.isub, 1) := by decide +kernel
theorem d_Md_joint_118 : decode prog_8_method_19_code 118 = .ok (.ireturn, 1) := by decide +kernel
theorem d_Md_isRight_0 : decode prog_8_method_18_code 0 = .ok (.iload_n 1, 1) := by decide +kernel
theorem d_Md_isRight_1 : decode prog_8_method_18_code 1 = .ok (.bipush (-6), 2) := by decide +kernel
theorem d_Md_isRight_3 : decode prog_8_method_18_code 3 = .ok (.bipush 6, 2) := by decide +kernel
theorem d_Md_isRight_5 : decode prog_8_method_18_code 5 = .ok (.invokestatic 131, 3) := by decide +kernel
theorem d_Md_isRight_8 : decode prog_8_method_18_code 8 = .ok (.ifCond .eq 53, 3) := by decide +kernel
theorem d_Md_isRight_11 : decode prog_8_method_18_code 11 = .ok (.iload_n 2, 1) := by decide +kernel
theorem d_Md_isRight_12 : decode prog_8_method_18_code 12 = .ok (.bipush (-6), 2) := by decide +kernel
theorem d_Md_isRight_14 : decode prog_8_method_18_code 14 = .ok (.bipush 6, 2) := by decide +kernel
theorem d_Md_isRight_16 : decode prog_8_method_18_code 16 = .ok (.invokestatic 131, 3) := by decide +kernel
theorem d_Md_isRight_19 : decode prog_8_method_18_code 19 = .ok (.ifCond .eq 42, 3) := by decide +kernel
theorem d_Md_isRight_22 : decode prog_8_method_18_code 22 = .ok (.iload_n 3, 1) := by decide +kernel
theorem d_Md_isRight_23 : decode prog_8_method_18_code 23 = .ok (.bipush (-6), 2) := by decide +kernel
theorem d_Md_isRight_25 : decode prog_8_method_18_code 25 = .ok (.bipush 6, 2) := by decide +kernel
theorem d_Md_isRight_27 : decode prog_8_method_18_code 27 = .ok (.invokestatic 131, 3) := by decide +kernel
theorem d_Md_isRight_30 : decode prog_8_method_18_code 30 = .ok (.ifCond .eq 31, 3) := by decide +kernel
theorem d_Md_isRight_33 : decode prog_8_method_18_code 33 = .ok (.iload 4, 2) := by decide +kernel
theorem d_Md_isRight_35 : decode prog_8_method_18_code 35 = .ok (.bipush (-100), 2) := by decide +kernel
theorem d_Md_isRight_37 : decode prog_8_method_18_code 37 = .ok (.bipush 100, 2) := by decide +kernel
theorem d_Md_isRight_39 : decode prog_8_method_18_code 39 = .ok (.invokestatic 131, 3) := by decide +kernel
theorem d_Md_isRight_42 : decode prog_8_method_18_code 42 = .ok (.ifCond .eq 19, 3) := by decide +kernel
theorem d_Md_isRight_45 : decode prog_8_method_18_code 45 = .ok (.iload_n 1, 1) := by decide +kernel
theorem d_Md_isRight_46 : decode prog_8_method_18_code 46 = .ok (.ifCond .ne 11, 3) := by decide +kernel
theorem d_Md_isRight_49 : decode prog_8_method_18_code 49 = .ok (.iload_n 2, 1) := by decide +kernel
theorem d_Md_isRight_50 : decode prog_8_method_18_code 50 = .ok (.ifCond .ne 7, 3) := by decide +kernel
theorem d_Md_isRight_53 : decode prog_8_method_18_code 53 = .ok (.iload_n 3, 1) := by decide +kernel
theorem d_Md_isRight_54 : decode prog_8_method_18_code 54 = .ok (.ifCond .eq 7, 3) := by decide +kernel
theorem d_Md_isRight_57 : decode prog_8_method_18_code 57 = .ok (.iconst 1, 1) := by decide +kernel
theorem d_Md_isRight_58 : decode prog_8_method_18_code 58 = .ok (.goto 4, 3) := by decide +kernel
theorem d_Md_isRight_61 : decode prog_8_method_18_code 61 = .ok (.iconst 0, 1) := by decide +kernel
theorem d_Md_isRight_62 : decode prog_8_method_18_code 62 = .ok (.istore 5, 2) := by decide +kernel
theorem d_Md_isRight_64 : decode prog_8_method_18_code 64 = .ok (.iload 5, 2) := by decide +kernel
theorem d_Md_isRight_66 : decode prog_8_method_18_code 66 = .ok (.ifCond .ne 5, 3) := by decide +kernel
theorem d_Md_isRight_69 : decode prog_8_method_18_code 69 = .ok (.iconst 0, 1) := by decide +kernel
theorem d_Md_isRight_70 : decode prog_8_method_18_code 70 = .ok (.ireturn, 1) := by decide +kernel
theorem d_Md_isRight_71 : decode prog_8_method_18_code 71 = .ok (.iconst 0, 1) := by decide +kernel
theorem d_Md_isRight_72 : decode prog_8_method_18_code 72 = .ok (.istore 6, 2) := by decide +kernel
theorem d_Md_isRight_74 : decode prog_8_method_18_code 74 = .ok (.iconst 0, 1) := by decide +kernel
theorem d_Md_isRight_75 : decode prog_8_method_18_code 75 = .ok (.istore 7, 2) := by decide +kernel
theorem d_Md_isRight_77 : decode prog_8_method_18_code 77 = .ok (.iconst 0, 1) := by decide +kernel
theorem d_Md_isRight_78 : decode prog_8_method_18_code 78 = .ok (.istore 8, 2) := by decide +kernel
theorem d_Md_isRight_80 : decode prog_8_method_18_code 80 = .ok (.iload 8, 2) := by decide +kernel
theorem d_Md_isRight_82 : decode prog_8_method_18_code 82 = .ok (.iconst 3, 1) := by decide +kernel
theorem d_Md_isRight_83 : decode prog_8_method_18_code 83 = .ok (.if_icmp .ge 73, 3) := by decide +kernel
theorem d_Md_isRight_86 : decode prog_8_method_18_code 86 = .ok (.iload 8, 2) := by decide +kernel
theorem d_Md_isRight_88 : decode prog_8_method_18_code 88 = .ok (.ifCond .ne 7, 3) := by decide +kernel
theorem d_Md_isRight_91 : decode prog_8_method_18_code 91 = .ok (.iload_n 1, 1) := by decide +kernel
theorem d_Md_isRight_92 : decode prog_8_method_18_code 92 = .ok (.goto 14, 3) := by decide +kernel
theorem d_Md_isRight_95 : decode prog_8_method_18_code 95 = .ok (.iload 8, 2) := by decide +kernel
theorem d_Md_isRight_97 : decode prog_8_method_18_code 97 = .ok (.iconst 1, 1) := by decide +kernel
theorem d_Md_isRight_98 : decode prog_8_method_18_code 98 = .ok (.if_icmp .ne 7, 3) := by decide +kernel
theorem d_Md_isRight_101 : decode prog_8_method_18_code 101 = .ok (.iload_n 2, 1) := by decide +kernel
theorem d_Md_isRight_102 : decode prog_8_method_18_code 102 = .ok (.goto 4, 3) := by decide +kernel
theorem d_Md_isRight_105 : decode prog_8_method_18_code 105 = .ok (.iload_n 3, 1) := by decide +kernel
theorem d_Md_isRight_106 : decode prog_8_method_18_code 106 = .ok (.aload_n 0, 1) := by decide +kernel
theorem d_Md_isRight_107 : decode prog_8_method_18_code 107 = .ok (.getfield 7, 3) := by decide +kernel
theorem d_Md_isRight_110 : decode prog_8_method_18_code 110 = .ok (.iload 8, 2) := by decide +kernel
theorem d_Md_isRight_112 : decode prog_8_method_18_code 112 = .ok (.iaload, 1) := by decide +kernel
theorem d_Md_isRight_113 : decode prog_8_method_18_code 113 = .ok (.imul, 1) := by decide +kernel
theorem d_Md_isRight_114 : decode prog_8_method_18_code 114 = .ok (.istore 9, 2) := by decide +kernel
theorem d_Md_isRight_116 : decode prog_8_method_18_code 116 = .ok (.iload 9, 2) := by decide +kernel
theorem d_Md_isRight_118 : decode prog_8_method_18_code 118 = .ok (.ifCond .ge 11, 3) := by decide +kernel
theorem d_Md_isRight_121 : decode prog_8_method_18_code 121 = .ok (.iload 6, 2) := by decide +kernel
theorem d_Md_isRight_123 : decode prog_8_method_18_code 123 = .ok (.iload 9, 2) := by decide +kernel
theorem d_Md_isRight_125 : decode prog_8_method_18_code 125 = .ok (.iadd, 1) := by decide +kernel
theorem d_Md_isRight_126 : decode prog_8_method_18_code 126 = .ok (.goto 5, 3) := by decide +kernel
theorem d_Md_isRight_129 : decode prog_8_method_18_code 129 = .ok (.iload 6, 2) := by decide +kernel
theorem d_Md_isRight_131 : decode prog_8_method_18_code 131 = .ok (.istore 6, 2) := by decide +kernel
theorem d_Md_isRight_133 : decode prog_8_method_18_code 133 = .ok (.iload 9, 2) := by decide +kernel
theorem d_Md_isRight_135 : decode prog_8_method_18_code 135 = .ok (.ifCond .le 11, 3) := by decide +kernel
theorem d_Md_isRight_138 : decode prog_8_method_18_code 138 = .ok (.iload 7, 2) := by decide +kernel
theorem d_Md_isRight_140 : decode prog_8_method_18_code 140 = .ok (.iload 9, 2) := by decide +kernel
theorem d_Md_isRight_142 : decode prog_8_method_18_code 142 = .ok (.iadd, 1) := by decide +kernel
theorem d_Md_isRight_143 : decode prog_8_method_18_code 143 = .ok (.goto 5, 3) := by decide +kernel
theorem d_Md_isRight_146 : decode prog_8_method_18_code 146 = .ok (.iload 7, 2) := by decide +kernel
theorem d_Md_isRight_148 : decode prog_8_method_18_code 148 = .ok (.istore 7, 2) := by decide +kernel
theorem d_Md_isRight_150 : decode prog_8_method_18_code 150 = .ok (.iinc 8 1, 3) := by decide +kernel
theorem d_Md_isRight_153 : decode prog_8_method_18_code 153 = .ok (.goto (-73), 3) := by decide +kernel
theorem d_Md_isRight_156 : decode prog_8_method_18_code 156 = .ok (.iload 6, 2) := by decide +kernel
theorem d_Md_isRight_158 : decode prog_8_method_18_code 158 = .ok (.iload 4, 2) := by decide +kernel
theorem d_Md_isRight_160 : decode prog_8_method_18_code 160 = .ok (.if_icmp .ge 14, 3) := by decide +kernel
theorem d_Md_isRight_163 : decode prog_8_method_18_code 163 = .ok (.iload 4, 2) := by decide +kernel
theorem d_Md_isRight_165 : decode prog_8_method_18_code 165 = .ok (.iload 7, 2) := by decide +kernel
theorem d_Md_isRight_167 : decode prog_8_method_18_code 167 = .ok (.if_icmp .ge 7, 3) := by decide +kernel
theorem d_Md_isRight_170 : decode prog_8_method_18_code 170 = .ok (.iconst 1, 1) := by decide +kernel
theorem d_Md_isRight_171 : decode prog_8_method_18_code 171 = .ok (.goto 4, 3) := by decide +kernel
theorem d_Md_isRight_174 : decode prog_8_method_18_code 174 = .ok (.iconst 0, 1) := by decide +kernel
theorem d_Md_isRight_175 : decode prog_8_method_18_code 175 = .ok (.istore 5, 2) := by decide +kernel
theorem d_Md_isRight_177 : decode prog_8_method_18_code 177 = .ok (.iconst 0, 1) := by decide +kernel
theorem d_Md_isRight_178 : decode prog_8_method_18_code 178 = .ok (.istore 8, 2) := by decide +kernel
theorem d_Md_isRight_180 : decode prog_8_method_18_code 180 = .ok (.iload 8, 2) := by decide +kernel
theorem d_Md_isRight_182 : decode prog_8_method_18_code 182 = .ok (.aload_n 0, 1) := by decide +kernel
theorem d_Md_isRight_183 : decode prog_8_method_18_code 183 = .ok (.getfield 83, 3) := by decide +kernel
theorem d_Md_isRight_186 : decode prog_8_method_18_code 186 = .ok (.if_icmp .ge 35, 3) := by decide +kernel
theorem d_Md_isRight_189 : decode prog_8_method_18_code 189 = .ok (.iload 5, 2) := by decide +kernel
theorem d_Md_isRight_191 : decode prog_8_method_18_code 191 = .ok (.ifCond .eq 21, 3) := by decide +kernel
theorem d_Md_isRight_194 : decode prog_8_method_18_code 194 = .ok (.aload_n 0, 1) := by decide +kernel
theorem d_Md_isRight_195 : decode prog_8_method_18_code 195 = .ok (.iload_n 1, 1) := by decide +kernel
theorem d_Md_isRight_196 : decode prog_8_method_18_code 196 = .ok (.iload_n 2, 1) := by decide +kernel
theorem d_Md_isRight_197 : decode prog_8_method_18_code 197 = .ok (.iload_n 3, 1) := by decide +kernel
theorem d_Md_isRight_198 : decode prog_8_method_18_code 198 = .ok (.iload 4, 2) := by decide +kernel
theorem d_Md_isRight_200 : decode prog_8_method_18_code 200 = .ok (.iload 8, 2) := by decide +kernel
theorem d_Md_isRight_202 : decode prog_8_method_18_code 202 = .ok (.invokevirtual 135, 3) := by decide +kernel
theorem d_Md_isRight_205 : decode prog_8_method_18_code 205 = .ok (.ifCond .ne 7, 3) := by decide +kernel
theorem d_Md_isRight_208 : decode prog_8_method_18_code 208 = .ok (.iconst 1, 1) := by decide +kernel
theorem d_Md_isRight_209 : decode prog_8_method_18_code 209 = .ok (.goto 4, 3) := by decide +kernel
theorem d_Md_isRight_212 : decode prog_8_method_18_code 212 = .ok (.iconst 0, 1) := by decide +kernel
theorem d_Md_isRight_213 : decode prog_8_method_18_code 213 = .ok (.istore 5, 2) := by decide +kernel
theorem d_Md_isRight_215 : decode prog_8_method_18_code 215 = .ok (.iinc 8 1, 3) := by decide +kernel
theorem d_Md_isRight_218 : decode prog_8_method_18_code 218 = .ok (.goto (-38), 3) := by decide +kernel
theorem d_Md_isRight_221 : decode prog_8_method_18_code 221 = .ok (.iload 5, 2) := by decide +kernel
theorem d_Md_isRight_223 : decode prog_8_method_18_code 223 = .ok (.ireturn, 1) := by decide +kernel
theorem d_Md_in_0 : decode prog_8_method_4_code 0 = .ok (.iload_n 0, 1) := by decide +kernel
theorem d_Md_in_1 : decode prog_8_method_4_code 1 = .ok (.iload_n 1, 1) := by decide +kernel
theorem d_Md_in_2 : decode prog_8_method_4_code 2 = .ok (.if_icmp .lt 12, 3) := by decide +kernel
theorem d_Md_in_5 : decode prog_8_method_4_code 5 = .ok (.iload_n 0, 1) := by decide +kernel
theorem d_Md_in_6 : decode prog_8_method_4_code 6 = .ok (.iload_n 2, 1) := by decide +kernel
theorem d_Md_in_7 : decode prog_8_method_4_code 7 = .ok (.if_icmp .gt 7, 3) := by decide +kernel
theorem d_Md_in_10 : decode prog_8_method_4_code 10 = .ok (.iconst 1, 1) := by decide +kernel
theorem d_Md_in_11 : decode prog_8_method_4_code 11 = .ok (.goto 4, 3) := by decide +kernel
theorem d_Md_in_14 : decode prog_8_method_4_code 14 = .ok (.iconst 0, 1) := by decide +kernel
theorem d_Md_in_15 : decode prog_8_method_4_code 15 = .ok (.ireturn, 1) := by decide +kernel
theorem d_Md_isSame_0 : decode prog_8_method_17_code 0 = .ok (.aload_n 0, 1) := by decide +kernel
theorem d_Md_isSame_1 : decode prog_8_method_17_code 1 = .ok (.getfield 13, 3) := by decide +kernel
theorem d_Md_isSame_4 : decode prog_8_method_17_code 4 = .ok (.iconst 4, 1) := by decide +kernel
theorem d_Md_isSame_5 : decode prog_8_method_17_code 5 = .ok (.iload 5, 2) := by decide +kernel
theorem d_Md_isSame_7 : decode prog_8_method_17_code 7 = .ok (.imul, 1) := by decide +kernel
theorem d_Md_isSame_8 : decode prog_8_method_17_code 8 = .ok (.iaload, 1) := by decide +kernel
theorem d_Md_isSame_9 : decode prog_8_method_17_code 9 = .ok (.istore 6, 2) := by decide +kernel
theorem d_Md_isSame_11 : decode prog_8_method_17_code 11 = .ok (.aload_n 0, 1) := by decide +kernel
theorem d_Md_isSame_12 : decode prog_8_method_17_code 12 = .ok (.getfield 13, 3) := by decide +kernel
theorem d_Md_isSame_15 : decode prog_8_method_17_code 15 = .ok (.iconst 4, 1) := by decide +kernel
theorem d_Md_isSame_16 : decode prog_8_method_17_code 16 = .ok (.iload 5, 2) := by decide +kernel
theorem d_Md_isSame_18 : decode prog_8_method_17_code 18 = .ok (.imul, 1) := by decide +kernel
theorem d_Md_isSame_19 : decode prog_8_method_17_code 19 = .ok (.iconst 1, 1) := by decide +kernel
theorem d_Md_isSame_20 : decode prog_8_method_17_code 20 = .ok (.iadd, 1) := by decide +kernel
theorem d_Md_isSame_21 : decode prog_8_method_17_code 21 = .ok (.iaload, 1) := by decide +kernel
theorem d_Md_isSame_22 : decode prog_8_method_17_code 22 = .ok (.istore 7, 2) := by decide +kernel
theorem d_Md_isSame_24 : decode prog_8_method_17_code 24 = .ok (.aload_n 0, 1) := by decide +kernel
theorem d_Md_isSame_25 : decode prog_8_method_17_code 25 = .ok (.getfield 13, 3) := by decide +kernel
theorem d_Md_isSame_28 : decode prog_8_method_17_code 28 = .ok (.iconst 4, 1) := by decide +kernel
theorem d_Md_isSame_29 : decode prog_8_method_17_code 29 = .ok (.iload 5, 2) := by decide +kernel
theorem d_Md_isSame_31 : decode prog_8_method_17_code 31 = .ok (.imul, 1) := by decide +kernel
theorem d_Md_isSame_32 : decode prog_8_method_17_code 32 = .ok (.iconst 2, 1) := by decide +kernel
theorem d_Md_isSame_33 : decode prog_8_method_17_code 33 = .ok (.iadd, 1) := by decide +kernel
theorem d_Md_isSame_34 : decode prog_8_method_17_code 34 = .ok (.iaload, 1) := by decide +kernel
theorem d_Md_isSame_35 : decode prog_8_method_17_code 35 = .ok (.istore 8, 2) := by decide +kernel
theorem d_Md_isSame_37 : decode prog_8_method_17_code 37 = .ok (.aload_n 0, 1) := by decide +kernel
theorem d_Md_isSame_38 : decode prog_8_method_17_code 38 = .ok (.getfield 13, 3) := by decide +kernel
theorem d_Md_isSame_41 : decode prog_8_method_17_code 41 = .ok (.iconst 4, 1) := by decide +kernel
theorem d_Md_isSame_42 : decode prog_8_method_17_code 42 = .ok (.iload 5, 2) := by decide +kernel
theorem d_Md_isSame_44 : decode prog_8_method_17_code 44 = .ok (.imul, 1) := by decide +kernel
theorem d_Md_isSame_45 : decode prog_8_method_17_code 45 = .ok (.iconst 3, 1) := by decide +kernel
theorem d_Md_isSame_46 : decode prog_8_method_17_code 46 = .ok (.iadd, 1) := by decide +kernel
theorem d_Md_isSame_47 : decode prog_8_method_17_code 47 = .ok (.iaload, 1) := by decide +kernel
theorem d_Md_isSame_48 : decode prog_8_method_17_code 48 = .ok (.istore 9, 2) := by decide +kernel
theorem d_Md_isSame_50 : decode prog_8_method_17_code 50 = .ok (.iload_n 1, 1) := by decide +kernel
theorem d_Md_isSame_51 : decode prog_8_method_17_code 51 = .ok (.iload 7, 2) := by decide +kernel
theorem d_Md_isSame_53 : decode prog_8_method_17_code 53 = .ok (.imul, 1) := by decide +kernel
theorem d_Md_isSame_54 : decode prog_8_method_17_code 54 = .ok (.iload_n 2, 1) := by decide +kernel
theorem d_Md_isSame_55 : decode prog_8_method_17_code 55 = .ok (.iload 6, 2) := by decide +kernel
theorem d_Md_isSame_57 : decode prog_8_method_17_code 57 = .ok (.imul, 1) := by decide +kernel
theorem d_Md_isSame_58 : decode prog_8_method_17_code 58 = .ok (.if_icmp .ne 65, 3) := by decide +kernel
theorem d_Md_isSame_61 : decode prog_8_method_17_code 61 = .ok (.iload_n 1, 1) := by decide +kernel
theorem d_Md_isSame_62 : decode prog_8_method_17_code 62 = .ok (.iload 8, 2) := by decide +kernel
theorem d_Md_isSame_64 : decode prog_8_method_17_code 64 = .ok (.imul, 1) := by decide +kernel
theorem d_Md_isSame_65 : decode prog_8_method_17_code 65 = .ok (.iload_n 3, 1) := by decide +kernel
theorem d_Md_isSame_66 : decode prog_8_method_17_code 66 = .ok (.iload 6, 2) := by decide +kernel
theorem d_Md_isSame_68 : decode prog_8_method_17_code 68 = .ok (.imul, 1) := by decide +kernel
theorem d_Md_isSame_69 : decode prog_8_method_17_code 69 = .ok (.if_icmp .ne 54, 3) := by decide +kernel
theorem d_Md_isSame_72 : decode prog_8_method_17_code 72 = .ok (.iload_n 2, 1) := by decide +kernel
theorem d_Md_isSame_73 : decode prog_8_method_17_code 73 = .ok (.iload 8, 2) := by decide +kernel
theorem d_Md_isSame_75 : decode prog_8_method_17_code 75 = .ok (.imul, 1) := by decide +kernel
theorem d_Md_isSame_76 : decode prog_8_method_17_code 76 = .ok (.iload_n 3, 1) := by decide +kernel
theorem d_Md_isSame_77 : decode prog_8_method_17_code 77 = .ok (.iload 7, 2) := by decide +kernel
theorem d_Md_isSame_79 : decode prog_8_method_17_code 79 = .ok (.imul, 1) := by decide +kernel
theorem d_Md_isSame_80 : decode prog_8_method_17_code 80 = .ok (.if_icmp .ne 43, 3) := by decide +kernel
theorem d_Md_isSame_83 : decode prog_8_method_17_code 83 = .ok (.iload_n 1, 1) := by decide +kernel
theorem d_Md_isSame_84 : decode prog_8_method_17_code 84 = .ok (.iload 9, 2) := by decide +kernel
theorem d_Md_isSame_86 : decode prog_8_method_17_code 86 = .ok (.imul, 1) := by decide +kernel
theorem d_Md_isSame_87 : decode prog_8_method_17_code 87 = .ok (.iload 4, 2) := by decide +kernel
theorem d_Md_isSame_89 : decode prog_8_method_17_code 89 = .ok (.iload 6, 2) := by decide +kernel
theorem d_Md_isSame_91 : decode prog_8_method_17_code 91 = .ok (.imul, 1) := by decide +kernel
theorem d_Md_isSame_92 : decode prog_8_method_17_code 92 = .ok (.if_icmp .ne 31, 3) := by decide +kernel
theorem d_Md_isSame_95 : decode prog_8_method_17_code 95 = .ok (.iload_n 2, 1) := by decide +kernel
theorem d_Md_isSame_96 : decode prog_8_method_17_code 96 = .ok (.iload 9, 2) := by decide +kernel
theorem d_Md_isSame_98 : decode prog_8_method_17_code 98 = .ok (.imul, 1) := by decide +kernel
theorem d_Md_isSame_99 : decode prog_8_method_17_code 99 = .ok (.iload 4, 2) := by decide +kernel
theorem d_Md_isSame_101 : decode prog_8_method_17_code 101 = .ok (.iload 7, 2) := by decide +kernel
theorem d_Md_isSame_103 : decode prog_8_method_17_code 103 = .ok (.imul, 1) := by decide +kernel
theorem d_Md_isSame_104 : decode prog_8_method_17_code 104 = .ok (.if_icmp .ne 19, 3) := by decide +kernel
theorem d_Md_isSame_107 : decode prog_8_method_17_code 107 = .ok (.iload_n 3, 1) := by decide +kernel
theorem d_Md_isSame_108 : decode prog_8_method_17_code 108 = .ok (.iload 9, 2) := by decide +kernel
theorem d_Md_isSame_110 : decode prog_8_method_17_code 110 = .ok (.imul, 1) := by decide +kernel
theorem d_Md_isSame_111 : decode prog_8_method_17_code 111 = .ok (.iload 4, 2) := by decide +kernel
theorem d_Md_isSame_113 : decode prog_8_method_17_code 113 = .ok (.iload 8, 2) := by decide +kernel
theorem d_Md_isSame_115 : decode prog_8_method_17_code 115 = .ok (.imul, 1) := by decide +kernel
theorem d_Md_isSame_116 : decode prog_8_method_17_code 116 = .ok (.if_icmp .ne 7, 3) := by decide +kernel
theorem d_Md_isSame_119 : decode prog_8_method_17_code 119 = .ok (.iconst 1, 1) := by decide +kernel
theorem d_Md_isSame_120 : decode prog_8_method_17_code 120 = .ok (.goto 4, 3) := by decide +kernel
theorem d_Md_isSame_123 : decode prog_8_method_17_code 123 = .ok (.iconst 0, 1) := by decide +kernel
theorem d_Md_isSame_124 : decode prog_8_method_17_code 124 = .ok (.ireturn, 1) := by decide +kernel
theorem d_Md_unjoint_0 : decode prog_8_method_20_code 0 = .ok (.aload_n 0, 1) := by decide +kernel
theorem d_Md_unjoint_1 : decode prog_8_method_20_code 1 = .ok (.iconst 0, 1) := by decide +kernel
theorem d_Md_unjoint_2 : decode prog_8_method_20_code 2 = .ok (.putfield 75, 3) := by decide +kernel
theorem d_Md_unjoint_5 : decode prog_8_method_20_code 5 = .ok (.aload_n 0, 1) := by decide +kernel
theorem d_Md_unjoint_6 : decode prog_8_method_20_code 6 = .ok (.getfield 83, 3) := by decide +kernel
theorem d_Md_unjoint_9 : decode prog_8_method_20_code 9 = .ok (.ifCond .ne 5, 3) := by decide +kernel
theorem d_Md_unjoint_12 : decode prog_8_method_20_code 12 = .ok (.iconst (-1), 1) := by decide +kernel
theorem d_Md_unjoint_13 : decode prog_8_method_20_code 13 = .ok (.ireturn, 1) := by decide +kernel
theorem d_Md_unjoint_14 : decode prog_8_method_20_code 14 = .ok (.aload_n 0, 1) := by decide +kernel
theorem d_Md_unjoint_15 : decode prog_8_method_20_code 15 = .ok (.dup, 1) := by decide +kernel
theorem d_Md_unjoint_16 : decode prog_8_method_20_code 16 = .ok (.getfield 83, 3) := by decide +kernel
theorem d_Md_unjoint_19 : decode prog_8_method_20_code 19 = .ok (.iconst 1, 1) := by decide +kernel
theorem d_Md_unjoint_20 : decode prog_8_method_20_code 20 = .ok (.isub, 1) := by decide +kernel
theorem d_Md_unjoint_21 : decode prog_8_method_20_code 21 = .ok (.putfield 83, 3) := by decide +kernel
theorem d_Md_unjoint_24 : decode prog_8_method_20_code 24 = .ok (.aload_n 0, 1) := by decide +kernel
theorem d_Md_unjoint_25 : decode prog_8_method_20_code 25 = .ok (.invokevirtual 72, 3) := by decide +kernel
theorem d_Md_unjoint_28 : decode prog_8_method_20_code 28 = .ok (.aload_n 0, 1) := by decide +kernel
theorem d_Md_unjoint_29 : decode prog_8_method_20_code 29 = .ok (.getfield 83, 3) := by decide +kernel
theorem d_Md_unjoint_32 : decode prog_8_method_20_code 32 = .ok (.ireturn, 1) := by decide +kernel
theorem d_Md_open_0 : decode prog_8_method_21_code 0 = .ok (.aload_n 0, 1) := by decide +kernel
theorem d_Md_open_1 : decode prog_8_method_21_code 1 = .ok (.iload_n 1, 1) := by decide +kernel
theorem d_Md_open_2 : decode prog_8_method_21_code 2 = .ok (.bipush 6, 2) := by decide +kernel
theorem d_Md_open_4 : decode prog_8_method_21_code 4 = .ok (.bipush 11, 2) := by decide +kernel
theorem d_Md_open_6 : decode prog_8_method_21_code 6 = .ok (.invokestatic 131, 3) := by decide +kernel
theorem d_Md_open_9 : decode prog_8_method_21_code 9 = .ok (.ifCond .eq 7, 3) := by decide +kernel
theorem d_Md_open_12 : decode prog_8_method_21_code 12 = .ok (.iconst 0, 1) := by decide +kernel
theorem d_Md_open_13 : decode prog_8_method_21_code 13 = .ok (.goto 4, 3) := by decide +kernel
theorem d_Md_open_16 : decode prog_8_method_21_code 16 = .ok (.iconst 1, 1) := by decide +kernel
theorem d_Md_open_17 : decode prog_8_method_21_code 17 = .ok (.putfield 75, 3) := by decide +kernel
theorem d_Md_open_20 : decode prog_8_method_21_code 20 = .ok (.aload_n 0, 1) := by decide +kernel
theorem d_Md_open_21 : decode prog_8_method_21_code 21 = .ok (.getfield 75, 3) := by decide +kernel
theorem d_Md_open_24 : decode prog_8_method_21_code 24 = .ok (.ifCond .le 5, 3) := by decide +kernel
theorem d_Md_open_27 : decode prog_8_method_21_code 27 = .ok (.iconst 0, 1) := by decide +kernel
theorem d_Md_open_28 : decode prog_8_method_21_code 28 = .ok (.ireturn, 1) := by decide +kernel
theorem d_Md_open_29 : decode prog_8_method_21_code 29 = .ok (.aload_n 0, 1) := by decide +kernel
theorem d_Md_open_30 : decode prog_8_method_21_code 30 = .ok (.getfield 16, 3) := by decide +kernel
theorem d_Md_open_33 : decode prog_8_method_21_code 33 = .ok (.iload_n 1, 1) := by decide +kernel
theorem d_Md_open_34 : decode prog_8_method_21_code 34 = .ok (.baload, 1) := by decide +kernel
theorem d_Md_open_35 : decode prog_8_method_21_code 35 = .ok (.istore_n 3, 1) := by decide +kernel
theorem d_Md_open_36 : decode prog_8_method_21_code 36 = .ok (.aload_n 0, 1) := by decide +kernel
theorem d_Md_open_37 : decode prog_8_method_21_code 37 = .ok (.getfield 16, 3) := by decide +kernel
theorem d_Md_open_40 : decode prog_8_method_21_code 40 = .ok (.iload_n 1, 1) := by decide +kernel
theorem d_Md_open_41 : decode prog_8_method_21_code 41 = .ok (.iload_n 2, 1) := by decide +kernel
theorem d_Md_open_42 : decode prog_8_method_21_code 42 = .ok (.bastore, 1) := by decide +kernel
theorem d_Md_open_43 : decode prog_8_method_21_code 43 = .ok (.iload_n 3, 1) := by decide +kernel
theorem d_Md_open_44 : decode prog_8_method_21_code 44 = .ok (.iload_n 2, 1) := by decide +kernel
theorem d_Md_open_45 : decode prog_8_method_21_code 45 = .ok (.if_icmp .eq 7, 3) := by decide +kernel
theorem d_Md_open_48 : decode prog_8_method_21_code 48 = .ok (.iconst 1, 1) := by decide +kernel
theorem d_Md_open_49 : decode prog_8_method_21_code 49 = .ok (.goto 4, 3) := by decide +kernel
theorem d_Md_open_52 : decode prog_8_method_21_code 52 = .ok (.iconst 0, 1) := by decide +kernel
theorem d_Md_open_53 : decode prog_8_method_21_code 53 = .ok (.ireturn, 1) := by decide +kernel
theorem d_Md_direction_0 : decode prog_8_method_23_code 0 = .ok (.aload_n 0, 1) := by decide +kernel
theorem d_Md_direction_1 : decode prog_8_method_23_code 1 = .ok (.iload_n 1, 1) := by decide +kernel
theorem d_Md_direction_2 : decode prog_8_method_23_code 2 = .ok (.iload_n 2, 1) := by decide +kernel
theorem d_Md_direction_3 : decode prog_8_method_23_code 3 = .ok (.iload_n 3, 1) := by decide +kernel
theorem d_Md_direction_4 : decode prog_8_method_23_code 4 = .ok (.invokestatic 143, 3) := by decide +kernel
theorem d_Md_direction_7 : decode prog_8_method_23_code 7 = .ok (.ifCond .eq 15, 3) := by decide +kernel
theorem d_Md_direction_10 : decode prog_8_method_23_code 10 = .ok (.iload_n 1, 1) := by decide +kernel
theorem d_Md_direction_11 : decode prog_8_method_23_code 11 = .ok (.ifCond .ne 15, 3) := by decide +kernel
theorem d_Md_direction_14 : decode prog_8_method_23_code 14 = .ok (.iload_n 2, 1) := by decide +kernel
theorem d_Md_direction_15 : decode prog_8_method_23_code 15 = .ok (.ifCond .ne 11, 3) := by decide +kernel
theorem d_Md_direction_18 : decode prog_8_method_23_code 18 = .ok (.iload_n 3, 1) := by decide +kernel
theorem d_Md_direction_19 : decode prog_8_method_23_code 19 = .ok (.ifCond .ne 7, 3) := by decide +kernel
theorem d_Md_direction_22 : decode prog_8_method_23_code 22 = .ok (.iconst 1, 1) := by decide +kernel
theorem d_Md_direction_23 : decode prog_8_method_23_code 23 = .ok (.goto 17, 3) := by decide +kernel
theorem d_Md_direction_26 : decode prog_8_method_23_code 26 = .ok (.aload_n 0, 1) := by decide +kernel
theorem d_Md_direction_27 : decode prog_8_method_23_code 27 = .ok (.getfield 146, 3) := by decide +kernel
theorem d_Md_direction_30 : decode prog_8_method_23_code 30 = .ok (.bipush 8, 2) := by decide +kernel
theorem d_Md_direction_32 : decode prog_8_method_23_code 32 = .ok (.if_icmp .ne 7, 3) := by decide +kernel
theorem d_Md_direction_35 : decode prog_8_method_23_code 35 = .ok (.iconst 2, 1) := by decide +kernel
theorem d_Md_direction_36 : decode prog_8_method_23_code 36 = .ok (.goto 4, 3) := by decide +kernel
theorem d_Md_direction_39 : decode prog_8_method_23_code 39 = .ok (.iconst 0, 1) := by decide +kernel
theorem d_Md_direction_40 : decode prog_8_method_23_code 40 = .ok (.putfield 75, 3) := by decide +kernel
theorem d_Md_direction_43 : decode prog_8_method_23_code 43 = .ok (.aload_n 0, 1) := by decide +kernel
theorem d_Md_direction_44 : decode prog_8_method_23_code 44 = .ok (.getfield 75, 3) := by decide +kernel
theorem d_Md_direction_47 : decode prog_8_method_23_code 47 = .ok (.ifCond .le 5, 3) := by decide +kernel
theorem d_Md_direction_50 : decode prog_8_method_23_code 50 = .ok (.iconst 0, 1) := by decide +kernel
theorem d_Md_direction_51 : decode prog_8_method_23_code 51 = .ok (.ireturn, 1) := by decide +kernel
theorem d_Md_direction_52 : decode prog_8_method_23_code 52 = .ok (.aload_n 0, 1) := by decide +kernel
theorem d_Md_direction_53 : decode prog_8_method_23_code 53 = .ok (.getfield 20, 3) := by decide +kernel
theorem d_Md_direction_56 : decode prog_8_method_23_code 56 = .ok (.iconst 3, 1) := by decide +kernel
theorem d_Md_direction_57 : decode prog_8_method_23_code 57 = .ok (.aload_n 0, 1) := by decide +kernel
theorem d_Md_direction_58 : decode prog_8_method_23_code 58 = .ok (.getfield 146, 3) := by decide +kernel
theorem d_Md_direction_61 : decode prog_8_method_23_code 61 = .ok (.imul, 1) := by decide +kernel
theorem d_Md_direction_62 : decode prog_8_method_23_code 62 = .ok (.iload_n 1, 1) := by decide +kernel
theorem d_Md_direction_63 : decode prog_8_method_23_code 63 = .ok (.iastore, 1) := by decide +kernel
theorem d_Md_direction_64 : decode prog_8_method_23_code 64 = .ok (.aload_n 0, 1) := by decide +kernel
theorem d_Md_direction_65 : decode prog_8_method_23_code 65 = .ok (.getfield 20, 3) := by decide +kernel
theorem d_Md_direction_68 : decode prog_8_method_23_code 68 = .ok (.iconst 3, 1) := by decide +kernel
theorem d_Md_direction_69 : decode prog_8_method_23_code 69 = .ok (.aload_n 0, 1) := by decide +kernel
theorem d_Md_direction_70 : decode prog_8_method_23_code 70 = .ok (.getfield 146, 3) := by decide +kernel
theorem d_Md_direction_73 : decode prog_8_method_23_code 73 = .ok (.imul, 1) := by decide +kernel
theorem d_Md_direction_74 : decode prog_8_method_23_code 74 = .ok (.iconst 1, 1) := by decide +kernel
theorem d_Md_direction_75 : decode prog_8_method_23_code 75 = .ok (.iadd, 1) := by decide +kernel
theorem d_Md_direction_76 : decode prog_8_method_23_code 76 = .ok (.iload_n 2, 1) := by decide +kernel
theorem d_Md_direction_77 : decode prog_8_method_23_code 77 = .ok (.iastore, 1) := by decide +kernel
theorem d_Md_direction_78 : decode prog_8_method_23_code 78 = .ok (.aload_n 0, 1) := by decide +kernel
theorem d_Md_direction_79 : decode prog_8_method_23_code 79 = .ok (.getfield 20, 3) := by decide +kernel
theorem d_Md_direction_82 : decode prog_8_method_23_code 82 = .ok (.iconst 3, 1) := by decide +kernel
theorem d_Md_direction_83 : decode prog_8_method_23_code 83 = .ok (.aload_n 0, 1) := by decide +kernel
theorem d_Md_direction_84 : decode prog_8_method_23_code 84 = .ok (.getfield 146, 3) := by decide +kernel
theorem d_Md_direction_87 : decode prog_8_method_23_code 87 = .ok (.imul, 1) := by decide +kernel
theorem d_Md_direction_88 : decode prog_8_method_23_code 88 = .ok (.iconst 2, 1) := by decide +kernel
theorem d_Md_direction_89 : decode prog_8_method_23_code 89 = .ok (.iadd, 1) := by decide +kernel
theorem d_Md_direction_90 : decode prog_8_method_23_code 90 = .ok (.iload_n 3, 1) := by decide +kernel
theorem d_Md_direction_91 : decode prog_8_method_23_code 91 = .ok (.iastore, 1) := by decide +kernel
theorem d_Md_direction_92 : decode prog_8_method_23_code 92 = .ok (.aload_n 0, 1) := by decide +kernel
theorem d_Md_direction_93 : decode prog_8_method_23_code 93 = .ok (.dup, 1) := by decide +kernel
theorem d_Md_direction_94 : decode prog_8_method_23_code 94 = .ok (.getfield 146, 3) := by decide +kernel
theorem d_Md_direction_97 : decode prog_8_method_23_code 97 = .ok (.iconst 1, 1) := by decide +kernel
theorem d_Md_direction_98 : decode prog_8_method_23_code 98 = .ok (.iadd, 1) := by decide +kernel
theorem d_Md_direction_99 : decode prog_8_method_23_code 99 = .ok (.putfield 146, 3) := by decide +kernel
theorem d_Md_direction_102 : decode prog_8_method_23_code 102 = .ok (.aload_n 0, 1) := by decide +kernel
theorem d_Md_direction_103 : decode prog_8_method_23_code 103 = .ok (.getfield 146, 3) := by decide +kernel
theorem d_Md_direction_106 : decode prog_8_method_23_code 106 = .ok (.iconst 1, 1) := by decide +kernel
theorem d_Md_direction_107 : decode prog_8_method_23_code 107 = .ok (.isub, 1) := by decide +kernel
theorem d_Md_direction_108 : decode prog_8_method_23_code 108 = .ok (.ireturn, 1) := by decide +kernel
theorem d_Md_isVector_0 : decode prog_8_method_22_code 0 = .ok (.iload_n 0, 1) := by decide +kernel
theorem d_Md_isVector_1 : decode prog_8_method_22_code 1 = .ok (.bipush (-9), 2) := by decide +kernel
theorem d_Md_isVector_3 : decode prog_8_method_22_code 3 = .ok (.bipush 9, 2) := by decide +kernel
theorem d_Md_isVector_5 : decode prog_8_method_22_code 5 = .ok (.invokestatic 131, 3) := by decide +kernel
theorem d_Md_isVector_8 : decode prog_8_method_22_code 8 = .ok (.ifCond .eq 29, 3) := by decide +kernel
theorem d_Md_isVector_11 : decode prog_8_method_22_code 11 = .ok (.iload_n 1, 1) := by decide +kernel
theorem d_Md_isVector_12 : decode prog_8_method_22_code 12 = .ok (.bipush (-9), 2) := by decide +kernel
theorem d_Md_isVector_14 : decode prog_8_method_22_code 14 = .ok (.bipush 9, 2) := by decide +kernel
theorem d_Md_isVector_16 : decode prog_8_method_22_code 16 = .ok (.invokestatic 131, 3) := by decide +kernel
theorem d_Md_isVector_19 : decode prog_8_method_22_code 19 = .ok (.ifCond .eq 18, 3) := by decide +kernel
theorem d_Md_isVector_22 : decode prog_8_method_22_code 22 = .ok (.iload_n 2, 1) := by decide +kernel
theorem d_Md_isVector_23 : decode prog_8_method_22_code 23 = .ok (.bipush (-9), 2) := by decide +kernel
theorem d_Md_isVector_25 : decode prog_8_method_22_code 25 = .ok (.bipush 9, 2) := by decide +kernel
theorem d_Md_isVector_27 : decode prog_8_method_22_code 27 = .ok (.invokestatic 131, 3) := by decide +kernel
theorem d_Md_isVector_30 : decode prog_8_method_22_code 30 = .ok (.ifCond .eq 7, 3) := by decide +kernel
theorem d_Md_isVector_33 : decode prog_8_method_22_code 33 = .ok (.iconst 1, 1) := by decide +kernel
theorem d_Md_isVector_34 : decode prog_8_method_22_code 34 = .ok (.goto 4, 3) := by decide +kernel
theorem d_Md_isVector_37 : decode prog_8_method_22_code 37 = .ok (.iconst 0, 1) := by decide +kernel
theorem d_Md_isVector_38 : decode prog_8_method_22_code 38 = .ok (.ireturn, 1) := by decide +kernel
theorem d_Md_pull_0 : decode prog_8_method_24_code 0 = .ok (.aload_n 0, 1) := by decide +kernel
theorem d_Md_pull_1 : decode prog_8_method_24_code 1 = .ok (.iload_n 1, 1) := by decide +kernel
theorem d_Md_pull_2 : decode prog_8_method_24_code 2 = .ok (.iload_n 2, 1) := by decide +kernel
theorem d_Md_pull_3 : decode prog_8_method_24_code 3 = .ok (.iload_n 3, 1) := by decide +kernel
theorem d_Md_pull_4 : decode prog_8_method_24_code 4 = .ok (.invokestatic 143, 3) := by decide +kernel
theorem d_Md_pull_7 : decode prog_8_method_24_code 7 = .ok (.ifCond .eq 7, 3) := by decide +kernel
theorem d_Md_pull_10 : decode prog_8_method_24_code 10 = .ok (.iconst 0, 1) := by decide +kernel
theorem d_Md_pull_11 : decode prog_8_method_24_code 11 = .ok (.goto 4, 3) := by decide +kernel
theorem d_Md_pull_14 : decode prog_8_method_24_code 14 = .ok (.iconst 1, 1) := by decide +kernel
theorem d_Md_pull_15 : decode prog_8_method_24_code 15 = .ok (.putfield 75, 3) := by decide +kernel
theorem d_Md_pull_18 : decode prog_8_method_24_code 18 = .ok (.aload_n 0, 1) := by decide +kernel
theorem d_Md_pull_19 : decode prog_8_method_24_code 19 = .ok (.getfield 75, 3) := by decide +kernel
theorem d_Md_pull_22 : decode prog_8_method_24_code 22 = .ok (.ifCond .le 4, 3) := by decide +kernel
theorem d_Md_pull_25 : decode prog_8_method_24_code 25 = .ok (.return_, 1) := by decide +kernel
theorem d_Md_pull_26 : decode prog_8_method_24_code 26 = .ok (.aload_n 0, 1) := by decide +kernel
theorem d_Md_pull_27 : decode prog_8_method_24_code 27 = .ok (.getfield 23, 3) := by decide +kernel
theorem d_Md_pull_30 : decode prog_8_method_24_code 30 = .ok (.iconst 0, 1) := by decide +kernel
theorem d_Md_pull_31 : decode prog_8_method_24_code 31 = .ok (.iload_n 1, 1) := by decide +kernel
theorem d_Md_pull_32 : decode prog_8_method_24_code 32 = .ok (.iastore, 1) := by decide +kernel
theorem d_Md_pull_33 : decode prog_8_method_24_code 33 = .ok (.aload_n 0, 1) := by decide +kernel
theorem d_Md_pull_34 : decode prog_8_method_24_code 34 = .ok (.getfield 23, 3) := by decide +kernel
theorem d_Md_pull_37 : decode prog_8_method_24_code 37 = .ok (.iconst 1, 1) := by decide +kernel
theorem d_Md_pull_38 : decode prog_8_method_24_code 38 = .ok (.iload_n 2, 1) := by decide +kernel
theorem d_Md_pull_39 : decode prog_8_method_24_code 39 = .ok (.iastore, 1) := by decide +kernel
theorem d_Md_pull_40 : decode prog_8_method_24_code 40 = .ok (.aload_n 0, 1) := by decide +kernel
theorem d_Md_pull_41 : decode prog_8_method_24_code 41 = .ok (.getfield 23, 3) := by decide +kernel
theorem d_Md_pull_44 : decode prog_8_method_24_code 44 = .ok (.iconst 2, 1) := by decide +kernel
theorem d_Md_pull_45 : decode prog_8_method_24_code 45 = .ok (.iload_n 3, 1) := by decide +kernel
theorem d_Md_pull_46 : decode prog_8_method_24_code 46 = .ok (.iastore, 1) := by decide +kernel
theorem d_Md_pull_47 : decode prog_8_method_24_code 47 = .ok (.return_, 1) := by decide +kernel
theorem d_Md_blocks_0 : decode prog_8_method_25_code 0 = .ok (.aload_n 0, 1) := by decide +kernel
theorem d_Md_blocks_1 : decode prog_8_method_25_code 1 = .ok (.iconst 0, 1) := by decide +kernel
theorem d_Md_blocks_2 : decode prog_8_method_25_code 2 = .ok (.putfield 75, 3) := by decide +kernel
theorem d_Md_blocks_5 : decode prog_8_method_25_code 5 = .ok (.aload_n 0, 1) := by decide +kernel
theorem d_Md_blocks_6 : decode prog_8_method_25_code 6 = .ok (.getfield 111, 3) := by decide +kernel
theorem d_Md_blocks_9 : decode prog_8_method_25_code 9 = .ok (.ireturn, 1) := by decide +kernel
theorem d_Md_block_0 : decode prog_8_method_30_code 0 = .ok (.aload_n 0, 1) := by decide +kernel
theorem d_Md_block_1 : decode prog_8_method_30_code 1 = .ok (.aload_n 0, 1) := by decide +kernel
theorem d_Md_block_2 : decode prog_8_method_30_code 2 = .ok (.iload_n 1, 1) := by decide +kernel
theorem d_Md_block_3 : decode prog_8_method_30_code 3 = .ok (.invokevirtual 152, 3) := by decide +kernel
theorem d_Md_block_6 : decode prog_8_method_30_code 6 = .ok (.ifCond .eq 16, 3) := by decide +kernel
theorem d_Md_block_9 : decode prog_8_method_30_code 9 = .ok (.iload_n 2, 1) := by decide +kernel
theorem d_Md_block_10 : decode prog_8_method_30_code 10 = .ok (.iconst 0, 1) := by decide +kernel
theorem d_Md_block_11 : decode prog_8_method_30_code 11 = .ok (.iconst 4, 1) := by decide +kernel
theorem d_Md_block_12 : decode prog_8_method_30_code 12 = .ok (.invokestatic 131, 3) := by decide +kernel
theorem d_Md_block_15 : decode prog_8_method_30_code 15 = .ok (.ifCond .eq 7, 3) := by decide +kernel
theorem d_Md_block_18 : decode prog_8_method_30_code 18 = .ok (.iconst 0, 1) := by decide +kernel
theorem d_Md_block_19 : decode prog_8_method_30_code 19 = .ok (.goto 4, 3) := by decide +kernel
theorem d_Md_block_22 : decode prog_8_method_30_code 22 = .ok (.iconst 1, 1) := by decide +kernel
theorem d_Md_block_23 : decode prog_8_method_30_code 23 = .ok (.putfield 75, 3) := by decide +kernel
theorem d_Md_block_26 : decode prog_8_method_30_code 26 = .ok (.aload_n 0, 1) := by decide +kernel
theorem d_Md_block_27 : decode prog_8_method_30_code 27 = .ok (.getfield 75, 3) := by decide +kernel
theorem d_Md_block_30 : decode prog_8_method_30_code 30 = .ok (.ifCond .le 5, 3) := by decide +kernel
theorem d_Md_block_33 : decode prog_8_method_30_code 33 = .ok (.iconst 0, 1) := by decide +kernel
theorem d_Md_block_34 : decode prog_8_method_30_code 34 = .ok (.ireturn, 1) := by decide +kernel
theorem d_Md_block_35 : decode prog_8_method_30_code 35 = .ok (.iload_n 2, 1) := by decide +kernel
theorem d_Md_block_36 : decode prog_8_method_30_code 36 = .ok (.ifCond .ne 10, 3) := by decide +kernel
theorem d_Md_block_39 : decode prog_8_method_30_code 39 = .ok (.aload_n 0, 1) := by decide +kernel
theorem d_Md_block_40 : decode prog_8_method_30_code 40 = .ok (.getfield 41, 3) := by decide +kernel
theorem d_Md_block_43 : decode prog_8_method_30_code 43 = .ok (.iload_n 1, 1) := by decide +kernel
theorem d_Md_block_44 : decode prog_8_method_30_code 44 = .ok (.iaload, 1) := by decide +kernel
theorem d_Md_block_45 : decode prog_8_method_30_code 45 = .ok (.ireturn, 1) := by decide +kernel
theorem d_Md_block_46 : decode prog_8_method_30_code 46 = .ok (.iload_n 2, 1) := by decide +kernel
theorem d_Md_block_47 : decode prog_8_method_30_code 47 = .ok (.iconst 1, 1) := by decide +kernel
theorem d_Md_block_48 : decode prog_8_method_30_code 48 = .ok (.if_icmp .ne 10, 3) := by decide +kernel
theorem d_Md_block_51 : decode prog_8_method_30_code 51 = .ok (.aload_n 0, 1) := by decide +kernel
theorem d_Md_block_52 : decode prog_8_method_30_code 52 = .ok (.getfield 44, 3) := by decide +kernel
theorem d_Md_block_55 : decode prog_8_method_30_code 55 = .ok (.iload_n 1, 1) := by decide +kernel
theorem d_Md_block_56 : decode prog_8_method_30_code 56 = .ok (.iaload, 1) := by decide +kernel
theorem d_Md_block_57 : decode prog_8_method_30_code 57 = .ok (.ireturn, 1) := by decide +kernel
theorem d_Md_block_58 : decode prog_8_method_30_code 58 = .ok (.iload_n 2, 1) := by decide +kernel
theorem d_Md_block_59 : decode prog_8_method_30_code 59 = .ok (.iconst 2, 1) := by decide +kernel
theorem d_Md_block_60 : decode prog_8_method_30_code 60 = .ok (.if_icmp .ne 9, 3) := by decide +kernel
theorem d_Md_block_63 : decode prog_8_method_30_code 63 = .ok (.aload_n 0, 1) := by decide +kernel
theorem d_Md_block_64 : decode prog_8_method_30_code 64 = .ok (.iload_n 1, 1) := by decide +kernel
theorem d_Md_block_65 : decode prog_8_method_30_code 65 = .ok (.invokevirtual 155, 3) := by decide +kernel
theorem d_Md_block_68 : decode prog_8_method_30_code 68 = .ok (.ireturn, 1) := by decide +kernel
theorem d_Md_block_69 : decode prog_8_method_30_code 69 = .ok (.iload_n 2, 1) := by decide +kernel
theorem d_Md_block_70 : decode prog_8_method_30_code 70 = .ok (.iconst 3, 1) := by decide +kernel
theorem d_Md_block_71 : decode prog_8_method_30_code 71 = .ok (.if_icmp .ne 9, 3) := by decide +kernel
theorem d_Md_block_74 : decode prog_8_method_30_code 74 = .ok (.aload_n 0, 1) := by decide +kernel
theorem d_Md_block_75 : decode prog_8_method_30_code 75 = .ok (.iload_n 1, 1) := by decide +kernel
theorem d_Md_block_76 : decode prog_8_method_30_code 76 = .ok (.invokevirtual 158, 3) := by decide +kernel
theorem d_Md_block_79 : decode prog_8_method_30_code 79 = .ok (.ireturn, 1) := by decide +kernel
theorem d_Md_block_80 : decode prog_8_method_30_code 80 = .ok (.aload_n 0, 1) := by decide +kernel
theorem d_Md_block_81 : decode prog_8_method_30_code 81 = .ok (.getfield 47, 3) := by decide +kernel
theorem d_Md_block_84 : decode prog_8_method_30_code 84 = .ok (.iload_n 1, 1) := by decide +kernel
theorem d_Md_block_85 : decode prog_8_method_30_code 85 = .ok (.baload, 1) := by decide +kernel
theorem d_Md_block_86 : decode prog_8_method_30_code 86 = .ok (.ifCond .eq 7, 3) := by decide +kernel
theorem d_Md_block_89 : decode prog_8_method_30_code 89 = .ok (.iconst 1, 1) := by decide +kernel
theorem d_Md_block_90 : decode prog_8_method_30_code 90 = .ok (.goto 4, 3) := by decide +kernel
theorem d_Md_block_93 : decode prog_8_method_30_code 93 = .ok (.iconst 0, 1) := by decide +kernel
theorem d_Md_block_94 : decode prog_8_method_30_code 94 = .ok (.ireturn, 1) := by decide +kernel
theorem d_Md_isBlock_0 : decode prog_8_method_26_code 0 = .ok (.iload_n 1, 1) := by decide +kernel
theorem d_Md_isBlock_1 : decode prog_8_method_26_code 1 = .ok (.iconst 0, 1) := by decide +kernel
theorem d_Md_isBlock_2 : decode prog_8_method_26_code 2 = .ok (.aload_n 0, 1) := by decide +kernel
theorem d_Md_isBlock_3 : decode prog_8_method_26_code 3 = .ok (.getfield 111, 3) := by decide +kernel
theorem d_Md_isBlock_6 : decode prog_8_method_26_code 6 = .ok (.iconst 1, 1) := by decide +kernel
theorem d_Md_isBlock_7 : decode prog_8_method_26_code 7 = .ok (.isub, 1) := by decide +kernel
theorem d_Md_isBlock_8 : decode prog_8_method_26_code 8 = .ok (.invokestatic 131, 3) := by decide +kernel
theorem d_Md_isBlock_11 : decode prog_8_method_26_code 11 = .ok (.ireturn, 1) := by decide +kernel
theorem d_Md_cornersOf_0 : decode prog_8_method_27_code 0 = .ok (.iconst 0, 1) := by decide +kernel
theorem d_Md_cornersOf_1 : decode prog_8_method_27_code 1 = .ok (.istore_n 2, 1) := by decide +kernel
theorem d_Md_cornersOf_2 : decode prog_8_method_27_code 2 = .ok (.iconst 0, 1) := by decide +kernel
theorem d_Md_cornersOf_3 : decode prog_8_method_27_code 3 = .ok (.istore_n 3, 1) := by decide +kernel
theorem d_Md_cornersOf_4 : decode prog_8_method_27_code 4 = .ok (.iload_n 3, 1) := by decide +kernel
theorem d_Md_cornersOf_5 : decode prog_8_method_27_code 5 = .ok (.aload_n 0, 1) := by decide +kernel
theorem d_Md_cornersOf_6 : decode prog_8_method_27_code 6 = .ok (.getfield 94, 3) := by decide +kernel
theorem d_Md_cornersOf_9 : decode prog_8_method_27_code 9 = .ok (.if_icmp .ge 31, 3) := by decide +kernel
theorem d_Md_cornersOf_12 : decode prog_8_method_27_code 12 = .ok (.aload_n 0, 1) := by decide +kernel
theorem d_Md_cornersOf_13 : decode prog_8_method_27_code 13 = .ok (.iload_n 3, 1) := by decide +kernel
theorem d_Md_cornersOf_14 : decode prog_8_method_27_code 14 = .ok (.aload_n 0, 1) := by decide +kernel
theorem d_Md_cornersOf_15 : decode prog_8_method_27_code 15 = .ok (.getfield 41, 3) := by decide +kernel
theorem d_Md_cornersOf_18 : decode prog_8_method_27_code 18 = .ok (.iload_n 1, 1) := by decide +kernel
theorem d_Md_cornersOf_19 : decode prog_8_method_27_code 19 = .ok (.iaload, 1) := by decide +kernel
theorem d_Md_cornersOf_20 : decode prog_8_method_27_code 20 = .ok (.invokevirtual 127, 3) := by decide +kernel
theorem d_Md_cornersOf_23 : decode prog_8_method_27_code 23 = .ok (.ifCond .eq 9, 3) := by decide +kernel
theorem d_Md_cornersOf_26 : decode prog_8_method_27_code 26 = .ok (.iload_n 2, 1) := by decide +kernel
theorem d_Md_cornersOf_27 : decode prog_8_method_27_code 27 = .ok (.iconst 1, 1) := by decide +kernel
theorem d_Md_cornersOf_28 : decode prog_8_method_27_code 28 = .ok (.iadd, 1) := by decide +kernel
theorem d_Md_cornersOf_29 : decode prog_8_method_27_code 29 = .ok (.goto 4, 3) := by decide +kernel
theorem d_Md_cornersOf_32 : decode prog_8_method_27_code 32 = .ok (.iload_n 2, 1) := by decide +kernel
theorem d_Md_cornersOf_33 : decode prog_8_method_27_code 33 = .ok (.istore_n 2, 1) := by decide +kernel
theorem d_Md_cornersOf_34 : decode prog_8_method_27_code 34 = .ok (.iinc 3 1, 3) := by decide +kernel
theorem d_Md_cornersOf_37 : decode prog_8_method_27_code 37 = .ok (.goto (-33), 3) := by decide +kernel
theorem d_Md_cornersOf_40 : decode prog_8_method_27_code 40 = .ok (.iload_n 2, 1) := by decide +kernel
theorem d_Md_cornersOf_41 : decode prog_8_method_27_code 41 = .ok (.ireturn, 1) := by decide +kernel
theorem d_Md_insideOf_0 : decode prog_8_method_29_code 0 = .ok (.iconst 0, 1) := by decide +kernel
theorem d_Md_insideOf_1 : decode prog_8_method_29_code 1 = .ok (.istore_n 2, 1) := by decide +kernel
theorem d_Md_insideOf_2 : decode prog_8_method_29_code 2 = .ok (.iconst 1, 1) := by decide +kernel
theorem d_Md_insideOf_3 : decode prog_8_method_29_code 3 = .ok (.istore_n 3, 1) := by decide +kernel
theorem d_Md_insideOf_4 : decode prog_8_method_29_code 4 = .ok (.iload_n 3, 1) := by decide +kernel
theorem d_Md_insideOf_5 : decode prog_8_method_29_code 5 = .ok (.aload_n 0, 1) := by decide +kernel
theorem d_Md_insideOf_6 : decode prog_8_method_29_code 6 = .ok (.getfield 7, 3) := by decide +kernel
theorem d_Md_insideOf_9 : decode prog_8_method_29_code 9 = .ok (.iconst 0, 1) := by decide +kernel
theorem d_Md_insideOf_10 : decode prog_8_method_29_code 10 = .ok (.iaload, 1) := by decide +kernel
theorem d_Md_insideOf_11 : decode prog_8_method_29_code 11 = .ok (.if_icmp .ge 70, 3) := by decide +kernel
theorem d_Md_insideOf_14 : decode prog_8_method_29_code 14 = .ok (.iconst 1, 1) := by decide +kernel
theorem d_Md_insideOf_15 : decode prog_8_method_29_code 15 = .ok (.istore 4, 2) := by decide +kernel
theorem d_Md_insideOf_17 : decode prog_8_method_29_code 17 = .ok (.iload 4, 2) := by decide +kernel
theorem d_Md_insideOf_19 : decode prog_8_method_29_code 19 = .ok (.aload_n 0, 1) := by decide +kernel
theorem d_Md_insideOf_20 : decode prog_8_method_29_code 20 = .ok (.getfield 7, 3) := by decide +kernel
theorem d_Md_insideOf_23 : decode prog_8_method_29_code 23 = .ok (.iconst 1, 1) := by decide +kernel
theorem d_Md_insideOf_24 : decode prog_8_method_29_code 24 = .ok (.iaload, 1) := by decide +kernel
theorem d_Md_insideOf_25 : decode prog_8_method_29_code 25 = .ok (.if_icmp .ge 50, 3) := by decide +kernel
theorem d_Md_insideOf_28 : decode prog_8_method_29_code 28 = .ok (.iconst 1, 1) := by decide +kernel
theorem d_Md_insideOf_29 : decode prog_8_method_29_code 29 = .ok (.istore 5, 2) := by decide +kernel
theorem d_Md_insideOf_31 : decode prog_8_method_29_code 31 = .ok (.iload 5, 2) := by decide +kernel
theorem d_Md_insideOf_33 : decode prog_8_method_29_code 33 = .ok (.aload_n 0, 1) := by decide +kernel
theorem d_Md_insideOf_34 : decode prog_8_method_29_code 34 = .ok (.getfield 7, 3) := by decide +kernel
theorem d_Md_insideOf_37 : decode prog_8_method_29_code 37 = .ok (.iconst 2, 1) := by decide +kernel
theorem d_Md_insideOf_38 : decode prog_8_method_29_code 38 = .ok (.iaload, 1) := by decide +kernel
theorem d_Md_insideOf_39 : decode prog_8_method_29_code 39 = .ok (.if_icmp .ge 30, 3) := by decide +kernel
theorem d_Md_insideOf_42 : decode prog_8_method_29_code 42 = .ok (.aload_n 0, 1) := by decide +kernel
theorem d_Md_insideOf_43 : decode prog_8_method_29_code 43 = .ok (.iload_n 1, 1) := by decide +kernel
theorem d_Md_insideOf_44 : decode prog_8_method_29_code 44 = .ok (.iload_n 3, 1) := by decide +kernel
theorem d_Md_insideOf_45 : decode prog_8_method_29_code 45 = .ok (.iload 4, 2) := by decide +kernel
theorem d_Md_insideOf_47 : decode prog_8_method_29_code 47 = .ok (.iload 5, 2) := by decide +kernel
theorem d_Md_insideOf_49 : decode prog_8_method_29_code 49 = .ok (.invokevirtual 149, 3) := by decide +kernel
theorem d_Md_insideOf_52 : decode prog_8_method_29_code 52 = .ok (.ifCond .eq 9, 3) := by decide +kernel
theorem d_Md_insideOf_55 : decode prog_8_method_29_code 55 = .ok (.iload_n 2, 1) := by decide +kernel
theorem d_Md_insideOf_56 : decode prog_8_method_29_code 56 = .ok (.iconst 1, 1) := by decide +kernel
theorem d_Md_insideOf_57 : decode prog_8_method_29_code 57 = .ok (.iadd, 1) := by decide +kernel
theorem d_Md_insideOf_58 : decode prog_8_method_29_code 58 = .ok (.goto 4, 3) := by decide +kernel
theorem d_Md_insideOf_61 : decode prog_8_method_29_code 61 = .ok (.iload_n 2, 1) := by decide +kernel
theorem d_Md_insideOf_62 : decode prog_8_method_29_code 62 = .ok (.istore_n 2, 1) := by decide +kernel
theorem d_Md_insideOf_63 : decode prog_8_method_29_code 63 = .ok (.iinc 5 1, 3) := by decide +kernel
theorem d_Md_insideOf_66 : decode prog_8_method_29_code 66 = .ok (.goto (-35), 3) := by decide +kernel
theorem d_Md_insideOf_69 : decode prog_8_method_29_code 69 = .ok (.iinc 4 1, 3) := by decide +kernel
theorem d_Md_insideOf_72 : decode prog_8_method_29_code 72 = .ok (.goto (-55), 3) := by decide +kernel
theorem d_Md_insideOf_75 : decode prog_8_method_29_code 75 = .ok (.iinc 3 1, 3) := by decide +kernel
theorem d_Md_insideOf_78 : decode prog_8_method_29_code 78 = .ok (.goto (-74), 3) := by decide +kernel
theorem d_Md_insideOf_81 : decode prog_8_method_29_code 81 = .ok (.iload_n 2, 1) := by decide +kernel
theorem d_Md_insideOf_82 : decode prog_8_method_29_code 82 = .ok (.ireturn, 1) := by decide +kernel
theorem d_Md_isInside_0 : decode prog_8_method_28_code 0 = .ok (.iconst 1, 1) := by decide +kernel
theorem d_Md_isInside_1 : decode prog_8_method_28_code 1 = .ok (.istore 5, 2) := by decide +kernel
theorem d_Md_isInside_3 : decode prog_8_method_28_code 3 = .ok (.iconst 0, 1) := by decide +kernel
theorem d_Md_isInside_4 : decode prog_8_method_28_code 4 = .ok (.istore 6, 2) := by decide +kernel
theorem d_Md_isInside_6 : decode prog_8_method_28_code 6 = .ok (.iload 6, 2) := by decide +kernel
theorem d_Md_isInside_8 : decode prog_8_method_28_code 8 = .ok (.aload_n 0, 1) := by decide +kernel
theorem d_Md_isInside_9 : decode prog_8_method_28_code 9 = .ok (.getfield 83, 3) := by decide +kernel
theorem d_Md_isInside_12 : decode prog_8_method_28_code 12 = .ok (.if_icmp .ge 103, 3) := by decide +kernel
theorem d_Md_isInside_15 : decode prog_8_method_28_code 15 = .ok (.aload_n 0, 1) := by decide +kernel
theorem d_Md_isInside_16 : decode prog_8_method_28_code 16 = .ok (.getfield 13, 3) := by decide +kernel
theorem d_Md_isInside_19 : decode prog_8_method_28_code 19 = .ok (.iconst 4, 1) := by decide +kernel
theorem d_Md_isInside_20 : decode prog_8_method_28_code 20 = .ok (.iload 6, 2) := by decide +kernel
theorem d_Md_isInside_22 : decode prog_8_method_28_code 22 = .ok (.imul, 1) := by decide +kernel
theorem d_Md_isInside_23 : decode prog_8_method_28_code 23 = .ok (.iaload, 1) := by decide +kernel
theorem d_Md_isInside_24 : decode prog_8_method_28_code 24 = .ok (.iload_n 2, 1) := by decide +kernel
theorem d_Md_isInside_25 : decode prog_8_method_28_code 25 = .ok (.imul, 1) := by decide +kernel
theorem d_Md_isInside_26 : decode prog_8_method_28_code 26 = .ok (.aload_n 0, 1) := by decide +kernel
theorem d_Md_isInside_27 : decode prog_8_method_28_code 27 = .ok (.getfield 13, 3) := by decide +kernel
theorem d_Md_isInside_30 : decode prog_8_method_28_code 30 = .ok (.iconst 4, 1) := by decide +kernel
theorem d_Md_isInside_31 : decode prog_8_method_28_code 31 = .ok (.iload 6, 2) := by decide +kernel
theorem d_Md_isInside_33 : decode prog_8_method_28_code 33 = .ok (.imul, 1) := by decide +kernel
theorem d_Md_isInside_34 : decode prog_8_method_28_code 34 = .ok (.iconst 1, 1) := by decide +kernel
theorem d_Md_isInside_35 : decode prog_8_method_28_code 35 = .ok (.iadd, 1) := by decide +kernel
theorem d_Md_isInside_36 : decode prog_8_method_28_code 36 = .ok (.iaload, 1) := by decide +kernel
theorem d_Md_isInside_37 : decode prog_8_method_28_code 37 = .ok (.iload_n 3, 1) := by decide +kernel
theorem d_Md_isInside_38 : decode prog_8_method_28_code 38 = .ok (.imul, 1) := by decide +kernel
theorem d_Md_isInside_39 : decode prog_8_method_28_code 39 = .ok (.iadd, 1) := by decide +kernel
theorem d_Md_isInside_40 : decode prog_8_method_28_code 40 = .ok (.aload_n 0, 1) := by decide +kernel
theorem d_Md_isInside_41 : decode prog_8_method_28_code 41 = .ok (.getfield 13, 3) := by decide +kernel
theorem d_Md_isInside_44 : decode prog_8_method_28_code 44 = .ok (.iconst 4, 1) := by decide +kernel
theorem d_Md_isInside_45 : decode prog_8_method_28_code 45 = .ok (.iload 6, 2) := by decide +kernel
theorem d_Md_isInside_47 : decode prog_8_method_28_code 47 = .ok (.imul, 1) := by decide +kernel
theorem d_Md_isInside_48 : decode prog_8_method_28_code 48 = .ok (.iconst 2, 1) := by decide +kernel
theorem d_Md_isInside_49 : decode prog_8_method_28_code 49 = .ok (.iadd, 1) := by decide +kernel
theorem d_Md_isInside_50 : decode prog_8_method_28_code 50 = .ok (.iaload, 1) := by decide +kernel
theorem d_Md_isInside_51 : decode prog_8_method_28_code 51 = .ok (.iload 4, 2) := by decide +kernel
theorem d_Md_isInside_53 : decode prog_8_method_28_code 53 = .ok (.imul, 1) := by decide +kernel
theorem d_Md_isInside_54 : decode prog_8_method_28_code 54 = .ok (.iadd, 1) := by decide +kernel
theorem d_Md_isInside_55 : decode prog_8_method_28_code 55 = .ok (.aload_n 0, 1) := by decide +kernel
theorem d_Md_isInside_56 : decode prog_8_method_28_code 56 = .ok (.getfield 13, 3) := by decide +kernel
theorem d_Md_isInside_59 : decode prog_8_method_28_code 59 = .ok (.iconst 4, 1) := by decide +kernel
theorem d_Md_isInside_60 : decode prog_8_method_28_code 60 = .ok (.iload 6, 2) := by decide +kernel
theorem d_Md_isInside_62 : decode prog_8_method_28_code 62 = .ok (.imul, 1) := by decide +kernel
theorem d_Md_isInside_63 : decode prog_8_method_28_code 63 = .ok (.iconst 3, 1) := by decide +kernel
theorem d_Md_isInside_64 : decode prog_8_method_28_code 64 = .ok (.iadd, 1) := by decide +kernel
theorem d_Md_isInside_65 : decode prog_8_method_28_code 65 = .ok (.iaload, 1) := by decide +kernel
theorem d_Md_isInside_66 : decode prog_8_method_28_code 66 = .ok (.isub, 1) := by decide +kernel
theorem d_Md_isInside_67 : decode prog_8_method_28_code 67 = .ok (.istore 7, 2) := by decide +kernel
theorem d_Md_isInside_69 : decode prog_8_method_28_code 69 = .ok (.iload 5, 2) := by decide +kernel
theorem d_Md_isInside_71 : decode prog_8_method_28_code 71 = .ok (.ifCond .eq 35, 3) := by decide +kernel
theorem d_Md_isInside_74 : decode prog_8_method_28_code 74 = .ok (.aload_n 0, 1) := by decide +kernel
theorem d_Md_isInside_75 : decode prog_8_method_28_code 75 = .ok (.getfield 41, 3) := by decide +kernel
theorem d_Md_isInside_78 : decode prog_8_method_28_code 78 = .ok (.iload_n 1, 1) := by decide +kernel
theorem d_Md_isInside_79 : decode prog_8_method_28_code 79 = .ok (.iaload, 1) := by decide +kernel
theorem d_Md_isInside_80 : decode prog_8_method_28_code 80 = .ok (.iload 6, 2) := by decide +kernel
theorem d_Md_isInside_82 : decode prog_8_method_28_code 82 = .ok (.ishr, 1) := by decide +kernel
theorem d_Md_isInside_83 : decode prog_8_method_28_code 83 = .ok (.iconst 1, 1) := by decide +kernel
theorem d_Md_isInside_84 : decode prog_8_method_28_code 84 = .ok (.iand, 1) := by decide +kernel
theorem d_Md_isInside_85 : decode prog_8_method_28_code 85 = .ok (.iconst 1, 1) := by decide +kernel
theorem d_Md_isInside_86 : decode prog_8_method_28_code 86 = .ok (.if_icmp .ne 11, 3) := by decide +kernel
theorem d_Md_isInside_89 : decode prog_8_method_28_code 89 = .ok (.iload 7, 2) := by decide +kernel
theorem d_Md_isInside_91 : decode prog_8_method_28_code 91 = .ok (.ifCond .le 15, 3) := by decide +kernel
theorem d_Md_isInside_94 : decode prog_8_method_28_code 94 = .ok (.goto 8, 3) := by decide +kernel
theorem d_Md_isInside_97 : decode prog_8_method_28_code 97 = .ok (.iload 7, 2) := by decide +kernel
theorem d_Md_isInside_99 : decode prog_8_method_28_code 99 = .ok (.ifCond .ge 7, 3) := by decide +kernel
theorem d_Md_isInside_102 : decode prog_8_method_28_code 102 = .ok (.iconst 1, 1) := by decide +kernel
theorem d_Md_isInside_103 : decode prog_8_method_28_code 103 = .ok (.goto 4, 3) := by decide +kernel
theorem d_Md_isInside_106 : decode prog_8_method_28_code 106 = .ok (.iconst 0, 1) := by decide +kernel
theorem d_Md_isInside_107 : decode prog_8_method_28_code 107 = .ok (.istore 5, 2) := by decide +kernel
theorem d_Md_isInside_109 : decode prog_8_method_28_code 109 = .ok (.iinc 6 1, 3) := by decide +kernel
theorem d_Md_isInside_112 : decode prog_8_method_28_code 112 = .ok (.goto (-106), 3) := by decide +kernel
theorem d_Md_isInside_115 : decode prog_8_method_28_code 115 = .ok (.iload 5, 2) := by decide +kernel
theorem d_Md_isInside_117 : decode prog_8_method_28_code 117 = .ok (.ireturn, 1) := by decide +kernel
theorem d_Md_corner_0 : decode prog_8_method_31_code 0 = .ok (.aload_n 0, 1) := by decide +kernel
theorem d_Md_corner_1 : decode prog_8_method_31_code 1 = .ok (.iload_n 1, 1) := by decide +kernel
theorem d_Md_corner_2 : decode prog_8_method_31_code 2 = .ok (.invokevirtual 152, 3) := by decide +kernel
theorem d_Md_corner_5 : decode prog_8_method_31_code 5 = .ok (.ifCond .eq 20, 3) := by decide +kernel
theorem d_Md_corner_8 : decode prog_8_method_31_code 8 = .ok (.iload_n 3, 1) := by decide +kernel
theorem d_Md_corner_9 : decode prog_8_method_31_code 9 = .ok (.iconst 0, 1) := by decide +kernel
theorem d_Md_corner_10 : decode prog_8_method_31_code 10 = .ok (.iconst 3, 1) := by decide +kernel
theorem d_Md_corner_11 : decode prog_8_method_31_code 11 = .ok (.invokestatic 131, 3) := by decide +kernel
theorem d_Md_corner_14 : decode prog_8_method_31_code 14 = .ok (.ifCond .eq 11, 3) := by decide +kernel
theorem d_Md_corner_17 : decode prog_8_method_31_code 17 = .ok (.iload_n 2, 1) := by decide +kernel
theorem d_Md_corner_18 : decode prog_8_method_31_code 18 = .ok (.ifCond .lt 7, 3) := by decide +kernel
theorem d_Md_corner_21 : decode prog_8_method_31_code 21 = .ok (.iconst 1, 1) := by decide +kernel
theorem d_Md_corner_22 : decode prog_8_method_31_code 22 = .ok (.goto 4, 3) := by decide +kernel
theorem d_Md_corner_25 : decode prog_8_method_31_code 25 = .ok (.iconst 0, 1) := by decide +kernel
theorem d_Md_corner_26 : decode prog_8_method_31_code 26 = .ok (.istore 4, 2) := by decide +kernel
theorem d_Md_corner_28 : decode prog_8_method_31_code 28 = .ok (.aload_n 0, 1) := by decide +kernel
theorem d_Md_corner_29 : decode prog_8_method_31_code 29 = .ok (.iload 4, 2) := by decide +kernel
theorem d_Md_corner_31 : decode prog_8_method_31_code 31 = .ok (.ifCond .eq 16, 3) := by decide +kernel
theorem d_Md_corner_34 : decode prog_8_method_31_code 34 = .ok (.iload_n 2, 1) := by decide +kernel
theorem d_Md_corner_35 : decode prog_8_method_31_code 35 = .ok (.aload_n 0, 1) := by decide +kernel
theorem d_Md_corner_36 : decode prog_8_method_31_code 36 = .ok (.iload_n 1, 1) := by decide +kernel
theorem d_Md_corner_37 : decode prog_8_method_31_code 37 = .ok (.invokevirtual 155, 3) := by decide +kernel
theorem d_Md_corner_40 : decode prog_8_method_31_code 40 = .ok (.if_icmp .ge 7, 3) := by decide +kernel
theorem d_Md_corner_43 : decode prog_8_method_31_code 43 = .ok (.iconst 0, 1) := by decide +kernel
theorem d_Md_corner_44 : decode prog_8_method_31_code 44 = .ok (.goto 4, 3) := by decide +kernel
theorem d_Md_corner_47 : decode prog_8_method_31_code 47 = .ok (.iconst 1, 1) := by decide +kernel
theorem d_Md_corner_48 : decode prog_8_method_31_code 48 = .ok (.putfield 75, 3) := by decide +kernel
theorem d_Md_corner_51 : decode prog_8_method_31_code 51 = .ok (.aload_n 0, 1) := by decide +kernel
theorem d_Md_corner_52 : decode prog_8_method_31_code 52 = .ok (.getfield 75, 3) := by decide +kernel
theorem d_Md_corner_55 : decode prog_8_method_31_code 55 = .ok (.ifCond .le 5, 3) := by decide +kernel
theorem d_Md_corner_58 : decode prog_8_method_31_code 58 = .ok (.iconst 0, 1) := by decide +kernel
theorem d_Md_corner_59 : decode prog_8_method_31_code 59 = .ok (.ireturn, 1) := by decide +kernel
theorem d_Md_corner_60 : decode prog_8_method_31_code 60 = .ok (.iload_n 2, 1) := by decide +kernel
theorem d_Md_corner_61 : decode prog_8_method_31_code 61 = .ok (.istore 5, 2) := by decide +kernel
theorem d_Md_corner_63 : decode prog_8_method_31_code 63 = .ok (.iconst 0, 1) := by decide +kernel
theorem d_Md_corner_64 : decode prog_8_method_31_code 64 = .ok (.istore 6, 2) := by decide +kernel
theorem d_Md_corner_66 : decode prog_8_method_31_code 66 = .ok (.iload 5, 2) := by decide +kernel
theorem d_Md_corner_68 : decode prog_8_method_31_code 68 = .ok (.ifCond .gt 18, 3) := by decide +kernel
theorem d_Md_corner_71 : decode prog_8_method_31_code 71 = .ok (.aload_n 0, 1) := by decide +kernel
theorem d_Md_corner_72 : decode prog_8_method_31_code 72 = .ok (.iload 6, 2) := by decide +kernel
theorem d_Md_corner_74 : decode prog_8_method_31_code 74 = .ok (.aload_n 0, 1) := by decide +kernel
theorem d_Md_corner_75 : decode prog_8_method_31_code 75 = .ok (.getfield 41, 3) := by decide +kernel
theorem d_Md_corner_78 : decode prog_8_method_31_code 78 = .ok (.iload_n 1, 1) := by decide +kernel
theorem d_Md_corner_79 : decode prog_8_method_31_code 79 = .ok (.iaload, 1) := by decide +kernel
theorem d_Md_corner_80 : decode prog_8_method_31_code 80 = .ok (.invokevirtual 127, 3) := by decide +kernel
theorem d_Md_corner_83 : decode prog_8_method_31_code 83 = .ok (.ifCond .ne 35, 3) := by decide +kernel
theorem d_Md_corner_86 : decode prog_8_method_31_code 86 = .ok (.aload_n 0, 1) := by decide +kernel
theorem d_Md_corner_87 : decode prog_8_method_31_code 87 = .ok (.iload 6, 2) := by decide +kernel
theorem d_Md_corner_89 : decode prog_8_method_31_code 89 = .ok (.aload_n 0, 1) := by decide +kernel
theorem d_Md_corner_90 : decode prog_8_method_31_code 90 = .ok (.getfield 41, 3) := by decide +kernel
theorem d_Md_corner_93 : decode prog_8_method_31_code 93 = .ok (.iload_n 1, 1) := by decide +kernel
theorem d_Md_corner_94 : decode prog_8_method_31_code 94 = .ok (.iaload, 1) := by decide +kernel
theorem d_Md_corner_95 : decode prog_8_method_31_code 95 = .ok (.invokevirtual 127, 3) := by decide +kernel
theorem d_Md_corner_98 : decode prog_8_method_31_code 98 = .ok (.ifCond .eq 10, 3) := by decide +kernel
theorem d_Md_corner_101 : decode prog_8_method_31_code 101 = .ok (.iload 5, 2) := by decide +kernel
theorem d_Md_corner_103 : decode prog_8_method_31_code 103 = .ok (.iconst 1, 1) := by decide +kernel
theorem d_Md_corner_104 : decode prog_8_method_31_code 104 = .ok (.isub, 1) := by decide +kernel
theorem d_Md_corner_105 : decode prog_8_method_31_code 105 = .ok (.goto 5, 3) := by decide +kernel
theorem d_Md_corner_108 : decode prog_8_method_31_code 108 = .ok (.iload 5, 2) := by decide +kernel
theorem d_Md_corner_110 : decode prog_8_method_31_code 110 = .ok (.istore 5, 2) := by decide +kernel
theorem d_Md_corner_112 : decode prog_8_method_31_code 112 = .ok (.iinc 6 1, 3) := by decide +kernel
theorem d_Md_corner_115 : decode prog_8_method_31_code 115 = .ok (.goto (-49), 3) := by decide +kernel
theorem d_Md_corner_118 : decode prog_8_method_31_code 118 = .ok (.aload_n 0, 1) := by decide +kernel
theorem d_Md_corner_119 : decode prog_8_method_31_code 119 = .ok (.getfield 26, 3) := by decide +kernel
theorem d_Md_corner_122 : decode prog_8_method_31_code 122 = .ok (.iconst 4, 1) := by decide +kernel
theorem d_Md_corner_123 : decode prog_8_method_31_code 123 = .ok (.iload 6, 2) := by decide +kernel
theorem d_Md_corner_125 : decode prog_8_method_31_code 125 = .ok (.imul, 1) := by decide +kernel
theorem d_Md_corner_126 : decode prog_8_method_31_code 126 = .ok (.iload_n 3, 1) := by decide +kernel
theorem d_Md_corner_127 : decode prog_8_method_31_code 127 = .ok (.iadd, 1) := by decide +kernel
theorem d_Md_corner_128 : decode prog_8_method_31_code 128 = .ok (.iaload, 1) := by decide +kernel
theorem d_Md_corner_129 : decode prog_8_method_31_code 129 = .ok (.ireturn, 1) := by decide +kernel
theorem d_Md_find_0 : decode prog_8_method_32_code 0 = .ok (.aload_n 0, 1) := by decide +kernel
theorem d_Md_find_1 : decode prog_8_method_32_code 1 = .ok (.iconst 0, 1) := by decide +kernel
theorem d_Md_find_2 : decode prog_8_method_32_code 2 = .ok (.putfield 75, 3) := by decide +kernel
theorem d_Md_find_5 : decode prog_8_method_32_code 5 = .ok (.iconst 0, 1) := by decide +kernel
theorem d_Md_find_6 : decode prog_8_method_32_code 6 = .ok (.istore_n 2, 1) := by decide +kernel
theorem d_Md_find_7 : decode prog_8_method_32_code 7 = .ok (.iload_n 2, 1) := by decide +kernel
theorem d_Md_find_8 : decode prog_8_method_32_code 8 = .ok (.aload_n 0, 1) := by decide +kernel
theorem d_Md_find_9 : decode prog_8_method_32_code 9 = .ok (.getfield 111, 3) := by decide +kernel
theorem d_Md_find_12 : decode prog_8_method_32_code 12 = .ok (.if_icmp .ge 21, 3) := by decide +kernel
theorem d_Md_find_15 : decode prog_8_method_32_code 15 = .ok (.aload_n 0, 1) := by decide +kernel
theorem d_Md_find_16 : decode prog_8_method_32_code 16 = .ok (.getfield 41, 3) := by decide +kernel
theorem d_Md_find_19 : decode prog_8_method_32_code 19 = .ok (.iload_n 2, 1) := by decide +kernel
theorem d_Md_find_20 : decode prog_8_method_32_code 20 = .ok (.iaload, 1) := by decide +kernel
theorem d_Md_find_21 : decode prog_8_method_32_code 21 = .ok (.iload_n 1, 1) := by decide +kernel
theorem d_Md_find_22 : decode prog_8_method_32_code 22 = .ok (.if_icmp .ne 5, 3) := by decide +kernel
theorem d_Md_find_25 : decode prog_8_method_32_code 25 = .ok (.iload_n 2, 1) := by decide +kernel
theorem d_Md_find_26 : decode prog_8_method_32_code 26 = .ok (.ireturn, 1) := by decide +kernel
theorem d_Md_find_27 : decode prog_8_method_32_code 27 = .ok (.iinc 2 1, 3) := by decide +kernel
theorem d_Md_find_30 : decode prog_8_method_32_code 30 = .ok (.goto (-23), 3) := by decide +kernel
theorem d_Md_find_33 : decode prog_8_method_32_code 33 = .ok (.iconst (-1), 1) := by decide +kernel
theorem d_Md_find_34 : decode prog_8_method_32_code 34 = .ok (.ireturn, 1) := by decide +kernel
theorem d_Md_beside_0 : decode prog_8_method_34_code 0 = .ok (.aload_n 0, 1) := by decide +kernel
theorem d_Md_beside_1 : decode prog_8_method_34_code 1 = .ok (.aload_n 0, 1) := by decide +kernel
theorem d_Md_beside_2 : decode prog_8_method_34_code 2 = .ok (.iload_n 1, 1) := by decide +kernel
theorem d_Md_beside_3 : decode prog_8_method_34_code 3 = .ok (.invokevirtual 152, 3) := by decide +kernel
theorem d_Md_beside_6 : decode prog_8_method_34_code 6 = .ok (.ifCond .eq 21, 3) := by decide +kernel
theorem d_Md_beside_9 : decode prog_8_method_34_code 9 = .ok (.iload_n 2, 1) := by decide +kernel
theorem d_Md_beside_10 : decode prog_8_method_34_code 10 = .ok (.iconst 0, 1) := by decide +kernel
theorem d_Md_beside_11 : decode prog_8_method_34_code 11 = .ok (.aload_n 0, 1) := by decide +kernel
theorem d_Md_beside_12 : decode prog_8_method_34_code 12 = .ok (.getfield 83, 3) := by decide +kernel
theorem d_Md_beside_15 : decode prog_8_method_34_code 15 = .ok (.iconst 1, 1) := by decide +kernel
theorem d_Md_beside_16 : decode prog_8_method_34_code 16 = .ok (.isub, 1) := by decide +kernel
theorem d_Md_beside_17 : decode prog_8_method_34_code 17 = .ok (.invokestatic 131, 3) := by decide +kernel
theorem d_Md_beside_20 : decode prog_8_method_34_code 20 = .ok (.ifCond .eq 7, 3) := by decide +kernel
theorem d_Md_beside_23 : decode prog_8_method_34_code 23 = .ok (.iconst 0, 1) := by decide +kernel
theorem d_Md_beside_24 : decode prog_8_method_34_code 24 = .ok (.goto 4, 3) := by decide +kernel
theorem d_Md_beside_27 : decode prog_8_method_34_code 27 = .ok (.iconst 1, 1) := by decide +kernel
theorem d_Md_beside_28 : decode prog_8_method_34_code 28 = .ok (.putfield 75, 3) := by decide +kernel
theorem d_Md_beside_31 : decode prog_8_method_34_code 31 = .ok (.aload_n 0, 1) := by decide +kernel
theorem d_Md_beside_32 : decode prog_8_method_34_code 32 = .ok (.getfield 75, 3) := by decide +kernel
theorem d_Md_beside_35 : decode prog_8_method_34_code 35 = .ok (.ifCond .le 5, 3) := by decide +kernel
theorem d_Md_beside_38 : decode prog_8_method_34_code 38 = .ok (.iconst 0, 1) := by decide +kernel
theorem d_Md_beside_39 : decode prog_8_method_34_code 39 = .ok (.ireturn, 1) := by decide +kernel
theorem d_Md_beside_40 : decode prog_8_method_34_code 40 = .ok (.aload_n 0, 1) := by decide +kernel
theorem d_Md_beside_41 : decode prog_8_method_34_code 41 = .ok (.iload_n 1, 1) := by decide +kernel
theorem d_Md_beside_42 : decode prog_8_method_34_code 42 = .ok (.iload_n 2, 1) := by decide +kernel
theorem d_Md_beside_43 : decode prog_8_method_34_code 43 = .ok (.invokevirtual 161, 3) := by decide +kernel
theorem d_Md_beside_46 : decode prog_8_method_34_code 46 = .ok (.ifCond .eq 20, 3) := by decide +kernel
theorem d_Md_beside_49 : decode prog_8_method_34_code 49 = .ok (.aload_n 0, 1) := by decide +kernel
theorem d_Md_beside_50 : decode prog_8_method_34_code 50 = .ok (.aload_n 0, 1) := by decide +kernel
theorem d_Md_beside_51 : decode prog_8_method_34_code 51 = .ok (.getfield 41, 3) := by decide +kernel
theorem d_Md_beside_54 : decode prog_8_method_34_code 54 = .ok (.iload_n 1, 1) := by decide +kernel
theorem d_Md_beside_55 : decode prog_8_method_34_code 55 = .ok (.iaload, 1) := by decide +kernel
theorem d_Md_beside_56 : decode prog_8_method_34_code 56 = .ok (.iconst 1, 1) := by decide +kernel
theorem d_Md_beside_57 : decode prog_8_method_34_code 57 = .ok (.iload_n 2, 1) := by decide +kernel
theorem d_Md_beside_58 : decode prog_8_method_34_code 58 = .ok (.ishl, 1) := by decide +kernel
theorem d_Md_beside_59 : decode prog_8_method_34_code 59 = .ok (.ixor, 1) := by decide +kernel
theorem d_Md_beside_60 : decode prog_8_method_34_code 60 = .ok (.invokevirtual 164, 3) := by decide +kernel
theorem d_Md_beside_63 : decode prog_8_method_34_code 63 = .ok (.goto 4, 3) := by decide +kernel
theorem d_Md_beside_66 : decode prog_8_method_34_code 66 = .ok (.iconst (-1), 1) := by decide +kernel
theorem d_Md_beside_67 : decode prog_8_method_34_code 67 = .ok (.ireturn, 1) := by decide +kernel
theorem d_Md_isFace_0 : decode prog_8_method_33_code 0 = .ok (.aload_n 0, 1) := by decide +kernel
theorem d_Md_isFace_1 : decode prog_8_method_33_code 1 = .ok (.getfield 44, 3) := by decide +kernel
theorem d_Md_isFace_4 : decode prog_8_method_33_code 4 = .ok (.iload_n 1, 1) := by decide +kernel
theorem d_Md_isFace_5 : decode prog_8_method_33_code 5 = .ok (.iaload, 1) := by decide +kernel
theorem d_Md_isFace_6 : decode prog_8_method_33_code 6 = .ok (.iload_n 2, 1) := by decide +kernel
theorem d_Md_isFace_7 : decode prog_8_method_33_code 7 = .ok (.ishr, 1) := by decide +kernel
theorem d_Md_isFace_8 : decode prog_8_method_33_code 8 = .ok (.iconst 1, 1) := by decide +kernel
theorem d_Md_isFace_9 : decode prog_8_method_33_code 9 = .ok (.iand, 1) := by decide +kernel
theorem d_Md_isFace_10 : decode prog_8_method_33_code 10 = .ok (.iconst 1, 1) := by decide +kernel
theorem d_Md_isFace_11 : decode prog_8_method_33_code 11 = .ok (.if_icmp .ne 7, 3) := by decide +kernel
theorem d_Md_isFace_14 : decode prog_8_method_33_code 14 = .ok (.iconst 1, 1) := by decide +kernel
theorem d_Md_isFace_15 : decode prog_8_method_33_code 15 = .ok (.goto 4, 3) := by decide +kernel
theorem d_Md_isFace_18 : decode prog_8_method_33_code 18 = .ok (.iconst 0, 1) := by decide +kernel
theorem d_Md_isFace_19 : decode prog_8_method_33_code 19 = .ok (.ireturn, 1) := by decide +kernel
theorem d_Md_goes_0 : decode prog_8_method_40_code 0 = .ok (.aload_n 0, 1) := by decide +kernel
theorem d_Md_goes_1 : decode prog_8_method_40_code 1 = .ok (.aload_n 0, 1) := by decide +kernel
theorem d_Md_goes_2 : decode prog_8_method_40_code 2 = .ok (.iload_n 1, 1) := by decide +kernel
theorem d_Md_goes_3 : decode prog_8_method_40_code 3 = .ok (.invokevirtual 152, 3) := by decide +kernel
theorem d_Md_goes_6 : decode prog_8_method_40_code 6 = .ok (.ifCond .eq 21, 3) := by decide +kernel
theorem d_Md_goes_9 : decode prog_8_method_40_code 9 = .ok (.iload_n 2, 1) := by decide +kernel
theorem d_Md_goes_10 : decode prog_8_method_40_code 10 = .ok (.iconst 0, 1) := by decide +kernel
theorem d_Md_goes_11 : decode prog_8_method_40_code 11 = .ok (.aload_n 0, 1) := by decide +kernel
theorem d_Md_goes_12 : decode prog_8_method_40_code 12 = .ok (.getfield 146, 3) := by decide +kernel
theorem d_Md_goes_15 : decode prog_8_method_40_code 15 = .ok (.iconst 1, 1) := by decide +kernel
theorem d_Md_goes_16 : decode prog_8_method_40_code 16 = .ok (.isub, 1) := by decide +kernel
theorem d_Md_goes_17 : decode prog_8_method_40_code 17 = .ok (.invokestatic 131, 3) := by decide +kernel
theorem d_Md_goes_20 : decode prog_8_method_40_code 20 = .ok (.ifCond .eq 7, 3) := by decide +kernel
theorem d_Md_goes_23 : decode prog_8_method_40_code 23 = .ok (.iconst 0, 1) := by decide +kernel
theorem d_Md_goes_24 : decode prog_8_method_40_code 24 = .ok (.goto 4, 3) := by decide +kernel
theorem d_Md_goes_27 : decode prog_8_method_40_code 27 = .ok (.iconst 1, 1) := by decide +kernel
theorem d_Md_goes_28 : decode prog_8_method_40_code 28 = .ok (.putfield 75, 3) := by decide +kernel
theorem d_Md_goes_31 : decode prog_8_method_40_code 31 = .ok (.aload_n 0, 1) := by decide +kernel
theorem d_Md_goes_32 : decode prog_8_method_40_code 32 = .ok (.getfield 75, 3) := by decide +kernel
theorem d_Md_goes_35 : decode prog_8_method_40_code 35 = .ok (.ifCond .ne 16, 3) := by decide +kernel
theorem d_Md_goes_38 : decode prog_8_method_40_code 38 = .ok (.aload_n 0, 1) := by decide +kernel
theorem d_Md_goes_39 : decode prog_8_method_40_code 39 = .ok (.iload_n 1, 1) := by decide +kernel
theorem d_Md_goes_40 : decode prog_8_method_40_code 40 = .ok (.iload_n 2, 1) := by decide +kernel
theorem d_Md_goes_41 : decode prog_8_method_40_code 41 = .ok (.invokevirtual 181, 3) := by decide +kernel
theorem d_Md_goes_44 : decode prog_8_method_40_code 44 = .ok (.ifCond .eq 7, 3) := by decide +kernel
theorem d_Md_goes_47 : decode prog_8_method_40_code 47 = .ok (.iconst 1, 1) := by decide +kernel
theorem d_Md_goes_48 : decode prog_8_method_40_code 48 = .ok (.goto 4, 3) := by decide +kernel
theorem d_Md_goes_51 : decode prog_8_method_40_code 51 = .ok (.iconst 0, 1) := by decide +kernel
theorem d_Md_goes_52 : decode prog_8_method_40_code 52 = .ok (.ireturn, 1) := by decide +kernel
theorem d_Md_canGoBy_0 : decode prog_8_method_39_code 0 = .ok (.iconst 0, 1) := by decide +kernel
theorem d_Md_canGoBy_1 : decode prog_8_method_39_code 1 = .ok (.istore_n 3, 1) := by decide +kernel
theorem d_Md_canGoBy_2 : decode prog_8_method_39_code 2 = .ok (.iload_n 3, 1) := by decide +kernel
theorem d_Md_canGoBy_3 : decode prog_8_method_39_code 3 = .ok (.iconst 3, 1) := by decide +kernel
theorem d_Md_canGoBy_4 : decode prog_8_method_39_code 4 = .ok (.if_icmp .ge 25, 3) := by decide +kernel
theorem d_Md_canGoBy_7 : decode prog_8_method_39_code 7 = .ok (.aload_n 0, 1) := by decide +kernel
theorem d_Md_canGoBy_8 : decode prog_8_method_39_code 8 = .ok (.getfield 62, 3) := by decide +kernel
theorem d_Md_canGoBy_11 : decode prog_8_method_39_code 11 = .ok (.iload_n 3, 1) := by decide +kernel
theorem d_Md_canGoBy_12 : decode prog_8_method_39_code 12 = .ok (.aload_n 0, 1) := by decide +kernel
theorem d_Md_canGoBy_13 : decode prog_8_method_39_code 13 = .ok (.getfield 20, 3) := by decide +kernel
theorem d_Md_canGoBy_16 : decode prog_8_method_39_code 16 = .ok (.iconst 3, 1) := by decide +kernel
theorem d_Md_canGoBy_17 : decode prog_8_method_39_code 17 = .ok (.iload_n 2, 1) := by decide +kernel
theorem d_Md_canGoBy_18 : decode prog_8_method_39_code 18 = .ok (.imul, 1) := by decide +kernel
theorem d_Md_canGoBy_19 : decode prog_8_method_39_code 19 = .ok (.iload_n 3, 1) := by decide +kernel
theorem d_Md_canGoBy_20 : decode prog_8_method_39_code 20 = .ok (.iadd, 1) := by decide +kernel
theorem d_Md_canGoBy_21 : decode prog_8_method_39_code 21 = .ok (.iaload, 1) := by decide +kernel
theorem d_Md_canGoBy_22 : decode prog_8_method_39_code 22 = .ok (.iastore, 1) := by decide +kernel
theorem d_Md_canGoBy_23 : decode prog_8_method_39_code 23 = .ok (.iinc 3 1, 3) := by decide +kernel
theorem d_Md_canGoBy_26 : decode prog_8_method_39_code 26 = .ok (.goto (-24), 3) := by decide +kernel
theorem d_Md_canGoBy_29 : decode prog_8_method_39_code 29 = .ok (.aload_n 0, 1) := by decide +kernel
theorem d_Md_canGoBy_30 : decode prog_8_method_39_code 30 = .ok (.iload_n 1, 1) := by decide +kernel
theorem d_Md_canGoBy_31 : decode prog_8_method_39_code 31 = .ok (.invokevirtual 178, 3) := by decide +kernel
theorem d_Md_canGoBy_34 : decode prog_8_method_39_code 34 = .ok (.ireturn, 1) := by decide +kernel
theorem d_Md_canGo_0 : decode prog_8_method_38_code 0 = .ok (.aload_n 0, 1) := by decide +kernel
theorem d_Md_canGo_1 : decode prog_8_method_38_code 1 = .ok (.getfield 47, 3) := by decide +kernel
theorem d_Md_canGo_4 : decode prog_8_method_38_code 4 = .ok (.iload_n 1, 1) := by decide +kernel
theorem d_Md_canGo_5 : decode prog_8_method_38_code 5 = .ok (.baload, 1) := by decide +kernel
theorem d_Md_canGo_6 : decode prog_8_method_38_code 6 = .ok (.ifCond .ne 34, 3) := by decide +kernel
theorem d_Md_canGo_9 : decode prog_8_method_38_code 9 = .ok (.aload_n 0, 1) := by decide +kernel
theorem d_Md_canGo_10 : decode prog_8_method_38_code 10 = .ok (.getfield 62, 3) := by decide +kernel
theorem d_Md_canGo_13 : decode prog_8_method_38_code 13 = .ok (.iconst 0, 1) := by decide +kernel
theorem d_Md_canGo_14 : decode prog_8_method_38_code 14 = .ok (.iaload, 1) := by decide +kernel
theorem d_Md_canGo_15 : decode prog_8_method_38_code 15 = .ok (.ifCond .ne 21, 3) := by decide +kernel
theorem d_Md_canGo_18 : decode prog_8_method_38_code 18 = .ok (.aload_n 0, 1) := by decide +kernel
theorem d_Md_canGo_19 : decode prog_8_method_38_code 19 = .ok (.getfield 62, 3) := by decide +kernel
theorem d_Md_canGo_22 : decode prog_8_method_38_code 22 = .ok (.iconst 1, 1) := by decide +kernel
theorem d_Md_canGo_23 : decode prog_8_method_38_code 23 = .ok (.iaload, 1) := by decide +kernel
theorem d_Md_canGo_24 : decode prog_8_method_38_code 24 = .ok (.ifCond .ne 12, 3) := by decide +kernel
theorem d_Md_canGo_27 : decode prog_8_method_38_code 27 = .ok (.aload_n 0, 1) := by decide +kernel
theorem d_Md_canGo_28 : decode prog_8_method_38_code 28 = .ok (.getfield 62, 3) := by decide +kernel
theorem d_Md_canGo_31 : decode prog_8_method_38_code 31 = .ok (.iconst 2, 1) := by decide +kernel
theorem d_Md_canGo_32 : decode prog_8_method_38_code 32 = .ok (.iaload, 1) := by decide +kernel
theorem d_Md_canGo_33 : decode prog_8_method_38_code 33 = .ok (.ifCond .eq 7, 3) := by decide +kernel
theorem d_Md_canGo_36 : decode prog_8_method_38_code 36 = .ok (.iconst 1, 1) := by decide +kernel
theorem d_Md_canGo_37 : decode prog_8_method_38_code 37 = .ok (.goto 4, 3) := by decide +kernel
theorem d_Md_canGo_40 : decode prog_8_method_38_code 40 = .ok (.iconst 0, 1) := by decide +kernel
theorem d_Md_canGo_41 : decode prog_8_method_38_code 41 = .ok (.istore_n 2, 1) := by decide +kernel
theorem d_Md_canGo_42 : decode prog_8_method_38_code 42 = .ok (.iconst 0, 1) := by decide +kernel
theorem d_Md_canGo_43 : decode prog_8_method_38_code 43 = .ok (.istore_n 3, 1) := by decide +kernel
theorem d_Md_canGo_44 : decode prog_8_method_38_code 44 = .ok (.iload_n 3, 1) := by decide +kernel
theorem d_Md_canGo_45 : decode prog_8_method_38_code 45 = .ok (.bipush 12, 2) := by decide +kernel
theorem d_Md_canGo_47 : decode prog_8_method_38_code 47 = .ok (.if_icmp .ge 52, 3) := by decide +kernel
theorem d_Md_canGo_50 : decode prog_8_method_38_code 50 = .ok (.iload_n 2, 1) := by decide +kernel
theorem d_Md_canGo_51 : decode prog_8_method_38_code 51 = .ok (.ifCond .eq 48, 3) := by decide +kernel
theorem d_Md_canGo_54 : decode prog_8_method_38_code 54 = .ok (.aload_n 0, 1) := by decide +kernel
theorem d_Md_canGo_55 : decode prog_8_method_38_code 55 = .ok (.iload_n 1, 1) := by decide +kernel
theorem d_Md_canGo_56 : decode prog_8_method_38_code 56 = .ok (.iload_n 3, 1) := by decide +kernel
theorem d_Md_canGo_57 : decode prog_8_method_38_code 57 = .ok (.invokevirtual 167, 3) := by decide +kernel
theorem d_Md_canGo_60 : decode prog_8_method_38_code 60 = .ok (.ifCond .eq 33, 3) := by decide +kernel
theorem d_Md_canGo_63 : decode prog_8_method_38_code 63 = .ok (.aload_n 0, 1) := by decide +kernel
theorem d_Md_canGo_64 : decode prog_8_method_38_code 64 = .ok (.iload_n 1, 1) := by decide +kernel
theorem d_Md_canGo_65 : decode prog_8_method_38_code 65 = .ok (.iload_n 3, 1) := by decide +kernel
theorem d_Md_canGo_66 : decode prog_8_method_38_code 66 = .ok (.aload_n 0, 1) := by decide +kernel
theorem d_Md_canGo_67 : decode prog_8_method_38_code 67 = .ok (.getfield 65, 3) := by decide +kernel
theorem d_Md_canGo_70 : decode prog_8_method_38_code 70 = .ok (.invokevirtual 170, 3) := by decide +kernel
theorem d_Md_canGo_73 : decode prog_8_method_38_code 73 = .ok (.aload_n 0, 1) := by decide +kernel
theorem d_Md_canGo_74 : decode prog_8_method_38_code 74 = .ok (.getfield 62, 3) := by decide +kernel
theorem d_Md_canGo_77 : decode prog_8_method_38_code 77 = .ok (.aload_n 0, 1) := by decide +kernel
theorem d_Md_canGo_78 : decode prog_8_method_38_code 78 = .ok (.getfield 65, 3) := by decide +kernel
theorem d_Md_canGo_81 : decode prog_8_method_38_code 81 = .ok (.invokestatic 174, 3) := by decide +kernel
theorem d_Md_canGo_84 : decode prog_8_method_38_code 84 = .ok (.ifCond .lt 7, 3) := by decide +kernel
theorem d_Md_canGo_87 : decode prog_8_method_38_code 87 = .ok (.iconst 1, 1) := by decide +kernel
theorem d_Md_canGo_88 : decode prog_8_method_38_code 88 = .ok (.goto 4, 3) := by decide +kernel
theorem d_Md_canGo_91 : decode prog_8_method_38_code 91 = .ok (.iconst 0, 1) := by decide +kernel
theorem d_Md_canGo_92 : decode prog_8_method_38_code 92 = .ok (.istore_n 2, 1) := by decide +kernel
theorem d_Md_canGo_93 : decode prog_8_method_38_code 93 = .ok (.iinc 3 1, 3) := by decide +kernel
theorem d_Md_canGo_96 : decode prog_8_method_38_code 96 = .ok (.goto (-52), 3) := by decide +kernel
theorem d_Md_canGo_99 : decode prog_8_method_38_code 99 = .ok (.iload_n 2, 1) := by decide +kernel
theorem d_Md_canGo_100 : decode prog_8_method_38_code 100 = .ok (.ireturn, 1) := by decide +kernel
theorem d_Md_holds_0 : decode prog_8_method_35_code 0 = .ok (.aload_n 0, 1) := by decide +kernel
theorem d_Md_holds_1 : decode prog_8_method_35_code 1 = .ok (.iload_n 1, 1) := by decide +kernel
theorem d_Md_holds_2 : decode prog_8_method_35_code 2 = .ok (.iload_n 2, 1) := by decide +kernel
theorem d_Md_holds_3 : decode prog_8_method_35_code 3 = .ok (.invokevirtual 161, 3) := by decide +kernel
theorem d_Md_holds_6 : decode prog_8_method_35_code 6 = .ok (.ifCond .ne 5, 3) := by decide +kernel
theorem d_Md_holds_9 : decode prog_8_method_35_code 9 = .ok (.iconst 0, 1) := by decide +kernel
theorem d_Md_holds_10 : decode prog_8_method_35_code 10 = .ok (.ireturn, 1) := by decide +kernel
theorem d_Md_holds_11 : decode prog_8_method_35_code 11 = .ok (.iload_n 2, 1) := by decide +kernel
theorem d_Md_holds_12 : decode prog_8_method_35_code 12 = .ok (.bipush 6, 2) := by decide +kernel
theorem d_Md_holds_14 : decode prog_8_method_35_code 14 = .ok (.if_icmp .lt 20, 3) := by decide +kernel
theorem d_Md_holds_17 : decode prog_8_method_35_code 17 = .ok (.aload_n 0, 1) := by decide +kernel
theorem d_Md_holds_18 : decode prog_8_method_35_code 18 = .ok (.getfield 16, 3) := by decide +kernel
theorem d_Md_holds_21 : decode prog_8_method_35_code 21 = .ok (.iload_n 2, 1) := by decide +kernel
theorem d_Md_holds_22 : decode prog_8_method_35_code 22 = .ok (.baload, 1) := by decide +kernel
theorem d_Md_holds_23 : decode prog_8_method_35_code 23 = .ok (.ifCond .ne 7, 3) := by decide +kernel
theorem d_Md_holds_26 : decode prog_8_method_35_code 26 = .ok (.iconst 1, 1) := by decide +kernel
theorem d_Md_holds_27 : decode prog_8_method_35_code 27 = .ok (.goto 34, 3) := by decide +kernel
theorem d_Md_holds_30 : decode prog_8_method_35_code 30 = .ok (.iconst 0, 1) := by decide +kernel
theorem d_Md_holds_31 : decode prog_8_method_35_code 31 = .ok (.goto 30, 3) := by decide +kernel
theorem d_Md_holds_34 : decode prog_8_method_35_code 34 = .ok (.aload_n 0, 1) := by decide +kernel
theorem d_Md_holds_35 : decode prog_8_method_35_code 35 = .ok (.getfield 47, 3) := by decide +kernel
theorem d_Md_holds_38 : decode prog_8_method_35_code 38 = .ok (.aload_n 0, 1) := by decide +kernel
theorem d_Md_holds_39 : decode prog_8_method_35_code 39 = .ok (.aload_n 0, 1) := by decide +kernel
theorem d_Md_holds_40 : decode prog_8_method_35_code 40 = .ok (.getfield 41, 3) := by decide +kernel
theorem d_Md_holds_43 : decode prog_8_method_35_code 43 = .ok (.iload_n 1, 1) := by decide +kernel
theorem d_Md_holds_44 : decode prog_8_method_35_code 44 = .ok (.iaload, 1) := by decide +kernel
theorem d_Md_holds_45 : decode prog_8_method_35_code 45 = .ok (.iconst 1, 1) := by decide +kernel
