theorem dX9_init_0 : decode cX9_init 0 = .ok (.aload_n 0, 1) := by decide +kernel
theorem dX9_init_1 : decode cX9_init 1 = .ok (.invokespecial 1, 3) := by decide +kernel
theorem dX9_init_4 : decode cX9_init 4 = .ok (.aload_n 0, 1) := by decide +kernel
theorem dX9_init_5 : decode cX9_init 5 = .ok (.iconst 1, 1) := by decide +kernel
theorem dX9_init_6 : decode cX9_init 6 = .ok (.putfield 7, 3) := by decide +kernel
theorem dX9_init_9 : decode cX9_init 9 = .ok (.aload_n 0, 1) := by decide +kernel
theorem dX9_init_10 : decode cX9_init 10 = .ok (.bipush 10, 2) := by decide +kernel
theorem dX9_init_12 : decode cX9_init 12 = .ok (.newarray .int, 2) := by decide +kernel
theorem dX9_init_14 : decode cX9_init 14 = .ok (.putfield 13, 3) := by decide +kernel
theorem dX9_init_17 : decode cX9_init 17 = .ok (.aload_n 0, 1) := by decide +kernel
theorem dX9_init_18 : decode cX9_init 18 = .ok (.bipush 10, 2) := by decide +kernel
theorem dX9_init_20 : decode cX9_init 20 = .ok (.newarray .int, 2) := by decide +kernel
theorem dX9_init_22 : decode cX9_init 22 = .ok (.putfield 17, 3) := by decide +kernel
theorem dX9_init_25 : decode cX9_init 25 = .ok (.aload_n 0, 1) := by decide +kernel
theorem dX9_init_26 : decode cX9_init 26 = .ok (.bipush 10, 2) := by decide +kernel
theorem dX9_init_28 : decode cX9_init 28 = .ok (.newarray .int, 2) := by decide +kernel
theorem dX9_init_30 : decode cX9_init 30 = .ok (.putfield 20, 3) := by decide +kernel
theorem dX9_init_33 : decode cX9_init 33 = .ok (.aload_n 0, 1) := by decide +kernel
theorem dX9_init_34 : decode cX9_init 34 = .ok (.bipush 10, 2) := by decide +kernel
theorem dX9_init_36 : decode cX9_init 36 = .ok (.newarray .int, 2) := by decide +kernel
theorem dX9_init_38 : decode cX9_init 38 = .ok (.putfield 23, 3) := by decide +kernel
theorem dX9_init_41 : decode cX9_init 41 = .ok (.aload_n 0, 1) := by decide +kernel
theorem dX9_init_42 : decode cX9_init 42 = .ok (.bipush 10, 2) := by decide +kernel
theorem dX9_init_44 : decode cX9_init 44 = .ok (.newarray .int, 2) := by decide +kernel
theorem dX9_init_46 : decode cX9_init 46 = .ok (.putfield 26, 3) := by decide +kernel
theorem dX9_init_49 : decode cX9_init 49 = .ok (.aload_n 0, 1) := by decide +kernel
theorem dX9_init_50 : decode cX9_init 50 = .ok (.bipush 10, 2) := by decide +kernel
theorem dX9_init_52 : decode cX9_init 52 = .ok (.newarray .int, 2) := by decide +kernel
theorem dX9_init_54 : decode cX9_init 54 = .ok (.putfield 29, 3) := by decide +kernel
theorem dX9_init_57 : decode cX9_init 57 = .ok (.aload_n 0, 1) := by decide +kernel
theorem dX9_init_58 : decode cX9_init 58 = .ok (.sipush 160, 3) := by decide +kernel
theorem dX9_init_61 : decode cX9_init 61 = .ok (.newarray .int, 2) := by decide +kernel
theorem dX9_init_63 : decode cX9_init 63 = .ok (.putfield 32, 3) := by decide +kernel
theorem dX9_init_66 : decode cX9_init 66 = .ok (.aload_n 0, 1) := by decide +kernel
theorem dX9_init_67 : decode cX9_init 67 = .ok (.sipush 160, 3) := by decide +kernel
theorem dX9_init_70 : decode cX9_init 70 = .ok (.newarray .int, 2) := by decide +kernel
theorem dX9_init_72 : decode cX9_init 72 = .ok (.putfield 35, 3) := by decide +kernel
theorem dX9_init_75 : decode cX9_init 75 = .ok (.aload_n 0, 1) := by decide +kernel
theorem dX9_init_76 : decode cX9_init 76 = .ok (.sipush 160, 3) := by decide +kernel
theorem dX9_init_79 : decode cX9_init 79 = .ok (.newarray .int, 2) := by decide +kernel
theorem dX9_init_81 : decode cX9_init 81 = .ok (.putfield 38, 3) := by decide +kernel
theorem dX9_init_84 : decode cX9_init 84 = .ok (.aload_n 0, 1) := by decide +kernel
theorem dX9_init_85 : decode cX9_init 85 = .ok (.bipush 100, 2) := by decide +kernel
theorem dX9_init_87 : decode cX9_init 87 = .ok (.newarray .int, 2) := by decide +kernel
theorem dX9_init_89 : decode cX9_init 89 = .ok (.putfield 41, 3) := by decide +kernel
theorem dX9_init_92 : decode cX9_init 92 = .ok (.aload_n 0, 1) := by decide +kernel
theorem dX9_init_93 : decode cX9_init 93 = .ok (.bipush 100, 2) := by decide +kernel
theorem dX9_init_95 : decode cX9_init 95 = .ok (.newarray .int, 2) := by decide +kernel
theorem dX9_init_97 : decode cX9_init 97 = .ok (.putfield 44, 3) := by decide +kernel
theorem dX9_init_100 : decode cX9_init 100 = .ok (.aload_n 0, 1) := by decide +kernel
theorem dX9_init_101 : decode cX9_init 101 = .ok (.bipush 110, 2) := by decide +kernel
theorem dX9_init_103 : decode cX9_init 103 = .ok (.newarray .int, 2) := by decide +kernel
theorem dX9_init_105 : decode cX9_init 105 = .ok (.putfield 47, 3) := by decide +kernel
theorem dX9_init_108 : decode cX9_init 108 = .ok (.aload_n 0, 1) := by decide +kernel
theorem dX9_init_109 : decode cX9_init 109 = .ok (.bipush 110, 2) := by decide +kernel
theorem dX9_init_111 : decode cX9_init 111 = .ok (.newarray .int, 2) := by decide +kernel
theorem dX9_init_113 : decode cX9_init 113 = .ok (.putfield 50, 3) := by decide +kernel
theorem dX9_init_116 : decode cX9_init 116 = .ok (.aload_n 0, 1) := by decide +kernel
theorem dX9_init_117 : decode cX9_init 117 = .ok (.bipush 110, 2) := by decide +kernel
theorem dX9_init_119 : decode cX9_init 119 = .ok (.newarray .int, 2) := by decide +kernel
theorem dX9_init_121 : decode cX9_init 121 = .ok (.putfield 53, 3) := by decide +kernel
theorem dX9_init_124 : decode cX9_init 124 = .ok (.aload_n 0, 1) := by decide +kernel
theorem dX9_init_125 : decode cX9_init 125 = .ok (.bipush 110, 2) := by decide +kernel
theorem dX9_init_127 : decode cX9_init 127 = .ok (.newarray .int, 2) := by decide +kernel
theorem dX9_init_129 : decode cX9_init 129 = .ok (.putfield 56, 3) := by decide +kernel
theorem dX9_init_132 : decode cX9_init 132 = .ok (.aload_n 0, 1) := by decide +kernel
theorem dX9_init_133 : decode cX9_init 133 = .ok (.bipush 110, 2) := by decide +kernel
theorem dX9_init_135 : decode cX9_init 135 = .ok (.newarray .int, 2) := by decide +kernel
theorem dX9_init_137 : decode cX9_init 137 = .ok (.putfield 59, 3) := by decide +kernel
theorem dX9_init_140 : decode cX9_init 140 = .ok (.aload_n 0, 1) := by decide +kernel
theorem dX9_init_141 : decode cX9_init 141 = .ok (.bipush 110, 2) := by decide +kernel
theorem dX9_init_143 : decode cX9_init 143 = .ok (.newarray .int, 2) := by decide +kernel
theorem dX9_init_145 : decode cX9_init 145 = .ok (.putfield 62, 3) := by decide +kernel
theorem dX9_init_148 : decode cX9_init 148 = .ok (.aload_n 0, 1) := by decide +kernel
theorem dX9_init_149 : decode cX9_init 149 = .ok (.bipush 7, 2) := by decide +kernel
theorem dX9_init_151 : decode cX9_init 151 = .ok (.putfield 65, 3) := by decide +kernel
theorem dX9_init_154 : decode cX9_init 154 = .ok (.aload_n 0, 1) := by decide +kernel
theorem dX9_init_155 : decode cX9_init 155 = .ok (.sipush 1000, 3) := by decide +kernel
theorem dX9_init_158 : decode cX9_init 158 = .ok (.putfield 68, 3) := by decide +kernel
theorem dX9_init_161 : decode cX9_init 161 = .ok (.aload_n 0, 1) := by decide +kernel
theorem dX9_init_162 : decode cX9_init 162 = .ok (.bipush 20, 2) := by decide +kernel
theorem dX9_init_164 : decode cX9_init 164 = .ok (.putfield 71, 3) := by decide +kernel
theorem dX9_init_167 : decode cX9_init 167 = .ok (.aload_n 0, 1) := by decide +kernel
theorem dX9_init_168 : decode cX9_init 168 = .ok (.bipush 10, 2) := by decide +kernel
theorem dX9_init_170 : decode cX9_init 170 = .ok (.newarray .int, 2) := by decide +kernel
theorem dX9_init_172 : decode cX9_init 172 = .ok (.putfield 74, 3) := by decide +kernel
theorem dX9_init_175 : decode cX9_init 175 = .ok (.aload_n 0, 1) := by decide +kernel
theorem dX9_init_176 : decode cX9_init 176 = .ok (.iconst 0, 1) := by decide +kernel
theorem dX9_init_177 : decode cX9_init 177 = .ok (.newarray .int, 2) := by decide +kernel
theorem dX9_init_179 : decode cX9_init 179 = .ok (.putfield 77, 3) := by decide +kernel
theorem dX9_init_182 : decode cX9_init 182 = .ok (.aload_n 0, 1) := by decide +kernel
theorem dX9_init_183 : decode cX9_init 183 = .ok (.iconst 0, 1) := by decide +kernel
theorem dX9_init_184 : decode cX9_init 184 = .ok (.newarray .int, 2) := by decide +kernel
theorem dX9_init_186 : decode cX9_init 186 = .ok (.putfield 80, 3) := by decide +kernel
theorem dX9_init_189 : decode cX9_init 189 = .ok (.aload_n 0, 1) := by decide +kernel
theorem dX9_init_190 : decode cX9_init 190 = .ok (.bipush 110, 2) := by decide +kernel
theorem dX9_init_192 : decode cX9_init 192 = .ok (.newarray .int, 2) := by decide +kernel
theorem dX9_init_194 : decode cX9_init 194 = .ok (.putfield 83, 3) := by decide +kernel
theorem dX9_init_197 : decode cX9_init 197 = .ok (.aload_n 0, 1) := by decide +kernel
theorem dX9_init_198 : decode cX9_init 198 = .ok (.iconst 0, 1) := by decide +kernel
theorem dX9_init_199 : decode cX9_init 199 = .ok (.newarray .int, 2) := by decide +kernel
theorem dX9_init_201 : decode cX9_init 201 = .ok (.putfield 86, 3) := by decide +kernel
theorem dX9_init_204 : decode cX9_init 204 = .ok (.aload_n 0, 1) := by decide +kernel
theorem dX9_init_205 : decode cX9_init 205 = .ok (.iconst 0, 1) := by decide +kernel
theorem dX9_init_206 : decode cX9_init 206 = .ok (.newarray .int, 2) := by decide +kernel
theorem dX9_init_208 : decode cX9_init 208 = .ok (.putfield 89, 3) := by decide +kernel
theorem dX9_init_211 : decode cX9_init 211 = .ok (.aload_n 0, 1) := by decide +kernel
theorem dX9_init_212 : decode cX9_init 212 = .ok (.iconst 0, 1) := by decide +kernel
theorem dX9_init_213 : decode cX9_init 213 = .ok (.newarray .int, 2) := by decide +kernel
theorem dX9_init_215 : decode cX9_init 215 = .ok (.putfield 92, 3) := by decide +kernel
theorem dX9_init_218 : decode cX9_init 218 = .ok (.aload_n 0, 1) := by decide +kernel
theorem dX9_init_219 : decode cX9_init 219 = .ok (.iconst 0, 1) := by decide +kernel
theorem dX9_init_220 : decode cX9_init 220 = .ok (.newarray .int, 2) := by decide +kernel
theorem dX9_init_222 : decode cX9_init 222 = .ok (.putfield 95, 3) := by decide +kernel
theorem dX9_init_225 : decode cX9_init 225 = .ok (.aload_n 0, 1) := by decide +kernel
theorem dX9_init_226 : decode cX9_init 226 = .ok (.iconst 0, 1) := by decide +kernel
theorem dX9_init_227 : decode cX9_init 227 = .ok (.newarray .int, 2) := by decide +kernel
theorem dX9_init_229 : decode cX9_init 229 = .ok (.putfield 98, 3) := by decide +kernel
theorem dX9_init_232 : decode cX9_init 232 = .ok (.aload_n 0, 1) := by decide +kernel
theorem dX9_init_233 : decode cX9_init 233 = .ok (.iconst 0, 1) := by decide +kernel
theorem dX9_init_234 : decode cX9_init 234 = .ok (.newarray .int, 2) := by decide +kernel
theorem dX9_init_236 : decode cX9_init 236 = .ok (.putfield 101, 3) := by decide +kernel
theorem dX9_init_239 : decode cX9_init 239 = .ok (.aload_n 0, 1) := by decide +kernel
theorem dX9_init_240 : decode cX9_init 240 = .ok (.bipush 110, 2) := by decide +kernel
theorem dX9_init_242 : decode cX9_init 242 = .ok (.newarray .int, 2) := by decide +kernel
theorem dX9_init_244 : decode cX9_init 244 = .ok (.putfield 104, 3) := by decide +kernel
theorem dX9_init_247 : decode cX9_init 247 = .ok (.aload_n 0, 1) := by decide +kernel
theorem dX9_init_248 : decode cX9_init 248 = .ok (.bipush 10, 2) := by decide +kernel
theorem dX9_init_250 : decode cX9_init 250 = .ok (.newarray .int, 2) := by decide +kernel
theorem dX9_init_252 : decode cX9_init 252 = .ok (.putfield 107, 3) := by decide +kernel
theorem dX9_init_255 : decode cX9_init 255 = .ok (.aload_n 0, 1) := by decide +kernel
theorem dX9_init_256 : decode cX9_init 256 = .ok (.bipush 110, 2) := by decide +kernel
theorem dX9_init_258 : decode cX9_init 258 = .ok (.newarray .boolean, 2) := by decide +kernel
theorem dX9_init_260 : decode cX9_init 260 = .ok (.putfield 110, 3) := by decide +kernel
theorem dX9_init_263 : decode cX9_init 263 = .ok (.iconst 0, 1) := by decide +kernel
theorem dX9_init_264 : decode cX9_init 264 = .ok (.istore_n 1, 1) := by decide +kernel
theorem dX9_init_265 : decode cX9_init 265 = .ok (.iload_n 1, 1) := by decide +kernel
theorem dX9_init_266 : decode cX9_init 266 = .ok (.bipush 10, 2) := by decide +kernel
theorem dX9_init_268 : decode cX9_init 268 = .ok (.if_icmp .ge 16, 3) := by decide +kernel
theorem dX9_init_271 : decode cX9_init 271 = .ok (.aload_n 0, 1) := by decide +kernel
theorem dX9_init_272 : decode cX9_init 272 = .ok (.getfield 29, 3) := by decide +kernel
theorem dX9_init_275 : decode cX9_init 275 = .ok (.iload_n 1, 1) := by decide +kernel
theorem dX9_init_276 : decode cX9_init 276 = .ok (.iconst (-1), 1) := by decide +kernel
theorem dX9_init_277 : decode cX9_init 277 = .ok (.iastore, 1) := by decide +kernel
theorem dX9_init_278 : decode cX9_init 278 = .ok (.iinc 1 1, 3) := by decide +kernel
theorem dX9_init_281 : decode cX9_init 281 = .ok (.goto (-16), 3) := by decide +kernel
theorem dX9_init_284 : decode cX9_init 284 = .ok (.aload_n 0, 1) := by decide +kernel
theorem dX9_init_285 : decode cX9_init 285 = .ok (.getfield 13, 3) := by decide +kernel
theorem dX9_init_288 : decode cX9_init 288 = .ok (.iconst 0, 1) := by decide +kernel
theorem dX9_init_289 : decode cX9_init 289 = .ok (.iconst (-1), 1) := by decide +kernel
theorem dX9_init_290 : decode cX9_init 290 = .ok (.iastore, 1) := by decide +kernel
theorem dX9_init_291 : decode cX9_init 291 = .ok (.aload_n 0, 1) := by decide +kernel
theorem dX9_init_292 : decode cX9_init 292 = .ok (.getfield 17, 3) := by decide +kernel
theorem dX9_init_295 : decode cX9_init 295 = .ok (.iconst 0, 1) := by decide +kernel
theorem dX9_init_296 : decode cX9_init 296 = .ok (.iconst (-1), 1) := by decide +kernel
theorem dX9_init_297 : decode cX9_init 297 = .ok (.iastore, 1) := by decide +kernel
theorem dX9_init_298 : decode cX9_init 298 = .ok (.iconst 0, 1) := by decide +kernel
theorem dX9_init_299 : decode cX9_init 299 = .ok (.istore_n 1, 1) := by decide +kernel
theorem dX9_init_300 : decode cX9_init 300 = .ok (.iload_n 1, 1) := by decide +kernel
theorem dX9_init_301 : decode cX9_init 301 = .ok (.sipush 160, 3) := by decide +kernel
theorem dX9_init_304 : decode cX9_init 304 = .ok (.if_icmp .ge 16, 3) := by decide +kernel
theorem dX9_init_307 : decode cX9_init 307 = .ok (.aload_n 0, 1) := by decide +kernel
theorem dX9_init_308 : decode cX9_init 308 = .ok (.getfield 32, 3) := by decide +kernel
theorem dX9_init_311 : decode cX9_init 311 = .ok (.iload_n 1, 1) := by decide +kernel
theorem dX9_init_312 : decode cX9_init 312 = .ok (.iconst (-1), 1) := by decide +kernel
theorem dX9_init_313 : decode cX9_init 313 = .ok (.iastore, 1) := by decide +kernel
theorem dX9_init_314 : decode cX9_init 314 = .ok (.iinc 1 1, 3) := by decide +kernel
theorem dX9_init_317 : decode cX9_init 317 = .ok (.goto (-17), 3) := by decide +kernel
theorem dX9_init_320 : decode cX9_init 320 = .ok (.return_, 1) := by decide +kernel
theorem dX9_thrown_0 : decode cX9_thrown 0 = .ok (.aload_n 0, 1) := by decide +kernel
theorem dX9_thrown_1 : decode cX9_thrown 1 = .ok (.getfield 114, 3) := by decide +kernel
theorem dX9_thrown_4 : decode cX9_thrown 4 = .ok (.ireturn, 1) := by decide +kernel
theorem dX9_no_0 : decode cX9_no 0 = .ok (.aload_n 0, 1) := by decide +kernel
theorem dX9_no_1 : decode cX9_no 1 = .ok (.iload_n 1, 1) := by decide +kernel
theorem dX9_no_2 : decode cX9_no 2 = .ok (.putfield 114, 3) := by decide +kernel
theorem dX9_no_5 : decode cX9_no 5 = .ok (.iconst 0, 1) := by decide +kernel
theorem dX9_no_6 : decode cX9_no 6 = .ok (.ireturn, 1) := by decide +kernel
theorem dX9_isIn_0 : decode cX9_isIn 0 = .ok (.iload_n 0, 1) := by decide +kernel
theorem dX9_isIn_1 : decode cX9_isIn 1 = .ok (.iload_n 1, 1) := by decide +kernel
theorem dX9_isIn_2 : decode cX9_isIn 2 = .ok (.if_icmp .lt 12, 3) := by decide +kernel
theorem dX9_isIn_5 : decode cX9_isIn 5 = .ok (.iload_n 0, 1) := by decide +kernel
theorem dX9_isIn_6 : decode cX9_isIn 6 = .ok (.iload_n 2, 1) := by decide +kernel
theorem dX9_isIn_7 : decode cX9_isIn 7 = .ok (.if_icmp .gt 7, 3) := by decide +kernel
theorem dX9_isIn_10 : decode cX9_isIn 10 = .ok (.iconst 1, 1) := by decide +kernel
theorem dX9_isIn_11 : decode cX9_isIn 11 = .ok (.goto 4, 3) := by decide +kernel
theorem dX9_isIn_14 : decode cX9_isIn 14 = .ok (.iconst 0, 1) := by decide +kernel
theorem dX9_isIn_15 : decode cX9_isIn 15 = .ok (.ireturn, 1) := by decide +kernel
theorem dX9_has_0 : decode cX9_has 0 = .ok (.iload_n 0, 1) := by decide +kernel
theorem dX9_has_1 : decode cX9_has 1 = .ok (.iload_n 1, 1) := by decide +kernel
theorem dX9_has_2 : decode cX9_has 2 = .ok (.ishr, 1) := by decide +kernel
theorem dX9_has_3 : decode cX9_has 3 = .ok (.iconst 1, 1) := by decide +kernel
theorem dX9_has_4 : decode cX9_has 4 = .ok (.iand, 1) := by decide +kernel
theorem dX9_has_5 : decode cX9_has 5 = .ok (.iconst 1, 1) := by decide +kernel
theorem dX9_has_6 : decode cX9_has 6 = .ok (.if_icmp .ne 7, 3) := by decide +kernel
theorem dX9_has_9 : decode cX9_has 9 = .ok (.iconst 1, 1) := by decide +kernel
theorem dX9_has_10 : decode cX9_has 10 = .ok (.goto 4, 3) := by decide +kernel
theorem dX9_has_13 : decode cX9_has 13 = .ok (.iconst 0, 1) := by decide +kernel
theorem dX9_has_14 : decode cX9_has 14 = .ok (.ireturn, 1) := by decide +kernel
theorem dX9_isProcedure_0 : decode cX9_isProcedure 0 = .ok (.iload_n 1, 1) := by decide +kernel
theorem dX9_isProcedure_1 : decode cX9_isProcedure 1 = .ok (.iconst 0, 1) := by decide +kernel
theorem dX9_isProcedure_2 : decode cX9_isProcedure 2 = .ok (.aload_n 0, 1) := by decide +kernel
theorem dX9_isProcedure_3 : decode cX9_isProcedure 3 = .ok (.getfield 7, 3) := by decide +kernel
theorem dX9_isProcedure_6 : decode cX9_isProcedure 6 = .ok (.iconst 1, 1) := by decide +kernel
theorem dX9_isProcedure_7 : decode cX9_isProcedure 7 = .ok (.isub, 1) := by decide +kernel
theorem dX9_isProcedure_8 : decode cX9_isProcedure 8 = .ok (.invokestatic 117, 3) := by decide +kernel
theorem dX9_isProcedure_11 : decode cX9_isProcedure 11 = .ok (.ireturn, 1) := by decide +kernel
theorem dX9_isNode_0 : decode cX9_isNode 0 = .ok (.iload_n 1, 1) := by decide +kernel
theorem dX9_isNode_1 : decode cX9_isNode 1 = .ok (.iconst 0, 1) := by decide +kernel
theorem dX9_isNode_2 : decode cX9_isNode 2 = .ok (.aload_n 0, 1) := by decide +kernel
theorem dX9_isNode_3 : decode cX9_isNode 3 = .ok (.getfield 121, 3) := by decide +kernel
theorem dX9_isNode_6 : decode cX9_isNode 6 = .ok (.iconst 1, 1) := by decide +kernel
theorem dX9_isNode_7 : decode cX9_isNode 7 = .ok (.isub, 1) := by decide +kernel
theorem dX9_isNode_8 : decode cX9_isNode 8 = .ok (.invokestatic 117, 3) := by decide +kernel
theorem dX9_isNode_11 : decode cX9_isNode 11 = .ok (.ireturn, 1) := by decide +kernel
theorem dX9_isName_0 : decode cX9_isName 0 = .ok (.iload_n 0, 1) := by decide +kernel
theorem dX9_isName_1 : decode cX9_isName 1 = .ok (.iconst 0, 1) := by decide +kernel
theorem dX9_isName_2 : decode cX9_isName 2 = .ok (.bipush 15, 2) := by decide +kernel
theorem dX9_isName_4 : decode cX9_isName 4 = .ok (.invokestatic 117, 3) := by decide +kernel
theorem dX9_isName_7 : decode cX9_isName 7 = .ok (.ireturn, 1) := by decide +kernel
theorem dX9_declare_0 : decode cX9_declare 0 = .ok (.aload_n 0, 1) := by decide +kernel
theorem dX9_declare_1 : decode cX9_declare 1 = .ok (.getfield 32, 3) := by decide +kernel
theorem dX9_declare_4 : decode cX9_declare 4 = .ok (.iload_n 1, 1) := by decide +kernel
theorem dX9_declare_5 : decode cX9_declare 5 = .ok (.bipush 16, 2) := by decide +kernel
theorem dX9_declare_7 : decode cX9_declare 7 = .ok (.imul, 1) := by decide +kernel
theorem dX9_declare_8 : decode cX9_declare 8 = .ok (.iload_n 2, 1) := by decide +kernel
theorem dX9_declare_9 : decode cX9_declare 9 = .ok (.iadd, 1) := by decide +kernel
theorem dX9_declare_10 : decode cX9_declare 10 = .ok (.iload_n 3, 1) := by decide +kernel
theorem dX9_declare_11 : decode cX9_declare 11 = .ok (.iastore, 1) := by decide +kernel
theorem dX9_declare_12 : decode cX9_declare 12 = .ok (.aload_n 0, 1) := by decide +kernel
theorem dX9_declare_13 : decode cX9_declare 13 = .ok (.getfield 35, 3) := by decide +kernel
theorem dX9_declare_16 : decode cX9_declare 16 = .ok (.iload_n 1, 1) := by decide +kernel
theorem dX9_declare_17 : decode cX9_declare 17 = .ok (.bipush 16, 2) := by decide +kernel
theorem dX9_declare_19 : decode cX9_declare 19 = .ok (.imul, 1) := by decide +kernel
theorem dX9_declare_20 : decode cX9_declare 20 = .ok (.iload_n 2, 1) := by decide +kernel
theorem dX9_declare_21 : decode cX9_declare 21 = .ok (.iadd, 1) := by decide +kernel
theorem dX9_declare_22 : decode cX9_declare 22 = .ok (.iload 4, 2) := by decide +kernel
theorem dX9_declare_24 : decode cX9_declare 24 = .ok (.iastore, 1) := by decide +kernel
theorem dX9_declare_25 : decode cX9_declare 25 = .ok (.aload_n 0, 1) := by decide +kernel
theorem dX9_declare_26 : decode cX9_declare 26 = .ok (.getfield 38, 3) := by decide +kernel
theorem dX9_declare_29 : decode cX9_declare 29 = .ok (.iload_n 1, 1) := by decide +kernel
theorem dX9_declare_30 : decode cX9_declare 30 = .ok (.bipush 16, 2) := by decide +kernel
theorem dX9_declare_32 : decode cX9_declare 32 = .ok (.imul, 1) := by decide +kernel
theorem dX9_declare_33 : decode cX9_declare 33 = .ok (.iload_n 2, 1) := by decide +kernel
theorem dX9_declare_34 : decode cX9_declare 34 = .ok (.iadd, 1) := by decide +kernel
theorem dX9_declare_35 : decode cX9_declare 35 = .ok (.iload 5, 2) := by decide +kernel
theorem dX9_declare_37 : decode cX9_declare 37 = .ok (.iastore, 1) := by decide +kernel
theorem dX9_declare_38 : decode cX9_declare 38 = .ok (.iload 4, 2) := by decide +kernel
theorem dX9_declare_40 : decode cX9_declare 40 = .ok (.ireturn, 1) := by decide +kernel
theorem dX9_addPlace_0 : decode cX9_addPlace 0 = .ok (.aload_n 0, 1) := by decide +kernel
theorem dX9_addPlace_1 : decode cX9_addPlace 1 = .ok (.getfield 41, 3) := by decide +kernel
theorem dX9_addPlace_4 : decode cX9_addPlace 4 = .ok (.iload_n 1, 1) := by decide +kernel
theorem dX9_addPlace_5 : decode cX9_addPlace 5 = .ok (.bipush 10, 2) := by decide +kernel
theorem dX9_addPlace_7 : decode cX9_addPlace 7 = .ok (.imul, 1) := by decide +kernel
theorem dX9_addPlace_8 : decode cX9_addPlace 8 = .ok (.aload_n 0, 1) := by decide +kernel
theorem dX9_addPlace_9 : decode cX9_addPlace 9 = .ok (.getfield 26, 3) := by decide +kernel
theorem dX9_addPlace_12 : decode cX9_addPlace 12 = .ok (.iload_n 1, 1) := by decide +kernel
theorem dX9_addPlace_13 : decode cX9_addPlace 13 = .ok (.iaload, 1) := by decide +kernel
theorem dX9_addPlace_14 : decode cX9_addPlace 14 = .ok (.iadd, 1) := by decide +kernel
theorem dX9_addPlace_15 : decode cX9_addPlace 15 = .ok (.iload_n 2, 1) := by decide +kernel
theorem dX9_addPlace_16 : decode cX9_addPlace 16 = .ok (.iastore, 1) := by decide +kernel
theorem dX9_addPlace_17 : decode cX9_addPlace 17 = .ok (.aload_n 0, 1) := by decide +kernel
theorem dX9_addPlace_18 : decode cX9_addPlace 18 = .ok (.getfield 44, 3) := by decide +kernel
theorem dX9_addPlace_21 : decode cX9_addPlace 21 = .ok (.iload_n 1, 1) := by decide +kernel
theorem dX9_addPlace_22 : decode cX9_addPlace 22 = .ok (.bipush 10, 2) := by decide +kernel
theorem dX9_addPlace_24 : decode cX9_addPlace 24 = .ok (.imul, 1) := by decide +kernel
theorem dX9_addPlace_25 : decode cX9_addPlace 25 = .ok (.aload_n 0, 1) := by decide +kernel
theorem dX9_addPlace_26 : decode cX9_addPlace 26 = .ok (.getfield 26, 3) := by decide +kernel
theorem dX9_addPlace_29 : decode cX9_addPlace 29 = .ok (.iload_n 1, 1) := by decide +kernel
theorem dX9_addPlace_30 : decode cX9_addPlace 30 = .ok (.iaload, 1) := by decide +kernel
theorem dX9_addPlace_31 : decode cX9_addPlace 31 = .ok (.iadd, 1) := by decide +kernel
theorem dX9_addPlace_32 : decode cX9_addPlace 32 = .ok (.iload_n 3, 1) := by decide +kernel
theorem dX9_addPlace_33 : decode cX9_addPlace 33 = .ok (.iastore, 1) := by decide +kernel
theorem dX9_addPlace_34 : decode cX9_addPlace 34 = .ok (.aload_n 0, 1) := by decide +kernel
theorem dX9_addPlace_35 : decode cX9_addPlace 35 = .ok (.getfield 26, 3) := by decide +kernel
theorem dX9_addPlace_38 : decode cX9_addPlace 38 = .ok (.iload_n 1, 1) := by decide +kernel
theorem dX9_addPlace_39 : decode cX9_addPlace 39 = .ok (.dup2, 1) := by decide +kernel
theorem dX9_addPlace_40 : decode cX9_addPlace 40 = .ok (.iaload, 1) := by decide +kernel
theorem dX9_addPlace_41 : decode cX9_addPlace 41 = .ok (.dup_x2, 1) := by decide +kernel
theorem dX9_addPlace_42 : decode cX9_addPlace 42 = .ok (.iconst 1, 1) := by decide +kernel
theorem dX9_addPlace_43 : decode cX9_addPlace 43 = .ok (.iadd, 1) := by decide +kernel
theorem dX9_addPlace_44 : decode cX9_addPlace 44 = .ok (.iastore, 1) := by decide +kernel
theorem dX9_addPlace_45 : decode cX9_addPlace 45 = .ok (.ireturn, 1) := by decide +kernel
theorem dX9_procedure_0 : decode cX9_procedure 0 = .ok (.aload_n 0, 1) := by decide +kernel
theorem dX9_procedure_1 : decode cX9_procedure 1 = .ok (.iconst 0, 1) := by decide +kernel
theorem dX9_procedure_2 : decode cX9_procedure 2 = .ok (.putfield 114, 3) := by decide +kernel
theorem dX9_procedure_5 : decode cX9_procedure 5 = .ok (.aload_n 0, 1) := by decide +kernel
theorem dX9_procedure_6 : decode cX9_procedure 6 = .ok (.iload_n 1, 1) := by decide +kernel
theorem dX9_procedure_7 : decode cX9_procedure 7 = .ok (.invokevirtual 124, 3) := by decide +kernel
theorem dX9_procedure_10 : decode cX9_procedure 10 = .ok (.ifCond .ne 9, 3) := by decide +kernel
theorem dX9_procedure_13 : decode cX9_procedure 13 = .ok (.aload_n 0, 1) := by decide +kernel
theorem dX9_procedure_14 : decode cX9_procedure 14 = .ok (.iconst 1, 1) := by decide +kernel
theorem dX9_procedure_15 : decode cX9_procedure 15 = .ok (.invokevirtual 128, 3) := by decide +kernel
theorem dX9_procedure_18 : decode cX9_procedure 18 = .ok (.ireturn, 1) := by decide +kernel
theorem dX9_procedure_19 : decode cX9_procedure 19 = .ok (.iload_n 2, 1) := by decide +kernel
theorem dX9_procedure_20 : decode cX9_procedure 20 = .ok (.invokestatic 132, 3) := by decide +kernel
theorem dX9_procedure_23 : decode cX9_procedure 23 = .ok (.ifCond .ne 9, 3) := by decide +kernel
theorem dX9_procedure_26 : decode cX9_procedure 26 = .ok (.aload_n 0, 1) := by decide +kernel
theorem dX9_procedure_27 : decode cX9_procedure 27 = .ok (.iconst 2, 1) := by decide +kernel
theorem dX9_procedure_28 : decode cX9_procedure 28 = .ok (.invokevirtual 128, 3) := by decide +kernel
theorem dX9_procedure_31 : decode cX9_procedure 31 = .ok (.ireturn, 1) := by decide +kernel
theorem dX9_procedure_32 : decode cX9_procedure 32 = .ok (.aload_n 0, 1) := by decide +kernel
theorem dX9_procedure_33 : decode cX9_procedure 33 = .ok (.getfield 7, 3) := by decide +kernel
theorem dX9_procedure_36 : decode cX9_procedure 36 = .ok (.bipush 10, 2) := by decide +kernel
theorem dX9_procedure_38 : decode cX9_procedure 38 = .ok (.if_icmp .eq 18, 3) := by decide +kernel
theorem dX9_procedure_41 : decode cX9_procedure 41 = .ok (.aload_n 0, 1) := by decide +kernel
theorem dX9_procedure_42 : decode cX9_procedure 42 = .ok (.getfield 32, 3) := by decide +kernel
theorem dX9_procedure_45 : decode cX9_procedure 45 = .ok (.iload_n 1, 1) := by decide +kernel
theorem dX9_procedure_46 : decode cX9_procedure 46 = .ok (.bipush 16, 2) := by decide +kernel
theorem dX9_procedure_48 : decode cX9_procedure 48 = .ok (.imul, 1) := by decide +kernel
theorem dX9_procedure_49 : decode cX9_procedure 49 = .ok (.iload_n 2, 1) := by decide +kernel
theorem dX9_procedure_50 : decode cX9_procedure 50 = .ok (.iadd, 1) := by decide +kernel
theorem dX9_procedure_51 : decode cX9_procedure 51 = .ok (.iaload, 1) := by decide +kernel
theorem dX9_procedure_52 : decode cX9_procedure 52 = .ok (.iconst (-1), 1) := by decide +kernel
theorem dX9_procedure_53 : decode cX9_procedure 53 = .ok (.if_icmp .eq 9, 3) := by decide +kernel
theorem dX9_procedure_56 : decode cX9_procedure 56 = .ok (.aload_n 0, 1) := by decide +kernel
theorem dX9_procedure_57 : decode cX9_procedure 57 = .ok (.iconst 3, 1) := by decide +kernel
theorem dX9_procedure_58 : decode cX9_procedure 58 = .ok (.invokevirtual 128, 3) := by decide +kernel
theorem dX9_procedure_61 : decode cX9_procedure 61 = .ok (.ireturn, 1) := by decide +kernel
theorem dX9_procedure_62 : decode cX9_procedure 62 = .ok (.aload_n 0, 1) := by decide +kernel
theorem dX9_procedure_63 : decode cX9_procedure 63 = .ok (.getfield 13, 3) := by decide +kernel
theorem dX9_procedure_66 : decode cX9_procedure 66 = .ok (.aload_n 0, 1) := by decide +kernel
theorem dX9_procedure_67 : decode cX9_procedure 67 = .ok (.getfield 7, 3) := by decide +kernel
theorem dX9_procedure_70 : decode cX9_procedure 70 = .ok (.iload_n 1, 1) := by decide +kernel
theorem dX9_procedure_71 : decode cX9_procedure 71 = .ok (.iastore, 1) := by decide +kernel
theorem dX9_procedure_72 : decode cX9_procedure 72 = .ok (.aload_n 0, 1) := by decide +kernel
theorem dX9_procedure_73 : decode cX9_procedure 73 = .ok (.getfield 17, 3) := by decide +kernel
theorem dX9_procedure_76 : decode cX9_procedure 76 = .ok (.aload_n 0, 1) := by decide +kernel
theorem dX9_procedure_77 : decode cX9_procedure 77 = .ok (.getfield 7, 3) := by decide +kernel
theorem dX9_procedure_80 : decode cX9_procedure 80 = .ok (.iload_n 2, 1) := by decide +kernel
theorem dX9_procedure_81 : decode cX9_procedure 81 = .ok (.iastore, 1) := by decide +kernel
theorem dX9_procedure_82 : decode cX9_procedure 82 = .ok (.aload_n 0, 1) := by decide +kernel
theorem dX9_procedure_83 : decode cX9_procedure 83 = .ok (.iload_n 1, 1) := by decide +kernel
theorem dX9_procedure_84 : decode cX9_procedure 84 = .ok (.iload_n 2, 1) := by decide +kernel
theorem dX9_procedure_85 : decode cX9_procedure 85 = .ok (.bipush 10, 2) := by decide +kernel
theorem dX9_procedure_87 : decode cX9_procedure 87 = .ok (.iconst (-1), 1) := by decide +kernel
theorem dX9_procedure_88 : decode cX9_procedure 88 = .ok (.aload_n 0, 1) := by decide +kernel
theorem dX9_procedure_89 : decode cX9_procedure 89 = .ok (.getfield 7, 3) := by decide +kernel
theorem dX9_procedure_92 : decode cX9_procedure 92 = .ok (.invokevirtual 135, 3) := by decide +kernel
theorem dX9_procedure_95 : decode cX9_procedure 95 = .ok (.pop, 1) := by decide +kernel
theorem dX9_procedure_96 : decode cX9_procedure 96 = .ok (.aload_n 0, 1) := by decide +kernel
theorem dX9_procedure_97 : decode cX9_procedure 97 = .ok (.dup, 1) := by decide +kernel
theorem dX9_procedure_98 : decode cX9_procedure 98 = .ok (.getfield 7, 3) := by decide +kernel
theorem dX9_procedure_101 : decode cX9_procedure 101 = .ok (.dup_x1, 1) := by decide +kernel
theorem dX9_procedure_102 : decode cX9_procedure 102 = .ok (.iconst 1, 1) := by decide +kernel
theorem dX9_procedure_103 : decode cX9_procedure 103 = .ok (.iadd, 1) := by decide +kernel
theorem dX9_procedure_104 : decode cX9_procedure 104 = .ok (.putfield 7, 3) := by decide +kernel
theorem dX9_procedure_107 : decode cX9_procedure 107 = .ok (.ireturn, 1) := by decide +kernel
theorem dX9_parameter_0 : decode cX9_parameter 0 = .ok (.aload_n 0, 1) := by decide +kernel
theorem dX9_parameter_1 : decode cX9_parameter 1 = .ok (.iconst 0, 1) := by decide +kernel
theorem dX9_parameter_2 : decode cX9_parameter 2 = .ok (.putfield 114, 3) := by decide +kernel
theorem dX9_parameter_5 : decode cX9_parameter 5 = .ok (.aload_n 0, 1) := by decide +kernel
theorem dX9_parameter_6 : decode cX9_parameter 6 = .ok (.iload_n 1, 1) := by decide +kernel
theorem dX9_parameter_7 : decode cX9_parameter 7 = .ok (.invokevirtual 124, 3) := by decide +kernel
theorem dX9_parameter_10 : decode cX9_parameter 10 = .ok (.ifCond .ne 9, 3) := by decide +kernel
theorem dX9_parameter_13 : decode cX9_parameter 13 = .ok (.aload_n 0, 1) := by decide +kernel
theorem dX9_parameter_14 : decode cX9_parameter 14 = .ok (.iconst 1, 1) := by decide +kernel
theorem dX9_parameter_15 : decode cX9_parameter 15 = .ok (.invokevirtual 128, 3) := by decide +kernel
theorem dX9_parameter_18 : decode cX9_parameter 18 = .ok (.ireturn, 1) := by decide +kernel
theorem dX9_parameter_19 : decode cX9_parameter 19 = .ok (.iload_n 2, 1) := by decide +kernel
theorem dX9_parameter_20 : decode cX9_parameter 20 = .ok (.invokestatic 132, 3) := by decide +kernel
theorem dX9_parameter_23 : decode cX9_parameter 23 = .ok (.ifCond .eq 12, 3) := by decide +kernel
theorem dX9_parameter_26 : decode cX9_parameter 26 = .ok (.iload_n 3, 1) := by decide +kernel
theorem dX9_parameter_27 : decode cX9_parameter 27 = .ok (.iconst 0, 1) := by decide +kernel
theorem dX9_parameter_28 : decode cX9_parameter 28 = .ok (.iconst 5, 1) := by decide +kernel
theorem dX9_parameter_29 : decode cX9_parameter 29 = .ok (.invokestatic 117, 3) := by decide +kernel
theorem dX9_parameter_32 : decode cX9_parameter 32 = .ok (.ifCond .ne 9, 3) := by decide +kernel
theorem dX9_parameter_35 : decode cX9_parameter 35 = .ok (.aload_n 0, 1) := by decide +kernel
theorem dX9_parameter_36 : decode cX9_parameter 36 = .ok (.iconst 2, 1) := by decide +kernel
theorem dX9_parameter_37 : decode cX9_parameter 37 = .ok (.invokevirtual 128, 3) := by decide +kernel
theorem dX9_parameter_40 : decode cX9_parameter 40 = .ok (.ireturn, 1) := by decide +kernel
theorem dX9_parameter_41 : decode cX9_parameter 41 = .ok (.iload_n 1, 1) := by decide +kernel
theorem dX9_parameter_42 : decode cX9_parameter 42 = .ok (.ifCond .eq 37, 3) := by decide +kernel
theorem dX9_parameter_45 : decode cX9_parameter 45 = .ok (.aload_n 0, 1) := by decide +kernel
theorem dX9_parameter_46 : decode cX9_parameter 46 = .ok (.getfield 20, 3) := by decide +kernel
theorem dX9_parameter_49 : decode cX9_parameter 49 = .ok (.iload_n 1, 1) := by decide +kernel
theorem dX9_parameter_50 : decode cX9_parameter 50 = .ok (.iaload, 1) := by decide +kernel
theorem dX9_parameter_51 : decode cX9_parameter 51 = .ok (.iconst 4, 1) := by decide +kernel
theorem dX9_parameter_52 : decode cX9_parameter 52 = .ok (.if_icmp .eq 27, 3) := by decide +kernel
theorem dX9_parameter_55 : decode cX9_parameter 55 = .ok (.aload_n 0, 1) := by decide +kernel
theorem dX9_parameter_56 : decode cX9_parameter 56 = .ok (.getfield 32, 3) := by decide +kernel
theorem dX9_parameter_59 : decode cX9_parameter 59 = .ok (.iload_n 1, 1) := by decide +kernel
theorem dX9_parameter_60 : decode cX9_parameter 60 = .ok (.bipush 16, 2) := by decide +kernel
theorem dX9_parameter_62 : decode cX9_parameter 62 = .ok (.imul, 1) := by decide +kernel
theorem dX9_parameter_63 : decode cX9_parameter 63 = .ok (.iload_n 2, 1) := by decide +kernel
theorem dX9_parameter_64 : decode cX9_parameter 64 = .ok (.iadd, 1) := by decide +kernel
theorem dX9_parameter_65 : decode cX9_parameter 65 = .ok (.iaload, 1) := by decide +kernel
theorem dX9_parameter_66 : decode cX9_parameter 66 = .ok (.iconst (-1), 1) := by decide +kernel
theorem dX9_parameter_67 : decode cX9_parameter 67 = .ok (.if_icmp .ne 12, 3) := by decide +kernel
theorem dX9_parameter_70 : decode cX9_parameter 70 = .ok (.aload_n 0, 1) := by decide +kernel
theorem dX9_parameter_71 : decode cX9_parameter 71 = .ok (.getfield 23, 3) := by decide +kernel
theorem dX9_parameter_74 : decode cX9_parameter 74 = .ok (.iload_n 1, 1) := by decide +kernel
theorem dX9_parameter_75 : decode cX9_parameter 75 = .ok (.iaload, 1) := by decide +kernel
theorem dX9_parameter_76 : decode cX9_parameter 76 = .ok (.ifCond .le 9, 3) := by decide +kernel
theorem dX9_parameter_79 : decode cX9_parameter 79 = .ok (.aload_n 0, 1) := by decide +kernel
theorem dX9_parameter_80 : decode cX9_parameter 80 = .ok (.iconst 3, 1) := by decide +kernel
theorem dX9_parameter_81 : decode cX9_parameter 81 = .ok (.invokevirtual 128, 3) := by decide +kernel
theorem dX9_parameter_84 : decode cX9_parameter 84 = .ok (.ireturn, 1) := by decide +kernel
theorem dX9_parameter_85 : decode cX9_parameter 85 = .ok (.aload_n 0, 1) := by decide +kernel
theorem dX9_parameter_86 : decode cX9_parameter 86 = .ok (.getfield 20, 3) := by decide +kernel
theorem dX9_parameter_89 : decode cX9_parameter 89 = .ok (.iload_n 1, 1) := by decide +kernel
theorem dX9_parameter_90 : decode cX9_parameter 90 = .ok (.dup2, 1) := by decide +kernel
theorem dX9_parameter_91 : decode cX9_parameter 91 = .ok (.iaload, 1) := by decide +kernel
theorem dX9_parameter_92 : decode cX9_parameter 92 = .ok (.iconst 1, 1) := by decide +kernel
theorem dX9_parameter_93 : decode cX9_parameter 93 = .ok (.iadd, 1) := by decide +kernel
theorem dX9_parameter_94 : decode cX9_parameter 94 = .ok (.iastore, 1) := by decide +kernel
theorem dX9_parameter_95 : decode cX9_parameter 95 = .ok (.aload_n 0, 1) := by decide +kernel
theorem dX9_parameter_96 : decode cX9_parameter 96 = .ok (.iload_n 1, 1) := by decide +kernel
theorem dX9_parameter_97 : decode cX9_parameter 97 = .ok (.iload_n 2, 1) := by decide +kernel
theorem dX9_parameter_98 : decode cX9_parameter 98 = .ok (.iload_n 3, 1) := by decide +kernel
theorem dX9_parameter_99 : decode cX9_parameter 99 = .ok (.aload_n 0, 1) := by decide +kernel
theorem dX9_parameter_100 : decode cX9_parameter 100 = .ok (.iload_n 1, 1) := by decide +kernel
theorem dX9_parameter_101 : decode cX9_parameter 101 = .ok (.iload_n 3, 1) := by decide +kernel
theorem dX9_parameter_102 : decode cX9_parameter 102 = .ok (.iconst 0, 1) := by decide +kernel
theorem dX9_parameter_103 : decode cX9_parameter 103 = .ok (.invokevirtual 139, 3) := by decide +kernel
theorem dX9_parameter_106 : decode cX9_parameter 106 = .ok (.iconst 0, 1) := by decide +kernel
theorem dX9_parameter_107 : decode cX9_parameter 107 = .ok (.invokevirtual 135, 3) := by decide +kernel
theorem dX9_parameter_110 : decode cX9_parameter 110 = .ok (.ireturn, 1) := by decide +kernel
theorem dX9_variable_0 : decode cX9_variable 0 = .ok (.aload_n 0, 1) := by decide +kernel
theorem dX9_variable_1 : decode cX9_variable 1 = .ok (.iconst 0, 1) := by decide +kernel
theorem dX9_variable_2 : decode cX9_variable 2 = .ok (.putfield 114, 3) := by decide +kernel
theorem dX9_variable_5 : decode cX9_variable 5 = .ok (.aload_n 0, 1) := by decide +kernel
theorem dX9_variable_6 : decode cX9_variable 6 = .ok (.iload_n 1, 1) := by decide +kernel
theorem dX9_variable_7 : decode cX9_variable 7 = .ok (.invokevirtual 124, 3) := by decide +kernel
theorem dX9_variable_10 : decode cX9_variable 10 = .ok (.ifCond .ne 9, 3) := by decide +kernel
theorem dX9_variable_13 : decode cX9_variable 13 = .ok (.aload_n 0, 1) := by decide +kernel
theorem dX9_variable_14 : decode cX9_variable 14 = .ok (.iconst 1, 1) := by decide +kernel
theorem dX9_variable_15 : decode cX9_variable 15 = .ok (.invokevirtual 128, 3) := by decide +kernel
theorem dX9_variable_18 : decode cX9_variable 18 = .ok (.ireturn, 1) := by decide +kernel
theorem dX9_variable_19 : decode cX9_variable 19 = .ok (.iload_n 3, 1) := by decide +kernel
theorem dX9_variable_20 : decode cX9_variable 20 = .ok (.iconst 1, 1) := by decide +kernel
theorem dX9_variable_21 : decode cX9_variable 21 = .ok (.if_icmp .ne 14, 3) := by decide +kernel
theorem dX9_variable_24 : decode cX9_variable 24 = .ok (.iload 4, 2) := by decide +kernel
theorem dX9_variable_26 : decode cX9_variable 26 = .ok (.iconst 1, 1) := by decide +kernel
theorem dX9_variable_27 : decode cX9_variable 27 = .ok (.bipush 8, 2) := by decide +kernel
theorem dX9_variable_29 : decode cX9_variable 29 = .ok (.invokestatic 117, 3) := by decide +kernel
theorem dX9_variable_32 : decode cX9_variable 32 = .ok (.goto 30, 3) := by decide +kernel
theorem dX9_variable_35 : decode cX9_variable 35 = .ok (.iload_n 3, 1) := by decide +kernel
theorem dX9_variable_36 : decode cX9_variable 36 = .ok (.iconst 3, 1) := by decide +kernel
theorem dX9_variable_37 : decode cX9_variable 37 = .ok (.if_icmp .ne 15, 3) := by decide +kernel
theorem dX9_variable_40 : decode cX9_variable 40 = .ok (.iload 4, 2) := by decide +kernel
theorem dX9_variable_42 : decode cX9_variable 42 = .ok (.bipush (-99), 2) := by decide +kernel
theorem dX9_variable_44 : decode cX9_variable 44 = .ok (.bipush 99, 2) := by decide +kernel
theorem dX9_variable_46 : decode cX9_variable 46 = .ok (.invokestatic 117, 3) := by decide +kernel
theorem dX9_variable_49 : decode cX9_variable 49 = .ok (.goto 13, 3) := by decide +kernel
theorem dX9_variable_52 : decode cX9_variable 52 = .ok (.iload 4, 2) := by decide +kernel
theorem dX9_variable_54 : decode cX9_variable 54 = .ok (.ifCond .ne 7, 3) := by decide +kernel
theorem dX9_variable_57 : decode cX9_variable 57 = .ok (.iconst 1, 1) := by decide +kernel
theorem dX9_variable_58 : decode cX9_variable 58 = .ok (.goto 4, 3) := by decide +kernel
theorem dX9_variable_61 : decode cX9_variable 61 = .ok (.iconst 0, 1) := by decide +kernel
theorem dX9_variable_62 : decode cX9_variable 62 = .ok (.istore 5, 2) := by decide +kernel
theorem dX9_variable_64 : decode cX9_variable 64 = .ok (.iload_n 2, 1) := by decide +kernel
theorem dX9_variable_65 : decode cX9_variable 65 = .ok (.invokestatic 132, 3) := by decide +kernel
theorem dX9_variable_68 : decode cX9_variable 68 = .ok (.ifCond .eq 17, 3) := by decide +kernel
theorem dX9_variable_71 : decode cX9_variable 71 = .ok (.iload_n 3, 1) := by decide +kernel
theorem dX9_variable_72 : decode cX9_variable 72 = .ok (.iconst 0, 1) := by decide +kernel
theorem dX9_variable_73 : decode cX9_variable 73 = .ok (.iconst 3, 1) := by decide +kernel
theorem dX9_variable_74 : decode cX9_variable 74 = .ok (.invokestatic 117, 3) := by decide +kernel
theorem dX9_variable_77 : decode cX9_variable 77 = .ok (.ifCond .eq 8, 3) := by decide +kernel
theorem dX9_variable_80 : decode cX9_variable 80 = .ok (.iload 5, 2) := by decide +kernel
theorem dX9_variable_82 : decode cX9_variable 82 = .ok (.ifCond .ne 9, 3) := by decide +kernel
theorem dX9_variable_85 : decode cX9_variable 85 = .ok (.aload_n 0, 1) := by decide +kernel
theorem dX9_variable_86 : decode cX9_variable 86 = .ok (.iconst 2, 1) := by decide +kernel
theorem dX9_variable_87 : decode cX9_variable 87 = .ok (.invokevirtual 128, 3) := by decide +kernel
theorem dX9_variable_90 : decode cX9_variable 90 = .ok (.ireturn, 1) := by decide +kernel
theorem dX9_variable_91 : decode cX9_variable 91 = .ok (.aload_n 0, 1) := by decide +kernel
theorem dX9_variable_92 : decode cX9_variable 92 = .ok (.getfield 23, 3) := by decide +kernel
theorem dX9_variable_95 : decode cX9_variable 95 = .ok (.iload_n 1, 1) := by decide +kernel
theorem dX9_variable_96 : decode cX9_variable 96 = .ok (.iaload, 1) := by decide +kernel
theorem dX9_variable_97 : decode cX9_variable 97 = .ok (.bipush 6, 2) := by decide +kernel
theorem dX9_variable_99 : decode cX9_variable 99 = .ok (.if_icmp .eq 18, 3) := by decide +kernel
theorem dX9_variable_102 : decode cX9_variable 102 = .ok (.aload_n 0, 1) := by decide +kernel
theorem dX9_variable_103 : decode cX9_variable 103 = .ok (.getfield 32, 3) := by decide +kernel
theorem dX9_variable_106 : decode cX9_variable 106 = .ok (.iload_n 1, 1) := by decide +kernel
theorem dX9_variable_107 : decode cX9_variable 107 = .ok (.bipush 16, 2) := by decide +kernel
theorem dX9_variable_109 : decode cX9_variable 109 = .ok (.imul, 1) := by decide +kernel
theorem dX9_variable_110 : decode cX9_variable 110 = .ok (.iload_n 2, 1) := by decide +kernel
theorem dX9_variable_111 : decode cX9_variable 111 = .ok (.iadd, 1) := by decide +kernel
theorem dX9_variable_112 : decode cX9_variable 112 = .ok (.iaload, 1) := by decide +kernel
theorem dX9_variable_113 : decode cX9_variable 113 = .ok (.iconst (-1), 1) := by decide +kernel
theorem dX9_variable_114 : decode cX9_variable 114 = .ok (.if_icmp .eq 9, 3) := by decide +kernel
theorem dX9_variable_117 : decode cX9_variable 117 = .ok (.aload_n 0, 1) := by decide +kernel
theorem dX9_variable_118 : decode cX9_variable 118 = .ok (.iconst 3, 1) := by decide +kernel
theorem dX9_variable_119 : decode cX9_variable 119 = .ok (.invokevirtual 128, 3) := by decide +kernel
theorem dX9_variable_122 : decode cX9_variable 122 = .ok (.ireturn, 1) := by decide +kernel
theorem dX9_variable_123 : decode cX9_variable 123 = .ok (.aload_n 0, 1) := by decide +kernel
theorem dX9_variable_124 : decode cX9_variable 124 = .ok (.getfield 23, 3) := by decide +kernel
theorem dX9_variable_127 : decode cX9_variable 127 = .ok (.iload_n 1, 1) := by decide +kernel
theorem dX9_variable_128 : decode cX9_variable 128 = .ok (.dup2, 1) := by decide +kernel
theorem dX9_variable_129 : decode cX9_variable 129 = .ok (.iaload, 1) := by decide +kernel
theorem dX9_variable_130 : decode cX9_variable 130 = .ok (.iconst 1, 1) := by decide +kernel
theorem dX9_variable_131 : decode cX9_variable 131 = .ok (.iadd, 1) := by decide +kernel
theorem dX9_variable_132 : decode cX9_variable 132 = .ok (.iastore, 1) := by decide +kernel
theorem dX9_variable_133 : decode cX9_variable 133 = .ok (.aload_n 0, 1) := by decide +kernel
theorem dX9_variable_134 : decode cX9_variable 134 = .ok (.iload_n 1, 1) := by decide +kernel
theorem dX9_variable_135 : decode cX9_variable 135 = .ok (.iload_n 2, 1) := by decide +kernel
theorem dX9_variable_136 : decode cX9_variable 136 = .ok (.bipush 6, 2) := by decide +kernel
theorem dX9_variable_138 : decode cX9_variable 138 = .ok (.iload_n 3, 1) := by decide +kernel
theorem dX9_variable_139 : decode cX9_variable 139 = .ok (.iadd, 1) := by decide +kernel
theorem dX9_variable_140 : decode cX9_variable 140 = .ok (.iload_n 3, 1) := by decide +kernel
theorem dX9_variable_141 : decode cX9_variable 141 = .ok (.iconst 3, 1) := by decide +kernel
theorem dX9_variable_142 : decode cX9_variable 142 = .ok (.if_icmp .ne 7, 3) := by decide +kernel
theorem dX9_variable_145 : decode cX9_variable 145 = .ok (.iconst (-1), 1) := by decide +kernel
theorem dX9_variable_146 : decode cX9_variable 146 = .ok (.goto 14, 3) := by decide +kernel
theorem dX9_variable_149 : decode cX9_variable 149 = .ok (.aload_n 0, 1) := by decide +kernel
theorem dX9_variable_150 : decode cX9_variable 150 = .ok (.iload_n 1, 1) := by decide +kernel
theorem dX9_variable_151 : decode cX9_variable 151 = .ok (.bipush 6, 2) := by decide +kernel
theorem dX9_variable_153 : decode cX9_variable 153 = .ok (.iload_n 3, 1) := by decide +kernel
theorem dX9_variable_154 : decode cX9_variable 154 = .ok (.iadd, 1) := by decide +kernel
theorem dX9_variable_155 : decode cX9_variable 155 = .ok (.iload 4, 2) := by decide +kernel
theorem dX9_variable_157 : decode cX9_variable 157 = .ok (.invokevirtual 139, 3) := by decide +kernel
theorem dX9_variable_160 : decode cX9_variable 160 = .ok (.iload 4, 2) := by decide +kernel
theorem dX9_variable_162 : decode cX9_variable 162 = .ok (.invokevirtual 135, 3) := by decide +kernel
theorem dX9_variable_165 : decode cX9_variable 165 = .ok (.ireturn, 1) := by decide +kernel
theorem dX9_declarer_0 : decode cX9_declarer 0 = .ok (.iload_n 1, 1) := by decide +kernel
theorem dX9_declarer_1 : decode cX9_declarer 1 = .ok (.istore_n 3, 1) := by decide +kernel
theorem dX9_declarer_2 : decode cX9_declarer 2 = .ok (.iload_n 3, 1) := by decide +kernel
theorem dX9_declarer_3 : decode cX9_declarer 3 = .ok (.iconst (-1), 1) := by decide +kernel
theorem dX9_declarer_4 : decode cX9_declarer 4 = .ok (.if_icmp .eq 28, 3) := by decide +kernel
theorem dX9_declarer_7 : decode cX9_declarer 7 = .ok (.aload_n 0, 1) := by decide +kernel
theorem dX9_declarer_8 : decode cX9_declarer 8 = .ok (.getfield 32, 3) := by decide +kernel
theorem dX9_declarer_11 : decode cX9_declarer 11 = .ok (.iload_n 3, 1) := by decide +kernel
theorem dX9_declarer_12 : decode cX9_declarer 12 = .ok (.bipush 16, 2) := by decide +kernel
theorem dX9_declarer_14 : decode cX9_declarer 14 = .ok (.imul, 1) := by decide +kernel
theorem dX9_declarer_15 : decode cX9_declarer 15 = .ok (.iload_n 2, 1) := by decide +kernel
theorem dX9_declarer_16 : decode cX9_declarer 16 = .ok (.iadd, 1) := by decide +kernel
theorem dX9_declarer_17 : decode cX9_declarer 17 = .ok (.iaload, 1) := by decide +kernel
theorem dX9_declarer_18 : decode cX9_declarer 18 = .ok (.iconst (-1), 1) := by decide +kernel
theorem dX9_declarer_19 : decode cX9_declarer 19 = .ok (.if_icmp .ne 13, 3) := by decide +kernel
theorem dX9_declarer_22 : decode cX9_declarer 22 = .ok (.aload_n 0, 1) := by decide +kernel
theorem dX9_declarer_23 : decode cX9_declarer 23 = .ok (.getfield 13, 3) := by decide +kernel
theorem dX9_declarer_26 : decode cX9_declarer 26 = .ok (.iload_n 3, 1) := by decide +kernel
theorem dX9_declarer_27 : decode cX9_declarer 27 = .ok (.iaload, 1) := by decide +kernel
theorem dX9_declarer_28 : decode cX9_declarer 28 = .ok (.istore_n 3, 1) := by decide +kernel
theorem dX9_declarer_29 : decode cX9_declarer 29 = .ok (.goto (-27), 3) := by decide +kernel
theorem dX9_declarer_32 : decode cX9_declarer 32 = .ok (.iload_n 3, 1) := by decide +kernel
theorem dX9_declarer_33 : decode cX9_declarer 33 = .ok (.ireturn, 1) := by decide +kernel
theorem dX9_ofName_0 : decode cX9_ofName 0 = .ok (.aload_n 0, 1) := by decide +kernel
theorem dX9_ofName_1 : decode cX9_ofName 1 = .ok (.iconst 0, 1) := by decide +kernel
theorem dX9_ofName_2 : decode cX9_ofName 2 = .ok (.putfield 114, 3) := by decide +kernel
theorem dX9_ofName_5 : decode cX9_ofName 5 = .ok (.aload_n 0, 1) := by decide +kernel
theorem dX9_ofName_6 : decode cX9_ofName 6 = .ok (.iload_n 1, 1) := by decide +kernel
theorem dX9_ofName_7 : decode cX9_ofName 7 = .ok (.invokevirtual 124, 3) := by decide +kernel
theorem dX9_ofName_10 : decode cX9_ofName 10 = .ok (.ifCond .ne 9, 3) := by decide +kernel
theorem dX9_ofName_13 : decode cX9_ofName 13 = .ok (.aload_n 0, 1) := by decide +kernel
theorem dX9_ofName_14 : decode cX9_ofName 14 = .ok (.iconst 1, 1) := by decide +kernel
theorem dX9_ofName_15 : decode cX9_ofName 15 = .ok (.invokevirtual 128, 3) := by decide +kernel
theorem dX9_ofName_18 : decode cX9_ofName 18 = .ok (.ireturn, 1) := by decide +kernel
theorem dX9_ofName_19 : decode cX9_ofName 19 = .ok (.iload_n 2, 1) := by decide +kernel
theorem dX9_ofName_20 : decode cX9_ofName 20 = .ok (.invokestatic 132, 3) := by decide +kernel
theorem dX9_ofName_23 : decode cX9_ofName 23 = .ok (.ifCond .eq 12, 3) := by decide +kernel
theorem dX9_ofName_26 : decode cX9_ofName 26 = .ok (.iload_n 3, 1) := by decide +kernel
theorem dX9_ofName_27 : decode cX9_ofName 27 = .ok (.iconst 0, 1) := by decide +kernel
theorem dX9_ofName_28 : decode cX9_ofName 28 = .ok (.iconst 4, 1) := by decide +kernel
theorem dX9_ofName_29 : decode cX9_ofName 29 = .ok (.invokestatic 117, 3) := by decide +kernel
theorem dX9_ofName_32 : decode cX9_ofName 32 = .ok (.ifCond .ne 9, 3) := by decide +kernel
theorem dX9_ofName_35 : decode cX9_ofName 35 = .ok (.aload_n 0, 1) := by decide +kernel
theorem dX9_ofName_36 : decode cX9_ofName 36 = .ok (.iconst 2, 1) := by decide +kernel
theorem dX9_ofName_37 : decode cX9_ofName 37 = .ok (.invokevirtual 128, 3) := by decide +kernel
theorem dX9_ofName_40 : decode cX9_ofName 40 = .ok (.ireturn, 1) := by decide +kernel
theorem dX9_ofName_41 : decode cX9_ofName 41 = .ok (.aload_n 0, 1) := by decide +kernel
theorem dX9_ofName_42 : decode cX9_ofName 42 = .ok (.iload_n 1, 1) := by decide +kernel
theorem dX9_ofName_43 : decode cX9_ofName 43 = .ok (.iload_n 2, 1) := by decide +kernel
theorem dX9_ofName_44 : decode cX9_ofName 44 = .ok (.invokevirtual 143, 3) := by decide +kernel
theorem dX9_ofName_47 : decode cX9_ofName 47 = .ok (.istore 4, 2) := by decide +kernel
theorem dX9_ofName_49 : decode cX9_ofName 49 = .ok (.iload 4, 2) := by decide +kernel
theorem dX9_ofName_51 : decode cX9_ofName 51 = .ok (.iconst (-1), 1) := by decide +kernel
theorem dX9_ofName_52 : decode cX9_ofName 52 = .ok (.if_icmp .eq 7, 3) := by decide +kernel
theorem dX9_ofName_55 : decode cX9_ofName 55 = .ok (.iload_n 3, 1) := by decide +kernel
theorem dX9_ofName_56 : decode cX9_ofName 56 = .ok (.ifCond .ne 6, 3) := by decide +kernel
theorem dX9_ofName_59 : decode cX9_ofName 59 = .ok (.iload 4, 2) := by decide +kernel
theorem dX9_ofName_61 : decode cX9_ofName 61 = .ok (.ireturn, 1) := by decide +kernel
theorem dX9_ofName_62 : decode cX9_ofName 62 = .ok (.iload_n 3, 1) := by decide +kernel
theorem dX9_ofName_63 : decode cX9_ofName 63 = .ok (.tableswitch 46 1 3 #[25, 32, 39], 25) := by decide +kernel
theorem dX9_ofName_88 : decode cX9_ofName 88 = .ok (.aload_n 0, 1) := by decide +kernel
theorem dX9_ofName_89 : decode cX9_ofName 89 = .ok (.iload_n 1, 1) := by decide +kernel
theorem dX9_ofName_90 : decode cX9_ofName 90 = .ok (.iload_n 2, 1) := by decide +kernel
theorem dX9_ofName_91 : decode cX9_ofName 91 = .ok (.invokevirtual 147, 3) := by decide +kernel
theorem dX9_ofName_94 : decode cX9_ofName 94 = .ok (.ireturn, 1) := by decide +kernel
theorem dX9_ofName_95 : decode cX9_ofName 95 = .ok (.aload_n 0, 1) := by decide +kernel
theorem dX9_ofName_96 : decode cX9_ofName 96 = .ok (.iload_n 1, 1) := by decide +kernel
theorem dX9_ofName_97 : decode cX9_ofName 97 = .ok (.iload_n 2, 1) := by decide +kernel
theorem dX9_ofName_98 : decode cX9_ofName 98 = .ok (.invokevirtual 150, 3) := by decide +kernel
theorem dX9_ofName_101 : decode cX9_ofName 101 = .ok (.ireturn, 1) := by decide +kernel
theorem dX9_ofName_102 : decode cX9_ofName 102 = .ok (.aload_n 0, 1) := by decide +kernel
theorem dX9_ofName_103 : decode cX9_ofName 103 = .ok (.iload_n 1, 1) := by decide +kernel
theorem dX9_ofName_104 : decode cX9_ofName 104 = .ok (.iload_n 2, 1) := by decide +kernel
theorem dX9_ofName_105 : decode cX9_ofName 105 = .ok (.invokevirtual 153, 3) := by decide +kernel
theorem dX9_ofName_108 : decode cX9_ofName 108 = .ok (.ireturn, 1) := by decide +kernel
theorem dX9_ofName_109 : decode cX9_ofName 109 = .ok (.aload_n 0, 1) := by decide +kernel
theorem dX9_ofName_110 : decode cX9_ofName 110 = .ok (.iload_n 1, 1) := by decide +kernel
theorem dX9_ofName_111 : decode cX9_ofName 111 = .ok (.iload_n 2, 1) := by decide +kernel
theorem dX9_ofName_112 : decode cX9_ofName 112 = .ok (.invokevirtual 153, 3) := by decide +kernel
theorem dX9_ofName_115 : decode cX9_ofName 115 = .ok (.bipush 7, 2) := by decide +kernel
theorem dX9_ofName_117 : decode cX9_ofName 117 = .ok (.bipush 10, 2) := by decide +kernel
theorem dX9_ofName_119 : decode cX9_ofName 119 = .ok (.invokestatic 117, 3) := by decide +kernel
theorem dX9_ofName_122 : decode cX9_ofName 122 = .ok (.ifCond .eq 12, 3) := by decide +kernel
theorem dX9_ofName_125 : decode cX9_ofName 125 = .ok (.aload_n 0, 1) := by decide +kernel
theorem dX9_ofName_126 : decode cX9_ofName 126 = .ok (.iload_n 1, 1) := by decide +kernel
theorem dX9_ofName_127 : decode cX9_ofName 127 = .ok (.iload_n 2, 1) := by decide +kernel
theorem dX9_ofName_128 : decode cX9_ofName 128 = .ok (.invokevirtual 156, 3) := by decide +kernel
theorem dX9_ofName_131 : decode cX9_ofName 131 = .ok (.goto 4, 3) := by decide +kernel
theorem dX9_ofName_134 : decode cX9_ofName 134 = .ok (.iconst 0, 1) := by decide +kernel
theorem dX9_ofName_135 : decode cX9_ofName 135 = .ok (.ireturn, 1) := by decide +kernel
theorem dX9_isExpression_0 : decode cX9_isExpression 0 = .ok (.iload_n 0, 1) := by decide +kernel
theorem dX9_isExpression_1 : decode cX9_isExpression 1 = .ok (.iconst 0, 1) := by decide +kernel
theorem dX9_isExpression_2 : decode cX9_isExpression 2 = .ok (.bipush 8, 2) := by decide +kernel
theorem dX9_isExpression_4 : decode cX9_isExpression 4 = .ok (.invokestatic 117, 3) := by decide +kernel
theorem dX9_isExpression_7 : decode cX9_isExpression 7 = .ok (.ireturn, 1) := by decide +kernel
theorem dX9_isStatement_0 : decode cX9_isStatement 0 = .ok (.iload_n 0, 1) := by decide +kernel
theorem dX9_isStatement_1 : decode cX9_isStatement 1 = .ok (.bipush 12, 2) := by decide +kernel
theorem dX9_isStatement_3 : decode cX9_isStatement 3 = .ok (.bipush 21, 2) := by decide +kernel
theorem dX9_isStatement_5 : decode cX9_isStatement 5 = .ok (.invokestatic 117, 3) := by decide +kernel
theorem dX9_isStatement_8 : decode cX9_isStatement 8 = .ok (.ireturn, 1) := by decide +kernel
theorem dX9_isFree_0 : decode cX9_isFree 0 = .ok (.aload_n 0, 1) := by decide +kernel
theorem dX9_isFree_1 : decode cX9_isFree 1 = .ok (.iload_n 1, 1) := by decide +kernel
theorem dX9_isFree_2 : decode cX9_isFree 2 = .ok (.invokevirtual 159, 3) := by decide +kernel
theorem dX9_isFree_5 : decode cX9_isFree 5 = .ok (.ifCond .eq 27, 3) := by decide +kernel
theorem dX9_isFree_8 : decode cX9_isFree 8 = .ok (.aload_n 0, 1) := by decide +kernel
theorem dX9_isFree_9 : decode cX9_isFree 9 = .ok (.getfield 59, 3) := by decide +kernel
theorem dX9_isFree_12 : decode cX9_isFree 12 = .ok (.iload_n 1, 1) := by decide +kernel
theorem dX9_isFree_13 : decode cX9_isFree 13 = .ok (.iaload, 1) := by decide +kernel
theorem dX9_isFree_14 : decode cX9_isFree 14 = .ok (.iconst (-1), 1) := by decide +kernel
theorem dX9_isFree_15 : decode cX9_isFree 15 = .ok (.if_icmp .ne 17, 3) := by decide +kernel
theorem dX9_isFree_18 : decode cX9_isFree 18 = .ok (.aload_n 0, 1) := by decide +kernel
theorem dX9_isFree_19 : decode cX9_isFree 19 = .ok (.getfield 62, 3) := by decide +kernel
theorem dX9_isFree_22 : decode cX9_isFree 22 = .ok (.iload_n 1, 1) := by decide +kernel
theorem dX9_isFree_23 : decode cX9_isFree 23 = .ok (.iaload, 1) := by decide +kernel
theorem dX9_isFree_24 : decode cX9_isFree 24 = .ok (.iconst (-1), 1) := by decide +kernel
theorem dX9_isFree_25 : decode cX9_isFree 25 = .ok (.if_icmp .ne 7, 3) := by decide +kernel
theorem dX9_isFree_28 : decode cX9_isFree 28 = .ok (.iconst 1, 1) := by decide +kernel
theorem dX9_isFree_29 : decode cX9_isFree 29 = .ok (.goto 4, 3) := by decide +kernel
theorem dX9_isFree_32 : decode cX9_isFree 32 = .ok (.iconst 0, 1) := by decide +kernel
theorem dX9_isFree_33 : decode cX9_isFree 33 = .ok (.ireturn, 1) := by decide +kernel
theorem dX9_isFreeExpression_0 : decode cX9_isFreeExpression 0 = .ok (.aload_n 0, 1) := by decide +kernel
theorem dX9_isFreeExpression_1 : decode cX9_isFreeExpression 1 = .ok (.iload_n 1, 1) := by decide +kernel
theorem dX9_isFreeExpression_2 : decode cX9_isFreeExpression 2 = .ok (.invokevirtual 162, 3) := by decide +kernel
theorem dX9_isFreeExpression_5 : decode cX9_isFreeExpression 5 = .ok (.ifCond .eq 19, 3) := by decide +kernel
theorem dX9_isFreeExpression_8 : decode cX9_isFreeExpression 8 = .ok (.aload_n 0, 1) := by decide +kernel
theorem dX9_isFreeExpression_9 : decode cX9_isFreeExpression 9 = .ok (.getfield 47, 3) := by decide +kernel
theorem dX9_isFreeExpression_12 : decode cX9_isFreeExpression 12 = .ok (.iload_n 1, 1) := by decide +kernel
theorem dX9_isFreeExpression_13 : decode cX9_isFreeExpression 13 = .ok (.iaload, 1) := by decide +kernel
theorem dX9_isFreeExpression_14 : decode cX9_isFreeExpression 14 = .ok (.invokestatic 165, 3) := by decide +kernel
theorem dX9_isFreeExpression_17 : decode cX9_isFreeExpression 17 = .ok (.ifCond .eq 7, 3) := by decide +kernel
theorem dX9_isFreeExpression_20 : decode cX9_isFreeExpression 20 = .ok (.iconst 1, 1) := by decide +kernel
theorem dX9_isFreeExpression_21 : decode cX9_isFreeExpression 21 = .ok (.goto 4, 3) := by decide +kernel
theorem dX9_isFreeExpression_24 : decode cX9_isFreeExpression 24 = .ok (.iconst 0, 1) := by decide +kernel
theorem dX9_isFreeExpression_25 : decode cX9_isFreeExpression 25 = .ok (.ireturn, 1) := by decide +kernel
theorem dX9_isFreeStatement_0 : decode cX9_isFreeStatement 0 = .ok (.aload_n 0, 1) := by decide +kernel
theorem dX9_isFreeStatement_1 : decode cX9_isFreeStatement 1 = .ok (.iload_n 1, 1) := by decide +kernel
theorem dX9_isFreeStatement_2 : decode cX9_isFreeStatement 2 = .ok (.invokevirtual 162, 3) := by decide +kernel
theorem dX9_isFreeStatement_5 : decode cX9_isFreeStatement 5 = .ok (.ifCond .eq 19, 3) := by decide +kernel
theorem dX9_isFreeStatement_8 : decode cX9_isFreeStatement 8 = .ok (.aload_n 0, 1) := by decide +kernel
theorem dX9_isFreeStatement_9 : decode cX9_isFreeStatement 9 = .ok (.getfield 47, 3) := by decide +kernel
theorem dX9_isFreeStatement_12 : decode cX9_isFreeStatement 12 = .ok (.iload_n 1, 1) := by decide +kernel
theorem dX9_isFreeStatement_13 : decode cX9_isFreeStatement 13 = .ok (.iaload, 1) := by decide +kernel
theorem dX9_isFreeStatement_14 : decode cX9_isFreeStatement 14 = .ok (.invokestatic 168, 3) := by decide +kernel
theorem dX9_isFreeStatement_17 : decode cX9_isFreeStatement 17 = .ok (.ifCond .eq 7, 3) := by decide +kernel
theorem dX9_isFreeStatement_20 : decode cX9_isFreeStatement 20 = .ok (.iconst 1, 1) := by decide +kernel
theorem dX9_isFreeStatement_21 : decode cX9_isFreeStatement 21 = .ok (.goto 4, 3) := by decide +kernel
theorem dX9_isFreeStatement_24 : decode cX9_isFreeStatement 24 = .ok (.iconst 0, 1) := by decide +kernel
theorem dX9_isFreeStatement_25 : decode cX9_isFreeStatement 25 = .ok (.ireturn, 1) := by decide +kernel
theorem dX9_isArgument_0 : decode cX9_isArgument 0 = .ok (.iload_n 1, 1) := by decide +kernel
theorem dX9_isArgument_1 : decode cX9_isArgument 1 = .ok (.iconst (-1), 1) := by decide +kernel
theorem dX9_isArgument_2 : decode cX9_isArgument 2 = .ok (.if_icmp .eq 22, 3) := by decide +kernel
theorem dX9_isArgument_5 : decode cX9_isArgument 5 = .ok (.aload_n 0, 1) := by decide +kernel
theorem dX9_isArgument_6 : decode cX9_isArgument 6 = .ok (.iload_n 1, 1) := by decide +kernel
theorem dX9_isArgument_7 : decode cX9_isArgument 7 = .ok (.invokevirtual 162, 3) := by decide +kernel
theorem dX9_isArgument_10 : decode cX9_isArgument 10 = .ok (.ifCond .eq 18, 3) := by decide +kernel
theorem dX9_isArgument_13 : decode cX9_isArgument 13 = .ok (.aload_n 0, 1) := by decide +kernel
theorem dX9_isArgument_14 : decode cX9_isArgument 14 = .ok (.getfield 47, 3) := by decide +kernel
theorem dX9_isArgument_17 : decode cX9_isArgument 17 = .ok (.iload_n 1, 1) := by decide +kernel
theorem dX9_isArgument_18 : decode cX9_isArgument 18 = .ok (.iaload, 1) := by decide +kernel
theorem dX9_isArgument_19 : decode cX9_isArgument 19 = .ok (.bipush 9, 2) := by decide +kernel
theorem dX9_isArgument_21 : decode cX9_isArgument 21 = .ok (.if_icmp .ne 7, 3) := by decide +kernel
theorem dX9_isArgument_24 : decode cX9_isArgument 24 = .ok (.iconst 1, 1) := by decide +kernel
theorem dX9_isArgument_25 : decode cX9_isArgument 25 = .ok (.goto 4, 3) := by decide +kernel
theorem dX9_isArgument_28 : decode cX9_isArgument 28 = .ok (.iconst 0, 1) := by decide +kernel
theorem dX9_isArgument_29 : decode cX9_isArgument 29 = .ok (.ireturn, 1) := by decide +kernel
theorem dX9_canBe_0 : decode cX9_canBe 0 = .ok (.iload_n 1, 1) := by decide +kernel
theorem dX9_canBe_1 : decode cX9_canBe 1 = .ok (.tableswitch 562 0 21 #[103, 131, 153, 179, 179, 179, 179, 179, 212, 238, 131, 131, 299, 153, 332, 368, 410, 443, 468, 468, 491, 525], 103) := by decide +kernel
theorem dX9_canBe_104 : decode cX9_canBe 104 = .ok (.iload_n 2, 1) := by decide +kernel
theorem dX9_canBe_105 : decode cX9_canBe 105 = .ok (.sipush (-999), 3) := by decide +kernel
theorem dX9_canBe_108 : decode cX9_canBe 108 = .ok (.sipush 999, 3) := by decide +kernel
theorem dX9_canBe_111 : decode cX9_canBe 111 = .ok (.invokestatic 117, 3) := by decide +kernel
theorem dX9_canBe_114 : decode cX9_canBe 114 = .ok (.ifCond .eq 16, 3) := by decide +kernel
theorem dX9_canBe_117 : decode cX9_canBe 117 = .ok (.iload_n 3, 1) := by decide +kernel
theorem dX9_canBe_118 : decode cX9_canBe 118 = .ok (.ifCond .ne 12, 3) := by decide +kernel
theorem dX9_canBe_121 : decode cX9_canBe 121 = .ok (.iload 4, 2) := by decide +kernel
theorem dX9_canBe_123 : decode cX9_canBe 123 = .ok (.ifCond .ne 7, 3) := by decide +kernel
theorem dX9_canBe_126 : decode cX9_canBe 126 = .ok (.iconst 1, 1) := by decide +kernel
theorem dX9_canBe_127 : decode cX9_canBe 127 = .ok (.goto 4, 3) := by decide +kernel
theorem dX9_canBe_130 : decode cX9_canBe 130 = .ok (.iconst 0, 1) := by decide +kernel
theorem dX9_canBe_131 : decode cX9_canBe 131 = .ok (.ireturn, 1) := by decide +kernel
theorem dX9_canBe_132 : decode cX9_canBe 132 = .ok (.iload_n 2, 1) := by decide +kernel
theorem dX9_canBe_133 : decode cX9_canBe 133 = .ok (.invokestatic 132, 3) := by decide +kernel
theorem dX9_canBe_136 : decode cX9_canBe 136 = .ok (.ifCond .eq 16, 3) := by decide +kernel
theorem dX9_canBe_139 : decode cX9_canBe 139 = .ok (.iload_n 3, 1) := by decide +kernel
theorem dX9_canBe_140 : decode cX9_canBe 140 = .ok (.ifCond .ne 12, 3) := by decide +kernel
theorem dX9_canBe_143 : decode cX9_canBe 143 = .ok (.iload 4, 2) := by decide +kernel
theorem dX9_canBe_145 : decode cX9_canBe 145 = .ok (.ifCond .ne 7, 3) := by decide +kernel
theorem dX9_canBe_148 : decode cX9_canBe 148 = .ok (.iconst 1, 1) := by decide +kernel
theorem dX9_canBe_149 : decode cX9_canBe 149 = .ok (.goto 4, 3) := by decide +kernel
theorem dX9_canBe_152 : decode cX9_canBe 152 = .ok (.iconst 0, 1) := by decide +kernel
theorem dX9_canBe_153 : decode cX9_canBe 153 = .ok (.ireturn, 1) := by decide +kernel
theorem dX9_canBe_154 : decode cX9_canBe 154 = .ok (.iload_n 2, 1) := by decide +kernel
theorem dX9_canBe_155 : decode cX9_canBe 155 = .ok (.invokestatic 132, 3) := by decide +kernel
theorem dX9_canBe_158 : decode cX9_canBe 158 = .ok (.ifCond .eq 20, 3) := by decide +kernel
theorem dX9_canBe_161 : decode cX9_canBe 161 = .ok (.aload_n 0, 1) := by decide +kernel
theorem dX9_canBe_162 : decode cX9_canBe 162 = .ok (.iload_n 3, 1) := by decide +kernel
theorem dX9_canBe_163 : decode cX9_canBe 163 = .ok (.invokevirtual 171, 3) := by decide +kernel
theorem dX9_canBe_166 : decode cX9_canBe 166 = .ok (.ifCond .eq 12, 3) := by decide +kernel
theorem dX9_canBe_169 : decode cX9_canBe 169 = .ok (.iload 4, 2) := by decide +kernel
theorem dX9_canBe_171 : decode cX9_canBe 171 = .ok (.ifCond .ne 7, 3) := by decide +kernel
theorem dX9_canBe_174 : decode cX9_canBe 174 = .ok (.iconst 1, 1) := by decide +kernel
theorem dX9_canBe_175 : decode cX9_canBe 175 = .ok (.goto 4, 3) := by decide +kernel
theorem dX9_canBe_178 : decode cX9_canBe 178 = .ok (.iconst 0, 1) := by decide +kernel
theorem dX9_canBe_179 : decode cX9_canBe 179 = .ok (.ireturn, 1) := by decide +kernel
theorem dX9_canBe_180 : decode cX9_canBe 180 = .ok (.iload_n 2, 1) := by decide +kernel
theorem dX9_canBe_181 : decode cX9_canBe 181 = .ok (.ifCond .ne 30, 3) := by decide +kernel
theorem dX9_canBe_184 : decode cX9_canBe 184 = .ok (.aload_n 0, 1) := by decide +kernel
theorem dX9_canBe_185 : decode cX9_canBe 185 = .ok (.iload_n 3, 1) := by decide +kernel
theorem dX9_canBe_186 : decode cX9_canBe 186 = .ok (.invokevirtual 171, 3) := by decide +kernel
theorem dX9_canBe_189 : decode cX9_canBe 189 = .ok (.ifCond .eq 22, 3) := by decide +kernel
theorem dX9_canBe_192 : decode cX9_canBe 192 = .ok (.aload_n 0, 1) := by decide +kernel
theorem dX9_canBe_193 : decode cX9_canBe 193 = .ok (.iload 4, 2) := by decide +kernel
theorem dX9_canBe_195 : decode cX9_canBe 195 = .ok (.invokevirtual 171, 3) := by decide +kernel
theorem dX9_canBe_198 : decode cX9_canBe 198 = .ok (.ifCond .eq 13, 3) := by decide +kernel
theorem dX9_canBe_201 : decode cX9_canBe 201 = .ok (.iload_n 3, 1) := by decide +kernel
theorem dX9_canBe_202 : decode cX9_canBe 202 = .ok (.iload 4, 2) := by decide +kernel
theorem dX9_canBe_204 : decode cX9_canBe 204 = .ok (.if_icmp .eq 7, 3) := by decide +kernel
theorem dX9_canBe_207 : decode cX9_canBe 207 = .ok (.iconst 1, 1) := by decide +kernel
theorem dX9_canBe_208 : decode cX9_canBe 208 = .ok (.goto 4, 3) := by decide +kernel
theorem dX9_canBe_211 : decode cX9_canBe 211 = .ok (.iconst 0, 1) := by decide +kernel
theorem dX9_canBe_212 : decode cX9_canBe 212 = .ok (.ireturn, 1) := by decide +kernel
theorem dX9_canBe_213 : decode cX9_canBe 213 = .ok (.iload_n 2, 1) := by decide +kernel
theorem dX9_canBe_214 : decode cX9_canBe 214 = .ok (.invokestatic 132, 3) := by decide +kernel
theorem dX9_canBe_217 : decode cX9_canBe 217 = .ok (.ifCond .eq 20, 3) := by decide +kernel
theorem dX9_canBe_220 : decode cX9_canBe 220 = .ok (.aload_n 0, 1) := by decide +kernel
theorem dX9_canBe_221 : decode cX9_canBe 221 = .ok (.iload_n 3, 1) := by decide +kernel
theorem dX9_canBe_222 : decode cX9_canBe 222 = .ok (.invokevirtual 174, 3) := by decide +kernel
theorem dX9_canBe_225 : decode cX9_canBe 225 = .ok (.ifCond .eq 12, 3) := by decide +kernel
theorem dX9_canBe_228 : decode cX9_canBe 228 = .ok (.iload 4, 2) := by decide +kernel
theorem dX9_canBe_230 : decode cX9_canBe 230 = .ok (.ifCond .ne 7, 3) := by decide +kernel
theorem dX9_canBe_233 : decode cX9_canBe 233 = .ok (.iconst 1, 1) := by decide +kernel
theorem dX9_canBe_234 : decode cX9_canBe 234 = .ok (.goto 4, 3) := by decide +kernel
theorem dX9_canBe_237 : decode cX9_canBe 237 = .ok (.iconst 0, 1) := by decide +kernel
theorem dX9_canBe_238 : decode cX9_canBe 238 = .ok (.ireturn, 1) := by decide +kernel
theorem dX9_canBe_239 : decode cX9_canBe 239 = .ok (.iload_n 2, 1) := by decide +kernel
theorem dX9_canBe_240 : decode cX9_canBe 240 = .ok (.ifCond .ne 58, 3) := by decide +kernel
theorem dX9_canBe_243 : decode cX9_canBe 243 = .ok (.aload_n 0, 1) := by decide +kernel
theorem dX9_canBe_244 : decode cX9_canBe 244 = .ok (.iload_n 3, 1) := by decide +kernel
theorem dX9_canBe_245 : decode cX9_canBe 245 = .ok (.invokevirtual 162, 3) := by decide +kernel
theorem dX9_canBe_248 : decode cX9_canBe 248 = .ok (.ifCond .eq 50, 3) := by decide +kernel
theorem dX9_canBe_251 : decode cX9_canBe 251 = .ok (.aload_n 0, 1) := by decide +kernel
theorem dX9_canBe_252 : decode cX9_canBe 252 = .ok (.getfield 47, 3) := by decide +kernel
theorem dX9_canBe_255 : decode cX9_canBe 255 = .ok (.iload_n 3, 1) := by decide +kernel
theorem dX9_canBe_256 : decode cX9_canBe 256 = .ok (.iaload, 1) := by decide +kernel
theorem dX9_canBe_257 : decode cX9_canBe 257 = .ok (.invokestatic 165, 3) := by decide +kernel
theorem dX9_canBe_260 : decode cX9_canBe 260 = .ok (.ifCond .ne 25, 3) := by decide +kernel
theorem dX9_canBe_263 : decode cX9_canBe 263 = .ok (.aload_n 0, 1) := by decide +kernel
theorem dX9_canBe_264 : decode cX9_canBe 264 = .ok (.getfield 47, 3) := by decide +kernel
theorem dX9_canBe_267 : decode cX9_canBe 267 = .ok (.iload_n 3, 1) := by decide +kernel
theorem dX9_canBe_268 : decode cX9_canBe 268 = .ok (.iaload, 1) := by decide +kernel
theorem dX9_canBe_269 : decode cX9_canBe 269 = .ok (.bipush 10, 2) := by decide +kernel
theorem dX9_canBe_271 : decode cX9_canBe 271 = .ok (.if_icmp .eq 14, 3) := by decide +kernel
theorem dX9_canBe_274 : decode cX9_canBe 274 = .ok (.aload_n 0, 1) := by decide +kernel
theorem dX9_canBe_275 : decode cX9_canBe 275 = .ok (.getfield 47, 3) := by decide +kernel
theorem dX9_canBe_278 : decode cX9_canBe 278 = .ok (.iload_n 3, 1) := by decide +kernel
theorem dX9_canBe_279 : decode cX9_canBe 279 = .ok (.iaload, 1) := by decide +kernel
theorem dX9_canBe_280 : decode cX9_canBe 280 = .ok (.bipush 11, 2) := by decide +kernel
theorem dX9_canBe_282 : decode cX9_canBe 282 = .ok (.if_icmp .ne 16, 3) := by decide +kernel
theorem dX9_canBe_285 : decode cX9_canBe 285 = .ok (.aload_n 0, 1) := by decide +kernel
theorem dX9_canBe_286 : decode cX9_canBe 286 = .ok (.iload 4, 2) := by decide +kernel
theorem dX9_canBe_288 : decode cX9_canBe 288 = .ok (.invokevirtual 174, 3) := by decide +kernel
theorem dX9_canBe_291 : decode cX9_canBe 291 = .ok (.ifCond .eq 7, 3) := by decide +kernel
theorem dX9_canBe_294 : decode cX9_canBe 294 = .ok (.iconst 1, 1) := by decide +kernel
theorem dX9_canBe_295 : decode cX9_canBe 295 = .ok (.goto 4, 3) := by decide +kernel
theorem dX9_canBe_298 : decode cX9_canBe 298 = .ok (.iconst 0, 1) := by decide +kernel
theorem dX9_canBe_299 : decode cX9_canBe 299 = .ok (.ireturn, 1) := by decide +kernel
theorem dX9_canBe_300 : decode cX9_canBe 300 = .ok (.iload_n 2, 1) := by decide +kernel
theorem dX9_canBe_301 : decode cX9_canBe 301 = .ok (.ifCond .ne 30, 3) := by decide +kernel
theorem dX9_canBe_304 : decode cX9_canBe 304 = .ok (.aload_n 0, 1) := by decide +kernel
theorem dX9_canBe_305 : decode cX9_canBe 305 = .ok (.iload_n 3, 1) := by decide +kernel
theorem dX9_canBe_306 : decode cX9_canBe 306 = .ok (.invokevirtual 177, 3) := by decide +kernel
theorem dX9_canBe_309 : decode cX9_canBe 309 = .ok (.ifCond .eq 22, 3) := by decide +kernel
theorem dX9_canBe_312 : decode cX9_canBe 312 = .ok (.aload_n 0, 1) := by decide +kernel
theorem dX9_canBe_313 : decode cX9_canBe 313 = .ok (.iload 4, 2) := by decide +kernel
theorem dX9_canBe_315 : decode cX9_canBe 315 = .ok (.invokevirtual 177, 3) := by decide +kernel
theorem dX9_canBe_318 : decode cX9_canBe 318 = .ok (.ifCond .eq 13, 3) := by decide +kernel
theorem dX9_canBe_321 : decode cX9_canBe 321 = .ok (.iload_n 3, 1) := by decide +kernel
theorem dX9_canBe_322 : decode cX9_canBe 322 = .ok (.iload 4, 2) := by decide +kernel
theorem dX9_canBe_324 : decode cX9_canBe 324 = .ok (.if_icmp .eq 7, 3) := by decide +kernel
theorem dX9_canBe_327 : decode cX9_canBe 327 = .ok (.iconst 1, 1) := by decide +kernel
theorem dX9_canBe_328 : decode cX9_canBe 328 = .ok (.goto 4, 3) := by decide +kernel
theorem dX9_canBe_331 : decode cX9_canBe 331 = .ok (.iconst 0, 1) := by decide +kernel
theorem dX9_canBe_332 : decode cX9_canBe 332 = .ok (.ireturn, 1) := by decide +kernel
theorem dX9_canBe_333 : decode cX9_canBe 333 = .ok (.iload_n 2, 1) := by decide +kernel
theorem dX9_canBe_334 : decode cX9_canBe 334 = .ok (.invokestatic 132, 3) := by decide +kernel
theorem dX9_canBe_337 : decode cX9_canBe 337 = .ok (.ifCond .eq 30, 3) := by decide +kernel
theorem dX9_canBe_340 : decode cX9_canBe 340 = .ok (.aload_n 0, 1) := by decide +kernel
theorem dX9_canBe_341 : decode cX9_canBe 341 = .ok (.iload_n 3, 1) := by decide +kernel
theorem dX9_canBe_342 : decode cX9_canBe 342 = .ok (.invokevirtual 171, 3) := by decide +kernel
theorem dX9_canBe_345 : decode cX9_canBe 345 = .ok (.ifCond .eq 22, 3) := by decide +kernel
theorem dX9_canBe_348 : decode cX9_canBe 348 = .ok (.aload_n 0, 1) := by decide +kernel
theorem dX9_canBe_349 : decode cX9_canBe 349 = .ok (.iload 4, 2) := by decide +kernel
theorem dX9_canBe_351 : decode cX9_canBe 351 = .ok (.invokevirtual 171, 3) := by decide +kernel
theorem dX9_canBe_354 : decode cX9_canBe 354 = .ok (.ifCond .eq 13, 3) := by decide +kernel
theorem dX9_canBe_357 : decode cX9_canBe 357 = .ok (.iload_n 3, 1) := by decide +kernel
theorem dX9_canBe_358 : decode cX9_canBe 358 = .ok (.iload 4, 2) := by decide +kernel
theorem dX9_canBe_360 : decode cX9_canBe 360 = .ok (.if_icmp .eq 7, 3) := by decide +kernel
theorem dX9_canBe_363 : decode cX9_canBe 363 = .ok (.iconst 1, 1) := by decide +kernel
theorem dX9_canBe_364 : decode cX9_canBe 364 = .ok (.goto 4, 3) := by decide +kernel
theorem dX9_canBe_367 : decode cX9_canBe 367 = .ok (.iconst 0, 1) := by decide +kernel
theorem dX9_canBe_368 : decode cX9_canBe 368 = .ok (.ireturn, 1) := by decide +kernel
theorem dX9_canBe_369 : decode cX9_canBe 369 = .ok (.aload_n 0, 1) := by decide +kernel
theorem dX9_canBe_370 : decode cX9_canBe 370 = .ok (.iload_n 3, 1) := by decide +kernel
theorem dX9_canBe_371 : decode cX9_canBe 371 = .ok (.invokevirtual 171, 3) := by decide +kernel
theorem dX9_canBe_374 : decode cX9_canBe 374 = .ok (.ifCond .eq 35, 3) := by decide +kernel
theorem dX9_canBe_377 : decode cX9_canBe 377 = .ok (.aload_n 0, 1) := by decide +kernel
theorem dX9_canBe_378 : decode cX9_canBe 378 = .ok (.iload 4, 2) := by decide +kernel
theorem dX9_canBe_380 : decode cX9_canBe 380 = .ok (.invokevirtual 177, 3) := by decide +kernel
theorem dX9_canBe_383 : decode cX9_canBe 383 = .ok (.ifCond .eq 26, 3) := by decide +kernel
theorem dX9_canBe_386 : decode cX9_canBe 386 = .ok (.iload_n 2, 1) := by decide +kernel
theorem dX9_canBe_387 : decode cX9_canBe 387 = .ok (.iconst (-1), 1) := by decide +kernel
theorem dX9_canBe_388 : decode cX9_canBe 388 = .ok (.if_icmp .eq 17, 3) := by decide +kernel
theorem dX9_canBe_391 : decode cX9_canBe 391 = .ok (.aload_n 0, 1) := by decide +kernel
theorem dX9_canBe_392 : decode cX9_canBe 392 = .ok (.iload_n 2, 1) := by decide +kernel
theorem dX9_canBe_393 : decode cX9_canBe 393 = .ok (.invokevirtual 177, 3) := by decide +kernel
theorem dX9_canBe_396 : decode cX9_canBe 396 = .ok (.ifCond .eq 13, 3) := by decide +kernel
theorem dX9_canBe_399 : decode cX9_canBe 399 = .ok (.iload_n 2, 1) := by decide +kernel
theorem dX9_canBe_400 : decode cX9_canBe 400 = .ok (.iload 4, 2) := by decide +kernel
theorem dX9_canBe_402 : decode cX9_canBe 402 = .ok (.if_icmp .eq 7, 3) := by decide +kernel
theorem dX9_canBe_405 : decode cX9_canBe 405 = .ok (.iconst 1, 1) := by decide +kernel
theorem dX9_canBe_406 : decode cX9_canBe 406 = .ok (.goto 4, 3) := by decide +kernel
theorem dX9_canBe_409 : decode cX9_canBe 409 = .ok (.iconst 0, 1) := by decide +kernel
theorem dX9_canBe_410 : decode cX9_canBe 410 = .ok (.ireturn, 1) := by decide +kernel
theorem dX9_canBe_411 : decode cX9_canBe 411 = .ok (.iload_n 2, 1) := by decide +kernel
theorem dX9_canBe_412 : decode cX9_canBe 412 = .ok (.iconst 0, 1) := by decide +kernel
theorem dX9_canBe_413 : decode cX9_canBe 413 = .ok (.bipush 9, 2) := by decide +kernel
theorem dX9_canBe_415 : decode cX9_canBe 415 = .ok (.invokestatic 117, 3) := by decide +kernel
theorem dX9_canBe_418 : decode cX9_canBe 418 = .ok (.ifCond .eq 24, 3) := by decide +kernel
theorem dX9_canBe_421 : decode cX9_canBe 421 = .ok (.aload_n 0, 1) := by decide +kernel
theorem dX9_canBe_422 : decode cX9_canBe 422 = .ok (.iload_n 3, 1) := by decide +kernel
theorem dX9_canBe_423 : decode cX9_canBe 423 = .ok (.invokevirtual 171, 3) := by decide +kernel
theorem dX9_canBe_426 : decode cX9_canBe 426 = .ok (.ifCond .eq 16, 3) := by decide +kernel
theorem dX9_canBe_429 : decode cX9_canBe 429 = .ok (.aload_n 0, 1) := by decide +kernel
theorem dX9_canBe_430 : decode cX9_canBe 430 = .ok (.iload 4, 2) := by decide +kernel
theorem dX9_canBe_432 : decode cX9_canBe 432 = .ok (.invokevirtual 177, 3) := by decide +kernel
theorem dX9_canBe_435 : decode cX9_canBe 435 = .ok (.ifCond .eq 7, 3) := by decide +kernel
theorem dX9_canBe_438 : decode cX9_canBe 438 = .ok (.iconst 1, 1) := by decide +kernel
theorem dX9_canBe_439 : decode cX9_canBe 439 = .ok (.goto 4, 3) := by decide +kernel
theorem dX9_canBe_442 : decode cX9_canBe 442 = .ok (.iconst 0, 1) := by decide +kernel
theorem dX9_canBe_443 : decode cX9_canBe 443 = .ok (.ireturn, 1) := by decide +kernel
theorem dX9_canBe_444 : decode cX9_canBe 444 = .ok (.iload_n 2, 1) := by decide +kernel
theorem dX9_canBe_445 : decode cX9_canBe 445 = .ok (.iconst 0, 1) := by decide +kernel
theorem dX9_canBe_446 : decode cX9_canBe 446 = .ok (.bipush 9, 2) := by decide +kernel
theorem dX9_canBe_448 : decode cX9_canBe 448 = .ok (.invokestatic 117, 3) := by decide +kernel
theorem dX9_canBe_451 : decode cX9_canBe 451 = .ok (.ifCond .eq 16, 3) := by decide +kernel
theorem dX9_canBe_454 : decode cX9_canBe 454 = .ok (.iload_n 3, 1) := by decide +kernel
theorem dX9_canBe_455 : decode cX9_canBe 455 = .ok (.ifCond .ne 12, 3) := by decide +kernel
theorem dX9_canBe_458 : decode cX9_canBe 458 = .ok (.iload 4, 2) := by decide +kernel
theorem dX9_canBe_460 : decode cX9_canBe 460 = .ok (.ifCond .ne 7, 3) := by decide +kernel
theorem dX9_canBe_463 : decode cX9_canBe 463 = .ok (.iconst 1, 1) := by decide +kernel
theorem dX9_canBe_464 : decode cX9_canBe 464 = .ok (.goto 4, 3) := by decide +kernel
theorem dX9_canBe_467 : decode cX9_canBe 467 = .ok (.iconst 0, 1) := by decide +kernel
theorem dX9_canBe_468 : decode cX9_canBe 468 = .ok (.ireturn, 1) := by decide +kernel
theorem dX9_canBe_469 : decode cX9_canBe 469 = .ok (.iload_n 2, 1) := by decide +kernel
theorem dX9_canBe_470 : decode cX9_canBe 470 = .ok (.ifCond .ne 20, 3) := by decide +kernel
theorem dX9_canBe_473 : decode cX9_canBe 473 = .ok (.aload_n 0, 1) := by decide +kernel
theorem dX9_canBe_474 : decode cX9_canBe 474 = .ok (.iload_n 3, 1) := by decide +kernel
theorem dX9_canBe_475 : decode cX9_canBe 475 = .ok (.invokevirtual 171, 3) := by decide +kernel
theorem dX9_canBe_478 : decode cX9_canBe 478 = .ok (.ifCond .eq 12, 3) := by decide +kernel
theorem dX9_canBe_481 : decode cX9_canBe 481 = .ok (.iload 4, 2) := by decide +kernel
theorem dX9_canBe_483 : decode cX9_canBe 483 = .ok (.ifCond .ne 7, 3) := by decide +kernel
theorem dX9_canBe_486 : decode cX9_canBe 486 = .ok (.iconst 1, 1) := by decide +kernel
theorem dX9_canBe_487 : decode cX9_canBe 487 = .ok (.goto 4, 3) := by decide +kernel
theorem dX9_canBe_490 : decode cX9_canBe 490 = .ok (.iconst 0, 1) := by decide +kernel
theorem dX9_canBe_491 : decode cX9_canBe 491 = .ok (.ireturn, 1) := by decide +kernel
theorem dX9_canBe_492 : decode cX9_canBe 492 = .ok (.iload_n 2, 1) := by decide +kernel
theorem dX9_canBe_493 : decode cX9_canBe 493 = .ok (.ifCond .ne 31, 3) := by decide +kernel
theorem dX9_canBe_496 : decode cX9_canBe 496 = .ok (.aload_n 0, 1) := by decide +kernel
theorem dX9_canBe_497 : decode cX9_canBe 497 = .ok (.iload_n 3, 1) := by decide +kernel
theorem dX9_canBe_498 : decode cX9_canBe 498 = .ok (.invokevirtual 162, 3) := by decide +kernel
theorem dX9_canBe_501 : decode cX9_canBe 501 = .ok (.ifCond .eq 23, 3) := by decide +kernel
theorem dX9_canBe_504 : decode cX9_canBe 504 = .ok (.aload_n 0, 1) := by decide +kernel
theorem dX9_canBe_505 : decode cX9_canBe 505 = .ok (.getfield 47, 3) := by decide +kernel
theorem dX9_canBe_508 : decode cX9_canBe 508 = .ok (.iload_n 3, 1) := by decide +kernel
theorem dX9_canBe_509 : decode cX9_canBe 509 = .ok (.iaload, 1) := by decide +kernel
theorem dX9_canBe_510 : decode cX9_canBe 510 = .ok (.bipush 8, 2) := by decide +kernel
theorem dX9_canBe_512 : decode cX9_canBe 512 = .ok (.if_icmp .ne 12, 3) := by decide +kernel
theorem dX9_canBe_515 : decode cX9_canBe 515 = .ok (.iload 4, 2) := by decide +kernel
theorem dX9_canBe_517 : decode cX9_canBe 517 = .ok (.ifCond .ne 7, 3) := by decide +kernel
theorem dX9_canBe_520 : decode cX9_canBe 520 = .ok (.iconst 1, 1) := by decide +kernel
theorem dX9_canBe_521 : decode cX9_canBe 521 = .ok (.goto 4, 3) := by decide +kernel
theorem dX9_canBe_524 : decode cX9_canBe 524 = .ok (.iconst 0, 1) := by decide +kernel
theorem dX9_canBe_525 : decode cX9_canBe 525 = .ok (.ireturn, 1) := by decide +kernel
theorem dX9_canBe_526 : decode cX9_canBe 526 = .ok (.iload_n 2, 1) := by decide +kernel
theorem dX9_canBe_527 : decode cX9_canBe 527 = .ok (.invokestatic 132, 3) := by decide +kernel
theorem dX9_canBe_530 : decode cX9_canBe 530 = .ok (.ifCond .eq 31, 3) := by decide +kernel
theorem dX9_canBe_533 : decode cX9_canBe 533 = .ok (.aload_n 0, 1) := by decide +kernel
theorem dX9_canBe_534 : decode cX9_canBe 534 = .ok (.iload_n 3, 1) := by decide +kernel
theorem dX9_canBe_535 : decode cX9_canBe 535 = .ok (.invokevirtual 162, 3) := by decide +kernel
theorem dX9_canBe_538 : decode cX9_canBe 538 = .ok (.ifCond .eq 23, 3) := by decide +kernel
theorem dX9_canBe_541 : decode cX9_canBe 541 = .ok (.aload_n 0, 1) := by decide +kernel
theorem dX9_canBe_542 : decode cX9_canBe 542 = .ok (.getfield 47, 3) := by decide +kernel
theorem dX9_canBe_545 : decode cX9_canBe 545 = .ok (.iload_n 3, 1) := by decide +kernel
theorem dX9_canBe_546 : decode cX9_canBe 546 = .ok (.iaload, 1) := by decide +kernel
theorem dX9_canBe_547 : decode cX9_canBe 547 = .ok (.bipush 10, 2) := by decide +kernel
theorem dX9_canBe_549 : decode cX9_canBe 549 = .ok (.if_icmp .ne 12, 3) := by decide +kernel
theorem dX9_canBe_552 : decode cX9_canBe 552 = .ok (.iload 4, 2) := by decide +kernel
theorem dX9_canBe_554 : decode cX9_canBe 554 = .ok (.ifCond .ne 7, 3) := by decide +kernel
theorem dX9_canBe_557 : decode cX9_canBe 557 = .ok (.iconst 1, 1) := by decide +kernel
theorem dX9_canBe_558 : decode cX9_canBe 558 = .ok (.goto 4, 3) := by decide +kernel
theorem dX9_canBe_561 : decode cX9_canBe 561 = .ok (.iconst 0, 1) := by decide +kernel
theorem dX9_canBe_562 : decode cX9_canBe 562 = .ok (.ireturn, 1) := by decide +kernel
theorem dX9_canBe_563 : decode cX9_canBe 563 = .ok (.iconst 0, 1) := by decide +kernel
theorem dX9_canBe_564 : decode cX9_canBe 564 = .ok (.ireturn, 1) := by decide +kernel
theorem dX9_parts_0 : decode cX9_parts 0 = .ok (.iload_n 0, 1) := by decide +kernel
theorem dX9_parts_1 : decode cX9_parts 1 = .ok (.tableswitch 110 0 21 #[103, 103, 105, 110, 110, 110, 110, 110, 105, 110, 103, 103, 110, 105, 110, 107, 110, 103, 105, 105, 105, 105], 103) := by decide +kernel
theorem dX9_parts_104 : decode cX9_parts 104 = .ok (.iconst 0, 1) := by decide +kernel
theorem dX9_parts_105 : decode cX9_parts 105 = .ok (.ireturn, 1) := by decide +kernel
theorem dX9_parts_106 : decode cX9_parts 106 = .ok (.iconst 2, 1) := by decide +kernel
theorem dX9_parts_107 : decode cX9_parts 107 = .ok (.ireturn, 1) := by decide +kernel
theorem dX9_parts_108 : decode cX9_parts 108 = .ok (.bipush 7, 2) := by decide +kernel
theorem dX9_parts_110 : decode cX9_parts 110 = .ok (.ireturn, 1) := by decide +kernel
theorem dX9_parts_111 : decode cX9_parts 111 = .ok (.bipush 6, 2) := by decide +kernel
theorem dX9_parts_113 : decode cX9_parts 113 = .ok (.ireturn, 1) := by decide +kernel
theorem dX9_part_0 : decode cX9_part 0 = .ok (.aload_n 0, 1) := by decide +kernel
theorem dX9_part_1 : decode cX9_part 1 = .ok (.getfield 47, 3) := by decide +kernel
theorem dX9_part_4 : decode cX9_part 4 = .ok (.iload_n 1, 1) := by decide +kernel
theorem dX9_part_5 : decode cX9_part 5 = .ok (.iaload, 1) := by decide +kernel
theorem dX9_part_6 : decode cX9_part 6 = .ok (.invokestatic 180, 3) := by decide +kernel
theorem dX9_part_9 : decode cX9_part 9 = .ok (.iload_n 2, 1) := by decide +kernel
theorem dX9_part_10 : decode cX9_part 10 = .ok (.invokestatic 183, 3) := by decide +kernel
theorem dX9_part_13 : decode cX9_part 13 = .ok (.ifCond .ne 5, 3) := by decide +kernel
theorem dX9_part_16 : decode cX9_part 16 = .ok (.iconst (-1), 1) := by decide +kernel
theorem dX9_part_17 : decode cX9_part 17 = .ok (.ireturn, 1) := by decide +kernel
theorem dX9_part_18 : decode cX9_part 18 = .ok (.iload_n 2, 1) := by decide +kernel
theorem dX9_part_19 : decode cX9_part 19 = .ok (.ifCond .ne 12, 3) := by decide +kernel
theorem dX9_part_22 : decode cX9_part 22 = .ok (.aload_n 0, 1) := by decide +kernel
theorem dX9_part_23 : decode cX9_part 23 = .ok (.getfield 50, 3) := by decide +kernel
theorem dX9_part_26 : decode cX9_part 26 = .ok (.iload_n 1, 1) := by decide +kernel
theorem dX9_part_27 : decode cX9_part 27 = .ok (.iaload, 1) := by decide +kernel
theorem dX9_part_28 : decode cX9_part 28 = .ok (.goto 23, 3) := by decide +kernel
theorem dX9_part_31 : decode cX9_part 31 = .ok (.iload_n 2, 1) := by decide +kernel
theorem dX9_part_32 : decode cX9_part 32 = .ok (.iconst 1, 1) := by decide +kernel
theorem dX9_part_33 : decode cX9_part 33 = .ok (.if_icmp .ne 12, 3) := by decide +kernel
theorem dX9_part_36 : decode cX9_part 36 = .ok (.aload_n 0, 1) := by decide +kernel
theorem dX9_part_37 : decode cX9_part 37 = .ok (.getfield 53, 3) := by decide +kernel
theorem dX9_part_40 : decode cX9_part 40 = .ok (.iload_n 1, 1) := by decide +kernel
theorem dX9_part_41 : decode cX9_part 41 = .ok (.iaload, 1) := by decide +kernel
theorem dX9_part_42 : decode cX9_part 42 = .ok (.goto 9, 3) := by decide +kernel
theorem dX9_part_45 : decode cX9_part 45 = .ok (.aload_n 0, 1) := by decide +kernel
theorem dX9_part_46 : decode cX9_part 46 = .ok (.getfield 56, 3) := by decide +kernel
theorem dX9_part_49 : decode cX9_part 49 = .ok (.iload_n 1, 1) := by decide +kernel
theorem dX9_part_50 : decode cX9_part 50 = .ok (.iaload, 1) := by decide +kernel
theorem dX9_part_51 : decode cX9_part 51 = .ok (.ireturn, 1) := by decide +kernel
theorem dX9_node_0 : decode cX9_node 0 = .ok (.aload_n 0, 1) := by decide +kernel
theorem dX9_node_1 : decode cX9_node 1 = .ok (.iconst 0, 1) := by decide +kernel
theorem dX9_node_2 : decode cX9_node 2 = .ok (.putfield 114, 3) := by decide +kernel
theorem dX9_node_5 : decode cX9_node 5 = .ok (.iload_n 1, 1) := by decide +kernel
theorem dX9_node_6 : decode cX9_node 6 = .ok (.iconst 0, 1) := by decide +kernel
theorem dX9_node_7 : decode cX9_node 7 = .ok (.bipush 21, 2) := by decide +kernel
theorem dX9_node_9 : decode cX9_node 9 = .ok (.invokestatic 117, 3) := by decide +kernel
theorem dX9_node_12 : decode cX9_node 12 = .ok (.ifCond .eq 15, 3) := by decide +kernel
theorem dX9_node_15 : decode cX9_node 15 = .ok (.aload_n 0, 1) := by decide +kernel
theorem dX9_node_16 : decode cX9_node 16 = .ok (.iload_n 1, 1) := by decide +kernel
theorem dX9_node_17 : decode cX9_node 17 = .ok (.iload_n 2, 1) := by decide +kernel
theorem dX9_node_18 : decode cX9_node 18 = .ok (.iload_n 3, 1) := by decide +kernel
theorem dX9_node_19 : decode cX9_node 19 = .ok (.iload 4, 2) := by decide +kernel
theorem dX9_node_21 : decode cX9_node 21 = .ok (.invokevirtual 187, 3) := by decide +kernel
theorem dX9_node_24 : decode cX9_node 24 = .ok (.ifCond .ne 9, 3) := by decide +kernel
theorem dX9_node_27 : decode cX9_node 27 = .ok (.aload_n 0, 1) := by decide +kernel
theorem dX9_node_28 : decode cX9_node 28 = .ok (.iconst 1, 1) := by decide +kernel
theorem dX9_node_29 : decode cX9_node 29 = .ok (.invokevirtual 128, 3) := by decide +kernel
theorem dX9_node_32 : decode cX9_node 32 = .ok (.ireturn, 1) := by decide +kernel
theorem dX9_node_33 : decode cX9_node 33 = .ok (.aload_n 0, 1) := by decide +kernel
theorem dX9_node_34 : decode cX9_node 34 = .ok (.getfield 121, 3) := by decide +kernel
theorem dX9_node_37 : decode cX9_node 37 = .ok (.bipush 110, 2) := by decide +kernel
theorem dX9_node_39 : decode cX9_node 39 = .ok (.if_icmp .ne 9, 3) := by decide +kernel
theorem dX9_node_42 : decode cX9_node 42 = .ok (.aload_n 0, 1) := by decide +kernel
theorem dX9_node_43 : decode cX9_node 43 = .ok (.iconst 2, 1) := by decide +kernel
theorem dX9_node_44 : decode cX9_node 44 = .ok (.invokevirtual 128, 3) := by decide +kernel
theorem dX9_node_47 : decode cX9_node 47 = .ok (.ireturn, 1) := by decide +kernel
theorem dX9_node_48 : decode cX9_node 48 = .ok (.aload_n 0, 1) := by decide +kernel
theorem dX9_node_49 : decode cX9_node 49 = .ok (.getfield 47, 3) := by decide +kernel
theorem dX9_node_52 : decode cX9_node 52 = .ok (.aload_n 0, 1) := by decide +kernel
theorem dX9_node_53 : decode cX9_node 53 = .ok (.getfield 121, 3) := by decide +kernel
theorem dX9_node_56 : decode cX9_node 56 = .ok (.iload_n 1, 1) := by decide +kernel
theorem dX9_node_57 : decode cX9_node 57 = .ok (.iastore, 1) := by decide +kernel
theorem dX9_node_58 : decode cX9_node 58 = .ok (.aload_n 0, 1) := by decide +kernel
theorem dX9_node_59 : decode cX9_node 59 = .ok (.getfield 50, 3) := by decide +kernel
theorem dX9_node_62 : decode cX9_node 62 = .ok (.aload_n 0, 1) := by decide +kernel
theorem dX9_node_63 : decode cX9_node 63 = .ok (.getfield 121, 3) := by decide +kernel
theorem dX9_node_66 : decode cX9_node 66 = .ok (.iload_n 2, 1) := by decide +kernel
theorem dX9_node_67 : decode cX9_node 67 = .ok (.iastore, 1) := by decide +kernel
theorem dX9_node_68 : decode cX9_node 68 = .ok (.aload_n 0, 1) := by decide +kernel
theorem dX9_node_69 : decode cX9_node 69 = .ok (.getfield 53, 3) := by decide +kernel
theorem dX9_node_72 : decode cX9_node 72 = .ok (.aload_n 0, 1) := by decide +kernel
theorem dX9_node_73 : decode cX9_node 73 = .ok (.getfield 121, 3) := by decide +kernel
theorem dX9_node_76 : decode cX9_node 76 = .ok (.iload_n 3, 1) := by decide +kernel
theorem dX9_node_77 : decode cX9_node 77 = .ok (.iastore, 1) := by decide +kernel
theorem dX9_node_78 : decode cX9_node 78 = .ok (.aload_n 0, 1) := by decide +kernel
theorem dX9_node_79 : decode cX9_node 79 = .ok (.getfield 56, 3) := by decide +kernel
theorem dX9_node_82 : decode cX9_node 82 = .ok (.aload_n 0, 1) := by decide +kernel
theorem dX9_node_83 : decode cX9_node 83 = .ok (.getfield 121, 3) := by decide +kernel
theorem dX9_node_86 : decode cX9_node 86 = .ok (.iload 4, 2) := by decide +kernel
theorem dX9_node_88 : decode cX9_node 88 = .ok (.iastore, 1) := by decide +kernel
theorem dX9_node_89 : decode cX9_node 89 = .ok (.aload_n 0, 1) := by decide +kernel
theorem dX9_node_90 : decode cX9_node 90 = .ok (.getfield 59, 3) := by decide +kernel
theorem dX9_node_93 : decode cX9_node 93 = .ok (.aload_n 0, 1) := by decide +kernel
theorem dX9_node_94 : decode cX9_node 94 = .ok (.getfield 121, 3) := by decide +kernel
theorem dX9_node_97 : decode cX9_node 97 = .ok (.iconst (-1), 1) := by decide +kernel
theorem dX9_node_98 : decode cX9_node 98 = .ok (.iastore, 1) := by decide +kernel
theorem dX9_node_99 : decode cX9_node 99 = .ok (.aload_n 0, 1) := by decide +kernel
theorem dX9_node_100 : decode cX9_node 100 = .ok (.getfield 62, 3) := by decide +kernel
theorem dX9_node_103 : decode cX9_node 103 = .ok (.aload_n 0, 1) := by decide +kernel
theorem dX9_node_104 : decode cX9_node 104 = .ok (.getfield 121, 3) := by decide +kernel
theorem dX9_node_107 : decode cX9_node 107 = .ok (.iconst (-1), 1) := by decide +kernel
theorem dX9_node_108 : decode cX9_node 108 = .ok (.iastore, 1) := by decide +kernel
theorem dX9_node_109 : decode cX9_node 109 = .ok (.iconst 0, 1) := by decide +kernel
theorem dX9_node_110 : decode cX9_node 110 = .ok (.istore 5, 2) := by decide +kernel
theorem dX9_node_112 : decode cX9_node 112 = .ok (.iload 5, 2) := by decide +kernel
theorem dX9_node_114 : decode cX9_node 114 = .ok (.iconst 3, 1) := by decide +kernel
theorem dX9_node_115 : decode cX9_node 115 = .ok (.if_icmp .ge 42, 3) := by decide +kernel
theorem dX9_node_118 : decode cX9_node 118 = .ok (.aload_n 0, 1) := by decide +kernel
theorem dX9_node_119 : decode cX9_node 119 = .ok (.aload_n 0, 1) := by decide +kernel
theorem dX9_node_120 : decode cX9_node 120 = .ok (.getfield 121, 3) := by decide +kernel
theorem dX9_node_123 : decode cX9_node 123 = .ok (.iload 5, 2) := by decide +kernel
theorem dX9_node_125 : decode cX9_node 125 = .ok (.invokevirtual 191, 3) := by decide +kernel
theorem dX9_node_128 : decode cX9_node 128 = .ok (.iconst (-1), 1) := by decide +kernel
theorem dX9_node_129 : decode cX9_node 129 = .ok (.if_icmp .eq 22, 3) := by decide +kernel
theorem dX9_node_132 : decode cX9_node 132 = .ok (.aload_n 0, 1) := by decide +kernel
theorem dX9_node_133 : decode cX9_node 133 = .ok (.getfield 59, 3) := by decide +kernel
theorem dX9_node_136 : decode cX9_node 136 = .ok (.aload_n 0, 1) := by decide +kernel
theorem dX9_node_137 : decode cX9_node 137 = .ok (.aload_n 0, 1) := by decide +kernel
theorem dX9_node_138 : decode cX9_node 138 = .ok (.getfield 121, 3) := by decide +kernel
theorem dX9_node_141 : decode cX9_node 141 = .ok (.iload 5, 2) := by decide +kernel
theorem dX9_node_143 : decode cX9_node 143 = .ok (.invokevirtual 191, 3) := by decide +kernel
theorem dX9_node_146 : decode cX9_node 146 = .ok (.aload_n 0, 1) := by decide +kernel
theorem dX9_node_147 : decode cX9_node 147 = .ok (.getfield 121, 3) := by decide +kernel
theorem dX9_node_150 : decode cX9_node 150 = .ok (.iastore, 1) := by decide +kernel
theorem dX9_node_151 : decode cX9_node 151 = .ok (.iinc 5 1, 3) := by decide +kernel
theorem dX9_node_154 : decode cX9_node 154 = .ok (.goto (-42), 3) := by decide +kernel
theorem dX9_node_157 : decode cX9_node 157 = .ok (.aload_n 0, 1) := by decide +kernel
theorem dX9_node_158 : decode cX9_node 158 = .ok (.dup, 1) := by decide +kernel
theorem dX9_node_159 : decode cX9_node 159 = .ok (.getfield 121, 3) := by decide +kernel
theorem dX9_node_162 : decode cX9_node 162 = .ok (.dup_x1, 1) := by decide +kernel
theorem dX9_node_163 : decode cX9_node 163 = .ok (.iconst 1, 1) := by decide +kernel
theorem dX9_node_164 : decode cX9_node 164 = .ok (.iadd, 1) := by decide +kernel
theorem dX9_node_165 : decode cX9_node 165 = .ok (.putfield 121, 3) := by decide +kernel
theorem dX9_node_168 : decode cX9_node 168 = .ok (.ireturn, 1) := by decide +kernel
theorem dX9_body_0 : decode cX9_body 0 = .ok (.aload_n 0, 1) := by decide +kernel
theorem dX9_body_1 : decode cX9_body 1 = .ok (.iconst 0, 1) := by decide +kernel
theorem dX9_body_2 : decode cX9_body 2 = .ok (.putfield 114, 3) := by decide +kernel
theorem dX9_body_5 : decode cX9_body 5 = .ok (.aload_n 0, 1) := by decide +kernel
theorem dX9_body_6 : decode cX9_body 6 = .ok (.iload_n 1, 1) := by decide +kernel
theorem dX9_body_7 : decode cX9_body 7 = .ok (.invokevirtual 124, 3) := by decide +kernel
theorem dX9_body_10 : decode cX9_body 10 = .ok (.ifCond .eq 11, 3) := by decide +kernel
theorem dX9_body_13 : decode cX9_body 13 = .ok (.aload_n 0, 1) := by decide +kernel
theorem dX9_body_14 : decode cX9_body 14 = .ok (.iload_n 2, 1) := by decide +kernel
theorem dX9_body_15 : decode cX9_body 15 = .ok (.invokevirtual 159, 3) := by decide +kernel
theorem dX9_body_18 : decode cX9_body 18 = .ok (.ifCond .ne 9, 3) := by decide +kernel
theorem dX9_body_21 : decode cX9_body 21 = .ok (.aload_n 0, 1) := by decide +kernel
theorem dX9_body_22 : decode cX9_body 22 = .ok (.iconst 1, 1) := by decide +kernel
theorem dX9_body_23 : decode cX9_body 23 = .ok (.invokevirtual 128, 3) := by decide +kernel
theorem dX9_body_26 : decode cX9_body 26 = .ok (.ireturn, 1) := by decide +kernel
theorem dX9_body_27 : decode cX9_body 27 = .ok (.aload_n 0, 1) := by decide +kernel
theorem dX9_body_28 : decode cX9_body 28 = .ok (.getfield 47, 3) := by decide +kernel
theorem dX9_body_31 : decode cX9_body 31 = .ok (.iload_n 2, 1) := by decide +kernel
theorem dX9_body_32 : decode cX9_body 32 = .ok (.iaload, 1) := by decide +kernel
theorem dX9_body_33 : decode cX9_body 33 = .ok (.invokestatic 168, 3) := by decide +kernel
theorem dX9_body_36 : decode cX9_body 36 = .ok (.ifCond .ne 9, 3) := by decide +kernel
theorem dX9_body_39 : decode cX9_body 39 = .ok (.aload_n 0, 1) := by decide +kernel
theorem dX9_body_40 : decode cX9_body 40 = .ok (.iconst 2, 1) := by decide +kernel
theorem dX9_body_41 : decode cX9_body 41 = .ok (.invokevirtual 128, 3) := by decide +kernel
theorem dX9_body_44 : decode cX9_body 44 = .ok (.ireturn, 1) := by decide +kernel
theorem dX9_body_45 : decode cX9_body 45 = .ok (.aload_n 0, 1) := by decide +kernel
theorem dX9_body_46 : decode cX9_body 46 = .ok (.iload_n 2, 1) := by decide +kernel
theorem dX9_body_47 : decode cX9_body 47 = .ok (.invokevirtual 162, 3) := by decide +kernel
theorem dX9_body_50 : decode cX9_body 50 = .ok (.ifCond .ne 9, 3) := by decide +kernel
theorem dX9_body_53 : decode cX9_body 53 = .ok (.aload_n 0, 1) := by decide +kernel
theorem dX9_body_54 : decode cX9_body 54 = .ok (.iconst 3, 1) := by decide +kernel
theorem dX9_body_55 : decode cX9_body 55 = .ok (.invokevirtual 128, 3) := by decide +kernel
theorem dX9_body_58 : decode cX9_body 58 = .ok (.ireturn, 1) := by decide +kernel
theorem dX9_body_59 : decode cX9_body 59 = .ok (.aload_n 0, 1) := by decide +kernel
theorem dX9_body_60 : decode cX9_body 60 = .ok (.getfield 29, 3) := by decide +kernel
theorem dX9_body_63 : decode cX9_body 63 = .ok (.iload_n 1, 1) := by decide +kernel
theorem dX9_body_64 : decode cX9_body 64 = .ok (.iaload, 1) := by decide +kernel
theorem dX9_body_65 : decode cX9_body 65 = .ok (.istore_n 3, 1) := by decide +kernel
theorem dX9_body_66 : decode cX9_body 66 = .ok (.iload_n 3, 1) := by decide +kernel
theorem dX9_body_67 : decode cX9_body 67 = .ok (.iconst (-1), 1) := by decide +kernel
theorem dX9_body_68 : decode cX9_body 68 = .ok (.if_icmp .eq 10, 3) := by decide +kernel
theorem dX9_body_71 : decode cX9_body 71 = .ok (.aload_n 0, 1) := by decide +kernel
theorem dX9_body_72 : decode cX9_body 72 = .ok (.getfield 62, 3) := by decide +kernel
theorem dX9_body_75 : decode cX9_body 75 = .ok (.iload_n 3, 1) := by decide +kernel
theorem dX9_body_76 : decode cX9_body 76 = .ok (.iconst (-1), 1) := by decide +kernel
theorem dX9_body_77 : decode cX9_body 77 = .ok (.iastore, 1) := by decide +kernel
theorem dX9_body_78 : decode cX9_body 78 = .ok (.aload_n 0, 1) := by decide +kernel
theorem dX9_body_79 : decode cX9_body 79 = .ok (.getfield 29, 3) := by decide +kernel
theorem dX9_body_82 : decode cX9_body 82 = .ok (.iload_n 1, 1) := by decide +kernel
theorem dX9_body_83 : decode cX9_body 83 = .ok (.iload_n 2, 1) := by decide +kernel
theorem dX9_body_84 : decode cX9_body 84 = .ok (.iastore, 1) := by decide +kernel
theorem dX9_body_85 : decode cX9_body 85 = .ok (.aload_n 0, 1) := by decide +kernel
theorem dX9_body_86 : decode cX9_body 86 = .ok (.getfield 62, 3) := by decide +kernel
theorem dX9_body_89 : decode cX9_body 89 = .ok (.iload_n 2, 1) := by decide +kernel
theorem dX9_body_90 : decode cX9_body 90 = .ok (.iload_n 1, 1) := by decide +kernel
theorem dX9_body_91 : decode cX9_body 91 = .ok (.iastore, 1) := by decide +kernel
theorem dX9_body_92 : decode cX9_body 92 = .ok (.iload_n 3, 1) := by decide +kernel
theorem dX9_body_93 : decode cX9_body 93 = .ok (.ireturn, 1) := by decide +kernel
theorem dX9_isHandedOn_0 : decode cX9_isHandedOn 0 = .ok (.iconst 0, 1) := by decide +kernel
theorem dX9_isHandedOn_1 : decode cX9_isHandedOn 1 = .ok (.istore_n 2, 1) := by decide +kernel
theorem dX9_isHandedOn_2 : decode cX9_isHandedOn 2 = .ok (.iload_n 2, 1) := by decide +kernel
theorem dX9_isHandedOn_3 : decode cX9_isHandedOn 3 = .ok (.aload_n 0, 1) := by decide +kernel
theorem dX9_isHandedOn_4 : decode cX9_isHandedOn 4 = .ok (.getfield 121, 3) := by decide +kernel
theorem dX9_isHandedOn_7 : decode cX9_isHandedOn 7 = .ok (.if_icmp .ge 70, 3) := by decide +kernel
theorem dX9_isHandedOn_10 : decode cX9_isHandedOn 10 = .ok (.aload_n 0, 1) := by decide +kernel
theorem dX9_isHandedOn_11 : decode cX9_isHandedOn 11 = .ok (.getfield 47, 3) := by decide +kernel
theorem dX9_isHandedOn_14 : decode cX9_isHandedOn 14 = .ok (.iload_n 2, 1) := by decide +kernel
theorem dX9_isHandedOn_15 : decode cX9_isHandedOn 15 = .ok (.iaload, 1) := by decide +kernel
theorem dX9_isHandedOn_16 : decode cX9_isHandedOn 16 = .ok (.bipush 10, 2) := by decide +kernel
theorem dX9_isHandedOn_18 : decode cX9_isHandedOn 18 = .ok (.if_icmp .ne 53, 3) := by decide +kernel
theorem dX9_isHandedOn_21 : decode cX9_isHandedOn 21 = .ok (.aload_n 0, 1) := by decide +kernel
theorem dX9_isHandedOn_22 : decode cX9_isHandedOn 22 = .ok (.iload_n 2, 1) := by decide +kernel
theorem dX9_isHandedOn_23 : decode cX9_isHandedOn 23 = .ok (.invokevirtual 194, 3) := by decide +kernel
theorem dX9_isHandedOn_26 : decode cX9_isHandedOn 26 = .ok (.iconst (-1), 1) := by decide +kernel
theorem dX9_isHandedOn_27 : decode cX9_isHandedOn 27 = .ok (.if_icmp .eq 44, 3) := by decide +kernel
theorem dX9_isHandedOn_30 : decode cX9_isHandedOn 30 = .ok (.aload_n 0, 1) := by decide +kernel
theorem dX9_isHandedOn_31 : decode cX9_isHandedOn 31 = .ok (.aload_n 0, 1) := by decide +kernel
theorem dX9_isHandedOn_32 : decode cX9_isHandedOn 32 = .ok (.iload_n 2, 1) := by decide +kernel
theorem dX9_isHandedOn_33 : decode cX9_isHandedOn 33 = .ok (.invokevirtual 194, 3) := by decide +kernel
theorem dX9_isHandedOn_36 : decode cX9_isHandedOn 36 = .ok (.aload_n 0, 1) := by decide +kernel
theorem dX9_isHandedOn_37 : decode cX9_isHandedOn 37 = .ok (.getfield 50, 3) := by decide +kernel
theorem dX9_isHandedOn_40 : decode cX9_isHandedOn 40 = .ok (.iload_n 2, 1) := by decide +kernel
theorem dX9_isHandedOn_41 : decode cX9_isHandedOn 41 = .ok (.iaload, 1) := by decide +kernel
theorem dX9_isHandedOn_42 : decode cX9_isHandedOn 42 = .ok (.invokevirtual 153, 3) := by decide +kernel
theorem dX9_isHandedOn_45 : decode cX9_isHandedOn 45 = .ok (.bipush 10, 2) := by decide +kernel
theorem dX9_isHandedOn_47 : decode cX9_isHandedOn 47 = .ok (.if_icmp .ne 24, 3) := by decide +kernel
theorem dX9_isHandedOn_50 : decode cX9_isHandedOn 50 = .ok (.aload_n 0, 1) := by decide +kernel
theorem dX9_isHandedOn_51 : decode cX9_isHandedOn 51 = .ok (.aload_n 0, 1) := by decide +kernel
theorem dX9_isHandedOn_52 : decode cX9_isHandedOn 52 = .ok (.iload_n 2, 1) := by decide +kernel
theorem dX9_isHandedOn_53 : decode cX9_isHandedOn 53 = .ok (.invokevirtual 194, 3) := by decide +kernel
theorem dX9_isHandedOn_56 : decode cX9_isHandedOn 56 = .ok (.aload_n 0, 1) := by decide +kernel
theorem dX9_isHandedOn_57 : decode cX9_isHandedOn 57 = .ok (.getfield 50, 3) := by decide +kernel
theorem dX9_isHandedOn_60 : decode cX9_isHandedOn 60 = .ok (.iload_n 2, 1) := by decide +kernel
theorem dX9_isHandedOn_61 : decode cX9_isHandedOn 61 = .ok (.iaload, 1) := by decide +kernel
theorem dX9_isHandedOn_62 : decode cX9_isHandedOn 62 = .ok (.invokevirtual 156, 3) := by decide +kernel
theorem dX9_isHandedOn_65 : decode cX9_isHandedOn 65 = .ok (.iload_n 1, 1) := by decide +kernel
theorem dX9_isHandedOn_66 : decode cX9_isHandedOn 66 = .ok (.if_icmp .ne 5, 3) := by decide +kernel
theorem dX9_isHandedOn_69 : decode cX9_isHandedOn 69 = .ok (.iconst 1, 1) := by decide +kernel
theorem dX9_isHandedOn_70 : decode cX9_isHandedOn 70 = .ok (.ireturn, 1) := by decide +kernel
theorem dX9_isHandedOn_71 : decode cX9_isHandedOn 71 = .ok (.iinc 2 1, 3) := by decide +kernel
theorem dX9_isHandedOn_74 : decode cX9_isHandedOn 74 = .ok (.goto (-72), 3) := by decide +kernel
theorem dX9_isHandedOn_77 : decode cX9_isHandedOn 77 = .ok (.iconst 0, 1) := by decide +kernel
theorem dX9_isHandedOn_78 : decode cX9_isHandedOn 78 = .ok (.ireturn, 1) := by decide +kernel
theorem dX9_escapes_0 : decode cX9_escapes 0 = .ok (.iconst 0, 1) := by decide +kernel
theorem dX9_escapes_1 : decode cX9_escapes 1 = .ok (.istore_n 2, 1) := by decide +kernel
theorem dX9_escapes_2 : decode cX9_escapes 2 = .ok (.iconst 0, 1) := by decide +kernel
theorem dX9_escapes_3 : decode cX9_escapes 3 = .ok (.istore_n 3, 1) := by decide +kernel
theorem dX9_escapes_4 : decode cX9_escapes 4 = .ok (.iload_n 3, 1) := by decide +kernel
theorem dX9_escapes_5 : decode cX9_escapes 5 = .ok (.aload_n 0, 1) := by decide +kernel
theorem dX9_escapes_6 : decode cX9_escapes 6 = .ok (.getfield 121, 3) := by decide +kernel
theorem dX9_escapes_9 : decode cX9_escapes 9 = .ok (.if_icmp .ge 121, 3) := by decide +kernel
theorem dX9_escapes_12 : decode cX9_escapes 12 = .ok (.aload_n 0, 1) := by decide +kernel
theorem dX9_escapes_13 : decode cX9_escapes 13 = .ok (.getfield 47, 3) := by decide +kernel
theorem dX9_escapes_16 : decode cX9_escapes 16 = .ok (.iload_n 3, 1) := by decide +kernel
theorem dX9_escapes_17 : decode cX9_escapes 17 = .ok (.iaload, 1) := by decide +kernel
theorem dX9_escapes_18 : decode cX9_escapes 18 = .ok (.invokestatic 200, 3) := by decide +kernel
theorem dX9_escapes_21 : decode cX9_escapes 21 = .ok (.ifCond .eq 103, 3) := by decide +kernel
theorem dX9_escapes_24 : decode cX9_escapes 24 = .ok (.aload_n 0, 1) := by decide +kernel
theorem dX9_escapes_25 : decode cX9_escapes 25 = .ok (.iload_n 3, 1) := by decide +kernel
theorem dX9_escapes_26 : decode cX9_escapes 26 = .ok (.invokevirtual 194, 3) := by decide +kernel
theorem dX9_escapes_29 : decode cX9_escapes 29 = .ok (.iconst (-1), 1) := by decide +kernel
theorem dX9_escapes_30 : decode cX9_escapes 30 = .ok (.if_icmp .eq 94, 3) := by decide +kernel
theorem dX9_escapes_33 : decode cX9_escapes 33 = .ok (.aload_n 0, 1) := by decide +kernel
theorem dX9_escapes_34 : decode cX9_escapes 34 = .ok (.aload_n 0, 1) := by decide +kernel
theorem dX9_escapes_35 : decode cX9_escapes 35 = .ok (.iload_n 3, 1) := by decide +kernel
theorem dX9_escapes_36 : decode cX9_escapes 36 = .ok (.invokevirtual 194, 3) := by decide +kernel
theorem dX9_escapes_39 : decode cX9_escapes 39 = .ok (.iload_n 1, 1) := by decide +kernel
theorem dX9_escapes_40 : decode cX9_escapes 40 = .ok (.invokevirtual 203, 3) := by decide +kernel
theorem dX9_escapes_43 : decode cX9_escapes 43 = .ok (.ifCond .eq 81, 3) := by decide +kernel
theorem dX9_escapes_46 : decode cX9_escapes 46 = .ok (.aload_n 0, 1) := by decide +kernel
theorem dX9_escapes_47 : decode cX9_escapes 47 = .ok (.aload_n 0, 1) := by decide +kernel
theorem dX9_escapes_48 : decode cX9_escapes 48 = .ok (.iload_n 3, 1) := by decide +kernel
theorem dX9_escapes_49 : decode cX9_escapes 49 = .ok (.invokevirtual 194, 3) := by decide +kernel
theorem dX9_escapes_52 : decode cX9_escapes 52 = .ok (.aload_n 0, 1) := by decide +kernel
theorem dX9_escapes_53 : decode cX9_escapes 53 = .ok (.getfield 50, 3) := by decide +kernel
theorem dX9_escapes_56 : decode cX9_escapes 56 = .ok (.iload_n 3, 1) := by decide +kernel
theorem dX9_escapes_57 : decode cX9_escapes 57 = .ok (.iaload, 1) := by decide +kernel
theorem dX9_escapes_58 : decode cX9_escapes 58 = .ok (.invokevirtual 143, 3) := by decide +kernel
theorem dX9_escapes_61 : decode cX9_escapes 61 = .ok (.iload_n 1, 1) := by decide +kernel
theorem dX9_escapes_62 : decode cX9_escapes 62 = .ok (.if_icmp .ne 62, 3) := by decide +kernel
theorem dX9_escapes_65 : decode cX9_escapes 65 = .ok (.aload_n 0, 1) := by decide +kernel
theorem dX9_escapes_66 : decode cX9_escapes 66 = .ok (.aload_n 0, 1) := by decide +kernel
theorem dX9_escapes_67 : decode cX9_escapes 67 = .ok (.iload_n 3, 1) := by decide +kernel
theorem dX9_escapes_68 : decode cX9_escapes 68 = .ok (.invokevirtual 194, 3) := by decide +kernel
theorem dX9_escapes_71 : decode cX9_escapes 71 = .ok (.aload_n 0, 1) := by decide +kernel
theorem dX9_escapes_72 : decode cX9_escapes 72 = .ok (.getfield 50, 3) := by decide +kernel
theorem dX9_escapes_75 : decode cX9_escapes 75 = .ok (.iload_n 3, 1) := by decide +kernel
theorem dX9_escapes_76 : decode cX9_escapes 76 = .ok (.iaload, 1) := by decide +kernel
theorem dX9_escapes_77 : decode cX9_escapes 77 = .ok (.invokevirtual 150, 3) := by decide +kernel
theorem dX9_escapes_80 : decode cX9_escapes 80 = .ok (.iconst (-1), 1) := by decide +kernel
theorem dX9_escapes_81 : decode cX9_escapes 81 = .ok (.if_icmp .ne 6, 3) := by decide +kernel
theorem dX9_escapes_84 : decode cX9_escapes 84 = .ok (.goto 40, 3) := by decide +kernel
theorem dX9_escapes_87 : decode cX9_escapes 87 = .ok (.iload_n 2, 1) := by decide +kernel
theorem dX9_escapes_88 : decode cX9_escapes 88 = .ok (.aload_n 0, 1) := by decide +kernel
theorem dX9_escapes_89 : decode cX9_escapes 89 = .ok (.aload_n 0, 1) := by decide +kernel
theorem dX9_escapes_90 : decode cX9_escapes 90 = .ok (.iload_n 3, 1) := by decide +kernel
theorem dX9_escapes_91 : decode cX9_escapes 91 = .ok (.invokevirtual 194, 3) := by decide +kernel
theorem dX9_escapes_94 : decode cX9_escapes 94 = .ok (.iload_n 1, 1) := by decide +kernel
theorem dX9_escapes_95 : decode cX9_escapes 95 = .ok (.invokevirtual 206, 3) := by decide +kernel
theorem dX9_escapes_98 : decode cX9_escapes 98 = .ok (.ifCond .eq 23, 3) := by decide +kernel
theorem dX9_escapes_101 : decode cX9_escapes 101 = .ok (.iconst 1, 1) := by decide +kernel
theorem dX9_escapes_102 : decode cX9_escapes 102 = .ok (.aload_n 0, 1) := by decide +kernel
theorem dX9_escapes_103 : decode cX9_escapes 103 = .ok (.aload_n 0, 1) := by decide +kernel
theorem dX9_escapes_104 : decode cX9_escapes 104 = .ok (.iload_n 3, 1) := by decide +kernel
theorem dX9_escapes_105 : decode cX9_escapes 105 = .ok (.invokevirtual 194, 3) := by decide +kernel
theorem dX9_escapes_108 : decode cX9_escapes 108 = .ok (.aload_n 0, 1) := by decide +kernel
theorem dX9_escapes_109 : decode cX9_escapes 109 = .ok (.getfield 50, 3) := by decide +kernel
theorem dX9_escapes_112 : decode cX9_escapes 112 = .ok (.iload_n 3, 1) := by decide +kernel
theorem dX9_escapes_113 : decode cX9_escapes 113 = .ok (.iaload, 1) := by decide +kernel
theorem dX9_escapes_114 : decode cX9_escapes 114 = .ok (.invokevirtual 150, 3) := by decide +kernel
theorem dX9_escapes_117 : decode cX9_escapes 117 = .ok (.ishl, 1) := by decide +kernel
theorem dX9_escapes_118 : decode cX9_escapes 118 = .ok (.goto 4, 3) := by decide +kernel
theorem dX9_escapes_121 : decode cX9_escapes 121 = .ok (.iconst 0, 1) := by decide +kernel
theorem dX9_escapes_122 : decode cX9_escapes 122 = .ok (.ior, 1) := by decide +kernel
theorem dX9_escapes_123 : decode cX9_escapes 123 = .ok (.istore_n 2, 1) := by decide +kernel
theorem dX9_escapes_124 : decode cX9_escapes 124 = .ok (.iinc 3 1, 3) := by decide +kernel
theorem dX9_escapes_127 : decode cX9_escapes 127 = .ok (.goto (-123), 3) := by decide +kernel
theorem dX9_escapes_130 : decode cX9_escapes 130 = .ok (.iload_n 2, 1) := by decide +kernel
theorem dX9_escapes_131 : decode cX9_escapes 131 = .ok (.ireturn, 1) := by decide +kernel
theorem dX9_ofProcedureNow_0 : decode cX9_ofProcedureNow 0 = .ok (.iload_n 2, 1) := by decide +kernel
theorem dX9_ofProcedureNow_1 : decode cX9_ofProcedureNow 1 = .ok (.tableswitch 98 0 6 #[43, 50, 57, 64, 71, 77, 91], 43) := by decide +kernel
theorem dX9_ofProcedureNow_44 : decode cX9_ofProcedureNow 44 = .ok (.aload_n 0, 1) := by decide +kernel
theorem dX9_ofProcedureNow_45 : decode cX9_ofProcedureNow 45 = .ok (.getfield 13, 3) := by decide +kernel
theorem dX9_ofProcedureNow_48 : decode cX9_ofProcedureNow 48 = .ok (.iload_n 1, 1) := by decide +kernel
theorem dX9_ofProcedureNow_49 : decode cX9_ofProcedureNow 49 = .ok (.iaload, 1) := by decide +kernel
theorem dX9_ofProcedureNow_50 : decode cX9_ofProcedureNow 50 = .ok (.ireturn, 1) := by decide +kernel
theorem dX9_ofProcedureNow_51 : decode cX9_ofProcedureNow 51 = .ok (.aload_n 0, 1) := by decide +kernel
theorem dX9_ofProcedureNow_52 : decode cX9_ofProcedureNow 52 = .ok (.getfield 17, 3) := by decide +kernel
theorem dX9_ofProcedureNow_55 : decode cX9_ofProcedureNow 55 = .ok (.iload_n 1, 1) := by decide +kernel
theorem dX9_ofProcedureNow_56 : decode cX9_ofProcedureNow 56 = .ok (.iaload, 1) := by decide +kernel
theorem dX9_ofProcedureNow_57 : decode cX9_ofProcedureNow 57 = .ok (.ireturn, 1) := by decide +kernel
theorem dX9_ofProcedureNow_58 : decode cX9_ofProcedureNow 58 = .ok (.aload_n 0, 1) := by decide +kernel
theorem dX9_ofProcedureNow_59 : decode cX9_ofProcedureNow 59 = .ok (.getfield 20, 3) := by decide +kernel
theorem dX9_ofProcedureNow_62 : decode cX9_ofProcedureNow 62 = .ok (.iload_n 1, 1) := by decide +kernel
theorem dX9_ofProcedureNow_63 : decode cX9_ofProcedureNow 63 = .ok (.iaload, 1) := by decide +kernel
theorem dX9_ofProcedureNow_64 : decode cX9_ofProcedureNow 64 = .ok (.ireturn, 1) := by decide +kernel
theorem dX9_ofProcedureNow_65 : decode cX9_ofProcedureNow 65 = .ok (.aload_n 0, 1) := by decide +kernel
theorem dX9_ofProcedureNow_66 : decode cX9_ofProcedureNow 66 = .ok (.getfield 23, 3) := by decide +kernel
theorem dX9_ofProcedureNow_69 : decode cX9_ofProcedureNow 69 = .ok (.iload_n 1, 1) := by decide +kernel
theorem dX9_ofProcedureNow_70 : decode cX9_ofProcedureNow 70 = .ok (.iaload, 1) := by decide +kernel
theorem dX9_ofProcedureNow_71 : decode cX9_ofProcedureNow 71 = .ok (.ireturn, 1) := by decide +kernel
theorem dX9_ofProcedureNow_72 : decode cX9_ofProcedureNow 72 = .ok (.aload_n 0, 1) := by decide +kernel
theorem dX9_ofProcedureNow_73 : decode cX9_ofProcedureNow 73 = .ok (.iload_n 1, 1) := by decide +kernel
theorem dX9_ofProcedureNow_74 : decode cX9_ofProcedureNow 74 = .ok (.invokevirtual 224, 3) := by decide +kernel
theorem dX9_ofProcedureNow_77 : decode cX9_ofProcedureNow 77 = .ok (.ireturn, 1) := by decide +kernel
theorem dX9_ofProcedureNow_78 : decode cX9_ofProcedureNow 78 = .ok (.aload_n 0, 1) := by decide +kernel
theorem dX9_ofProcedureNow_79 : decode cX9_ofProcedureNow 79 = .ok (.iload_n 1, 1) := by decide +kernel
theorem dX9_ofProcedureNow_80 : decode cX9_ofProcedureNow 80 = .ok (.invokevirtual 197, 3) := by decide +kernel
theorem dX9_ofProcedureNow_83 : decode cX9_ofProcedureNow 83 = .ok (.ifCond .eq 7, 3) := by decide +kernel
theorem dX9_ofProcedureNow_86 : decode cX9_ofProcedureNow 86 = .ok (.iconst 1, 1) := by decide +kernel
theorem dX9_ofProcedureNow_87 : decode cX9_ofProcedureNow 87 = .ok (.goto 4, 3) := by decide +kernel
theorem dX9_ofProcedureNow_90 : decode cX9_ofProcedureNow 90 = .ok (.iconst 0, 1) := by decide +kernel
theorem dX9_ofProcedureNow_91 : decode cX9_ofProcedureNow 91 = .ok (.ireturn, 1) := by decide +kernel
theorem dX9_ofProcedureNow_92 : decode cX9_ofProcedureNow 92 = .ok (.aload_n 0, 1) := by decide +kernel
theorem dX9_ofProcedureNow_93 : decode cX9_ofProcedureNow 93 = .ok (.getfield 29, 3) := by decide +kernel
theorem dX9_ofProcedureNow_96 : decode cX9_ofProcedureNow 96 = .ok (.iload_n 1, 1) := by decide +kernel
theorem dX9_ofProcedureNow_97 : decode cX9_ofProcedureNow 97 = .ok (.iaload, 1) := by decide +kernel
theorem dX9_ofProcedureNow_98 : decode cX9_ofProcedureNow 98 = .ok (.ireturn, 1) := by decide +kernel
theorem dX9_ofProcedureNow_99 : decode cX9_ofProcedureNow 99 = .ok (.aload_n 0, 1) := by decide +kernel
theorem dX9_ofProcedureNow_100 : decode cX9_ofProcedureNow 100 = .ok (.invokevirtual 227, 3) := by decide +kernel
theorem dX9_ofProcedureNow_103 : decode cX9_ofProcedureNow 103 = .ok (.ifCond .le 7, 3) := by decide +kernel
theorem dX9_ofProcedureNow_106 : decode cX9_ofProcedureNow 106 = .ok (.iconst 0, 1) := by decide +kernel
theorem dX9_ofProcedureNow_107 : decode cX9_ofProcedureNow 107 = .ok (.goto 12, 3) := by decide +kernel
theorem dX9_ofProcedureNow_110 : decode cX9_ofProcedureNow 110 = .ok (.aload_n 0, 1) := by decide +kernel
theorem dX9_ofProcedureNow_111 : decode cX9_ofProcedureNow 111 = .ok (.iload_n 1, 1) := by decide +kernel
theorem dX9_ofProcedureNow_112 : decode cX9_ofProcedureNow 112 = .ok (.aload_n 0, 1) := by decide +kernel
theorem dX9_ofProcedureNow_113 : decode cX9_ofProcedureNow 113 = .ok (.getfield 65, 3) := by decide +kernel
theorem dX9_ofProcedureNow_116 : decode cX9_ofProcedureNow 116 = .ok (.invokevirtual 231, 3) := by decide +kernel
theorem dX9_ofProcedureNow_119 : decode cX9_ofProcedureNow 119 = .ok (.ireturn, 1) := by decide +kernel
theorem dX9_ofProcedure_0 : decode cX9_ofProcedure 0 = .ok (.aload_n 0, 1) := by decide +kernel
theorem dX9_ofProcedure_1 : decode cX9_ofProcedure 1 = .ok (.iconst 0, 1) := by decide +kernel
theorem dX9_ofProcedure_2 : decode cX9_ofProcedure 2 = .ok (.putfield 114, 3) := by decide +kernel
theorem dX9_ofProcedure_5 : decode cX9_ofProcedure 5 = .ok (.aload_n 0, 1) := by decide +kernel
theorem dX9_ofProcedure_6 : decode cX9_ofProcedure 6 = .ok (.iload_n 1, 1) := by decide +kernel
theorem dX9_ofProcedure_7 : decode cX9_ofProcedure 7 = .ok (.invokevirtual 124, 3) := by decide +kernel
theorem dX9_ofProcedure_10 : decode cX9_ofProcedure 10 = .ok (.ifCond .ne 9, 3) := by decide +kernel
theorem dX9_ofProcedure_13 : decode cX9_ofProcedure 13 = .ok (.aload_n 0, 1) := by decide +kernel
theorem dX9_ofProcedure_14 : decode cX9_ofProcedure 14 = .ok (.iconst 1, 1) := by decide +kernel
theorem dX9_ofProcedure_15 : decode cX9_ofProcedure 15 = .ok (.invokevirtual 128, 3) := by decide +kernel
theorem dX9_ofProcedure_18 : decode cX9_ofProcedure 18 = .ok (.ireturn, 1) := by decide +kernel
theorem dX9_ofProcedure_19 : decode cX9_ofProcedure 19 = .ok (.iload_n 2, 1) := by decide +kernel
theorem dX9_ofProcedure_20 : decode cX9_ofProcedure 20 = .ok (.iconst 0, 1) := by decide +kernel
theorem dX9_ofProcedure_21 : decode cX9_ofProcedure 21 = .ok (.bipush 7, 2) := by decide +kernel
theorem dX9_ofProcedure_23 : decode cX9_ofProcedure 23 = .ok (.invokestatic 117, 3) := by decide +kernel
theorem dX9_ofProcedure_26 : decode cX9_ofProcedure 26 = .ok (.ifCond .eq 12, 3) := by decide +kernel
theorem dX9_ofProcedure_29 : decode cX9_ofProcedure 29 = .ok (.aload_n 0, 1) := by decide +kernel
theorem dX9_ofProcedure_30 : decode cX9_ofProcedure 30 = .ok (.iload_n 1, 1) := by decide +kernel
theorem dX9_ofProcedure_31 : decode cX9_ofProcedure 31 = .ok (.iload_n 2, 1) := by decide +kernel
theorem dX9_ofProcedure_32 : decode cX9_ofProcedure 32 = .ok (.invokevirtual 234, 3) := by decide +kernel
theorem dX9_ofProcedure_35 : decode cX9_ofProcedure 35 = .ok (.goto 8, 3) := by decide +kernel
theorem dX9_ofProcedure_38 : decode cX9_ofProcedure 38 = .ok (.aload_n 0, 1) := by decide +kernel
theorem dX9_ofProcedure_39 : decode cX9_ofProcedure 39 = .ok (.iconst 2, 1) := by decide +kernel
theorem dX9_ofProcedure_40 : decode cX9_ofProcedure 40 = .ok (.invokevirtual 128, 3) := by decide +kernel
theorem dX9_ofProcedure_43 : decode cX9_ofProcedure 43 = .ok (.ireturn, 1) := by decide +kernel
theorem dX9_ofNode_0 : decode cX9_ofNode 0 = .ok (.aload_n 0, 1) := by decide +kernel
theorem dX9_ofNode_1 : decode cX9_ofNode 1 = .ok (.iconst 0, 1) := by decide +kernel
theorem dX9_ofNode_2 : decode cX9_ofNode 2 = .ok (.putfield 114, 3) := by decide +kernel
theorem dX9_ofNode_5 : decode cX9_ofNode 5 = .ok (.aload_n 0, 1) := by decide +kernel
theorem dX9_ofNode_6 : decode cX9_ofNode 6 = .ok (.iload_n 1, 1) := by decide +kernel
theorem dX9_ofNode_7 : decode cX9_ofNode 7 = .ok (.invokevirtual 159, 3) := by decide +kernel
theorem dX9_ofNode_10 : decode cX9_ofNode 10 = .ok (.ifCond .ne 9, 3) := by decide +kernel
theorem dX9_ofNode_13 : decode cX9_ofNode 13 = .ok (.aload_n 0, 1) := by decide +kernel
theorem dX9_ofNode_14 : decode cX9_ofNode 14 = .ok (.iconst 1, 1) := by decide +kernel
theorem dX9_ofNode_15 : decode cX9_ofNode 15 = .ok (.invokevirtual 128, 3) := by decide +kernel
theorem dX9_ofNode_18 : decode cX9_ofNode 18 = .ok (.ireturn, 1) := by decide +kernel
theorem dX9_ofNode_19 : decode cX9_ofNode 19 = .ok (.iload_n 2, 1) := by decide +kernel
theorem dX9_ofNode_20 : decode cX9_ofNode 20 = .ok (.iconst 0, 1) := by decide +kernel
theorem dX9_ofNode_21 : decode cX9_ofNode 21 = .ok (.bipush 7, 2) := by decide +kernel
theorem dX9_ofNode_23 : decode cX9_ofNode 23 = .ok (.invokestatic 117, 3) := by decide +kernel
theorem dX9_ofNode_26 : decode cX9_ofNode 26 = .ok (.ifCond .eq 12, 3) := by decide +kernel
theorem dX9_ofNode_29 : decode cX9_ofNode 29 = .ok (.aload_n 0, 1) := by decide +kernel
theorem dX9_ofNode_30 : decode cX9_ofNode 30 = .ok (.iload_n 1, 1) := by decide +kernel
theorem dX9_ofNode_31 : decode cX9_ofNode 31 = .ok (.iload_n 2, 1) := by decide +kernel
theorem dX9_ofNode_32 : decode cX9_ofNode 32 = .ok (.invokevirtual 240, 3) := by decide +kernel
theorem dX9_ofNode_35 : decode cX9_ofNode 35 = .ok (.goto 8, 3) := by decide +kernel
theorem dX9_ofNode_38 : decode cX9_ofNode 38 = .ok (.aload_n 0, 1) := by decide +kernel
theorem dX9_ofNode_39 : decode cX9_ofNode 39 = .ok (.iconst 2, 1) := by decide +kernel
theorem dX9_ofNode_40 : decode cX9_ofNode 40 = .ok (.invokevirtual 128, 3) := by decide +kernel
theorem dX9_ofNode_43 : decode cX9_ofNode 43 = .ok (.ireturn, 1) := by decide +kernel
theorem dX9_lookFor_0 : decode cX9_lookFor 0 = .ok (.iconst 0, 1) := by decide +kernel
theorem dX9_lookFor_1 : decode cX9_lookFor 1 = .ok (.istore_n 3, 1) := by decide +kernel
theorem dX9_lookFor_2 : decode cX9_lookFor 2 = .ok (.bipush 111, 2) := by decide +kernel
theorem dX9_lookFor_4 : decode cX9_lookFor 4 = .ok (.newarray .int, 2) := by decide +kernel
theorem dX9_lookFor_6 : decode cX9_lookFor 6 = .ok (.astore 4, 2) := by decide +kernel
theorem dX9_lookFor_8 : decode cX9_lookFor 8 = .ok (.iconst 0, 1) := by decide +kernel
theorem dX9_lookFor_9 : decode cX9_lookFor 9 = .ok (.istore 5, 2) := by decide +kernel
theorem dX9_lookFor_11 : decode cX9_lookFor 11 = .ok (.iload 5, 2) := by decide +kernel
theorem dX9_lookFor_13 : decode cX9_lookFor 13 = .ok (.aload_n 0, 1) := by decide +kernel
theorem dX9_lookFor_14 : decode cX9_lookFor 14 = .ok (.getfield 7, 3) := by decide +kernel
theorem dX9_lookFor_17 : decode cX9_lookFor 17 = .ok (.if_icmp .ge 183, 3) := by decide +kernel
theorem dX9_lookFor_20 : decode cX9_lookFor 20 = .ok (.aload_n 0, 1) := by decide +kernel
theorem dX9_lookFor_21 : decode cX9_lookFor 21 = .ok (.getfield 29, 3) := by decide +kernel
theorem dX9_lookFor_24 : decode cX9_lookFor 24 = .ok (.iload 5, 2) := by decide +kernel
theorem dX9_lookFor_26 : decode cX9_lookFor 26 = .ok (.iaload, 1) := by decide +kernel
theorem dX9_lookFor_27 : decode cX9_lookFor 27 = .ok (.iconst (-1), 1) := by decide +kernel
theorem dX9_lookFor_28 : decode cX9_lookFor 28 = .ok (.if_icmp .ne 35, 3) := by decide +kernel
theorem dX9_lookFor_31 : decode cX9_lookFor 31 = .ok (.iload_n 3, 1) := by decide +kernel
theorem dX9_lookFor_32 : decode cX9_lookFor 32 = .ok (.iload_n 1, 1) := by decide +kernel
theorem dX9_lookFor_33 : decode cX9_lookFor 33 = .ok (.if_icmp .ne 24, 3) := by decide +kernel
theorem dX9_lookFor_36 : decode cX9_lookFor 36 = .ok (.iload_n 2, 1) := by decide +kernel
theorem dX9_lookFor_37 : decode cX9_lookFor 37 = .ok (.ifCond .ne 8, 3) := by decide +kernel
theorem dX9_lookFor_40 : decode cX9_lookFor 40 = .ok (.bipush 10, 2) := by decide +kernel
theorem dX9_lookFor_42 : decode cX9_lookFor 42 = .ok (.goto 14, 3) := by decide +kernel
theorem dX9_lookFor_45 : decode cX9_lookFor 45 = .ok (.iload_n 2, 1) := by decide +kernel
theorem dX9_lookFor_46 : decode cX9_lookFor 46 = .ok (.iconst 1, 1) := by decide +kernel
theorem dX9_lookFor_47 : decode cX9_lookFor 47 = .ok (.if_icmp .ne 8, 3) := by decide +kernel
theorem dX9_lookFor_50 : decode cX9_lookFor 50 = .ok (.iload 5, 2) := by decide +kernel
theorem dX9_lookFor_52 : decode cX9_lookFor 52 = .ok (.goto 4, 3) := by decide +kernel
theorem dX9_lookFor_55 : decode cX9_lookFor 55 = .ok (.iconst (-1), 1) := by decide +kernel
theorem dX9_lookFor_56 : decode cX9_lookFor 56 = .ok (.ireturn, 1) := by decide +kernel
theorem dX9_lookFor_57 : decode cX9_lookFor 57 = .ok (.iinc 3 1, 3) := by decide +kernel
theorem dX9_lookFor_60 : decode cX9_lookFor 60 = .ok (.goto 134, 3) := by decide +kernel
theorem dX9_lookFor_63 : decode cX9_lookFor 63 = .ok (.iconst 0, 1) := by decide +kernel
theorem dX9_lookFor_64 : decode cX9_lookFor 64 = .ok (.istore 6, 2) := by decide +kernel
theorem dX9_lookFor_66 : decode cX9_lookFor 66 = .ok (.aload 4, 2) := by decide +kernel
theorem dX9_lookFor_68 : decode cX9_lookFor 68 = .ok (.iload 6, 2) := by decide +kernel
theorem dX9_lookFor_70 : decode cX9_lookFor 70 = .ok (.iinc 6 1, 3) := by decide +kernel
theorem dX9_lookFor_73 : decode cX9_lookFor 73 = .ok (.aload_n 0, 1) := by decide +kernel
theorem dX9_lookFor_74 : decode cX9_lookFor 74 = .ok (.getfield 29, 3) := by decide +kernel
theorem dX9_lookFor_77 : decode cX9_lookFor 77 = .ok (.iload 5, 2) := by decide +kernel
theorem dX9_lookFor_79 : decode cX9_lookFor 79 = .ok (.iaload, 1) := by decide +kernel
theorem dX9_lookFor_80 : decode cX9_lookFor 80 = .ok (.iastore, 1) := by decide +kernel
theorem dX9_lookFor_81 : decode cX9_lookFor 81 = .ok (.iload 6, 2) := by decide +kernel
theorem dX9_lookFor_83 : decode cX9_lookFor 83 = .ok (.ifCond .le 111, 3) := by decide +kernel
theorem dX9_lookFor_86 : decode cX9_lookFor 86 = .ok (.aload 4, 2) := by decide +kernel
theorem dX9_lookFor_88 : decode cX9_lookFor 88 = .ok (.iinc 6 (-1), 3) := by decide +kernel
theorem dX9_lookFor_91 : decode cX9_lookFor 91 = .ok (.iload 6, 2) := by decide +kernel
theorem dX9_lookFor_93 : decode cX9_lookFor 93 = .ok (.iaload, 1) := by decide +kernel
theorem dX9_lookFor_94 : decode cX9_lookFor 94 = .ok (.istore 7, 2) := by decide +kernel
theorem dX9_lookFor_96 : decode cX9_lookFor 96 = .ok (.aload_n 0, 1) := by decide +kernel
theorem dX9_lookFor_97 : decode cX9_lookFor 97 = .ok (.iload 7, 2) := by decide +kernel
theorem dX9_lookFor_99 : decode cX9_lookFor 99 = .ok (.invokevirtual 277, 3) := by decide +kernel
theorem dX9_lookFor_102 : decode cX9_lookFor 102 = .ok (.istore 8, 2) := by decide +kernel
theorem dX9_lookFor_104 : decode cX9_lookFor 104 = .ok (.iload 8, 2) := by decide +kernel
theorem dX9_lookFor_106 : decode cX9_lookFor 106 = .ok (.ifCond .le 30, 3) := by decide +kernel
theorem dX9_lookFor_109 : decode cX9_lookFor 109 = .ok (.iload_n 3, 1) := by decide +kernel
theorem dX9_lookFor_110 : decode cX9_lookFor 110 = .ok (.iload_n 1, 1) := by decide +kernel
theorem dX9_lookFor_111 : decode cX9_lookFor 111 = .ok (.if_icmp .ne 25, 3) := by decide +kernel
theorem dX9_lookFor_114 : decode cX9_lookFor 114 = .ok (.iload_n 2, 1) := by decide +kernel
theorem dX9_lookFor_115 : decode cX9_lookFor 115 = .ok (.ifCond .ne 8, 3) := by decide +kernel
theorem dX9_lookFor_118 : decode cX9_lookFor 118 = .ok (.iload 8, 2) := by decide +kernel
theorem dX9_lookFor_120 : decode cX9_lookFor 120 = .ok (.goto 15, 3) := by decide +kernel
theorem dX9_lookFor_123 : decode cX9_lookFor 123 = .ok (.iload_n 2, 1) := by decide +kernel
theorem dX9_lookFor_124 : decode cX9_lookFor 124 = .ok (.iconst 1, 1) := by decide +kernel
theorem dX9_lookFor_125 : decode cX9_lookFor 125 = .ok (.if_icmp .ne 8, 3) := by decide +kernel
theorem dX9_lookFor_128 : decode cX9_lookFor 128 = .ok (.iload 5, 2) := by decide +kernel
theorem dX9_lookFor_130 : decode cX9_lookFor 130 = .ok (.goto 5, 3) := by decide +kernel
theorem dX9_lookFor_133 : decode cX9_lookFor 133 = .ok (.iload 7, 2) := by decide +kernel
theorem dX9_lookFor_135 : decode cX9_lookFor 135 = .ok (.ireturn, 1) := by decide +kernel
theorem dX9_lookFor_136 : decode cX9_lookFor 136 = .ok (.iload_n 3, 1) := by decide +kernel
theorem dX9_lookFor_137 : decode cX9_lookFor 137 = .ok (.iload 8, 2) := by decide +kernel
theorem dX9_lookFor_139 : decode cX9_lookFor 139 = .ok (.ifCond .le 7, 3) := by decide +kernel
theorem dX9_lookFor_142 : decode cX9_lookFor 142 = .ok (.iconst 1, 1) := by decide +kernel
theorem dX9_lookFor_143 : decode cX9_lookFor 143 = .ok (.goto 4, 3) := by decide +kernel
theorem dX9_lookFor_146 : decode cX9_lookFor 146 = .ok (.iconst 0, 1) := by decide +kernel
theorem dX9_lookFor_147 : decode cX9_lookFor 147 = .ok (.iadd, 1) := by decide +kernel
theorem dX9_lookFor_148 : decode cX9_lookFor 148 = .ok (.istore_n 3, 1) := by decide +kernel
theorem dX9_lookFor_149 : decode cX9_lookFor 149 = .ok (.iconst 2, 1) := by decide +kernel
theorem dX9_lookFor_150 : decode cX9_lookFor 150 = .ok (.istore 9, 2) := by decide +kernel
theorem dX9_lookFor_152 : decode cX9_lookFor 152 = .ok (.iload 9, 2) := by decide +kernel
theorem dX9_lookFor_154 : decode cX9_lookFor 154 = .ok (.ifCond .lt 37, 3) := by decide +kernel
theorem dX9_lookFor_157 : decode cX9_lookFor 157 = .ok (.aload_n 0, 1) := by decide +kernel
theorem dX9_lookFor_158 : decode cX9_lookFor 158 = .ok (.iload 7, 2) := by decide +kernel
theorem dX9_lookFor_160 : decode cX9_lookFor 160 = .ok (.iload 9, 2) := by decide +kernel
theorem dX9_lookFor_162 : decode cX9_lookFor 162 = .ok (.invokevirtual 191, 3) := by decide +kernel
theorem dX9_lookFor_165 : decode cX9_lookFor 165 = .ok (.iconst (-1), 1) := by decide +kernel
theorem dX9_lookFor_166 : decode cX9_lookFor 166 = .ok (.if_icmp .eq 19, 3) := by decide +kernel
theorem dX9_lookFor_169 : decode cX9_lookFor 169 = .ok (.aload 4, 2) := by decide +kernel
theorem dX9_lookFor_171 : decode cX9_lookFor 171 = .ok (.iload 6, 2) := by decide +kernel
theorem dX9_lookFor_173 : decode cX9_lookFor 173 = .ok (.iinc 6 1, 3) := by decide +kernel
theorem dX9_lookFor_176 : decode cX9_lookFor 176 = .ok (.aload_n 0, 1) := by decide +kernel
theorem dX9_lookFor_177 : decode cX9_lookFor 177 = .ok (.iload 7, 2) := by decide +kernel
theorem dX9_lookFor_179 : decode cX9_lookFor 179 = .ok (.iload 9, 2) := by decide +kernel
theorem dX9_lookFor_181 : decode cX9_lookFor 181 = .ok (.invokevirtual 191, 3) := by decide +kernel
theorem dX9_lookFor_184 : decode cX9_lookFor 184 = .ok (.iastore, 1) := by decide +kernel
theorem dX9_lookFor_185 : decode cX9_lookFor 185 = .ok (.iinc 9 (-1), 3) := by decide +kernel
theorem dX9_lookFor_188 : decode cX9_lookFor 188 = .ok (.goto (-36), 3) := by decide +kernel
theorem dX9_lookFor_191 : decode cX9_lookFor 191 = .ok (.goto (-110), 3) := by decide +kernel
theorem dX9_lookFor_194 : decode cX9_lookFor 194 = .ok (.iinc 5 1, 3) := by decide +kernel
theorem dX9_lookFor_197 : decode cX9_lookFor 197 = .ok (.goto (-186), 3) := by decide +kernel
theorem dX9_lookFor_200 : decode cX9_lookFor 200 = .ok (.iload_n 3, 1) := by decide +kernel
theorem dX9_lookFor_201 : decode cX9_lookFor 201 = .ok (.ireturn, 1) := by decide +kernel
theorem dX9_faults_0 : decode cX9_faults 0 = .ok (.aload_n 0, 1) := by decide +kernel
theorem dX9_faults_1 : decode cX9_faults 1 = .ok (.iconst (-1), 1) := by decide +kernel
theorem dX9_faults_2 : decode cX9_faults 2 = .ok (.iconst 0, 1) := by decide +kernel
theorem dX9_faults_3 : decode cX9_faults 3 = .ok (.invokevirtual 280, 3) := by decide +kernel
theorem dX9_faults_6 : decode cX9_faults 6 = .ok (.ireturn, 1) := by decide +kernel
theorem dX9_fault_0 : decode cX9_fault 0 = .ok (.aload_n 0, 1) := by decide +kernel
theorem dX9_fault_1 : decode cX9_fault 1 = .ok (.iconst 0, 1) := by decide +kernel
theorem dX9_fault_2 : decode cX9_fault 2 = .ok (.putfield 114, 3) := by decide +kernel
theorem dX9_fault_5 : decode cX9_fault 5 = .ok (.iload_n 1, 1) := by decide +kernel
theorem dX9_fault_6 : decode cX9_fault 6 = .ok (.iconst 0, 1) := by decide +kernel
theorem dX9_fault_7 : decode cX9_fault 7 = .ok (.aload_n 0, 1) := by decide +kernel
theorem dX9_fault_8 : decode cX9_fault 8 = .ok (.invokevirtual 227, 3) := by decide +kernel
theorem dX9_fault_11 : decode cX9_fault 11 = .ok (.iconst 1, 1) := by decide +kernel
theorem dX9_fault_12 : decode cX9_fault 12 = .ok (.isub, 1) := by decide +kernel
theorem dX9_fault_13 : decode cX9_fault 13 = .ok (.invokestatic 117, 3) := by decide +kernel
theorem dX9_fault_16 : decode cX9_fault 16 = .ok (.ifCond .ne 9, 3) := by decide +kernel
theorem dX9_fault_19 : decode cX9_fault 19 = .ok (.aload_n 0, 1) := by decide +kernel
theorem dX9_fault_20 : decode cX9_fault 20 = .ok (.iconst 1, 1) := by decide +kernel
theorem dX9_fault_21 : decode cX9_fault 21 = .ok (.invokevirtual 128, 3) := by decide +kernel
theorem dX9_fault_24 : decode cX9_fault 24 = .ok (.ireturn, 1) := by decide +kernel
theorem dX9_fault_25 : decode cX9_fault 25 = .ok (.iload_n 2, 1) := by decide +kernel
theorem dX9_fault_26 : decode cX9_fault 26 = .ok (.iconst 0, 1) := by decide +kernel
theorem dX9_fault_27 : decode cX9_fault 27 = .ok (.iconst 2, 1) := by decide +kernel
theorem dX9_fault_28 : decode cX9_fault 28 = .ok (.invokestatic 117, 3) := by decide +kernel
theorem dX9_fault_31 : decode cX9_fault 31 = .ok (.ifCond .eq 12, 3) := by decide +kernel
theorem dX9_fault_34 : decode cX9_fault 34 = .ok (.aload_n 0, 1) := by decide +kernel
theorem dX9_fault_35 : decode cX9_fault 35 = .ok (.iload_n 1, 1) := by decide +kernel
theorem dX9_fault_36 : decode cX9_fault 36 = .ok (.iload_n 2, 1) := by decide +kernel
theorem dX9_fault_37 : decode cX9_fault 37 = .ok (.invokevirtual 280, 3) := by decide +kernel
theorem dX9_fault_40 : decode cX9_fault 40 = .ok (.goto 8, 3) := by decide +kernel
theorem dX9_fault_43 : decode cX9_fault 43 = .ok (.aload_n 0, 1) := by decide +kernel
theorem dX9_fault_44 : decode cX9_fault 44 = .ok (.iconst 2, 1) := by decide +kernel
theorem dX9_fault_45 : decode cX9_fault 45 = .ok (.invokevirtual 128, 3) := by decide +kernel
theorem dX9_fault_48 : decode cX9_fault 48 = .ok (.ireturn, 1) := by decide +kernel
theorem dX9_passes_0 : decode cX9_passes 0 = .ok (.aload_n 0, 1) := by decide +kernel
theorem dX9_passes_1 : decode cX9_passes 1 = .ok (.iconst 0, 1) := by decide +kernel
theorem dX9_passes_2 : decode cX9_passes 2 = .ok (.putfield 114, 3) := by decide +kernel
theorem dX9_passes_5 : decode cX9_passes 5 = .ok (.iload_n 1, 1) := by decide +kernel
theorem dX9_passes_6 : decode cX9_passes 6 = .ok (.iconst 0, 1) := by decide +kernel
theorem dX9_passes_7 : decode cX9_passes 7 = .ok (.bipush 7, 2) := by decide +kernel
theorem dX9_passes_9 : decode cX9_passes 9 = .ok (.invokestatic 117, 3) := by decide +kernel
theorem dX9_passes_12 : decode cX9_passes 12 = .ok (.ifCond .ne 9, 3) := by decide +kernel
theorem dX9_passes_15 : decode cX9_passes 15 = .ok (.aload_n 0, 1) := by decide +kernel
theorem dX9_passes_16 : decode cX9_passes 16 = .ok (.iconst 1, 1) := by decide +kernel
theorem dX9_passes_17 : decode cX9_passes 17 = .ok (.invokevirtual 128, 3) := by decide +kernel
theorem dX9_passes_20 : decode cX9_passes 20 = .ok (.ireturn, 1) := by decide +kernel
theorem dX9_passes_21 : decode cX9_passes 21 = .ok (.aload_n 0, 1) := by decide +kernel
theorem dX9_passes_22 : decode cX9_passes 22 = .ok (.getfield 65, 3) := by decide +kernel
theorem dX9_passes_25 : decode cX9_passes 25 = .ok (.istore_n 2, 1) := by decide +kernel
theorem dX9_passes_26 : decode cX9_passes 26 = .ok (.aload_n 0, 1) := by decide +kernel
theorem dX9_passes_27 : decode cX9_passes 27 = .ok (.iload_n 1, 1) := by decide +kernel
theorem dX9_passes_28 : decode cX9_passes 28 = .ok (.putfield 65, 3) := by decide +kernel
theorem dX9_passes_31 : decode cX9_passes 31 = .ok (.iload_n 2, 1) := by decide +kernel
theorem dX9_passes_32 : decode cX9_passes 32 = .ok (.ireturn, 1) := by decide +kernel
theorem dX9_code_0 : decode cX9_code 0 = .ok (.aload_n 0, 1) := by decide +kernel
theorem dX9_code_1 : decode cX9_code 1 = .ok (.iconst 0, 1) := by decide +kernel
theorem dX9_code_2 : decode cX9_code 2 = .ok (.putfield 114, 3) := by decide +kernel
theorem dX9_code_5 : decode cX9_code 5 = .ok (.aload_n 0, 1) := by decide +kernel
theorem dX9_code_6 : decode cX9_code 6 = .ok (.iload_n 1, 1) := by decide +kernel
theorem dX9_code_7 : decode cX9_code 7 = .ok (.invokevirtual 124, 3) := by decide +kernel
theorem dX9_code_10 : decode cX9_code 10 = .ok (.ifCond .eq 10, 3) := by decide +kernel
theorem dX9_code_13 : decode cX9_code 13 = .ok (.aload_n 0, 1) := by decide +kernel
theorem dX9_code_14 : decode cX9_code 14 = .ok (.invokevirtual 227, 3) := by decide +kernel
theorem dX9_code_17 : decode cX9_code 17 = .ok (.ifCond .le 9, 3) := by decide +kernel
theorem dX9_code_20 : decode cX9_code 20 = .ok (.aload_n 0, 1) := by decide +kernel
theorem dX9_code_21 : decode cX9_code 21 = .ok (.iconst 1, 1) := by decide +kernel
theorem dX9_code_22 : decode cX9_code 22 = .ok (.invokevirtual 128, 3) := by decide +kernel
theorem dX9_code_25 : decode cX9_code 25 = .ok (.ireturn, 1) := by decide +kernel
theorem dX9_code_26 : decode cX9_code 26 = .ok (.iload_n 2, 1) := by decide +kernel
theorem dX9_code_27 : decode cX9_code 27 = .ok (.iconst 0, 1) := by decide +kernel
theorem dX9_code_28 : decode cX9_code 28 = .ok (.aload_n 0, 1) := by decide +kernel
theorem dX9_code_29 : decode cX9_code 29 = .ok (.iload_n 1, 1) := by decide +kernel
theorem dX9_code_30 : decode cX9_code 30 = .ok (.aload_n 0, 1) := by decide +kernel
theorem dX9_code_31 : decode cX9_code 31 = .ok (.getfield 65, 3) := by decide +kernel
theorem dX9_code_34 : decode cX9_code 34 = .ok (.invokevirtual 231, 3) := by decide +kernel
theorem dX9_code_37 : decode cX9_code 37 = .ok (.iconst 1, 1) := by decide +kernel
theorem dX9_code_38 : decode cX9_code 38 = .ok (.isub, 1) := by decide +kernel
theorem dX9_code_39 : decode cX9_code 39 = .ok (.invokestatic 117, 3) := by decide +kernel
theorem dX9_code_42 : decode cX9_code 42 = .ok (.ifCond .ne 9, 3) := by decide +kernel
theorem dX9_code_45 : decode cX9_code 45 = .ok (.aload_n 0, 1) := by decide +kernel
theorem dX9_code_46 : decode cX9_code 46 = .ok (.iconst 1, 1) := by decide +kernel
theorem dX9_code_47 : decode cX9_code 47 = .ok (.invokevirtual 128, 3) := by decide +kernel
theorem dX9_code_50 : decode cX9_code 50 = .ok (.ireturn, 1) := by decide +kernel
theorem dX9_code_51 : decode cX9_code 51 = .ok (.iload_n 3, 1) := by decide +kernel
theorem dX9_code_52 : decode cX9_code 52 = .ok (.iconst 0, 1) := by decide +kernel
theorem dX9_code_53 : decode cX9_code 53 = .ok (.iconst 3, 1) := by decide +kernel
theorem dX9_code_54 : decode cX9_code 54 = .ok (.invokestatic 117, 3) := by decide +kernel
theorem dX9_code_57 : decode cX9_code 57 = .ok (.ifCond .eq 12, 3) := by decide +kernel
theorem dX9_code_60 : decode cX9_code 60 = .ok (.aload_n 0, 1) := by decide +kernel
theorem dX9_code_61 : decode cX9_code 61 = .ok (.iload_n 2, 1) := by decide +kernel
theorem dX9_code_62 : decode cX9_code 62 = .ok (.iload_n 3, 1) := by decide +kernel
theorem dX9_code_63 : decode cX9_code 63 = .ok (.invokevirtual 328, 3) := by decide +kernel
theorem dX9_code_66 : decode cX9_code 66 = .ok (.goto 8, 3) := by decide +kernel
theorem dX9_code_69 : decode cX9_code 69 = .ok (.aload_n 0, 1) := by decide +kernel
theorem dX9_code_70 : decode cX9_code 70 = .ok (.iconst 2, 1) := by decide +kernel
theorem dX9_code_71 : decode cX9_code 71 = .ok (.invokevirtual 128, 3) := by decide +kernel
theorem dX9_code_74 : decode cX9_code 74 = .ok (.ireturn, 1) := by decide +kernel
theorem dX9_bits_0 : decode cX9_bits 0 = .ok (.iconst 0, 1) := by decide +kernel
theorem dX9_bits_1 : decode cX9_bits 1 = .ok (.istore_n 1, 1) := by decide +kernel
theorem dX9_bits_2 : decode cX9_bits 2 = .ok (.iload_n 0, 1) := by decide +kernel
theorem dX9_bits_3 : decode cX9_bits 3 = .ok (.istore_n 2, 1) := by decide +kernel
theorem dX9_bits_4 : decode cX9_bits 4 = .ok (.iload_n 2, 1) := by decide +kernel
theorem dX9_bits_5 : decode cX9_bits 5 = .ok (.ifCond .le 16, 3) := by decide +kernel
theorem dX9_bits_8 : decode cX9_bits 8 = .ok (.iload_n 1, 1) := by decide +kernel
theorem dX9_bits_9 : decode cX9_bits 9 = .ok (.iload_n 2, 1) := by decide +kernel
theorem dX9_bits_10 : decode cX9_bits 10 = .ok (.iconst 2, 1) := by decide +kernel
theorem dX9_bits_11 : decode cX9_bits 11 = .ok (.irem, 1) := by decide +kernel
theorem dX9_bits_12 : decode cX9_bits 12 = .ok (.iadd, 1) := by decide +kernel
theorem dX9_bits_13 : decode cX9_bits 13 = .ok (.istore_n 1, 1) := by decide +kernel
theorem dX9_bits_14 : decode cX9_bits 14 = .ok (.iload_n 2, 1) := by decide +kernel
theorem dX9_bits_15 : decode cX9_bits 15 = .ok (.iconst 2, 1) := by decide +kernel
theorem dX9_bits_16 : decode cX9_bits 16 = .ok (.idiv, 1) := by decide +kernel
theorem dX9_bits_17 : decode cX9_bits 17 = .ok (.istore_n 2, 1) := by decide +kernel
theorem dX9_bits_18 : decode cX9_bits 18 = .ok (.goto (-14), 3) := by decide +kernel
theorem dX9_bits_21 : decode cX9_bits 21 = .ok (.iload_n 1, 1) := by decide +kernel
theorem dX9_bits_22 : decode cX9_bits 22 = .ok (.ireturn, 1) := by decide +kernel
theorem dX9_limits_0 : decode cX9_limits 0 = .ok (.aload_n 0, 1) := by decide +kernel
theorem dX9_limits_1 : decode cX9_limits 1 = .ok (.iconst 0, 1) := by decide +kernel
theorem dX9_limits_2 : decode cX9_limits 2 = .ok (.putfield 114, 3) := by decide +kernel
theorem dX9_limits_5 : decode cX9_limits 5 = .ok (.iload_n 1, 1) := by decide +kernel
theorem dX9_limits_6 : decode cX9_limits 6 = .ok (.iconst 1, 1) := by decide +kernel
theorem dX9_limits_7 : decode cX9_limits 7 = .ok (.sipush 3000, 3) := by decide +kernel
theorem dX9_limits_10 : decode cX9_limits 10 = .ok (.invokestatic 117, 3) := by decide +kernel
theorem dX9_limits_13 : decode cX9_limits 13 = .ok (.ifCond .eq 13, 3) := by decide +kernel
theorem dX9_limits_16 : decode cX9_limits 16 = .ok (.iload_n 2, 1) := by decide +kernel
theorem dX9_limits_17 : decode cX9_limits 17 = .ok (.iconst 1, 1) := by decide +kernel
theorem dX9_limits_18 : decode cX9_limits 18 = .ok (.bipush 40, 2) := by decide +kernel
theorem dX9_limits_20 : decode cX9_limits 20 = .ok (.invokestatic 117, 3) := by decide +kernel
theorem dX9_limits_23 : decode cX9_limits 23 = .ok (.ifCond .ne 9, 3) := by decide +kernel
theorem dX9_limits_26 : decode cX9_limits 26 = .ok (.aload_n 0, 1) := by decide +kernel
theorem dX9_limits_27 : decode cX9_limits 27 = .ok (.iconst 1, 1) := by decide +kernel
theorem dX9_limits_28 : decode cX9_limits 28 = .ok (.invokevirtual 128, 3) := by decide +kernel
theorem dX9_limits_31 : decode cX9_limits 31 = .ok (.ireturn, 1) := by decide +kernel
theorem dX9_limits_32 : decode cX9_limits 32 = .ok (.aload_n 0, 1) := by decide +kernel
theorem dX9_limits_33 : decode cX9_limits 33 = .ok (.getfield 68, 3) := by decide +kernel
theorem dX9_limits_36 : decode cX9_limits 36 = .ok (.istore_n 3, 1) := by decide +kernel
theorem dX9_limits_37 : decode cX9_limits 37 = .ok (.aload_n 0, 1) := by decide +kernel
theorem dX9_limits_38 : decode cX9_limits 38 = .ok (.iload_n 1, 1) := by decide +kernel
theorem dX9_limits_39 : decode cX9_limits 39 = .ok (.putfield 68, 3) := by decide +kernel
theorem dX9_limits_42 : decode cX9_limits 42 = .ok (.aload_n 0, 1) := by decide +kernel
theorem dX9_limits_43 : decode cX9_limits 43 = .ok (.iload_n 2, 1) := by decide +kernel
theorem dX9_limits_44 : decode cX9_limits 44 = .ok (.putfield 71, 3) := by decide +kernel
theorem dX9_limits_47 : decode cX9_limits 47 = .ok (.iload_n 3, 1) := by decide +kernel
theorem dX9_limits_48 : decode cX9_limits 48 = .ok (.ireturn, 1) := by decide +kernel
theorem dX9_run_0 : decode cX9_run 0 = .ok (.aload_n 0, 1) := by decide +kernel
theorem dX9_run_1 : decode cX9_run 1 = .ok (.iconst 0, 1) := by decide +kernel
theorem dX9_run_2 : decode cX9_run 2 = .ok (.putfield 114, 3) := by decide +kernel
theorem dX9_run_5 : decode cX9_run 5 = .ok (.aload_n 0, 1) := by decide +kernel
theorem dX9_run_6 : decode cX9_run 6 = .ok (.invokevirtual 227, 3) := by decide +kernel
theorem dX9_run_9 : decode cX9_run 9 = .ok (.ifCond .le 9, 3) := by decide +kernel
theorem dX9_run_12 : decode cX9_run 12 = .ok (.aload_n 0, 1) := by decide +kernel
theorem dX9_run_13 : decode cX9_run 13 = .ok (.iconst 1, 1) := by decide +kernel
theorem dX9_run_14 : decode cX9_run 14 = .ok (.invokevirtual 128, 3) := by decide +kernel
theorem dX9_run_17 : decode cX9_run 17 = .ok (.ireturn, 1) := by decide +kernel
theorem dX9_run_18 : decode cX9_run 18 = .ok (.aload_n 0, 1) := by decide +kernel
theorem dX9_run_19 : decode cX9_run 19 = .ok (.aload_n 0, 1) := by decide +kernel
theorem dX9_run_20 : decode cX9_run 20 = .ok (.aload_n 0, 1) := by decide +kernel
theorem dX9_run_21 : decode cX9_run 21 = .ok (.getfield 68, 3) := by decide +kernel
theorem dX9_run_24 : decode cX9_run 24 = .ok (.aload_n 0, 1) := by decide +kernel
theorem dX9_run_25 : decode cX9_run 25 = .ok (.getfield 71, 3) := by decide +kernel
theorem dX9_run_28 : decode cX9_run 28 = .ok (.aload_n 0, 1) := by decide +kernel
theorem dX9_run_29 : decode cX9_run 29 = .ok (.getfield 65, 3) := by decide +kernel
theorem dX9_run_32 : decode cX9_run 32 = .ok (.invokevirtual 478, 3) := by decide +kernel
theorem dX9_run_35 : decode cX9_run 35 = .ok (.putfield 74, 3) := by decide +kernel
theorem dX9_run_38 : decode cX9_run 38 = .ok (.aload_n 0, 1) := by decide +kernel
theorem dX9_run_39 : decode cX9_run 39 = .ok (.aload_n 0, 1) := by decide +kernel
theorem dX9_run_40 : decode cX9_run 40 = .ok (.getfield 465, 3) := by decide +kernel
theorem dX9_run_43 : decode cX9_run 43 = .ok (.putfield 482, 3) := by decide +kernel
theorem dX9_run_46 : decode cX9_run 46 = .ok (.aload_n 0, 1) := by decide +kernel
theorem dX9_run_47 : decode cX9_run 47 = .ok (.iconst 3, 1) := by decide +kernel
theorem dX9_run_48 : decode cX9_run 48 = .ok (.bipush 50, 2) := by decide +kernel
theorem dX9_run_50 : decode cX9_run 50 = .ok (.aload_n 0, 1) := by decide +kernel
theorem dX9_run_51 : decode cX9_run 51 = .ok (.getfield 469, 3) := by decide +kernel
theorem dX9_run_54 : decode cX9_run 54 = .ok (.invokestatic 485, 3) := by decide +kernel
theorem dX9_run_57 : decode cX9_run 57 = .ok (.imul, 1) := by decide +kernel
theorem dX9_run_58 : decode cX9_run 58 = .ok (.newarray .int, 2) := by decide +kernel
theorem dX9_run_60 : decode cX9_run 60 = .ok (.putfield 77, 3) := by decide +kernel
theorem dX9_run_63 : decode cX9_run 63 = .ok (.aload_n 0, 1) := by decide +kernel
theorem dX9_run_64 : decode cX9_run 64 = .ok (.getfield 101, 3) := by decide +kernel
theorem dX9_run_67 : decode cX9_run 67 = .ok (.iconst 0, 1) := by decide +kernel
theorem dX9_run_68 : decode cX9_run 68 = .ok (.aload_n 0, 1) := by decide +kernel
theorem dX9_run_69 : decode cX9_run 69 = .ok (.getfield 77, 3) := by decide +kernel
theorem dX9_run_72 : decode cX9_run 72 = .ok (.iconst 0, 1) := by decide +kernel
theorem dX9_run_73 : decode cX9_run 73 = .ok (.aload_n 0, 1) := by decide +kernel
theorem dX9_run_74 : decode cX9_run 74 = .ok (.getfield 77, 3) := by decide +kernel
theorem dX9_run_77 : decode cX9_run 77 = .ok (.arraylength, 1) := by decide +kernel
theorem dX9_run_78 : decode cX9_run 78 = .ok (.invokestatic 286, 3) := by decide +kernel
theorem dX9_run_81 : decode cX9_run 81 = .ok (.aload_n 0, 1) := by decide +kernel
theorem dX9_run_82 : decode cX9_run 82 = .ok (.dup, 1) := by decide +kernel
theorem dX9_run_83 : decode cX9_run 83 = .ok (.getfield 488, 3) := by decide +kernel
theorem dX9_run_86 : decode cX9_run 86 = .ok (.iconst 1, 1) := by decide +kernel
theorem dX9_run_87 : decode cX9_run 87 = .ok (.iadd, 1) := by decide +kernel
theorem dX9_run_88 : decode cX9_run 88 = .ok (.putfield 488, 3) := by decide +kernel
theorem dX9_run_91 : decode cX9_run 91 = .ok (.aload_n 0, 1) := by decide +kernel
theorem dX9_run_92 : decode cX9_run 92 = .ok (.getfield 74, 3) := by decide +kernel
theorem dX9_run_95 : decode cX9_run 95 = .ok (.iconst 0, 1) := by decide +kernel
theorem dX9_run_96 : decode cX9_run 96 = .ok (.iaload, 1) := by decide +kernel
theorem dX9_run_97 : decode cX9_run 97 = .ok (.ireturn, 1) := by decide +kernel
theorem dX9_ofRun_0 : decode cX9_ofRun 0 = .ok (.aload_n 0, 1) := by decide +kernel
theorem dX9_ofRun_1 : decode cX9_ofRun 1 = .ok (.iconst 0, 1) := by decide +kernel
theorem dX9_ofRun_2 : decode cX9_ofRun 2 = .ok (.putfield 114, 3) := by decide +kernel
theorem dX9_ofRun_5 : decode cX9_ofRun 5 = .ok (.iload_n 1, 1) := by decide +kernel
theorem dX9_ofRun_6 : decode cX9_ofRun 6 = .ok (.iconst 0, 1) := by decide +kernel
theorem dX9_ofRun_7 : decode cX9_ofRun 7 = .ok (.bipush 10, 2) := by decide +kernel
theorem dX9_ofRun_9 : decode cX9_ofRun 9 = .ok (.invokestatic 117, 3) := by decide +kernel
theorem dX9_ofRun_12 : decode cX9_ofRun 12 = .ok (.ifCond .ne 11, 3) := by decide +kernel
theorem dX9_ofRun_15 : decode cX9_ofRun 15 = .ok (.aload_n 0, 1) := by decide +kernel
theorem dX9_ofRun_16 : decode cX9_ofRun 16 = .ok (.iconst 1, 1) := by decide +kernel
theorem dX9_ofRun_17 : decode cX9_ofRun 17 = .ok (.invokevirtual 128, 3) := by decide +kernel
theorem dX9_ofRun_20 : decode cX9_ofRun 20 = .ok (.goto 22, 3) := by decide +kernel
theorem dX9_ofRun_23 : decode cX9_ofRun 23 = .ok (.iload_n 1, 1) := by decide +kernel
theorem dX9_ofRun_24 : decode cX9_ofRun 24 = .ok (.bipush 10, 2) := by decide +kernel
theorem dX9_ofRun_26 : decode cX9_ofRun 26 = .ok (.if_icmp .ne 10, 3) := by decide +kernel
theorem dX9_ofRun_29 : decode cX9_ofRun 29 = .ok (.aload_n 0, 1) := by decide +kernel
theorem dX9_ofRun_30 : decode cX9_ofRun 30 = .ok (.getfield 488, 3) := by decide +kernel
theorem dX9_ofRun_33 : decode cX9_ofRun 33 = .ok (.goto 9, 3) := by decide +kernel
theorem dX9_ofRun_36 : decode cX9_ofRun 36 = .ok (.aload_n 0, 1) := by decide +kernel
theorem dX9_ofRun_37 : decode cX9_ofRun 37 = .ok (.getfield 74, 3) := by decide +kernel
theorem dX9_ofRun_40 : decode cX9_ofRun 40 = .ok (.iload_n 1, 1) := by decide +kernel
theorem dX9_ofRun_41 : decode cX9_ofRun 41 = .ok (.iaload, 1) := by decide +kernel
theorem dX9_ofRun_42 : decode cX9_ofRun 42 = .ok (.ireturn, 1) := by decide +kernel
theorem dX9_printed_0 : decode cX9_printed 0 = .ok (.aload_n 0, 1) := by decide +kernel
theorem dX9_printed_1 : decode cX9_printed 1 = .ok (.iconst 0, 1) := by decide +kernel
theorem dX9_printed_2 : decode cX9_printed 2 = .ok (.putfield 114, 3) := by decide +kernel
theorem dX9_printed_5 : decode cX9_printed 5 = .ok (.iload_n 1, 1) := by decide +kernel
theorem dX9_printed_6 : decode cX9_printed 6 = .ok (.iconst 0, 1) := by decide +kernel
theorem dX9_printed_7 : decode cX9_printed 7 = .ok (.aload_n 0, 1) := by decide +kernel
theorem dX9_printed_8 : decode cX9_printed 8 = .ok (.getfield 77, 3) := by decide +kernel
theorem dX9_printed_11 : decode cX9_printed 11 = .ok (.arraylength, 1) := by decide +kernel
theorem dX9_printed_12 : decode cX9_printed 12 = .ok (.iconst 3, 1) := by decide +kernel
theorem dX9_printed_13 : decode cX9_printed 13 = .ok (.idiv, 1) := by decide +kernel
theorem dX9_printed_14 : decode cX9_printed 14 = .ok (.iconst 1, 1) := by decide +kernel
theorem dX9_printed_15 : decode cX9_printed 15 = .ok (.isub, 1) := by decide +kernel
theorem dX9_printed_16 : decode cX9_printed 16 = .ok (.invokestatic 117, 3) := by decide +kernel
theorem dX9_printed_19 : decode cX9_printed 19 = .ok (.ifCond .ne 9, 3) := by decide +kernel
theorem dX9_printed_22 : decode cX9_printed 22 = .ok (.aload_n 0, 1) := by decide +kernel
theorem dX9_printed_23 : decode cX9_printed 23 = .ok (.iconst 1, 1) := by decide +kernel
theorem dX9_printed_24 : decode cX9_printed 24 = .ok (.invokevirtual 128, 3) := by decide +kernel
theorem dX9_printed_27 : decode cX9_printed 27 = .ok (.ireturn, 1) := by decide +kernel
theorem dX9_printed_28 : decode cX9_printed 28 = .ok (.iload_n 2, 1) := by decide +kernel
theorem dX9_printed_29 : decode cX9_printed 29 = .ok (.iconst 0, 1) := by decide +kernel
theorem dX9_printed_30 : decode cX9_printed 30 = .ok (.iconst 2, 1) := by decide +kernel
theorem dX9_printed_31 : decode cX9_printed 31 = .ok (.invokestatic 117, 3) := by decide +kernel
theorem dX9_printed_34 : decode cX9_printed 34 = .ok (.ifCond .eq 16, 3) := by decide +kernel
theorem dX9_printed_37 : decode cX9_printed 37 = .ok (.aload_n 0, 1) := by decide +kernel
theorem dX9_printed_38 : decode cX9_printed 38 = .ok (.getfield 77, 3) := by decide +kernel
theorem dX9_printed_41 : decode cX9_printed 41 = .ok (.iconst 3, 1) := by decide +kernel
theorem dX9_printed_42 : decode cX9_printed 42 = .ok (.iload_n 1, 1) := by decide +kernel
theorem dX9_printed_43 : decode cX9_printed 43 = .ok (.imul, 1) := by decide +kernel
theorem dX9_printed_44 : decode cX9_printed 44 = .ok (.iload_n 2, 1) := by decide +kernel
theorem dX9_printed_45 : decode cX9_printed 45 = .ok (.iadd, 1) := by decide +kernel
theorem dX9_printed_46 : decode cX9_printed 46 = .ok (.iaload, 1) := by decide +kernel
theorem dX9_printed_47 : decode cX9_printed 47 = .ok (.goto 8, 3) := by decide +kernel
theorem dX9_printed_50 : decode cX9_printed 50 = .ok (.aload_n 0, 1) := by decide +kernel
theorem dX9_printed_51 : decode cX9_printed 51 = .ok (.iconst 2, 1) := by decide +kernel
theorem dX9_printed_52 : decode cX9_printed 52 = .ok (.invokevirtual 128, 3) := by decide +kernel
theorem dX9_printed_55 : decode cX9_printed 55 = .ok (.ireturn, 1) := by decide +kernel
theorem dX9_meanPrinted_0 : decode cX9_meanPrinted 0 = .ok (.aload_n 0, 1) := by decide +kernel
theorem dX9_meanPrinted_1 : decode cX9_meanPrinted 1 = .ok (.iconst 0, 1) := by decide +kernel
theorem dX9_meanPrinted_2 : decode cX9_meanPrinted 2 = .ok (.putfield 114, 3) := by decide +kernel
theorem dX9_meanPrinted_5 : decode cX9_meanPrinted 5 = .ok (.aload_n 0, 1) := by decide +kernel
theorem dX9_meanPrinted_6 : decode cX9_meanPrinted 6 = .ok (.getfield 74, 3) := by decide +kernel
theorem dX9_meanPrinted_9 : decode cX9_meanPrinted 9 = .ok (.iconst 4, 1) := by decide +kernel
theorem dX9_meanPrinted_10 : decode cX9_meanPrinted 10 = .ok (.iaload, 1) := by decide +kernel
theorem dX9_meanPrinted_11 : decode cX9_meanPrinted 11 = .ok (.ifCond .ne 7, 3) := by decide +kernel
theorem dX9_meanPrinted_14 : decode cX9_meanPrinted 14 = .ok (.dconst 0, 1) := by decide +kernel
theorem dX9_meanPrinted_15 : decode cX9_meanPrinted 15 = .ok (.goto 16, 3) := by decide +kernel
theorem dX9_meanPrinted_18 : decode cX9_meanPrinted 18 = .ok (.aload_n 0, 1) := by decide +kernel
theorem dX9_meanPrinted_19 : decode cX9_meanPrinted 19 = .ok (.getfield 482, 3) := by decide +kernel
theorem dX9_meanPrinted_22 : decode cX9_meanPrinted 22 = .ok (.l2d, 1) := by decide +kernel
theorem dX9_meanPrinted_23 : decode cX9_meanPrinted 23 = .ok (.aload_n 0, 1) := by decide +kernel
theorem dX9_meanPrinted_24 : decode cX9_meanPrinted 24 = .ok (.getfield 74, 3) := by decide +kernel
theorem dX9_meanPrinted_27 : decode cX9_meanPrinted 27 = .ok (.iconst 4, 1) := by decide +kernel
theorem dX9_meanPrinted_28 : decode cX9_meanPrinted 28 = .ok (.iaload, 1) := by decide +kernel
theorem dX9_meanPrinted_29 : decode cX9_meanPrinted 29 = .ok (.i2d, 1) := by decide +kernel
theorem dX9_meanPrinted_30 : decode cX9_meanPrinted 30 = .ok (.ddiv, 1) := by decide +kernel
theorem dX9_meanPrinted_31 : decode cX9_meanPrinted 31 = .ok (.dreturn, 1) := by decide +kernel
theorem dX9_manyNow_0 : decode cX9_manyNow 0 = .ok (.iconst 0, 1) := by decide +kernel
theorem dX9_manyNow_1 : decode cX9_manyNow 1 = .ok (.istore_n 2, 1) := by decide +kernel
theorem dX9_manyNow_2 : decode cX9_manyNow 2 = .ok (.iload_n 1, 1) := by decide +kernel
theorem dX9_manyNow_3 : decode cX9_manyNow 3 = .ok (.tableswitch 180 0 9 #[53, 58, 63, 131, 63, 63, 136, 165, 170, 175], 53) := by decide +kernel
theorem dX9_manyNow_56 : decode cX9_manyNow 56 = .ok (.aload_n 0, 1) := by decide +kernel
theorem dX9_manyNow_57 : decode cX9_manyNow 57 = .ok (.getfield 7, 3) := by decide +kernel
theorem dX9_manyNow_60 : decode cX9_manyNow 60 = .ok (.ireturn, 1) := by decide +kernel
theorem dX9_manyNow_61 : decode cX9_manyNow 61 = .ok (.aload_n 0, 1) := by decide +kernel
theorem dX9_manyNow_62 : decode cX9_manyNow 62 = .ok (.getfield 121, 3) := by decide +kernel
theorem dX9_manyNow_65 : decode cX9_manyNow 65 = .ok (.ireturn, 1) := by decide +kernel
theorem dX9_manyNow_66 : decode cX9_manyNow 66 = .ok (.iconst 0, 1) := by decide +kernel
theorem dX9_manyNow_67 : decode cX9_manyNow 67 = .ok (.istore_n 3, 1) := by decide +kernel
theorem dX9_manyNow_68 : decode cX9_manyNow 68 = .ok (.iload_n 3, 1) := by decide +kernel
theorem dX9_manyNow_69 : decode cX9_manyNow 69 = .ok (.aload_n 0, 1) := by decide +kernel
theorem dX9_manyNow_70 : decode cX9_manyNow 70 = .ok (.getfield 121, 3) := by decide +kernel
theorem dX9_manyNow_73 : decode cX9_manyNow 73 = .ok (.if_icmp .ge 59, 3) := by decide +kernel
theorem dX9_manyNow_76 : decode cX9_manyNow 76 = .ok (.iload_n 2, 1) := by decide +kernel
theorem dX9_manyNow_77 : decode cX9_manyNow 77 = .ok (.aload_n 0, 1) := by decide +kernel
theorem dX9_manyNow_78 : decode cX9_manyNow 78 = .ok (.iload_n 3, 1) := by decide +kernel
theorem dX9_manyNow_79 : decode cX9_manyNow 79 = .ok (.invokevirtual 194, 3) := by decide +kernel
theorem dX9_manyNow_82 : decode cX9_manyNow 82 = .ok (.iconst (-1), 1) := by decide +kernel
theorem dX9_manyNow_83 : decode cX9_manyNow 83 = .ok (.if_icmp .ne 16, 3) := by decide +kernel
theorem dX9_manyNow_86 : decode cX9_manyNow 86 = .ok (.iload_n 1, 1) := by decide +kernel
theorem dX9_manyNow_87 : decode cX9_manyNow 87 = .ok (.iconst 2, 1) := by decide +kernel
theorem dX9_manyNow_88 : decode cX9_manyNow 88 = .ok (.if_icmp .ne 7, 3) := by decide +kernel
theorem dX9_manyNow_91 : decode cX9_manyNow 91 = .ok (.iconst 1, 1) := by decide +kernel
theorem dX9_manyNow_92 : decode cX9_manyNow 92 = .ok (.goto 32, 3) := by decide +kernel
theorem dX9_manyNow_95 : decode cX9_manyNow 95 = .ok (.iconst 0, 1) := by decide +kernel
theorem dX9_manyNow_96 : decode cX9_manyNow 96 = .ok (.goto 28, 3) := by decide +kernel
theorem dX9_manyNow_99 : decode cX9_manyNow 99 = .ok (.iload_n 1, 1) := by decide +kernel
theorem dX9_manyNow_100 : decode cX9_manyNow 100 = .ok (.iconst 2, 1) := by decide +kernel
theorem dX9_manyNow_101 : decode cX9_manyNow 101 = .ok (.if_icmp .le 22, 3) := by decide +kernel
theorem dX9_manyNow_104 : decode cX9_manyNow 104 = .ok (.aload_n 0, 1) := by decide +kernel
theorem dX9_manyNow_105 : decode cX9_manyNow 105 = .ok (.iload_n 3, 1) := by decide +kernel
theorem dX9_manyNow_106 : decode cX9_manyNow 106 = .ok (.iload_n 1, 1) := by decide +kernel
theorem dX9_manyNow_107 : decode cX9_manyNow 107 = .ok (.iconst 4, 1) := by decide +kernel
theorem dX9_manyNow_108 : decode cX9_manyNow 108 = .ok (.if_icmp .ne 8, 3) := by decide +kernel
theorem dX9_manyNow_111 : decode cX9_manyNow 111 = .ok (.bipush 6, 2) := by decide +kernel
theorem dX9_manyNow_113 : decode cX9_manyNow 113 = .ok (.goto 4, 3) := by decide +kernel
theorem dX9_manyNow_116 : decode cX9_manyNow 116 = .ok (.iconst 5, 1) := by decide +kernel
theorem dX9_manyNow_117 : decode cX9_manyNow 117 = .ok (.invokevirtual 240, 3) := by decide +kernel
theorem dX9_manyNow_120 : decode cX9_manyNow 120 = .ok (.goto 4, 3) := by decide +kernel
theorem dX9_manyNow_123 : decode cX9_manyNow 123 = .ok (.iconst 0, 1) := by decide +kernel
theorem dX9_manyNow_124 : decode cX9_manyNow 124 = .ok (.iadd, 1) := by decide +kernel
theorem dX9_manyNow_125 : decode cX9_manyNow 125 = .ok (.istore_n 2, 1) := by decide +kernel
theorem dX9_manyNow_126 : decode cX9_manyNow 126 = .ok (.iinc 3 1, 3) := by decide +kernel
theorem dX9_manyNow_129 : decode cX9_manyNow 129 = .ok (.goto (-61), 3) := by decide +kernel
theorem dX9_manyNow_132 : decode cX9_manyNow 132 = .ok (.iload_n 2, 1) := by decide +kernel
theorem dX9_manyNow_133 : decode cX9_manyNow 133 = .ok (.ireturn, 1) := by decide +kernel
theorem dX9_manyNow_134 : decode cX9_manyNow 134 = .ok (.aload_n 0, 1) := by decide +kernel
theorem dX9_manyNow_135 : decode cX9_manyNow 135 = .ok (.invokevirtual 227, 3) := by decide +kernel
theorem dX9_manyNow_138 : decode cX9_manyNow 138 = .ok (.ireturn, 1) := by decide +kernel
theorem dX9_manyNow_139 : decode cX9_manyNow 139 = .ok (.iconst 0, 1) := by decide +kernel
theorem dX9_manyNow_140 : decode cX9_manyNow 140 = .ok (.istore_n 3, 1) := by decide +kernel
theorem dX9_manyNow_141 : decode cX9_manyNow 141 = .ok (.iload_n 3, 1) := by decide +kernel
theorem dX9_manyNow_142 : decode cX9_manyNow 142 = .ok (.aload_n 0, 1) := by decide +kernel
theorem dX9_manyNow_143 : decode cX9_manyNow 143 = .ok (.getfield 7, 3) := by decide +kernel
theorem dX9_manyNow_146 : decode cX9_manyNow 146 = .ok (.if_icmp .ge 20, 3) := by decide +kernel
theorem dX9_manyNow_149 : decode cX9_manyNow 149 = .ok (.iload_n 2, 1) := by decide +kernel
theorem dX9_manyNow_150 : decode cX9_manyNow 150 = .ok (.aload_n 0, 1) := by decide +kernel
theorem dX9_manyNow_151 : decode cX9_manyNow 151 = .ok (.iload_n 3, 1) := by decide +kernel
theorem dX9_manyNow_152 : decode cX9_manyNow 152 = .ok (.invokevirtual 224, 3) := by decide +kernel
theorem dX9_manyNow_155 : decode cX9_manyNow 155 = .ok (.invokestatic 472, 3) := by decide +kernel
theorem dX9_manyNow_158 : decode cX9_manyNow 158 = .ok (.iadd, 1) := by decide +kernel
theorem dX9_manyNow_159 : decode cX9_manyNow 159 = .ok (.istore_n 2, 1) := by decide +kernel
theorem dX9_manyNow_160 : decode cX9_manyNow 160 = .ok (.iinc 3 1, 3) := by decide +kernel
theorem dX9_manyNow_163 : decode cX9_manyNow 163 = .ok (.goto (-22), 3) := by decide +kernel
theorem dX9_manyNow_166 : decode cX9_manyNow 166 = .ok (.iload_n 2, 1) := by decide +kernel
theorem dX9_manyNow_167 : decode cX9_manyNow 167 = .ok (.ireturn, 1) := by decide +kernel
theorem dX9_manyNow_168 : decode cX9_manyNow 168 = .ok (.aload_n 0, 1) := by decide +kernel
theorem dX9_manyNow_169 : decode cX9_manyNow 169 = .ok (.getfield 65, 3) := by decide +kernel
theorem dX9_manyNow_172 : decode cX9_manyNow 172 = .ok (.ireturn, 1) := by decide +kernel
theorem dX9_manyNow_173 : decode cX9_manyNow 173 = .ok (.aload_n 0, 1) := by decide +kernel
theorem dX9_manyNow_174 : decode cX9_manyNow 174 = .ok (.getfield 68, 3) := by decide +kernel
theorem dX9_manyNow_177 : decode cX9_manyNow 177 = .ok (.ireturn, 1) := by decide +kernel
theorem dX9_manyNow_178 : decode cX9_manyNow 178 = .ok (.aload_n 0, 1) := by decide +kernel
theorem dX9_manyNow_179 : decode cX9_manyNow 179 = .ok (.getfield 71, 3) := by decide +kernel
theorem dX9_manyNow_182 : decode cX9_manyNow 182 = .ok (.ireturn, 1) := by decide +kernel
theorem dX9_manyNow_183 : decode cX9_manyNow 183 = .ok (.aload_n 0, 1) := by decide +kernel
theorem dX9_manyNow_184 : decode cX9_manyNow 184 = .ok (.invokevirtual 227, 3) := by decide +kernel
theorem dX9_manyNow_187 : decode cX9_manyNow 187 = .ok (.ifCond .le 7, 3) := by decide +kernel
theorem dX9_manyNow_190 : decode cX9_manyNow 190 = .ok (.iconst 0, 1) := by decide +kernel
theorem dX9_manyNow_191 : decode cX9_manyNow 191 = .ok (.goto 11, 3) := by decide +kernel
theorem dX9_manyNow_194 : decode cX9_manyNow 194 = .ok (.aload_n 0, 1) := by decide +kernel
theorem dX9_manyNow_195 : decode cX9_manyNow 195 = .ok (.aload_n 0, 1) := by decide +kernel
theorem dX9_manyNow_196 : decode cX9_manyNow 196 = .ok (.getfield 65, 3) := by decide +kernel
theorem dX9_manyNow_199 : decode cX9_manyNow 199 = .ok (.invokevirtual 491, 3) := by decide +kernel
theorem dX9_manyNow_202 : decode cX9_manyNow 202 = .ok (.ireturn, 1) := by decide +kernel
theorem dX9_many_0 : decode cX9_many 0 = .ok (.aload_n 0, 1) := by decide +kernel
theorem dX9_many_1 : decode cX9_many 1 = .ok (.iconst 0, 1) := by decide +kernel
theorem dX9_many_2 : decode cX9_many 2 = .ok (.putfield 114, 3) := by decide +kernel
theorem dX9_many_5 : decode cX9_many 5 = .ok (.iload_n 1, 1) := by decide +kernel
theorem dX9_many_6 : decode cX9_many 6 = .ok (.iconst 0, 1) := by decide +kernel
theorem dX9_many_7 : decode cX9_many 7 = .ok (.bipush 10, 2) := by decide +kernel
theorem dX9_many_9 : decode cX9_many 9 = .ok (.invokestatic 117, 3) := by decide +kernel
theorem dX9_many_12 : decode cX9_many 12 = .ok (.ifCond .eq 11, 3) := by decide +kernel
theorem dX9_many_15 : decode cX9_many 15 = .ok (.aload_n 0, 1) := by decide +kernel
theorem dX9_many_16 : decode cX9_many 16 = .ok (.iload_n 1, 1) := by decide +kernel
theorem dX9_many_17 : decode cX9_many 17 = .ok (.invokevirtual 494, 3) := by decide +kernel
theorem dX9_many_20 : decode cX9_many 20 = .ok (.goto 8, 3) := by decide +kernel
theorem dX9_many_23 : decode cX9_many 23 = .ok (.aload_n 0, 1) := by decide +kernel
theorem dX9_many_24 : decode cX9_many 24 = .ok (.iconst 1, 1) := by decide +kernel
theorem dX9_many_25 : decode cX9_many 25 = .ok (.invokevirtual 128, 3) := by decide +kernel
theorem dX9_many_28 : decode cX9_many 28 = .ok (.ireturn, 1) := by decide +kernel
theorem dX9_wouldRun_0 : decode cX9_wouldRun 0 = .ok (.aload_n 0, 1) := by decide +kernel
theorem dX9_wouldRun_1 : decode cX9_wouldRun 1 = .ok (.iconst 0, 1) := by decide +kernel
theorem dX9_wouldRun_2 : decode cX9_wouldRun 2 = .ok (.putfield 114, 3) := by decide +kernel
theorem dX9_wouldRun_5 : decode cX9_wouldRun 5 = .ok (.iload_n 1, 1) := by decide +kernel
theorem dX9_wouldRun_6 : decode cX9_wouldRun 6 = .ok (.iconst 1, 1) := by decide +kernel
theorem dX9_wouldRun_7 : decode cX9_wouldRun 7 = .ok (.sipush 3000, 3) := by decide +kernel
theorem dX9_wouldRun_10 : decode cX9_wouldRun 10 = .ok (.invokestatic 117, 3) := by decide +kernel
theorem dX9_wouldRun_13 : decode cX9_wouldRun 13 = .ok (.ifCond .eq 23, 3) := by decide +kernel
theorem dX9_wouldRun_16 : decode cX9_wouldRun 16 = .ok (.iload_n 2, 1) := by decide +kernel
theorem dX9_wouldRun_17 : decode cX9_wouldRun 17 = .ok (.iconst 1, 1) := by decide +kernel
theorem dX9_wouldRun_18 : decode cX9_wouldRun 18 = .ok (.bipush 40, 2) := by decide +kernel
theorem dX9_wouldRun_20 : decode cX9_wouldRun 20 = .ok (.invokestatic 117, 3) := by decide +kernel
theorem dX9_wouldRun_23 : decode cX9_wouldRun 23 = .ok (.ifCond .eq 13, 3) := by decide +kernel
theorem dX9_wouldRun_26 : decode cX9_wouldRun 26 = .ok (.iload_n 3, 1) := by decide +kernel
theorem dX9_wouldRun_27 : decode cX9_wouldRun 27 = .ok (.iconst 0, 1) := by decide +kernel
theorem dX9_wouldRun_28 : decode cX9_wouldRun 28 = .ok (.bipush 9, 2) := by decide +kernel
theorem dX9_wouldRun_30 : decode cX9_wouldRun 30 = .ok (.invokestatic 117, 3) := by decide +kernel
theorem dX9_wouldRun_33 : decode cX9_wouldRun 33 = .ok (.ifCond .ne 9, 3) := by decide +kernel
theorem dX9_wouldRun_36 : decode cX9_wouldRun 36 = .ok (.aload_n 0, 1) := by decide +kernel
theorem dX9_wouldRun_37 : decode cX9_wouldRun 37 = .ok (.iconst 1, 1) := by decide +kernel
theorem dX9_wouldRun_38 : decode cX9_wouldRun 38 = .ok (.invokevirtual 128, 3) := by decide +kernel
theorem dX9_wouldRun_41 : decode cX9_wouldRun 41 = .ok (.ireturn, 1) := by decide +kernel
theorem dX9_wouldRun_42 : decode cX9_wouldRun 42 = .ok (.aload_n 0, 1) := by decide +kernel
theorem dX9_wouldRun_43 : decode cX9_wouldRun 43 = .ok (.invokevirtual 227, 3) := by decide +kernel
theorem dX9_wouldRun_46 : decode cX9_wouldRun 46 = .ok (.ifCond .le 11, 3) := by decide +kernel
theorem dX9_wouldRun_49 : decode cX9_wouldRun 49 = .ok (.aload_n 0, 1) := by decide +kernel
theorem dX9_wouldRun_50 : decode cX9_wouldRun 50 = .ok (.iconst 2, 1) := by decide +kernel
theorem dX9_wouldRun_51 : decode cX9_wouldRun 51 = .ok (.invokevirtual 128, 3) := by decide +kernel
theorem dX9_wouldRun_54 : decode cX9_wouldRun 54 = .ok (.goto 15, 3) := by decide +kernel
theorem dX9_wouldRun_57 : decode cX9_wouldRun 57 = .ok (.aload_n 0, 1) := by decide +kernel
theorem dX9_wouldRun_58 : decode cX9_wouldRun 58 = .ok (.iload_n 1, 1) := by decide +kernel
theorem dX9_wouldRun_59 : decode cX9_wouldRun 59 = .ok (.iload_n 2, 1) := by decide +kernel
theorem dX9_wouldRun_60 : decode cX9_wouldRun 60 = .ok (.aload_n 0, 1) := by decide +kernel
theorem dX9_wouldRun_61 : decode cX9_wouldRun 61 = .ok (.getfield 65, 3) := by decide +kernel
theorem dX9_wouldRun_64 : decode cX9_wouldRun 64 = .ok (.invokevirtual 478, 3) := by decide +kernel
theorem dX9_wouldRun_67 : decode cX9_wouldRun 67 = .ok (.iload_n 3, 1) := by decide +kernel
theorem dX9_wouldRun_68 : decode cX9_wouldRun 68 = .ok (.iaload, 1) := by decide +kernel
theorem dX9_wouldRun_69 : decode cX9_wouldRun 69 = .ok (.ireturn, 1) := by decide +kernel
theorem dX9_with_0 : decode cX9_with 0 = .ok (.aload_n 0, 1) := by decide +kernel
theorem dX9_with_1 : decode cX9_with 1 = .ok (.iconst 0, 1) := by decide +kernel
theorem dX9_with_2 : decode cX9_with 2 = .ok (.putfield 114, 3) := by decide +kernel
theorem dX9_with_5 : decode cX9_with 5 = .ok (.iload_n 1, 1) := by decide +kernel
theorem dX9_with_6 : decode cX9_with 6 = .ok (.iconst 0, 1) := by decide +kernel
theorem dX9_with_7 : decode cX9_with 7 = .ok (.bipush 7, 2) := by decide +kernel
theorem dX9_with_9 : decode cX9_with 9 = .ok (.invokestatic 117, 3) := by decide +kernel
theorem dX9_with_12 : decode cX9_with 12 = .ok (.ifCond .eq 12, 3) := by decide +kernel
theorem dX9_with_15 : decode cX9_with 15 = .ok (.iload_n 2, 1) := by decide +kernel
theorem dX9_with_16 : decode cX9_with 16 = .ok (.iconst 0, 1) := by decide +kernel
theorem dX9_with_17 : decode cX9_with 17 = .ok (.iconst 2, 1) := by decide +kernel
theorem dX9_with_18 : decode cX9_with 18 = .ok (.invokestatic 117, 3) := by decide +kernel
theorem dX9_with_21 : decode cX9_with 21 = .ok (.ifCond .ne 9, 3) := by decide +kernel
theorem dX9_with_24 : decode cX9_with 24 = .ok (.aload_n 0, 1) := by decide +kernel
theorem dX9_with_25 : decode cX9_with 25 = .ok (.iconst 1, 1) := by decide +kernel
theorem dX9_with_26 : decode cX9_with 26 = .ok (.invokevirtual 128, 3) := by decide +kernel
theorem dX9_with_29 : decode cX9_with 29 = .ok (.ireturn, 1) := by decide +kernel
theorem dX9_with_30 : decode cX9_with 30 = .ok (.aload_n 0, 1) := by decide +kernel
theorem dX9_with_31 : decode cX9_with 31 = .ok (.invokevirtual 227, 3) := by decide +kernel
theorem dX9_with_34 : decode cX9_with 34 = .ok (.ifCond .le 9, 3) := by decide +kernel
theorem dX9_with_37 : decode cX9_with 37 = .ok (.aload_n 0, 1) := by decide +kernel
theorem dX9_with_38 : decode cX9_with 38 = .ok (.iconst 2, 1) := by decide +kernel
theorem dX9_with_39 : decode cX9_with 39 = .ok (.invokevirtual 128, 3) := by decide +kernel
theorem dX9_with_42 : decode cX9_with 42 = .ok (.ireturn, 1) := by decide +kernel
theorem dX9_with_43 : decode cX9_with 43 = .ok (.iload_n 2, 1) := by decide +kernel
theorem dX9_with_44 : decode cX9_with 44 = .ok (.ifCond .ne 11, 3) := by decide +kernel
theorem dX9_with_47 : decode cX9_with 47 = .ok (.aload_n 0, 1) := by decide +kernel
theorem dX9_with_48 : decode cX9_with 48 = .ok (.iload_n 1, 1) := by decide +kernel
theorem dX9_with_49 : decode cX9_with 49 = .ok (.invokevirtual 491, 3) := by decide +kernel
theorem dX9_with_52 : decode cX9_with 52 = .ok (.goto 29, 3) := by decide +kernel
theorem dX9_with_55 : decode cX9_with 55 = .ok (.aload_n 0, 1) := by decide +kernel
theorem dX9_with_56 : decode cX9_with 56 = .ok (.aload_n 0, 1) := by decide +kernel
theorem dX9_with_57 : decode cX9_with 57 = .ok (.getfield 68, 3) := by decide +kernel
theorem dX9_with_60 : decode cX9_with 60 = .ok (.aload_n 0, 1) := by decide +kernel
theorem dX9_with_61 : decode cX9_with 61 = .ok (.getfield 71, 3) := by decide +kernel
theorem dX9_with_64 : decode cX9_with 64 = .ok (.iload_n 1, 1) := by decide +kernel
theorem dX9_with_65 : decode cX9_with 65 = .ok (.invokevirtual 478, 3) := by decide +kernel
theorem dX9_with_68 : decode cX9_with 68 = .ok (.iload_n 2, 1) := by decide +kernel
theorem dX9_with_69 : decode cX9_with 69 = .ok (.iconst 1, 1) := by decide +kernel
theorem dX9_with_70 : decode cX9_with 70 = .ok (.if_icmp .ne 8, 3) := by decide +kernel
theorem dX9_with_73 : decode cX9_with 73 = .ok (.bipush 6, 2) := by decide +kernel
theorem dX9_with_75 : decode cX9_with 75 = .ok (.goto 5, 3) := by decide +kernel
theorem dX9_with_78 : decode cX9_with 78 = .ok (.bipush 7, 2) := by decide +kernel
theorem dX9_with_80 : decode cX9_with 80 = .ok (.iaload, 1) := by decide +kernel
theorem dX9_with_81 : decode cX9_with 81 = .ok (.ireturn, 1) := by decide +kernel
theorem dX9_hiddenNow_0 : decode cX9_hiddenNow 0 = .ok (.aload_n 0, 1) := by decide +kernel
theorem dX9_hiddenNow_1 : decode cX9_hiddenNow 1 = .ok (.getfield 32, 3) := by decide +kernel
theorem dX9_hiddenNow_4 : decode cX9_hiddenNow 4 = .ok (.iload_n 1, 1) := by decide +kernel
theorem dX9_hiddenNow_5 : decode cX9_hiddenNow 5 = .ok (.bipush 16, 2) := by decide +kernel
theorem dX9_hiddenNow_7 : decode cX9_hiddenNow 7 = .ok (.imul, 1) := by decide +kernel
theorem dX9_hiddenNow_8 : decode cX9_hiddenNow 8 = .ok (.iload_n 2, 1) := by decide +kernel
theorem dX9_hiddenNow_9 : decode cX9_hiddenNow 9 = .ok (.iadd, 1) := by decide +kernel
theorem dX9_hiddenNow_10 : decode cX9_hiddenNow 10 = .ok (.iaload, 1) := by decide +kernel
theorem dX9_hiddenNow_11 : decode cX9_hiddenNow 11 = .ok (.iconst (-1), 1) := by decide +kernel
theorem dX9_hiddenNow_12 : decode cX9_hiddenNow 12 = .ok (.if_icmp .eq 5, 3) := by decide +kernel
theorem dX9_hiddenNow_15 : decode cX9_hiddenNow 15 = .ok (.iconst 0, 1) := by decide +kernel
theorem dX9_hiddenNow_16 : decode cX9_hiddenNow 16 = .ok (.ireturn, 1) := by decide +kernel
theorem dX9_hiddenNow_17 : decode cX9_hiddenNow 17 = .ok (.iconst 0, 1) := by decide +kernel
theorem dX9_hiddenNow_18 : decode cX9_hiddenNow 18 = .ok (.istore_n 3, 1) := by decide +kernel
theorem dX9_hiddenNow_19 : decode cX9_hiddenNow 19 = .ok (.iconst 0, 1) := by decide +kernel
theorem dX9_hiddenNow_20 : decode cX9_hiddenNow 20 = .ok (.istore 4, 2) := by decide +kernel
theorem dX9_hiddenNow_22 : decode cX9_hiddenNow 22 = .ok (.iload 4, 2) := by decide +kernel
theorem dX9_hiddenNow_24 : decode cX9_hiddenNow 24 = .ok (.aload_n 0, 1) := by decide +kernel
theorem dX9_hiddenNow_25 : decode cX9_hiddenNow 25 = .ok (.getfield 121, 3) := by decide +kernel
theorem dX9_hiddenNow_28 : decode cX9_hiddenNow 28 = .ok (.if_icmp .ge 107, 3) := by decide +kernel
theorem dX9_hiddenNow_31 : decode cX9_hiddenNow 31 = .ok (.aload_n 0, 1) := by decide +kernel
theorem dX9_hiddenNow_32 : decode cX9_hiddenNow 32 = .ok (.getfield 47, 3) := by decide +kernel
theorem dX9_hiddenNow_35 : decode cX9_hiddenNow 35 = .ok (.iload 4, 2) := by decide +kernel
theorem dX9_hiddenNow_37 : decode cX9_hiddenNow 37 = .ok (.iaload, 1) := by decide +kernel
theorem dX9_hiddenNow_38 : decode cX9_hiddenNow 38 = .ok (.invokestatic 200, 3) := by decide +kernel
theorem dX9_hiddenNow_41 : decode cX9_hiddenNow 41 = .ok (.ifCond .eq 88, 3) := by decide +kernel
theorem dX9_hiddenNow_44 : decode cX9_hiddenNow 44 = .ok (.aload_n 0, 1) := by decide +kernel
theorem dX9_hiddenNow_45 : decode cX9_hiddenNow 45 = .ok (.getfield 50, 3) := by decide +kernel
theorem dX9_hiddenNow_48 : decode cX9_hiddenNow 48 = .ok (.iload 4, 2) := by decide +kernel
theorem dX9_hiddenNow_50 : decode cX9_hiddenNow 50 = .ok (.iaload, 1) := by decide +kernel
theorem dX9_hiddenNow_51 : decode cX9_hiddenNow 51 = .ok (.iload_n 2, 1) := by decide +kernel
theorem dX9_hiddenNow_52 : decode cX9_hiddenNow 52 = .ok (.if_icmp .ne 77, 3) := by decide +kernel
theorem dX9_hiddenNow_55 : decode cX9_hiddenNow 55 = .ok (.aload_n 0, 1) := by decide +kernel
theorem dX9_hiddenNow_56 : decode cX9_hiddenNow 56 = .ok (.iload 4, 2) := by decide +kernel
theorem dX9_hiddenNow_58 : decode cX9_hiddenNow 58 = .ok (.invokevirtual 194, 3) := by decide +kernel
theorem dX9_hiddenNow_61 : decode cX9_hiddenNow 61 = .ok (.iconst (-1), 1) := by decide +kernel
theorem dX9_hiddenNow_62 : decode cX9_hiddenNow 62 = .ok (.if_icmp .eq 67, 3) := by decide +kernel
theorem dX9_hiddenNow_65 : decode cX9_hiddenNow 65 = .ok (.aload_n 0, 1) := by decide +kernel
theorem dX9_hiddenNow_66 : decode cX9_hiddenNow 66 = .ok (.iload 4, 2) := by decide +kernel
theorem dX9_hiddenNow_68 : decode cX9_hiddenNow 68 = .ok (.invokevirtual 194, 3) := by decide +kernel
theorem dX9_hiddenNow_71 : decode cX9_hiddenNow 71 = .ok (.iload_n 1, 1) := by decide +kernel
theorem dX9_hiddenNow_72 : decode cX9_hiddenNow 72 = .ok (.if_icmp .eq 20, 3) := by decide +kernel
theorem dX9_hiddenNow_75 : decode cX9_hiddenNow 75 = .ok (.aload_n 0, 1) := by decide +kernel
theorem dX9_hiddenNow_76 : decode cX9_hiddenNow 76 = .ok (.aload_n 0, 1) := by decide +kernel
theorem dX9_hiddenNow_77 : decode cX9_hiddenNow 77 = .ok (.iload 4, 2) := by decide +kernel
theorem dX9_hiddenNow_79 : decode cX9_hiddenNow 79 = .ok (.invokevirtual 194, 3) := by decide +kernel
theorem dX9_hiddenNow_82 : decode cX9_hiddenNow 82 = .ok (.iload_n 1, 1) := by decide +kernel
theorem dX9_hiddenNow_83 : decode cX9_hiddenNow 83 = .ok (.invokevirtual 203, 3) := by decide +kernel
theorem dX9_hiddenNow_86 : decode cX9_hiddenNow 86 = .ok (.ifCond .ne 6, 3) := by decide +kernel
theorem dX9_hiddenNow_89 : decode cX9_hiddenNow 89 = .ok (.goto 40, 3) := by decide +kernel
theorem dX9_hiddenNow_92 : decode cX9_hiddenNow 92 = .ok (.aload_n 0, 1) := by decide +kernel
theorem dX9_hiddenNow_93 : decode cX9_hiddenNow 93 = .ok (.aload_n 0, 1) := by decide +kernel
theorem dX9_hiddenNow_94 : decode cX9_hiddenNow 94 = .ok (.iload 4, 2) := by decide +kernel
theorem dX9_hiddenNow_96 : decode cX9_hiddenNow 96 = .ok (.invokevirtual 194, 3) := by decide +kernel
theorem dX9_hiddenNow_99 : decode cX9_hiddenNow 99 = .ok (.iload_n 2, 1) := by decide +kernel
theorem dX9_hiddenNow_100 : decode cX9_hiddenNow 100 = .ok (.invokevirtual 143, 3) := by decide +kernel
theorem dX9_hiddenNow_103 : decode cX9_hiddenNow 103 = .ok (.istore 5, 2) := by decide +kernel
theorem dX9_hiddenNow_105 : decode cX9_hiddenNow 105 = .ok (.iload_n 3, 1) := by decide +kernel
theorem dX9_hiddenNow_106 : decode cX9_hiddenNow 106 = .ok (.iload 5, 2) := by decide +kernel
theorem dX9_hiddenNow_108 : decode cX9_hiddenNow 108 = .ok (.iconst (-1), 1) := by decide +kernel
theorem dX9_hiddenNow_109 : decode cX9_hiddenNow 109 = .ok (.if_icmp .eq 13, 3) := by decide +kernel
theorem dX9_hiddenNow_112 : decode cX9_hiddenNow 112 = .ok (.aload_n 0, 1) := by decide +kernel
theorem dX9_hiddenNow_113 : decode cX9_hiddenNow 113 = .ok (.iload_n 1, 1) := by decide +kernel
theorem dX9_hiddenNow_114 : decode cX9_hiddenNow 114 = .ok (.iload 5, 2) := by decide +kernel
theorem dX9_hiddenNow_116 : decode cX9_hiddenNow 116 = .ok (.invokevirtual 203, 3) := by decide +kernel
theorem dX9_hiddenNow_119 : decode cX9_hiddenNow 119 = .ok (.ifCond .eq 7, 3) := by decide +kernel
theorem dX9_hiddenNow_122 : decode cX9_hiddenNow 122 = .ok (.iconst 1, 1) := by decide +kernel
theorem dX9_hiddenNow_123 : decode cX9_hiddenNow 123 = .ok (.goto 4, 3) := by decide +kernel
theorem dX9_hiddenNow_126 : decode cX9_hiddenNow 126 = .ok (.iconst 0, 1) := by decide +kernel
theorem dX9_hiddenNow_127 : decode cX9_hiddenNow 127 = .ok (.iadd, 1) := by decide +kernel
theorem dX9_hiddenNow_128 : decode cX9_hiddenNow 128 = .ok (.istore_n 3, 1) := by decide +kernel
theorem dX9_hiddenNow_129 : decode cX9_hiddenNow 129 = .ok (.iinc 4 1, 3) := by decide +kernel
theorem dX9_hiddenNow_132 : decode cX9_hiddenNow 132 = .ok (.goto (-110), 3) := by decide +kernel
theorem dX9_hiddenNow_135 : decode cX9_hiddenNow 135 = .ok (.iload_n 3, 1) := by decide +kernel
theorem dX9_hiddenNow_136 : decode cX9_hiddenNow 136 = .ok (.ireturn, 1) := by decide +kernel
theorem dX9_hiddenBy_0 : decode cX9_hiddenBy 0 = .ok (.aload_n 0, 1) := by decide +kernel
theorem dX9_hiddenBy_1 : decode cX9_hiddenBy 1 = .ok (.iconst 0, 1) := by decide +kernel
theorem dX9_hiddenBy_2 : decode cX9_hiddenBy 2 = .ok (.putfield 114, 3) := by decide +kernel
theorem dX9_hiddenBy_5 : decode cX9_hiddenBy 5 = .ok (.aload_n 0, 1) := by decide +kernel
theorem dX9_hiddenBy_6 : decode cX9_hiddenBy 6 = .ok (.iload_n 1, 1) := by decide +kernel
theorem dX9_hiddenBy_7 : decode cX9_hiddenBy 7 = .ok (.invokevirtual 124, 3) := by decide +kernel
theorem dX9_hiddenBy_10 : decode cX9_hiddenBy 10 = .ok (.ifCond .ne 9, 3) := by decide +kernel
theorem dX9_hiddenBy_13 : decode cX9_hiddenBy 13 = .ok (.aload_n 0, 1) := by decide +kernel
theorem dX9_hiddenBy_14 : decode cX9_hiddenBy 14 = .ok (.iconst 1, 1) := by decide +kernel
theorem dX9_hiddenBy_15 : decode cX9_hiddenBy 15 = .ok (.invokevirtual 128, 3) := by decide +kernel
theorem dX9_hiddenBy_18 : decode cX9_hiddenBy 18 = .ok (.ireturn, 1) := by decide +kernel
theorem dX9_hiddenBy_19 : decode cX9_hiddenBy 19 = .ok (.iload_n 2, 1) := by decide +kernel
theorem dX9_hiddenBy_20 : decode cX9_hiddenBy 20 = .ok (.invokestatic 132, 3) := by decide +kernel
theorem dX9_hiddenBy_23 : decode cX9_hiddenBy 23 = .ok (.ifCond .eq 12, 3) := by decide +kernel
theorem dX9_hiddenBy_26 : decode cX9_hiddenBy 26 = .ok (.aload_n 0, 1) := by decide +kernel
theorem dX9_hiddenBy_27 : decode cX9_hiddenBy 27 = .ok (.iload_n 1, 1) := by decide +kernel
theorem dX9_hiddenBy_28 : decode cX9_hiddenBy 28 = .ok (.iload_n 2, 1) := by decide +kernel
theorem dX9_hiddenBy_29 : decode cX9_hiddenBy 29 = .ok (.invokevirtual 497, 3) := by decide +kernel
theorem dX9_hiddenBy_32 : decode cX9_hiddenBy 32 = .ok (.goto 8, 3) := by decide +kernel
theorem dX9_hiddenBy_35 : decode cX9_hiddenBy 35 = .ok (.aload_n 0, 1) := by decide +kernel
theorem dX9_hiddenBy_36 : decode cX9_hiddenBy 36 = .ok (.iconst 2, 1) := by decide +kernel
theorem dX9_hiddenBy_37 : decode cX9_hiddenBy 37 = .ok (.invokevirtual 128, 3) := by decide +kernel
theorem dX9_hiddenBy_40 : decode cX9_hiddenBy 40 = .ok (.ireturn, 1) := by decide +kernel
theorem dX9_digest_0 : decode cX9_digest 0 = .ok (.aload_n 0, 1) := by decide +kernel
theorem dX9_digest_1 : decode cX9_digest 1 = .ok (.iconst 0, 1) := by decide +kernel
theorem dX9_digest_2 : decode cX9_digest 2 = .ok (.putfield 114, 3) := by decide +kernel
theorem dX9_digest_5 : decode cX9_digest 5 = .ok (.ldc2_w 500, 3) := by decide +kernel
theorem dX9_digest_8 : decode cX9_digest 8 = .ok (.lstore_n 1, 1) := by decide +kernel
theorem dX9_digest_9 : decode cX9_digest 9 = .ok (.aload_n 0, 1) := by decide +kernel
theorem dX9_digest_10 : decode cX9_digest 10 = .ok (.invokevirtual 227, 3) := by decide +kernel
theorem dX9_digest_13 : decode cX9_digest 13 = .ok (.istore_n 3, 1) := by decide +kernel
theorem dX9_digest_14 : decode cX9_digest 14 = .ok (.iconst 0, 1) := by decide +kernel
theorem dX9_digest_15 : decode cX9_digest 15 = .ok (.istore 4, 2) := by decide +kernel
theorem dX9_digest_17 : decode cX9_digest 17 = .ok (.iload 4, 2) := by decide +kernel
theorem dX9_digest_19 : decode cX9_digest 19 = .ok (.bipush 11, 2) := by decide +kernel
theorem dX9_digest_21 : decode cX9_digest 21 = .ok (.if_icmp .ge 23, 3) := by decide +kernel
theorem dX9_digest_24 : decode cX9_digest 24 = .ok (.lload_n 1, 1) := by decide +kernel
theorem dX9_digest_25 : decode cX9_digest 25 = .ok (.ldc2_w 502, 3) := by decide +kernel
theorem dX9_digest_28 : decode cX9_digest 28 = .ok (.lmul, 1) := by decide +kernel
theorem dX9_digest_29 : decode cX9_digest 29 = .ok (.aload_n 0, 1) := by decide +kernel
theorem dX9_digest_30 : decode cX9_digest 30 = .ok (.iload 4, 2) := by decide +kernel
theorem dX9_digest_32 : decode cX9_digest 32 = .ok (.invokevirtual 494, 3) := by decide +kernel
theorem dX9_digest_35 : decode cX9_digest 35 = .ok (.i2l, 1) := by decide +kernel
theorem dX9_digest_36 : decode cX9_digest 36 = .ok (.ladd, 1) := by decide +kernel
theorem dX9_digest_37 : decode cX9_digest 37 = .ok (.lstore_n 1, 1) := by decide +kernel
theorem dX9_digest_38 : decode cX9_digest 38 = .ok (.iinc 4 1, 3) := by decide +kernel
theorem dX9_digest_41 : decode cX9_digest 41 = .ok (.goto (-24), 3) := by decide +kernel
theorem dX9_digest_44 : decode cX9_digest 44 = .ok (.iconst 0, 1) := by decide +kernel
theorem dX9_digest_45 : decode cX9_digest 45 = .ok (.istore 4, 2) := by decide +kernel
theorem dX9_digest_47 : decode cX9_digest 47 = .ok (.iload 4, 2) := by decide +kernel
theorem dX9_digest_49 : decode cX9_digest 49 = .ok (.aload_n 0, 1) := by decide +kernel
theorem dX9_digest_50 : decode cX9_digest 50 = .ok (.getfield 7, 3) := by decide +kernel
theorem dX9_digest_53 : decode cX9_digest 53 = .ok (.if_icmp .ge 139, 3) := by decide +kernel
theorem dX9_digest_56 : decode cX9_digest 56 = .ok (.iconst 0, 1) := by decide +kernel
theorem dX9_digest_57 : decode cX9_digest 57 = .ok (.istore 5, 2) := by decide +kernel
theorem dX9_digest_59 : decode cX9_digest 59 = .ok (.iload 5, 2) := by decide +kernel
theorem dX9_digest_61 : decode cX9_digest 61 = .ok (.bipush 8, 2) := by decide +kernel
theorem dX9_digest_63 : decode cX9_digest 63 = .ok (.if_icmp .ge 25, 3) := by decide +kernel
theorem dX9_digest_66 : decode cX9_digest 66 = .ok (.lload_n 1, 1) := by decide +kernel
theorem dX9_digest_67 : decode cX9_digest 67 = .ok (.ldc2_w 502, 3) := by decide +kernel
theorem dX9_digest_70 : decode cX9_digest 70 = .ok (.lmul, 1) := by decide +kernel
theorem dX9_digest_71 : decode cX9_digest 71 = .ok (.aload_n 0, 1) := by decide +kernel
theorem dX9_digest_72 : decode cX9_digest 72 = .ok (.iload 4, 2) := by decide +kernel
theorem dX9_digest_74 : decode cX9_digest 74 = .ok (.iload 5, 2) := by decide +kernel
theorem dX9_digest_76 : decode cX9_digest 76 = .ok (.invokevirtual 234, 3) := by decide +kernel
theorem dX9_digest_79 : decode cX9_digest 79 = .ok (.i2l, 1) := by decide +kernel
theorem dX9_digest_80 : decode cX9_digest 80 = .ok (.ladd, 1) := by decide +kernel
theorem dX9_digest_81 : decode cX9_digest 81 = .ok (.lstore_n 1, 1) := by decide +kernel
theorem dX9_digest_82 : decode cX9_digest 82 = .ok (.iinc 5 1, 3) := by decide +kernel
theorem dX9_digest_85 : decode cX9_digest 85 = .ok (.goto (-26), 3) := by decide +kernel
theorem dX9_digest_88 : decode cX9_digest 88 = .ok (.iconst 0, 1) := by decide +kernel
theorem dX9_digest_89 : decode cX9_digest 89 = .ok (.istore 5, 2) := by decide +kernel
theorem dX9_digest_91 : decode cX9_digest 91 = .ok (.iload 5, 2) := by decide +kernel
theorem dX9_digest_93 : decode cX9_digest 93 = .ok (.bipush 8, 2) := by decide +kernel
theorem dX9_digest_95 : decode cX9_digest 95 = .ok (.if_icmp .ge 25, 3) := by decide +kernel
theorem dX9_digest_98 : decode cX9_digest 98 = .ok (.lload_n 1, 1) := by decide +kernel
theorem dX9_digest_99 : decode cX9_digest 99 = .ok (.ldc2_w 502, 3) := by decide +kernel
theorem dX9_digest_102 : decode cX9_digest 102 = .ok (.lmul, 1) := by decide +kernel
theorem dX9_digest_103 : decode cX9_digest 103 = .ok (.aload_n 0, 1) := by decide +kernel
theorem dX9_digest_104 : decode cX9_digest 104 = .ok (.iload 4, 2) := by decide +kernel
theorem dX9_digest_106 : decode cX9_digest 106 = .ok (.iload 5, 2) := by decide +kernel
theorem dX9_digest_108 : decode cX9_digest 108 = .ok (.invokevirtual 497, 3) := by decide +kernel
theorem dX9_digest_111 : decode cX9_digest 111 = .ok (.i2l, 1) := by decide +kernel
theorem dX9_digest_112 : decode cX9_digest 112 = .ok (.ladd, 1) := by decide +kernel
theorem dX9_digest_113 : decode cX9_digest 113 = .ok (.lstore_n 1, 1) := by decide +kernel
theorem dX9_digest_114 : decode cX9_digest 114 = .ok (.iinc 5 1, 3) := by decide +kernel
theorem dX9_digest_117 : decode cX9_digest 117 = .ok (.goto (-26), 3) := by decide +kernel
theorem dX9_digest_120 : decode cX9_digest 120 = .ok (.iload_n 3, 1) := by decide +kernel
theorem dX9_digest_121 : decode cX9_digest 121 = .ok (.ifCond .le 6, 3) := by decide +kernel
theorem dX9_digest_124 : decode cX9_digest 124 = .ok (.goto 62, 3) := by decide +kernel
theorem dX9_digest_127 : decode cX9_digest 127 = .ok (.aload_n 0, 1) := by decide +kernel
theorem dX9_digest_128 : decode cX9_digest 128 = .ok (.iload 4, 2) := by decide +kernel
theorem dX9_digest_130 : decode cX9_digest 130 = .ok (.aload_n 0, 1) := by decide +kernel
theorem dX9_digest_131 : decode cX9_digest 131 = .ok (.getfield 65, 3) := by decide +kernel
theorem dX9_digest_134 : decode cX9_digest 134 = .ok (.invokevirtual 231, 3) := by decide +kernel
theorem dX9_digest_137 : decode cX9_digest 137 = .ok (.istore 5, 2) := by decide +kernel
theorem dX9_digest_139 : decode cX9_digest 139 = .ok (.iconst 0, 1) := by decide +kernel
theorem dX9_digest_140 : decode cX9_digest 140 = .ok (.istore 6, 2) := by decide +kernel
theorem dX9_digest_142 : decode cX9_digest 142 = .ok (.iload 6, 2) := by decide +kernel
theorem dX9_digest_144 : decode cX9_digest 144 = .ok (.iload 5, 2) := by decide +kernel
theorem dX9_digest_146 : decode cX9_digest 146 = .ok (.if_icmp .ge 40, 3) := by decide +kernel
theorem dX9_digest_149 : decode cX9_digest 149 = .ok (.iconst 0, 1) := by decide +kernel
theorem dX9_digest_150 : decode cX9_digest 150 = .ok (.istore 7, 2) := by decide +kernel
theorem dX9_digest_152 : decode cX9_digest 152 = .ok (.iload 7, 2) := by decide +kernel
theorem dX9_digest_154 : decode cX9_digest 154 = .ok (.iconst 4, 1) := by decide +kernel
theorem dX9_digest_155 : decode cX9_digest 155 = .ok (.if_icmp .ge 25, 3) := by decide +kernel
theorem dX9_digest_158 : decode cX9_digest 158 = .ok (.lload_n 1, 1) := by decide +kernel
theorem dX9_digest_159 : decode cX9_digest 159 = .ok (.ldc2_w 502, 3) := by decide +kernel
theorem dX9_digest_162 : decode cX9_digest 162 = .ok (.lmul, 1) := by decide +kernel
theorem dX9_digest_163 : decode cX9_digest 163 = .ok (.aload_n 0, 1) := by decide +kernel
theorem dX9_digest_164 : decode cX9_digest 164 = .ok (.iload 6, 2) := by decide +kernel
theorem dX9_digest_166 : decode cX9_digest 166 = .ok (.iload 7, 2) := by decide +kernel
theorem dX9_digest_168 : decode cX9_digest 168 = .ok (.invokevirtual 328, 3) := by decide +kernel
theorem dX9_digest_171 : decode cX9_digest 171 = .ok (.i2l, 1) := by decide +kernel
theorem dX9_digest_172 : decode cX9_digest 172 = .ok (.ladd, 1) := by decide +kernel
theorem dX9_digest_173 : decode cX9_digest 173 = .ok (.lstore_n 1, 1) := by decide +kernel
theorem dX9_digest_174 : decode cX9_digest 174 = .ok (.iinc 7 1, 3) := by decide +kernel
theorem dX9_digest_177 : decode cX9_digest 177 = .ok (.goto (-25), 3) := by decide +kernel
theorem dX9_digest_180 : decode cX9_digest 180 = .ok (.iinc 6 1, 3) := by decide +kernel
theorem dX9_digest_183 : decode cX9_digest 183 = .ok (.goto (-41), 3) := by decide +kernel
theorem dX9_digest_186 : decode cX9_digest 186 = .ok (.iinc 4 1, 3) := by decide +kernel
theorem dX9_digest_189 : decode cX9_digest 189 = .ok (.goto (-142), 3) := by decide +kernel
theorem dX9_digest_192 : decode cX9_digest 192 = .ok (.iconst 0, 1) := by decide +kernel
theorem dX9_digest_193 : decode cX9_digest 193 = .ok (.istore 4, 2) := by decide +kernel
theorem dX9_digest_195 : decode cX9_digest 195 = .ok (.iload 4, 2) := by decide +kernel
theorem dX9_digest_197 : decode cX9_digest 197 = .ok (.aload_n 0, 1) := by decide +kernel
theorem dX9_digest_198 : decode cX9_digest 198 = .ok (.getfield 121, 3) := by decide +kernel
theorem dX9_digest_201 : decode cX9_digest 201 = .ok (.if_icmp .ge 41, 3) := by decide +kernel
theorem dX9_digest_204 : decode cX9_digest 204 = .ok (.iconst 4, 1) := by decide +kernel
theorem dX9_digest_205 : decode cX9_digest 205 = .ok (.istore 5, 2) := by decide +kernel
theorem dX9_digest_207 : decode cX9_digest 207 = .ok (.iload 5, 2) := by decide +kernel
theorem dX9_digest_209 : decode cX9_digest 209 = .ok (.bipush 8, 2) := by decide +kernel
theorem dX9_digest_211 : decode cX9_digest 211 = .ok (.if_icmp .ge 25, 3) := by decide +kernel
theorem dX9_digest_214 : decode cX9_digest 214 = .ok (.lload_n 1, 1) := by decide +kernel
theorem dX9_digest_215 : decode cX9_digest 215 = .ok (.ldc2_w 502, 3) := by decide +kernel
theorem dX9_digest_218 : decode cX9_digest 218 = .ok (.lmul, 1) := by decide +kernel
theorem dX9_digest_219 : decode cX9_digest 219 = .ok (.aload_n 0, 1) := by decide +kernel
theorem dX9_digest_220 : decode cX9_digest 220 = .ok (.iload 4, 2) := by decide +kernel
theorem dX9_digest_222 : decode cX9_digest 222 = .ok (.iload 5, 2) := by decide +kernel
theorem dX9_digest_224 : decode cX9_digest 224 = .ok (.invokevirtual 240, 3) := by decide +kernel
theorem dX9_digest_227 : decode cX9_digest 227 = .ok (.i2l, 1) := by decide +kernel
theorem dX9_digest_228 : decode cX9_digest 228 = .ok (.ladd, 1) := by decide +kernel
theorem dX9_digest_229 : decode cX9_digest 229 = .ok (.lstore_n 1, 1) := by decide +kernel
theorem dX9_digest_230 : decode cX9_digest 230 = .ok (.iinc 5 1, 3) := by decide +kernel
theorem dX9_digest_233 : decode cX9_digest 233 = .ok (.goto (-26), 3) := by decide +kernel
theorem dX9_digest_236 : decode cX9_digest 236 = .ok (.iinc 4 1, 3) := by decide +kernel
theorem dX9_digest_239 : decode cX9_digest 239 = .ok (.goto (-44), 3) := by decide +kernel
theorem dX9_digest_242 : decode cX9_digest 242 = .ok (.iconst 0, 1) := by decide +kernel
theorem dX9_digest_243 : decode cX9_digest 243 = .ok (.istore 4, 2) := by decide +kernel
theorem dX9_digest_245 : decode cX9_digest 245 = .ok (.iload 4, 2) := by decide +kernel
theorem dX9_digest_247 : decode cX9_digest 247 = .ok (.iload_n 3, 1) := by decide +kernel
theorem dX9_digest_248 : decode cX9_digest 248 = .ok (.if_icmp .ge 40, 3) := by decide +kernel
theorem dX9_digest_251 : decode cX9_digest 251 = .ok (.iconst 0, 1) := by decide +kernel
theorem dX9_digest_252 : decode cX9_digest 252 = .ok (.istore 5, 2) := by decide +kernel
theorem dX9_digest_254 : decode cX9_digest 254 = .ok (.iload 5, 2) := by decide +kernel
theorem dX9_digest_256 : decode cX9_digest 256 = .ok (.iconst 3, 1) := by decide +kernel
theorem dX9_digest_257 : decode cX9_digest 257 = .ok (.if_icmp .ge 25, 3) := by decide +kernel
theorem dX9_digest_260 : decode cX9_digest 260 = .ok (.lload_n 1, 1) := by decide +kernel
theorem dX9_digest_261 : decode cX9_digest 261 = .ok (.ldc2_w 502, 3) := by decide +kernel
theorem dX9_digest_264 : decode cX9_digest 264 = .ok (.lmul, 1) := by decide +kernel
theorem dX9_digest_265 : decode cX9_digest 265 = .ok (.aload_n 0, 1) := by decide +kernel
theorem dX9_digest_266 : decode cX9_digest 266 = .ok (.iload 4, 2) := by decide +kernel
theorem dX9_digest_268 : decode cX9_digest 268 = .ok (.iload 5, 2) := by decide +kernel
theorem dX9_digest_270 : decode cX9_digest 270 = .ok (.invokevirtual 280, 3) := by decide +kernel
theorem dX9_digest_273 : decode cX9_digest 273 = .ok (.i2l, 1) := by decide +kernel
theorem dX9_digest_274 : decode cX9_digest 274 = .ok (.ladd, 1) := by decide +kernel
theorem dX9_digest_275 : decode cX9_digest 275 = .ok (.lstore_n 1, 1) := by decide +kernel
theorem dX9_digest_276 : decode cX9_digest 276 = .ok (.iinc 5 1, 3) := by decide +kernel
theorem dX9_digest_279 : decode cX9_digest 279 = .ok (.goto (-25), 3) := by decide +kernel
theorem dX9_digest_282 : decode cX9_digest 282 = .ok (.iinc 4 1, 3) := by decide +kernel
theorem dX9_digest_285 : decode cX9_digest 285 = .ok (.goto (-40), 3) := by decide +kernel
theorem dX9_digest_288 : decode cX9_digest 288 = .ok (.iconst 0, 1) := by decide +kernel
theorem dX9_digest_289 : decode cX9_digest 289 = .ok (.istore 4, 2) := by decide +kernel
theorem dX9_digest_291 : decode cX9_digest 291 = .ok (.iload 4, 2) := by decide +kernel
theorem dX9_digest_293 : decode cX9_digest 293 = .ok (.bipush 10, 2) := by decide +kernel
theorem dX9_digest_295 : decode cX9_digest 295 = .ok (.if_icmp .ge 24, 3) := by decide +kernel
theorem dX9_digest_298 : decode cX9_digest 298 = .ok (.lload_n 1, 1) := by decide +kernel
theorem dX9_digest_299 : decode cX9_digest 299 = .ok (.ldc2_w 502, 3) := by decide +kernel
theorem dX9_digest_302 : decode cX9_digest 302 = .ok (.lmul, 1) := by decide +kernel
theorem dX9_digest_303 : decode cX9_digest 303 = .ok (.aload_n 0, 1) := by decide +kernel
theorem dX9_digest_304 : decode cX9_digest 304 = .ok (.getfield 74, 3) := by decide +kernel
theorem dX9_digest_307 : decode cX9_digest 307 = .ok (.iload 4, 2) := by decide +kernel
theorem dX9_digest_309 : decode cX9_digest 309 = .ok (.iaload, 1) := by decide +kernel
theorem dX9_digest_310 : decode cX9_digest 310 = .ok (.i2l, 1) := by decide +kernel
theorem dX9_digest_311 : decode cX9_digest 311 = .ok (.ladd, 1) := by decide +kernel
theorem dX9_digest_312 : decode cX9_digest 312 = .ok (.lstore_n 1, 1) := by decide +kernel
theorem dX9_digest_313 : decode cX9_digest 313 = .ok (.iinc 4 1, 3) := by decide +kernel
theorem dX9_digest_316 : decode cX9_digest 316 = .ok (.goto (-25), 3) := by decide +kernel
theorem dX9_digest_319 : decode cX9_digest 319 = .ok (.lload_n 1, 1) := by decide +kernel
theorem dX9_digest_320 : decode cX9_digest 320 = .ok (.ldc2_w 502, 3) := by decide +kernel
theorem dX9_digest_323 : decode cX9_digest 323 = .ok (.lmul, 1) := by decide +kernel
theorem dX9_digest_324 : decode cX9_digest 324 = .ok (.aload_n 0, 1) := by decide +kernel
theorem dX9_digest_325 : decode cX9_digest 325 = .ok (.getfield 488, 3) := by decide +kernel
theorem dX9_digest_328 : decode cX9_digest 328 = .ok (.i2l, 1) := by decide +kernel
theorem dX9_digest_329 : decode cX9_digest 329 = .ok (.ladd, 1) := by decide +kernel
theorem dX9_digest_330 : decode cX9_digest 330 = .ok (.lstore_n 1, 1) := by decide +kernel
theorem dX9_digest_331 : decode cX9_digest 331 = .ok (.aload_n 0, 1) := by decide +kernel
theorem dX9_digest_332 : decode cX9_digest 332 = .ok (.getfield 77, 3) := by decide +kernel
theorem dX9_digest_335 : decode cX9_digest 335 = .ok (.astore 4, 2) := by decide +kernel
theorem dX9_digest_337 : decode cX9_digest 337 = .ok (.aload 4, 2) := by decide +kernel
theorem dX9_digest_339 : decode cX9_digest 339 = .ok (.arraylength, 1) := by decide +kernel
theorem dX9_digest_340 : decode cX9_digest 340 = .ok (.istore 5, 2) := by decide +kernel
theorem dX9_digest_342 : decode cX9_digest 342 = .ok (.iconst 0, 1) := by decide +kernel
theorem dX9_digest_343 : decode cX9_digest 343 = .ok (.istore 6, 2) := by decide +kernel
theorem dX9_digest_345 : decode cX9_digest 345 = .ok (.iload 6, 2) := by decide +kernel
theorem dX9_digest_347 : decode cX9_digest 347 = .ok (.iload 5, 2) := by decide +kernel
theorem dX9_digest_349 : decode cX9_digest 349 = .ok (.if_icmp .ge 26, 3) := by decide +kernel
theorem dX9_digest_352 : decode cX9_digest 352 = .ok (.aload 4, 2) := by decide +kernel
theorem dX9_digest_354 : decode cX9_digest 354 = .ok (.iload 6, 2) := by decide +kernel
theorem dX9_digest_356 : decode cX9_digest 356 = .ok (.iaload, 1) := by decide +kernel
theorem dX9_digest_357 : decode cX9_digest 357 = .ok (.istore 7, 2) := by decide +kernel
theorem dX9_digest_359 : decode cX9_digest 359 = .ok (.lload_n 1, 1) := by decide +kernel
theorem dX9_digest_360 : decode cX9_digest 360 = .ok (.ldc2_w 502, 3) := by decide +kernel
theorem dX9_digest_363 : decode cX9_digest 363 = .ok (.lmul, 1) := by decide +kernel
theorem dX9_digest_364 : decode cX9_digest 364 = .ok (.iload 7, 2) := by decide +kernel
theorem dX9_digest_366 : decode cX9_digest 366 = .ok (.i2l, 1) := by decide +kernel
theorem dX9_digest_367 : decode cX9_digest 367 = .ok (.ladd, 1) := by decide +kernel
theorem dX9_digest_368 : decode cX9_digest 368 = .ok (.lstore_n 1, 1) := by decide +kernel
theorem dX9_digest_369 : decode cX9_digest 369 = .ok (.iinc 6 1, 3) := by decide +kernel
theorem dX9_digest_372 : decode cX9_digest 372 = .ok (.goto (-27), 3) := by decide +kernel
theorem dX9_digest_375 : decode cX9_digest 375 = .ok (.iload_n 3, 1) := by decide +kernel
theorem dX9_digest_376 : decode cX9_digest 376 = .ok (.ifCond .le 5, 3) := by decide +kernel
theorem dX9_digest_379 : decode cX9_digest 379 = .ok (.lload_n 1, 1) := by decide +kernel
theorem dX9_digest_380 : decode cX9_digest 380 = .ok (.lreturn, 1) := by decide +kernel
theorem dX9_digest_381 : decode cX9_digest 381 = .ok (.aload_n 0, 1) := by decide +kernel
theorem dX9_digest_382 : decode cX9_digest 382 = .ok (.aload_n 0, 1) := by decide +kernel
theorem dX9_digest_383 : decode cX9_digest 383 = .ok (.getfield 68, 3) := by decide +kernel
theorem dX9_digest_386 : decode cX9_digest 386 = .ok (.aload_n 0, 1) := by decide +kernel
theorem dX9_digest_387 : decode cX9_digest 387 = .ok (.getfield 71, 3) := by decide +kernel
theorem dX9_digest_390 : decode cX9_digest 390 = .ok (.iconst 0, 1) := by decide +kernel
theorem dX9_digest_391 : decode cX9_digest 391 = .ok (.invokevirtual 478, 3) := by decide +kernel
theorem dX9_digest_394 : decode cX9_digest 394 = .ok (.astore 4, 2) := by decide +kernel
theorem dX9_digest_396 : decode cX9_digest 396 = .ok (.lload_n 1, 1) := by decide +kernel
theorem dX9_digest_397 : decode cX9_digest 397 = .ok (.ldc2_w 502, 3) := by decide +kernel
theorem dX9_digest_400 : decode cX9_digest 400 = .ok (.lmul, 1) := by decide +kernel
theorem dX9_digest_401 : decode cX9_digest 401 = .ok (.aload_n 0, 1) := by decide +kernel
theorem dX9_digest_402 : decode cX9_digest 402 = .ok (.iconst 0, 1) := by decide +kernel
theorem dX9_digest_403 : decode cX9_digest 403 = .ok (.invokevirtual 491, 3) := by decide +kernel
theorem dX9_digest_406 : decode cX9_digest 406 = .ok (.i2l, 1) := by decide +kernel
theorem dX9_digest_407 : decode cX9_digest 407 = .ok (.ladd, 1) := by decide +kernel
theorem dX9_digest_408 : decode cX9_digest 408 = .ok (.ldc2_w 502, 3) := by decide +kernel
theorem dX9_digest_411 : decode cX9_digest 411 = .ok (.lmul, 1) := by decide +kernel
theorem dX9_digest_412 : decode cX9_digest 412 = .ok (.aload 4, 2) := by decide +kernel
theorem dX9_digest_414 : decode cX9_digest 414 = .ok (.bipush 6, 2) := by decide +kernel
theorem dX9_digest_416 : decode cX9_digest 416 = .ok (.iaload, 1) := by decide +kernel
theorem dX9_digest_417 : decode cX9_digest 417 = .ok (.i2l, 1) := by decide +kernel
theorem dX9_digest_418 : decode cX9_digest 418 = .ok (.ladd, 1) := by decide +kernel
theorem dX9_digest_419 : decode cX9_digest 419 = .ok (.ldc2_w 502, 3) := by decide +kernel
theorem dX9_digest_422 : decode cX9_digest 422 = .ok (.lmul, 1) := by decide +kernel
theorem dX9_digest_423 : decode cX9_digest 423 = .ok (.aload 4, 2) := by decide +kernel
theorem dX9_digest_425 : decode cX9_digest 425 = .ok (.bipush 7, 2) := by decide +kernel
theorem dX9_digest_427 : decode cX9_digest 427 = .ok (.iaload, 1) := by decide +kernel
theorem dX9_digest_428 : decode cX9_digest 428 = .ok (.i2l, 1) := by decide +kernel
theorem dX9_digest_429 : decode cX9_digest 429 = .ok (.ladd, 1) := by decide +kernel
theorem dX9_digest_430 : decode cX9_digest 430 = .ok (.lstore_n 1, 1) := by decide +kernel
theorem dX9_digest_431 : decode cX9_digest 431 = .ok (.aload_n 0, 1) := by decide +kernel
theorem dX9_digest_432 : decode cX9_digest 432 = .ok (.sipush 200, 3) := by decide +kernel
theorem dX9_digest_435 : decode cX9_digest 435 = .ok (.bipush 10, 2) := by decide +kernel
theorem dX9_digest_437 : decode cX9_digest 437 = .ok (.aload_n 0, 1) := by decide +kernel
theorem dX9_digest_438 : decode cX9_digest 438 = .ok (.getfield 65, 3) := by decide +kernel
theorem dX9_digest_441 : decode cX9_digest 441 = .ok (.invokevirtual 478, 3) := by decide +kernel
theorem dX9_digest_444 : decode cX9_digest 444 = .ok (.astore 5, 2) := by decide +kernel
theorem dX9_digest_446 : decode cX9_digest 446 = .ok (.aload 5, 2) := by decide +kernel
theorem dX9_digest_448 : decode cX9_digest 448 = .ok (.arraylength, 1) := by decide +kernel
theorem dX9_digest_449 : decode cX9_digest 449 = .ok (.istore 6, 2) := by decide +kernel
theorem dX9_digest_451 : decode cX9_digest 451 = .ok (.iconst 0, 1) := by decide +kernel
theorem dX9_digest_452 : decode cX9_digest 452 = .ok (.istore 7, 2) := by decide +kernel
theorem dX9_digest_454 : decode cX9_digest 454 = .ok (.iload 7, 2) := by decide +kernel
theorem dX9_digest_456 : decode cX9_digest 456 = .ok (.iload 6, 2) := by decide +kernel
theorem dX9_digest_458 : decode cX9_digest 458 = .ok (.if_icmp .ge 26, 3) := by decide +kernel
theorem dX9_digest_461 : decode cX9_digest 461 = .ok (.aload 5, 2) := by decide +kernel
theorem dX9_digest_463 : decode cX9_digest 463 = .ok (.iload 7, 2) := by decide +kernel
theorem dX9_digest_465 : decode cX9_digest 465 = .ok (.iaload, 1) := by decide +kernel
theorem dX9_digest_466 : decode cX9_digest 466 = .ok (.istore 8, 2) := by decide +kernel
theorem dX9_digest_468 : decode cX9_digest 468 = .ok (.lload_n 1, 1) := by decide +kernel
theorem dX9_digest_469 : decode cX9_digest 469 = .ok (.ldc2_w 502, 3) := by decide +kernel
theorem dX9_digest_472 : decode cX9_digest 472 = .ok (.lmul, 1) := by decide +kernel
theorem dX9_digest_473 : decode cX9_digest 473 = .ok (.iload 8, 2) := by decide +kernel
theorem dX9_digest_475 : decode cX9_digest 475 = .ok (.i2l, 1) := by decide +kernel
theorem dX9_digest_476 : decode cX9_digest 476 = .ok (.ladd, 1) := by decide +kernel
theorem dX9_digest_477 : decode cX9_digest 477 = .ok (.lstore_n 1, 1) := by decide +kernel
theorem dX9_digest_478 : decode cX9_digest 478 = .ok (.iinc 7 1, 3) := by decide +kernel
theorem dX9_digest_481 : decode cX9_digest 481 = .ok (.goto (-27), 3) := by decide +kernel
theorem dX9_digest_484 : decode cX9_digest 484 = .ok (.lload_n 1, 1) := by decide +kernel
theorem dX9_digest_485 : decode cX9_digest 485 = .ok (.lreturn, 1) := by decide +kernel
