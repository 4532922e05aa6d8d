theorem dX9_init_0 : decode cX9_init 0 = .ok (.aload_n 0, 1) := by decide +kernel
theorem dX9_init_1 : decode cX9_init 1 = .ok (.invokespecial 1, 3) := by decide +kernel
theorem dX9_init_4 : decode cX9_init 4 = .ok (.aload_n 0, 1) := by decide +kernel
theorem dX9_init_5 : decode cX9_init 5 = .ok (.iconst 1, 1) := by decide +kernel
theorem dX9_init_6 : decode cX9_init 6 = .ok (.putfield 7, 3) := by decide +kernel
theorem dX9_init_9 : decode cX9_init 9 = .ok (.aload_n 0, 1) := by decide +kernel
theorem dX9_init_10 : decode cX9_init 10 = .ok (.bipush 10, 2) := by decide +kernel
theorem dX9_init_12 : decode cX9_init 12 = .ok (.newarray .int, 2) := by decide +kernel
theorem dX9_init_14 : decode cX9_init 14 = .ok (.putfield 13, 3) := by decide +kernel
theorem dX9_init_17 : decode cX9_init 17 = .ok (.aload_n 0, 1) := by decide +kernel
theorem dX9_init_18 : decode cX9_init 18 = .ok (.bipush 10, 2) := by decide +kernel
theorem dX9_init_20 : decode cX9_init 20 = .ok (.newarray .int, 2) := by decide +kernel
theorem dX9_init_22 : decode cX9_init 22 = .ok (.putfield 17, 3) := by decide +kernel
theorem dX9_init_25 : decode cX9_init 25 = .ok (.aload_n 0, 1) := by decide +kernel
theorem dX9_init_26 : decode cX9_init 26 = .ok (.bipush 10, 2) := by decide +kernel
theorem dX9_init_28 : decode cX9_init 28 = .ok (.newarray .int, 2) := by decide +kernel
theorem dX9_init_30 : decode cX9_init 30 = .ok (.putfield 20, 3) := by decide +kernel
theorem dX9_init_33 : decode cX9_init 33 = .ok (.aload_n 0, 1) := by decide +kernel
theorem dX9_init_34 : decode cX9_init 34 = .ok (.bipush 10, 2) := by decide +kernel
theorem dX9_init_36 : decode cX9_init 36 = .ok (.newarray .int, 2) := by decide +kernel
theorem dX9_init_38 : decode cX9_init 38 = .ok (.putfield 23, 3) := by decide +kernel
theorem dX9_init_41 : decode cX9_init 41 = .ok (.aload_n 0, 1) := by decide +kernel
theorem dX9_init_42 : decode cX9_init 42 = .ok (.bipush 10, 2) := by decide +kernel
theorem dX9_init_44 : decode cX9_init 44 = .ok (.newarray .int, 2) := by decide +kernel
theorem dX9_init_46 : decode cX9_init 46 = .ok (.putfield 26, 3) := by decide +kernel
theorem dX9_init_49 : decode cX9_init 49 = .ok (.aload_n 0, 1) := by decide +kernel
theorem dX9_init_50 : decode cX9_init 50 = .ok (.bipush 10, 2) := by decide +kernel
theorem dX9_init_52 : decode cX9_init 52 = .ok (.newarray .int, 2) := by decide +kernel
theorem dX9_init_54 : decode cX9_init 54 = .ok (.putfield 29, 3) := by decide +kernel
theorem dX9_init_57 : decode cX9_init 57 = .ok (.aload_n 0, 1) := by decide +kernel
theorem dX9_init_58 : decode cX9_init 58 = .ok (.sipush 160, 3) := by decide +kernel
theorem dX9_init_61 : decode cX9_init 61 = .ok (.newarray .int, 2) := by decide +kernel
theorem dX9_init_63 : decode cX9_init 63 = .ok (.putfield 32, 3) := by decide +kernel
theorem dX9_init_66 : decode cX9_init 66 = .ok (.aload_n 0, 1) := by decide +kernel
theorem dX9_init_67 : decode cX9_init 67 = .ok (.sipush 160, 3) := by decide +kernel
theorem dX9_init_70 : decode cX9_init 70 = .ok (.newarray .int, 2) := by decide +kernel
theorem dX9_init_72 : decode cX9_init 72 = .ok (.putfield 35, 3) := by decide +kernel
theorem dX9_init_75 : decode cX9_init 75 = .ok (.aload_n 0, 1) := by decide +kernel
theorem dX9_init_76 : decode cX9_init 76 = .ok (.sipush 160, 3) := by decide +kernel
theorem dX9_init_79 : decode cX9_init 79 = .ok (.newarray .int, 2) := by decide +kernel
theorem dX9_init_81 : decode cX9_init 81 = .ok (.putfield 38, 3) := by decide +kernel
theorem dX9_init_84 : decode cX9_init 84 = .ok (.aload_n 0, 1) := by decide +kernel
theorem dX9_init_85 : decode cX9_init 85 = .ok (.bipush 100, 2) := by decide +kernel
theorem dX9_init_87 : decode cX9_init 87 = .ok (.newarray .int, 2) := by decide +kernel
theorem dX9_init_89 : decode cX9_init 89 = .ok (.putfield 41, 3) := by decide +kernel
theorem dX9_init_92 : decode cX9_init 92 = .ok (.aload_n 0, 1) := by decide +kernel
theorem dX9_init_93 : decode cX9_init 93 = .ok (.bipush 100, 2) := by decide +kernel
theorem dX9_init_95 : decode cX9_init 95 = .ok (.newarray .int, 2) := by decide +kernel
theorem dX9_init_97 : decode cX9_init 97 = .ok (.putfield 44, 3) := by decide +kernel
theorem dX9_init_100 : decode cX9_init 100 = .ok (.aload_n 0, 1) := by decide +kernel
theorem dX9_init_101 : decode cX9_init 101 = .ok (.bipush 110, 2) := by decide +kernel
theorem dX9_init_103 : decode cX9_init 103 = .ok (.newarray .int, 2) := by decide +kernel
theorem dX9_init_105 : decode cX9_init 105 = .ok (.putfield 47, 3) := by decide +kernel
theorem dX9_init_108 : decode cX9_init 108 = .ok (.aload_n 0, 1) := by decide +kernel
theorem dX9_init_109 : decode cX9_init 109 = .ok (.bipush 110, 2) := by decide +kernel
theorem dX9_init_111 : decode cX9_init 111 = .ok (.newarray .int, 2) := by decide +kernel
theorem dX9_init_113 : decode cX9_init 113 = .ok (.putfield 50, 3) := by decide +kernel
theorem dX9_init_116 : decode cX9_init 116 = .ok (.aload_n 0, 1) := by decide +kernel
theorem dX9_init_117 : decode cX9_init 117 = .ok (.bipush 110, 2) := by decide +kernel
theorem dX9_init_119 : decode cX9_init 119 = .ok (.newarray .int, 2) := by decide +kernel
theorem dX9_init_121 : decode cX9_init 121 = .ok (.putfield 53, 3) := by decide +kernel
theorem dX9_init_124 : decode cX9_init 124 = .ok (.aload_n 0, 1) := by decide +kernel
theorem dX9_init_125 : decode cX9_init 125 = .ok (.bipush 110, 2) := by decide +kernel
theorem dX9_init_127 : decode cX9_init 127 = .ok (.newarray .int, 2) := by decide +kernel
theorem dX9_init_129 : decode cX9_init 129 = .ok (.putfield 56, 3) := by decide +kernel
theorem dX9_init_132 : decode cX9_init 132 = .ok (.aload_n 0, 1) := by decide +kernel
theorem dX9_init_133 : decode cX9_init 133 = .ok (.bipush 110, 2) := by decide +kernel
theorem dX9_init_135 : decode cX9_init 135 = .ok (.newarray .int, 2) := by decide +kernel
theorem dX9_init_137 : decode cX9_init 137 = .ok (.putfield 59, 3) := by decide +kernel
theorem dX9_init_140 : decode cX9_init 140 = .ok (.aload_n 0, 1) := by decide +kernel
theorem dX9_init_141 : decode cX9_init 141 = .ok (.bipush 110, 2) := by decide +kernel
theorem dX9_init_143 : decode cX9_init 143 = .ok (.newarray .int, 2) := by decide +kernel
theorem dX9_init_145 : decode cX9_init 145 = .ok (.putfield 62, 3) := by decide +kernel
theorem dX9_init_148 : decode cX9_init 148 = .ok (.aload_n 0, 1) := by decide +kernel
theorem dX9_init_149 : decode cX9_init 149 = .ok (.bipush 7, 2) := by decide +kernel
theorem dX9_init_151 : decode cX9_init 151 = .ok (.putfield 65, 3) := by decide +kernel
theorem dX9_init_154 : decode cX9_init 154 = .ok (.aload_n 0, 1) := by decide +kernel
theorem dX9_init_155 : decode cX9_init 155 = .ok (.sipush 1000, 3) := by decide +kernel
theorem dX9_init_158 : decode cX9_init 158 = .ok (.putfield 68, 3) := by decide +kernel
theorem dX9_init_161 : decode cX9_init 161 = .ok (.aload_n 0, 1) := by decide +kernel
theorem dX9_init_162 : decode cX9_init 162 = .ok (.bipush 20, 2) := by decide +kernel
theorem dX9_init_164 : decode cX9_init 164 = .ok (.putfield 71, 3) := by decide +kernel
theorem dX9_init_167 : decode cX9_init 167 = .ok (.aload_n 0, 1) := by decide +kernel
theorem dX9_init_168 : decode cX9_init 168 = .ok (.bipush 10, 2) := by decide +kernel
theorem dX9_init_170 : decode cX9_init 170 = .ok (.newarray .int, 2) := by decide +kernel
theorem dX9_init_172 : decode cX9_init 172 = .ok (.putfield 74, 3) := by decide +kernel
theorem dX9_init_175 : decode cX9_init 175 = .ok (.aload_n 0, 1) := by decide +kernel
theorem dX9_init_176 : decode cX9_init 176 = .ok (.iconst 0, 1) := by decide +kernel
theorem dX9_init_177 : decode cX9_init 177 = .ok (.newarray .int, 2) := by decide +kernel
theorem dX9_init_179 : decode cX9_init 179 = .ok (.putfield 77, 3) := by decide +kernel
theorem dX9_init_182 : decode cX9_init 182 = .ok (.aload_n 0, 1) := by decide +kernel
theorem dX9_init_183 : decode cX9_init 183 = .ok (.iconst 0, 1) := by decide +kernel
theorem dX9_init_184 : decode cX9_init 184 = .ok (.newarray .int, 2) := by decide +kernel
theorem dX9_init_186 : decode cX9_init 186 = .ok (.putfield 80, 3) := by decide +kernel
theorem dX9_init_189 : decode cX9_init 189 = .ok (.aload_n 0, 1) := by decide +kernel
theorem dX9_init_190 : decode cX9_init 190 = .ok (.bipush 110, 2) := by decide +kernel
theorem dX9_init_192 : decode cX9_init 192 = .ok (.newarray .int, 2) := by decide +kernel
theorem dX9_init_194 : decode cX9_init 194 = .ok (.putfield 83, 3) := by decide +kernel
theorem dX9_init_197 : decode cX9_init 197 = .ok (.aload_n 0, 1) := by decide +kernel
theorem dX9_init_198 : decode cX9_init 198 = .ok (.iconst 0, 1) := by decide +kernel
theorem dX9_init_199 : decode cX9_init 199 = .ok (.newarray .int, 2) := by decide +kernel
theorem dX9_init_201 : decode cX9_init 201 = .ok (.putfield 86, 3) := by decide +kernel
theorem dX9_init_204 : decode cX9_init 204 = .ok (.aload_n 0, 1) := by decide +kernel
theorem dX9_init_205 : decode cX9_init 205 = .ok (.iconst 0, 1) := by decide +kernel
theorem dX9_init_206 : decode cX9_init 206 = .ok (.newarray .int, 2) := by decide +kernel
theorem dX9_init_208 : decode cX9_init 208 = .ok (.putfield 89, 3) := by decide +kernel
theorem dX9_init_211 : decode cX9_init 211 = .ok (.aload_n 0, 1) := by decide +kernel
theorem dX9_init_212 : decode cX9_init 212 = .ok (.iconst 0, 1) := by decide +kernel
theorem dX9_init_213 : decode cX9_init 213 = .ok (.newarray .int, 2) := by decide +kernel
theorem dX9_init_215 : decode cX9_init 215 = .ok (.putfield 92, 3) := by decide +kernel
theorem dX9_init_218 : decode cX9_init 218 = .ok (.aload_n 0, 1) := by decide +kernel
theorem dX9_init_219 : decode cX9_init 219 = .ok (.iconst 0, 1) := by decide +kernel
theorem dX9_init_220 : decode cX9_init 220 = .ok (.newarray .int, 2) := by decide +kernel
theorem dX9_init_222 : decode cX9_init 222 = .ok (.putfield 95, 3) := by decide +kernel
theorem dX9_init_225 : decode cX9_init 225 = .ok (.aload_n 0, 1) := by decide +kernel
theorem dX9_init_226 : decode cX9_init 226 = .ok (.iconst 0, 1) := by decide +kernel
theorem dX9_init_227 : decode cX9_init 227 = .ok (.newarray .int, 2) := by decide +kernel
theorem dX9_init_229 : decode cX9_init 229 = .ok (.putfield 98, 3) := by decide +kernel
theorem dX9_init_232 : decode cX9_init 232 = .ok (.aload_n 0, 1) := by decide +kernel
theorem dX9_init_233 : decode cX9_init 233 = .ok (.iconst 0, 1) := by decide +kernel
theorem dX9_init_234 : decode cX9_init 234 = .ok (.newarray .int, 2) := by decide +kernel
theorem dX9_init_236 : decode cX9_init 236 = .ok (.putfield 101, 3) := by decide +kernel
theorem dX9_init_239 : decode cX9_init 239 = .ok (.aload_n 0, 1) := by decide +kernel
theorem dX9_init_240 : decode cX9_init 240 = .ok (.bipush 110, 2) := by decide +kernel
theorem dX9_init_242 : decode cX9_init 242 = .ok (.newarray .int, 2) := by decide +kernel
theorem dX9_init_244 : decode cX9_init 244 = .ok (.putfield 104, 3) := by decide +kernel
theorem dX9_init_247 : decode cX9_init 247 = .ok (.aload_n 0, 1) := by decide +kernel
theorem dX9_init_248 : decode cX9_init 248 = .ok (.bipush 10, 2) := by decide +kernel
theorem dX9_init_250 : decode cX9_init 250 = .ok (.newarray .int, 2) := by decide +kernel
theorem dX9_init_252 : decode cX9_init 252 = .ok (.putfield 107, 3) := by decide +kernel
theorem dX9_init_255 : decode cX9_init 255 = .ok (.aload_n 0, 1) := by decide +kernel
theorem dX9_init_256 : decode cX9_init 256 = .ok (.bipush 110, 2) := by decide +kernel
theorem dX9_init_258 : decode cX9_init 258 = .ok (.newarray .boolean, 2) := by decide +kernel
theorem dX9_init_260 : decode cX9_init 260 = .ok (.putfield 110, 3) := by decide +kernel
theorem dX9_init_263 : decode cX9_init 263 = .ok (.iconst 0, 1) := by decide +kernel
theorem dX9_init_264 : decode cX9_init 264 = .ok (.istore_n 1, 1) := by decide +kernel
theorem dX9_init_265 : decode cX9_init 265 = .ok (.iload_n 1, 1) := by decide +kernel
theorem dX9_init_266 : decode cX9_init 266 = .ok (.bipush 10, 2) := by decide +kernel
theorem dX9_init_268 : decode cX9_init 268 = .ok (.if_icmp .ge 16, 3) := by decide +kernel
theorem dX9_init_271 : decode cX9_init 271 = .ok (.aload_n 0, 1) := by decide +kernel
theorem dX9_init_272 : decode cX9_init 272 = .ok (.getfield 29, 3) := by decide +kernel
theorem dX9_init_275 : decode cX9_init 275 = .ok (.iload_n 1, 1) := by decide +kernel
theorem dX9_init_276 : decode cX9_init 276 = .ok (.iconst (-1), 1) := by decide +kernel
theorem dX9_init_277 : decode cX9_init 277 = .ok (.iastore, 1) := by decide +kernel
theorem dX9_init_278 : decode cX9_init 278 = .ok (.iinc 1 1, 3) := by decide +kernel
theorem dX9_init_281 : decode cX9_init 281 = .ok (.goto (-16), 3) := by decide +kernel
theorem dX9_init_284 : decode cX9_init 284 = .ok (.aload_n 0, 1) := by decide +kernel
theorem dX9_init_285 : decode cX9_init 285 = .ok (.getfield 13, 3) := by decide +kernel
theorem dX9_init_288 : decode cX9_init 288 = .ok (.iconst 0, 1) := by decide +kernel
theorem dX9_init_289 : decode cX9_init 289 = .ok (.iconst (-1), 1) := by decide +kernel
theorem dX9_init_290 : decode cX9_init 290 = .ok (.iastore, 1) := by decide +kernel
theorem dX9_init_291 : decode cX9_init 291 = .ok (.aload_n 0, 1) := by decide +kernel
theorem dX9_init_292 : decode cX9_init 292 = .ok (.getfield 17, 3) := by decide +kernel
theorem dX9_init_295 : decode cX9_init 295 = .ok (.iconst 0, 1) := by decide +kernel
theorem dX9_init_296 : decode cX9_init 296 = .ok (.iconst (-1), 1) := by decide +kernel
theorem dX9_init_297 : decode cX9_init 297 = .ok (.iastore, 1) := by decide +kernel
theorem dX9_init_298 : decode cX9_init 298 = .ok (.iconst 0, 1) := by decide +kernel
theorem dX9_init_299 : decode cX9_init 299 = .ok (.istore_n 1, 1) := by decide +kernel
theorem dX9_init_300 : decode cX9_init 300 = .ok (.iload_n 1, 1) := by decide +kernel
theorem dX9_init_301 : decode cX9_init 301 = .ok (.sipush 160, 3) := by decide +kernel
theorem dX9_init_304 : decode cX9_init 304 = .ok (.if_icmp .ge 16, 3) := by decide +kernel
theorem dX9_init_307 : decode cX9_init 307 = .ok (.aload_n 0, 1) := by decide +kernel
theorem dX9_init_308 : decode cX9_init 308 = .ok (.getfield 32, 3) := by decide +kernel
theorem dX9_init_311 : decode cX9_init 311 = .ok (.iload_n 1, 1) := by decide +kernel
theorem dX9_init_312 : decode cX9_init 312 = .ok (.iconst (-1), 1) := by decide +kernel
theorem dX9_init_313 : decode cX9_init 313 = .ok (.iastore, 1) := by decide +kernel
theorem dX9_init_314 : decode cX9_init 314 = .ok (.iinc 1 1, 3) := by decide +kernel
theorem dX9_init_317 : decode cX9_init 317 = .ok (.goto (-17), 3) := by decide +kernel
theorem dX9_init_320 : decode cX9_init 320 = .ok (.return_, 1) := by decide +kernel
theorem dX9_thrown_0 : decode cX9_thrown 0 = .ok (.aload_n 0, 1) := by decide +kernel
theorem dX9_thrown_1 : decode cX9_thrown 1 = .ok (.getfield 114, 3) := by decide +kernel
theorem dX9_thrown_4 : decode cX9_thrown 4 = .ok (.ireturn, 1) := by decide +kernel
theorem dX9_no_0 : decode cX9_no 0 = .ok (.aload_n 0, 1) := by decide +kernel
theorem dX9_no_1 : decode cX9_no 1 = .ok (.iload_n 1, 1) := by decide +kernel
theorem dX9_no_2 : decode cX9_no 2 = .ok (.putfield 114, 3) := by decide +kernel
theorem dX9_no_5 : decode cX9_no 5 = .ok (.iconst 0, 1) := by decide +kernel
theorem dX9_no_6 : decode cX9_no 6 = .ok (.ireturn, 1) := by decide +kernel
theorem dX9_isIn_0 : decode cX9_isIn 0 = .ok (.iload_n 0, 1) := by decide +kernel
theorem dX9_isIn_1 : decode cX9_isIn 1 = .ok (.iload_n 1, 1) := by decide +kernel
theorem dX9_isIn_2 : decode cX9_isIn 2 = .ok (.if_icmp .lt 12, 3) := by decide +kernel
theorem dX9_isIn_5 : decode cX9_isIn 5 = .ok (.iload_n 0, 1) := by decide +kernel
theorem dX9_isIn_6 : decode cX9_isIn 6 = .ok (.iload_n 2, 1) := by decide +kernel
theorem dX9_isIn_7 : decode cX9_isIn 7 = .ok (.if_icmp .gt 7, 3) := by decide +kernel
theorem dX9_isIn_10 : decode cX9_isIn 10 = .ok (.iconst 1, 1) := by decide +kernel
theorem dX9_isIn_11 : decode cX9_isIn 11 = .ok (.goto 4, 3) := by decide +kernel
theorem dX9_isIn_14 : decode cX9_isIn 14 = .ok (.iconst 0, 1) := by decide +kernel
theorem dX9_isIn_15 : decode cX9_isIn 15 = .ok (.ireturn, 1) := by decide +kernel
theorem dX9_has_0 : decode cX9_has 0 = .ok (.iload_n 0, 1) := by decide +kernel
theorem dX9_has_1 : decode cX9_has 1 = .ok (.iload_n 1, 1) := by decide +kernel
theorem dX9_has_2 : decode cX9_has 2 = .ok (.ishr, 1) := by decide +kernel
theorem dX9_has_3 : decode cX9_has 3 = .ok (.iconst 1, 1) := by decide +kernel
theorem dX9_has_4 : decode cX9_has 4 = .ok (.iand, 1) := by decide +kernel
theorem dX9_has_5 : decode cX9_has 5 = .ok (.iconst 1, 1) := by decide +kernel
theorem dX9_has_6 : decode cX9_has 6 = .ok (.if_icmp .ne 7, 3) := by decide +kernel
theorem dX9_has_9 : decode cX9_has 9 = .ok (.iconst 1, 1) := by decide +kernel
theorem dX9_has_10 : decode cX9_has 10 = .ok (.goto 4, 3) := by decide +kernel
theorem dX9_has_13 : decode cX9_has 13 = .ok (.iconst 0, 1) := by decide +kernel
theorem dX9_has_14 : decode cX9_has 14 = .ok (.ireturn, 1) := by decide +kernel
set_option maxRecDepth 20000 in
theorem ggX9_isProcedure_X9_isIn : GoodIn wsX9_isProcedure wsX9_isIn := goodIn_r _ [5] (by decide +kernel) (by decide +kernel)
set_option maxRecDepth 20000 in
theorem gX9_isProcedure_X9_isIn : GoodIn wsX9_isProcedure (va_wsS RX9 117 yX9_isIn wsX9_isIn) := goodIn_app (goodIn_of _ (by decide +kernel)) ggX9_isProcedure_X9_isIn
theorem dX9_isProcedure_0 : decode cX9_isProcedure 0 = .ok (.iload_n 1, 1) := by decide +kernel
theorem dX9_isProcedure_1 : decode cX9_isProcedure 1 = .ok (.iconst 0, 1) := by decide +kernel
theorem dX9_isProcedure_2 : decode cX9_isProcedure 2 = .ok (.aload_n 0, 1) := by decide +kernel
theorem dX9_isProcedure_3 : decode cX9_isProcedure 3 = .ok (.getfield 7, 3) := by decide +kernel
theorem dX9_isProcedure_6 : decode cX9_isProcedure 6 = .ok (.iconst 1, 1) := by decide +kernel
theorem dX9_isProcedure_7 : decode cX9_isProcedure 7 = .ok (.isub, 1) := by decide +kernel
theorem dX9_isProcedure_8 : decode cX9_isProcedure 8 = .ok (.invokestatic 117, 3) := by decide +kernel
theorem dX9_isProcedure_11 : decode cX9_isProcedure 11 = .ok (.ireturn, 1) := by decide +kernel
set_option maxRecDepth 20000 in
theorem ggX9_isNode_X9_isIn : GoodIn wsX9_isNode wsX9_isIn := goodIn_r _ [5] (by decide +kernel) (by decide +kernel)
set_option maxRecDepth 20000 in
theorem gX9_isNode_X9_isIn : GoodIn wsX9_isNode (va_wsS RX9 117 yX9_isIn wsX9_isIn) := goodIn_app (goodIn_of _ (by decide +kernel)) ggX9_isNode_X9_isIn
theorem dX9_isNode_0 : decode cX9_isNode 0 = .ok (.iload_n 1, 1) := by decide +kernel
theorem dX9_isNode_1 : decode cX9_isNode 1 = .ok (.iconst 0, 1) := by decide +kernel
theorem dX9_isNode_2 : decode cX9_isNode 2 = .ok (.aload_n 0, 1) := by decide +kernel
theorem dX9_isNode_3 : decode cX9_isNode 3 = .ok (.getfield 121, 3) := by decide +kernel
theorem dX9_isNode_6 : decode cX9_isNode 6 = .ok (.iconst 1, 1) := by decide +kernel
theorem dX9_isNode_7 : decode cX9_isNode 7 = .ok (.isub, 1) := by decide +kernel
theorem dX9_isNode_8 : decode cX9_isNode 8 = .ok (.invokestatic 117, 3) := by decide +kernel
theorem dX9_isNode_11 : decode cX9_isNode 11 = .ok (.ireturn, 1) := by decide +kernel
set_option maxRecDepth 20000 in
theorem ggX9_isName_X9_isIn : GoodIn wsX9_isName wsX9_isIn := goodIn_r _ [4] (by decide +kernel) (by decide +kernel)
set_option maxRecDepth 20000 in
theorem gX9_isName_X9_isIn : GoodIn wsX9_isName (va_wsS RX9 117 yX9_isIn wsX9_isIn) := goodIn_app (goodIn_of _ (by decide +kernel)) ggX9_isName_X9_isIn
theorem dX9_isName_0 : decode cX9_isName 0 = .ok (.iload_n 0, 1) := by decide +kernel
theorem dX9_isName_1 : decode cX9_isName 1 = .ok (.iconst 0, 1) := by decide +kernel
theorem dX9_isName_2 : decode cX9_isName 2 = .ok (.bipush 15, 2) := by decide +kernel
theorem dX9_isName_4 : decode cX9_isName 4 = .ok (.invokestatic 117, 3) := by decide +kernel
theorem dX9_isName_7 : decode cX9_isName 7 = .ok (.ireturn, 1) := by decide +kernel
theorem dX9_declare_0 : decode cX9_declare 0 = .ok (.aload_n 0, 1) := by decide +kernel
theorem dX9_declare_1 : decode cX9_declare 1 = .ok (.getfield 32, 3) := by decide +kernel
theorem dX9_declare_4 : decode cX9_declare 4 = .ok (.iload_n 1, 1) := by decide +kernel
theorem dX9_declare_5 : decode cX9_declare 5 = .ok (.bipush 16, 2) := by decide +kernel
theorem dX9_declare_7 : decode cX9_declare 7 = .ok (.imul, 1) := by decide +kernel
theorem dX9_declare_8 : decode cX9_declare 8 = .ok (.iload_n 2, 1) := by decide +kernel
theorem dX9_declare_9 : decode cX9_declare 9 = .ok (.iadd, 1) := by decide +kernel
theorem dX9_declare_10 : decode cX9_declare 10 = .ok (.iload_n 3, 1) := by decide +kernel
theorem dX9_declare_11 : decode cX9_declare 11 = .ok (.iastore, 1) := by decide +kernel
theorem dX9_declare_12 : decode cX9_declare 12 = .ok (.aload_n 0, 1) := by decide +kernel
theorem dX9_declare_13 : decode cX9_declare 13 = .ok (.getfield 35, 3) := by decide +kernel
theorem dX9_declare_16 : decode cX9_declare 16 = .ok (.iload_n 1, 1) := by decide +kernel
theorem dX9_declare_17 : decode cX9_declare 17 = .ok (.bipush 16, 2) := by decide +kernel
theorem dX9_declare_19 : decode cX9_declare 19 = .ok (.imul, 1) := by decide +kernel
theorem dX9_declare_20 : decode cX9_declare 20 = .ok (.iload_n 2, 1) := by decide +kernel
theorem dX9_declare_21 : decode cX9_declare 21 = .ok (.iadd, 1) := by decide +kernel
theorem dX9_declare_22 : decode cX9_declare 22 = .ok (.iload 4, 2) := by decide +kernel
theorem dX9_declare_24 : decode cX9_declare 24 = .ok (.iastore, 1) := by decide +kernel
theorem dX9_declare_25 : decode cX9_declare 25 = .ok (.aload_n 0, 1) := by decide +kernel
theorem dX9_declare_26 : decode cX9_declare 26 = .ok (.getfield 38, 3) := by decide +kernel
theorem dX9_declare_29 : decode cX9_declare 29 = .ok (.iload_n 1, 1) := by decide +kernel
theorem dX9_declare_30 : decode cX9_declare 30 = .ok (.bipush 16, 2) := by decide +kernel
theorem dX9_declare_32 : decode cX9_declare 32 = .ok (.imul, 1) := by decide +kernel
theorem dX9_declare_33 : decode cX9_declare 33 = .ok (.iload_n 2, 1) := by decide +kernel
theorem dX9_declare_34 : decode cX9_declare 34 = .ok (.iadd, 1) := by decide +kernel
theorem dX9_declare_35 : decode cX9_declare 35 = .ok (.iload 5, 2) := by decide +kernel
theorem dX9_declare_37 : decode cX9_declare 37 = .ok (.iastore, 1) := by decide +kernel
theorem dX9_declare_38 : decode cX9_declare 38 = .ok (.iload 4, 2) := by decide +kernel
theorem dX9_declare_40 : decode cX9_declare 40 = .ok (.ireturn, 1) := by decide +kernel
theorem dX9_addPlace_0 : decode cX9_addPlace 0 = .ok (.aload_n 0, 1) := by decide +kernel
theorem dX9_addPlace_1 : decode cX9_addPlace 1 = .ok (.getfield 41, 3) := by decide +kernel
theorem dX9_addPlace_4 : decode cX9_addPlace 4 = .ok (.iload_n 1, 1) := by decide +kernel
theorem dX9_addPlace_5 : decode cX9_addPlace 5 = .ok (.bipush 10, 2) := by decide +kernel
theorem dX9_addPlace_7 : decode cX9_addPlace 7 = .ok (.imul, 1) := by decide +kernel
theorem dX9_addPlace_8 : decode cX9_addPlace 8 = .ok (.aload_n 0, 1) := by decide +kernel
theorem dX9_addPlace_9 : decode cX9_addPlace 9 = .ok (.getfield 26, 3) := by decide +kernel
theorem dX9_addPlace_12 : decode cX9_addPlace 12 = .ok (.iload_n 1, 1) := by decide +kernel
theorem dX9_addPlace_13 : decode cX9_addPlace 13 = .ok (.iaload, 1) := by decide +kernel
theorem dX9_addPlace_14 : decode cX9_addPlace 14 = .ok (.iadd, 1) := by decide +kernel
theorem dX9_addPlace_15 : decode cX9_addPlace 15 = .ok (.iload_n 2, 1) := by decide +kernel
theorem dX9_addPlace_16 : decode cX9_addPlace 16 = .ok (.iastore, 1) := by decide +kernel
theorem dX9_addPlace_17 : decode cX9_addPlace 17 = .ok (.aload_n 0, 1) := by decide +kernel
theorem dX9_addPlace_18 : decode cX9_addPlace 18 = .ok (.getfield 44, 3) := by decide +kernel
theorem dX9_addPlace_21 : decode cX9_addPlace 21 = .ok (.iload_n 1, 1) := by decide +kernel
theorem dX9_addPlace_22 : decode cX9_addPlace 22 = .ok (.bipush 10, 2) := by decide +kernel
theorem dX9_addPlace_24 : decode cX9_addPlace 24 = .ok (.imul, 1) := by decide +kernel
theorem dX9_addPlace_25 : decode cX9_addPlace 25 = .ok (.aload_n 0, 1) := by decide +kernel
theorem dX9_addPlace_26 : decode cX9_addPlace 26 = .ok (.getfield 26, 3) := by decide +kernel
theorem dX9_addPlace_29 : decode cX9_addPlace 29 = .ok (.iload_n 1, 1) := by decide +kernel
theorem dX9_addPlace_30 : decode cX9_addPlace 30 = .ok (.iaload, 1) := by decide +kernel
theorem dX9_addPlace_31 : decode cX9_addPlace 31 = .ok (.iadd, 1) := by decide +kernel
theorem dX9_addPlace_32 : decode cX9_addPlace 32 = .ok (.iload_n 3, 1) := by decide +kernel
theorem dX9_addPlace_33 : decode cX9_addPlace 33 = .ok (.iastore, 1) := by decide +kernel
theorem dX9_addPlace_34 : decode cX9_addPlace 34 = .ok (.aload_n 0, 1) := by decide +kernel
theorem dX9_addPlace_35 : decode cX9_addPlace 35 = .ok (.getfield 26, 3) := by decide +kernel
theorem dX9_addPlace_38 : decode cX9_addPlace 38 = .ok (.iload_n 1, 1) := by decide +kernel
theorem dX9_addPlace_39 : decode cX9_addPlace 39 = .ok (.dup2, 1) := by decide +kernel
theorem dX9_addPlace_40 : decode cX9_addPlace 40 = .ok (.iaload, 1) := by decide +kernel
theorem dX9_addPlace_41 : decode cX9_addPlace 41 = .ok (.dup_x2, 1) := by decide +kernel
theorem dX9_addPlace_42 : decode cX9_addPlace 42 = .ok (.iconst 1, 1) := by decide +kernel
theorem dX9_addPlace_43 : decode cX9_addPlace 43 = .ok (.iadd, 1) := by decide +kernel
theorem dX9_addPlace_44 : decode cX9_addPlace 44 = .ok (.iastore, 1) := by decide +kernel
theorem dX9_addPlace_45 : decode cX9_addPlace 45 = .ok (.ireturn, 1) := by decide +kernel
set_option maxRecDepth 20000 in
theorem ggX9_procedure_X9_isProcedure : GoodIn wsX9_procedure wsX9_isProcedure := goodIn_r _ [10, 2, 11, 12, 9, 13, 27, 28, 29, 30, 31, 32, 33, 34, 35, 36, 37, 38, 39, 40, 41, 42, 43, 44, 45, 46, 47, 48, 49, 50, 51, 52, 53, 54, 55, 56, 57, 58, 59, 60, 61, 62, 63, 64, 65, 66, 67, 68, 69, 70, 71, 72, 73, 74, 75, 76, 77, 78, 79, 80, 81, 82, 83, 84, 85, 86] (by decide +kernel) (by decide +kernel)
set_option maxRecDepth 20000 in
theorem gX9_procedure_X9_isProcedure : GoodIn wsX9_procedure (wsV RX9 124 RX9 yX9_isProcedure wsX9_isProcedure) := goodIn_app (goodIn_of _ (by decide +kernel)) ggX9_procedure_X9_isProcedure
set_option maxRecDepth 20000 in
theorem ggX9_procedure_X9_no : GoodIn wsX9_procedure wsX9_no := goodIn_r _ [17, 1, 27, 28, 29, 30, 31, 32, 33, 34, 35, 36, 37, 38, 39, 40, 41, 42, 43, 44, 45, 46, 47, 48, 49, 50, 51, 52, 53, 54, 55, 56, 57, 58, 59, 60, 61, 62, 63, 64, 65, 66, 67, 68, 69, 70, 71, 72, 73, 74, 75, 76, 77, 78, 79, 80, 81, 82, 83, 84, 85, 86] (by decide +kernel) (by decide +kernel)
set_option maxRecDepth 20000 in
theorem gX9_procedure_X9_no : GoodIn wsX9_procedure (wsV RX9 128 RX9 yX9_no wsX9_no) := goodIn_app (goodIn_of _ (by decide +kernel)) ggX9_procedure_X9_no
set_option maxRecDepth 20000 in
theorem ggX9_procedure_X9_isName : GoodIn wsX9_procedure wsX9_isName := goodIn_r _ [20, 11, 12, 9, 13] (by decide +kernel) (by decide +kernel)
set_option maxRecDepth 20000 in
theorem gX9_procedure_X9_isName : GoodIn wsX9_procedure (va_wsS RX9 132 yX9_isName wsX9_isName) := goodIn_app (goodIn_of _ (by decide +kernel)) ggX9_procedure_X9_isName
set_option maxRecDepth 20000 in
theorem ggX9_procedure_X9_declare : GoodIn wsX9_procedure wsX9_declare := goodIn_r _ [24, 3, 25, 26, 27, 28, 29, 30, 31, 32, 33, 34, 35, 36, 37, 38, 39, 40, 41, 42, 43, 44, 45, 46, 47, 48, 49, 50, 51, 52, 53, 54, 55, 56, 57, 58, 59, 60, 61, 62, 63, 64, 65, 66, 67, 68, 69, 70, 71, 72, 73, 74, 75, 76, 77, 78, 79, 80, 81, 82, 83, 84, 85, 86] (by decide +kernel) (by decide +kernel)
set_option maxRecDepth 20000 in
theorem gX9_procedure_X9_declare : GoodIn wsX9_procedure (wsV RX9 135 RX9 yX9_declare wsX9_declare) := goodIn_app (goodIn_of _ (by decide +kernel)) ggX9_procedure_X9_declare
theorem dX9_procedure_0 : decode cX9_procedure 0 = .ok (.aload_n 0, 1) := by decide +kernel
theorem dX9_procedure_1 : decode cX9_procedure 1 = .ok (.iconst 0, 1) := by decide +kernel
theorem dX9_procedure_2 : decode cX9_procedure 2 = .ok (.putfield 114, 3) := by decide +kernel
theorem dX9_procedure_5 : decode cX9_procedure 5 = .ok (.aload_n 0, 1) := by decide +kernel
theorem dX9_procedure_6 : decode cX9_procedure 6 = .ok (.iload_n 1, 1) := by decide +kernel
theorem dX9_procedure_7 : decode cX9_procedure 7 = .ok (.invokevirtual 124, 3) := by decide +kernel
theorem dX9_procedure_10 : decode cX9_procedure 10 = .ok (.ifCond .ne 9, 3) := by decide +kernel
theorem dX9_procedure_13 : decode cX9_procedure 13 = .ok (.aload_n 0, 1) := by decide +kernel
theorem dX9_procedure_14 : decode cX9_procedure 14 = .ok (.iconst 1, 1) := by decide +kernel
theorem dX9_procedure_15 : decode cX9_procedure 15 = .ok (.invokevirtual 128, 3) := by decide +kernel
theorem dX9_procedure_18 : decode cX9_procedure 18 = .ok (.ireturn, 1) := by decide +kernel
theorem dX9_procedure_19 : decode cX9_procedure 19 = .ok (.iload_n 2, 1) := by decide +kernel
theorem dX9_procedure_20 : decode cX9_procedure 20 = .ok (.invokestatic 132, 3) := by decide +kernel
theorem dX9_procedure_23 : decode cX9_procedure 23 = .ok (.ifCond .ne 9, 3) := by decide +kernel
theorem dX9_procedure_26 : decode cX9_procedure 26 = .ok (.aload_n 0, 1) := by decide +kernel
theorem dX9_procedure_27 : decode cX9_procedure 27 = .ok (.iconst 2, 1) := by decide +kernel
theorem dX9_procedure_28 : decode cX9_procedure 28 = .ok (.invokevirtual 128, 3) := by decide +kernel
theorem dX9_procedure_31 : decode cX9_procedure 31 = .ok (.ireturn, 1) := by decide +kernel
theorem dX9_procedure_32 : decode cX9_procedure 32 = .ok (.aload_n 0, 1) := by decide +kernel
theorem dX9_procedure_33 : decode cX9_procedure 33 = .ok (.getfield 7, 3) := by decide +kernel
theorem dX9_procedure_36 : decode cX9_procedure 36 = .ok (.bipush 10, 2) := by decide +kernel
theorem dX9_procedure_38 : decode cX9_procedure 38 = .ok (.if_icmp .eq 18, 3) := by decide +kernel
theorem dX9_procedure_41 : decode cX9_procedure 41 = .ok (.aload_n 0, 1) := by decide +kernel
theorem dX9_procedure_42 : decode cX9_procedure 42 = .ok (.getfield 32, 3) := by decide +kernel
theorem dX9_procedure_45 : decode cX9_procedure 45 = .ok (.iload_n 1, 1) := by decide +kernel
theorem dX9_procedure_46 : decode cX9_procedure 46 = .ok (.bipush 16, 2) := by decide +kernel
theorem dX9_procedure_48 : decode cX9_procedure 48 = .ok (.imul, 1) := by decide +kernel
theorem dX9_procedure_49 : decode cX9_procedure 49 = .ok (.iload_n 2, 1) := by decide +kernel
theorem dX9_procedure_50 : decode cX9_procedure 50 = .ok (.iadd, 1) := by decide +kernel
theorem dX9_procedure_51 : decode cX9_procedure 51 = .ok (.iaload, 1) := by decide +kernel
theorem dX9_procedure_52 : decode cX9_procedure 52 = .ok (.iconst (-1), 1) := by decide +kernel
theorem dX9_procedure_53 : decode cX9_procedure 53 = .ok (.if_icmp .eq 9, 3) := by decide +kernel
theorem dX9_procedure_56 : decode cX9_procedure 56 = .ok (.aload_n 0, 1) := by decide +kernel
theorem dX9_procedure_57 : decode cX9_procedure 57 = .ok (.iconst 3, 1) := by decide +kernel
theorem dX9_procedure_58 : decode cX9_procedure 58 = .ok (.invokevirtual 128, 3) := by decide +kernel
theorem dX9_procedure_61 : decode cX9_procedure 61 = .ok (.ireturn, 1) := by decide +kernel
theorem dX9_procedure_62 : decode cX9_procedure 62 = .ok (.aload_n 0, 1) := by decide +kernel
theorem dX9_procedure_63 : decode cX9_procedure 63 = .ok (.getfield 13, 3) := by decide +kernel
theorem dX9_procedure_66 : decode cX9_procedure 66 = .ok (.aload_n 0, 1) := by decide +kernel
theorem dX9_procedure_67 : decode cX9_procedure 67 = .ok (.getfield 7, 3) := by decide +kernel
theorem dX9_procedure_70 : decode cX9_procedure 70 = .ok (.iload_n 1, 1) := by decide +kernel
theorem dX9_procedure_71 : decode cX9_procedure 71 = .ok (.iastore, 1) := by decide +kernel
theorem dX9_procedure_72 : decode cX9_procedure 72 = .ok (.aload_n 0, 1) := by decide +kernel
theorem dX9_procedure_73 : decode cX9_procedure 73 = .ok (.getfield 17, 3) := by decide +kernel
theorem dX9_procedure_76 : decode cX9_procedure 76 = .ok (.aload_n 0, 1) := by decide +kernel
theorem dX9_procedure_77 : decode cX9_procedure 77 = .ok (.getfield 7, 3) := by decide +kernel
theorem dX9_procedure_80 : decode cX9_procedure 80 = .ok (.iload_n 2, 1) := by decide +kernel
theorem dX9_procedure_81 : decode cX9_procedure 81 = .ok (.iastore, 1) := by decide +kernel
theorem dX9_procedure_82 : decode cX9_procedure 82 = .ok (.aload_n 0, 1) := by decide +kernel
theorem dX9_procedure_83 : decode cX9_procedure 83 = .ok (.iload_n 1, 1) := by decide +kernel
theorem dX9_procedure_84 : decode cX9_procedure 84 = .ok (.iload_n 2, 1) := by decide +kernel
theorem dX9_procedure_85 : decode cX9_procedure 85 = .ok (.bipush 10, 2) := by decide +kernel
theorem dX9_procedure_87 : decode cX9_procedure 87 = .ok (.iconst (-1), 1) := by decide +kernel
theorem dX9_procedure_88 : decode cX9_procedure 88 = .ok (.aload_n 0, 1) := by decide +kernel
theorem dX9_procedure_89 : decode cX9_procedure 89 = .ok (.getfield 7, 3) := by decide +kernel
theorem dX9_procedure_92 : decode cX9_procedure 92 = .ok (.invokevirtual 135, 3) := by decide +kernel
theorem dX9_procedure_95 : decode cX9_procedure 95 = .ok (.pop, 1) := by decide +kernel
theorem dX9_procedure_96 : decode cX9_procedure 96 = .ok (.aload_n 0, 1) := by decide +kernel
theorem dX9_procedure_97 : decode cX9_procedure 97 = .ok (.dup, 1) := by decide +kernel
theorem dX9_procedure_98 : decode cX9_procedure 98 = .ok (.getfield 7, 3) := by decide +kernel
theorem dX9_procedure_101 : decode cX9_procedure 101 = .ok (.dup_x1, 1) := by decide +kernel
theorem dX9_procedure_102 : decode cX9_procedure 102 = .ok (.iconst 1, 1) := by decide +kernel
theorem dX9_procedure_103 : decode cX9_procedure 103 = .ok (.iadd, 1) := by decide +kernel
theorem dX9_procedure_104 : decode cX9_procedure 104 = .ok (.putfield 7, 3) := by decide +kernel
theorem dX9_procedure_107 : decode cX9_procedure 107 = .ok (.ireturn, 1) := by decide +kernel
set_option maxRecDepth 20000 in
theorem ggX9_parameter_X9_isProcedure : GoodIn wsX9_parameter wsX9_isProcedure := goodIn_r _ [9, 10, 11, 12, 8, 13, 34, 35, 36, 37, 38, 39, 40, 41, 42, 43, 44, 45, 46, 47, 48, 49, 50, 51, 52, 53, 54, 55, 56, 57, 58, 59, 60, 61, 62, 63, 64, 65, 66, 67, 68, 69, 70, 71, 72, 73, 74, 75, 76, 77, 78, 79, 80, 81, 82, 83, 84, 85, 86, 87, 88, 89, 90, 91, 92, 93] (by decide +kernel) (by decide +kernel)
set_option maxRecDepth 20000 in
theorem gX9_parameter_X9_isProcedure : GoodIn wsX9_parameter (wsV RX9 124 RX9 yX9_isProcedure wsX9_isProcedure) := goodIn_app (goodIn_of _ (by decide +kernel)) ggX9_parameter_X9_isProcedure
set_option maxRecDepth 20000 in
theorem ggX9_parameter_X9_no : GoodIn wsX9_parameter wsX9_no := goodIn_r _ [17, 1, 34, 35, 36, 37, 38, 39, 40, 41, 42, 43, 44, 45, 46, 47, 48, 49, 50, 51, 52, 53, 54, 55, 56, 57, 58, 59, 60, 61, 62, 63, 64, 65, 66, 67, 68, 69, 70, 71, 72, 73, 74, 75, 76, 77, 78, 79, 80, 81, 82, 83, 84, 85, 86, 87, 88, 89, 90, 91, 92, 93] (by decide +kernel) (by decide +kernel)
set_option maxRecDepth 20000 in
theorem gX9_parameter_X9_no : GoodIn wsX9_parameter (wsV RX9 128 RX9 yX9_no wsX9_no) := goodIn_app (goodIn_of _ (by decide +kernel)) ggX9_parameter_X9_no
set_option maxRecDepth 20000 in
theorem ggX9_parameter_X9_isName : GoodIn wsX9_parameter wsX9_isName := goodIn_r _ [20, 11, 12, 8, 13] (by decide +kernel) (by decide +kernel)
set_option maxRecDepth 20000 in
theorem gX9_parameter_X9_isName : GoodIn wsX9_parameter (va_wsS RX9 132 yX9_isName wsX9_isName) := goodIn_app (goodIn_of _ (by decide +kernel)) ggX9_parameter_X9_isName
set_option maxRecDepth 20000 in
theorem ggX9_parameter_X9_isIn : GoodIn wsX9_parameter wsX9_isIn := goodIn_r _ [13] (by decide +kernel) (by decide +kernel)
set_option maxRecDepth 20000 in
theorem gX9_parameter_X9_isIn : GoodIn wsX9_parameter (va_wsS RX9 117 yX9_isIn wsX9_isIn) := goodIn_app (goodIn_of _ (by decide +kernel)) ggX9_parameter_X9_isIn
set_option maxRecDepth 20000 in
theorem ggX9_parameter_X9_addPlace : GoodIn wsX9_parameter wsX9_addPlace := goodIn_r _ [24, 25, 26, 27, 34, 35, 36, 37, 38, 39, 40, 41, 42, 43, 44, 45, 46, 47, 48, 49, 50, 51, 52, 53, 54, 55, 56, 57, 58, 59, 60, 61, 62, 63, 64, 65, 66, 67, 68, 69, 70, 71, 72, 73, 74, 75, 76, 77, 78, 79, 80, 81, 82, 83, 84, 85, 86, 87, 88, 89, 90, 91, 92, 93] (by decide +kernel) (by decide +kernel)
set_option maxRecDepth 20000 in
theorem gX9_parameter_X9_addPlace : GoodIn wsX9_parameter (wsV RX9 139 RX9 yX9_addPlace wsX9_addPlace) := goodIn_app (goodIn_of _ (by decide +kernel)) ggX9_parameter_X9_addPlace
set_option maxRecDepth 20000 in
theorem ggX9_parameter_X9_declare : GoodIn wsX9_parameter wsX9_declare := goodIn_r _ [31, 3, 32, 33, 34, 35, 36, 37, 38, 39, 40, 41, 42, 43, 44, 45, 46, 47, 48, 49, 50, 51, 52, 53, 54, 55, 56, 57, 58, 59, 60, 61, 62, 63, 64, 65, 66, 67, 68, 69, 70, 71, 72, 73, 74, 75, 76, 77, 78, 79, 80, 81, 82, 83, 84, 85, 86, 87, 88, 89, 90, 91, 92, 93] (by decide +kernel) (by decide +kernel)
set_option maxRecDepth 20000 in
theorem gX9_parameter_X9_declare : GoodIn wsX9_parameter (wsV RX9 135 RX9 yX9_declare wsX9_declare) := goodIn_app (goodIn_of _ (by decide +kernel)) ggX9_parameter_X9_declare
theorem dX9_parameter_0 : decode cX9_parameter 0 = .ok (.aload_n 0, 1) := by decide +kernel
theorem dX9_parameter_1 : decode cX9_parameter 1 = .ok (.iconst 0, 1) := by decide +kernel
theorem dX9_parameter_2 : decode cX9_parameter 2 = .ok (.putfield 114, 3) := by decide +kernel
theorem dX9_parameter_5 : decode cX9_parameter 5 = .ok (.aload_n 0, 1) := by decide +kernel
theorem dX9_parameter_6 : decode cX9_parameter 6 = .ok (.iload_n 1, 1) := by decide +kernel
theorem dX9_parameter_7 : decode cX9_parameter 7 = .ok (.invokevirtual 124, 3) := by decide +kernel
theorem dX9_parameter_10 : decode cX9_parameter 10 = .ok (.ifCond .ne 9, 3) := by decide +kernel
theorem dX9_parameter_13 : decode cX9_parameter 13 = .ok (.aload_n 0, 1) := by decide +kernel
theorem dX9_parameter_14 : decode cX9_parameter 14 = .ok (.iconst 1, 1) := by decide +kernel
theorem dX9_parameter_15 : decode cX9_parameter 15 = .ok (.invokevirtual 128, 3) := by decide +kernel
theorem dX9_parameter_18 : decode cX9_parameter 18 = .ok (.ireturn, 1) := by decide +kernel
theorem dX9_parameter_19 : decode cX9_parameter 19 = .ok (.iload_n 2, 1) := by decide +kernel
theorem dX9_parameter_20 : decode cX9_parameter 20 = .ok (.invokestatic 132, 3) := by decide +kernel
theorem dX9_parameter_23 : decode cX9_parameter 23 = .ok (.ifCond .eq 12, 3) := by decide +kernel
theorem dX9_parameter_26 : decode cX9_parameter 26 = .ok (.iload_n 3, 1) := by decide +kernel
theorem dX9_parameter_27 : decode cX9_parameter 27 = .ok (.iconst 0, 1) := by decide +kernel
theorem dX9_parameter_28 : decode cX9_parameter 28 = .ok (.iconst 5, 1) := by decide +kernel
theorem dX9_parameter_29 : decode cX9_parameter 29 = .ok (.invokestatic 117, 3) := by decide +kernel
theorem dX9_parameter_32 : decode cX9_parameter 32 = .ok (.ifCond .ne 9, 3) := by decide +kernel
theorem dX9_parameter_35 : decode cX9_parameter 35 = .ok (.aload_n 0, 1) := by decide +kernel
theorem dX9_parameter_36 : decode cX9_parameter 36 = .ok (.iconst 2, 1) := by decide +kernel
theorem dX9_parameter_37 : decode cX9_parameter 37 = .ok (.invokevirtual 128, 3) := by decide +kernel
theorem dX9_parameter_40 : decode cX9_parameter 40 = .ok (.ireturn, 1) := by decide +kernel
theorem dX9_parameter_41 : decode cX9_parameter 41 = .ok (.iload_n 1, 1) := by decide +kernel
theorem dX9_parameter_42 : decode cX9_parameter 42 = .ok (.ifCond .eq 37, 3) := by decide +kernel
theorem dX9_parameter_45 : decode cX9_parameter 45 = .ok (.aload_n 0, 1) := by decide +kernel
theorem dX9_parameter_46 : decode cX9_parameter 46 = .ok (.getfield 20, 3) := by decide +kernel
theorem dX9_parameter_49 : decode cX9_parameter 49 = .ok (.iload_n 1, 1) := by decide +kernel
theorem dX9_parameter_50 : decode cX9_parameter 50 = .ok (.iaload, 1) := by decide +kernel
theorem dX9_parameter_51 : decode cX9_parameter 51 = .ok (.iconst 4, 1) := by decide +kernel
theorem dX9_parameter_52 : decode cX9_parameter 52 = .ok (.if_icmp .eq 27, 3) := by decide +kernel
theorem dX9_parameter_55 : decode cX9_parameter 55 = .ok (.aload_n 0, 1) := by decide +kernel
theorem dX9_parameter_56 : decode cX9_parameter 56 = .ok (.getfield 32, 3) := by decide +kernel
theorem dX9_parameter_59 : decode cX9_parameter 59 = .ok (.iload_n 1, 1) := by decide +kernel
theorem dX9_parameter_60 : decode cX9_parameter 60 = .ok (.bipush 16, 2) := by decide +kernel
theorem dX9_parameter_62 : decode cX9_parameter 62 = .ok (.imul, 1) := by decide +kernel
theorem dX9_parameter_63 : decode cX9_parameter 63 = .ok (.iload_n 2, 1) := by decide +kernel
theorem dX9_parameter_64 : decode cX9_parameter 64 = .ok (.iadd, 1) := by decide +kernel
theorem dX9_parameter_65 : decode cX9_parameter 65 = .ok (.iaload, 1) := by decide +kernel
theorem dX9_parameter_66 : decode cX9_parameter 66 = .ok (.iconst (-1), 1) := by decide +kernel
theorem dX9_parameter_67 : decode cX9_parameter 67 = .ok (.if_icmp .ne 12, 3) := by decide +kernel
theorem dX9_parameter_70 : decode cX9_parameter 70 = .ok (.aload_n 0, 1) := by decide +kernel
theorem dX9_parameter_71 : decode cX9_parameter 71 = .ok (.getfield 23, 3) := by decide +kernel
theorem dX9_parameter_74 : decode cX9_parameter 74 = .ok (.iload_n 1, 1) := by decide +kernel
theorem dX9_parameter_75 : decode cX9_parameter 75 = .ok (.iaload, 1) := by decide +kernel
theorem dX9_parameter_76 : decode cX9_parameter 76 = .ok (.ifCond .le 9, 3) := by decide +kernel
theorem dX9_parameter_79 : decode cX9_parameter 79 = .ok (.aload_n 0, 1) := by decide +kernel
theorem dX9_parameter_80 : decode cX9_parameter 80 = .ok (.iconst 3, 1) := by decide +kernel
theorem dX9_parameter_81 : decode cX9_parameter 81 = .ok (.invokevirtual 128, 3) := by decide +kernel
theorem dX9_parameter_84 : decode cX9_parameter 84 = .ok (.ireturn, 1) := by decide +kernel
theorem dX9_parameter_85 : decode cX9_parameter 85 = .ok (.aload_n 0, 1) := by decide +kernel
theorem dX9_parameter_86 : decode cX9_parameter 86 = .ok (.getfield 20, 3) := by decide +kernel
theorem dX9_parameter_89 : decode cX9_parameter 89 = .ok (.iload_n 1, 1) := by decide +kernel
theorem dX9_parameter_90 : decode cX9_parameter 90 = .ok (.dup2, 1) := by decide +kernel
theorem dX9_parameter_91 : decode cX9_parameter 91 = .ok (.iaload, 1) := by decide +kernel
theorem dX9_parameter_92 : decode cX9_parameter 92 = .ok (.iconst 1, 1) := by decide +kernel
theorem dX9_parameter_93 : decode cX9_parameter 93 = .ok (.iadd, 1) := by decide +kernel
theorem dX9_parameter_94 : decode cX9_parameter 94 = .ok (.iastore, 1) := by decide +kernel
theorem dX9_parameter_95 : decode cX9_parameter 95 = .ok (.aload_n 0, 1) := by decide +kernel
theorem dX9_parameter_96 : decode cX9_parameter 96 = .ok (.iload_n 1, 1) := by decide +kernel
theorem dX9_parameter_97 : decode cX9_parameter 97 = .ok (.iload_n 2, 1) := by decide +kernel
theorem dX9_parameter_98 : decode cX9_parameter 98 = .ok (.iload_n 3, 1) := by decide +kernel
theorem dX9_parameter_99 : decode cX9_parameter 99 = .ok (.aload_n 0, 1) := by decide +kernel
theorem dX9_parameter_100 : decode cX9_parameter 100 = .ok (.iload_n 1, 1) := by decide +kernel
theorem dX9_parameter_101 : decode cX9_parameter 101 = .ok (.iload_n 3, 1) := by decide +kernel
theorem dX9_parameter_102 : decode cX9_parameter 102 = .ok (.iconst 0, 1) := by decide +kernel
theorem dX9_parameter_103 : decode cX9_parameter 103 = .ok (.invokevirtual 139, 3) := by decide +kernel
theorem dX9_parameter_106 : decode cX9_parameter 106 = .ok (.iconst 0, 1) := by decide +kernel
theorem dX9_parameter_107 : decode cX9_parameter 107 = .ok (.invokevirtual 135, 3) := by decide +kernel
theorem dX9_parameter_110 : decode cX9_parameter 110 = .ok (.ireturn, 1) := by decide +kernel
set_option maxRecDepth 20000 in
theorem ggX9_variable_X9_isProcedure : GoodIn wsX9_variable wsX9_isProcedure := goodIn_r _ [8, 9, 10, 11, 7, 12, 33, 34, 35, 36, 37, 38, 39, 40, 41, 42, 43, 44, 45, 46, 47, 48, 49, 50, 51, 52, 53, 54, 55, 56, 57, 58, 59, 60, 61, 62, 63, 64, 65, 66, 67, 68, 69, 70, 71, 72, 73, 74, 75, 76, 77, 78, 79, 80, 81, 82, 83, 84, 85, 86, 87, 88, 89, 90, 91, 92] (by decide +kernel) (by decide +kernel)
set_option maxRecDepth 20000 in
theorem gX9_variable_X9_isProcedure : GoodIn wsX9_variable (wsV RX9 124 RX9 yX9_isProcedure wsX9_isProcedure) := goodIn_app (goodIn_of _ (by decide +kernel)) ggX9_variable_X9_isProcedure
set_option maxRecDepth 20000 in
theorem ggX9_variable_X9_no : GoodIn wsX9_variable wsX9_no := goodIn_r _ [16, 1, 33, 34, 35, 36, 37, 38, 39, 40, 41, 42, 43, 44, 45, 46, 47, 48, 49, 50, 51, 52, 53, 54, 55, 56, 57, 58, 59, 60, 61, 62, 63, 64, 65, 66, 67, 68, 69, 70, 71, 72, 73, 74, 75, 76, 77, 78, 79, 80, 81, 82, 83, 84, 85, 86, 87, 88, 89, 90, 91, 92] (by decide +kernel) (by decide +kernel)
set_option maxRecDepth 20000 in
theorem gX9_variable_X9_no : GoodIn wsX9_variable (wsV RX9 128 RX9 yX9_no wsX9_no) := goodIn_app (goodIn_of _ (by decide +kernel)) ggX9_variable_X9_no
set_option maxRecDepth 20000 in
theorem ggX9_variable_X9_isIn : GoodIn wsX9_variable wsX9_isIn := goodIn_r _ [12] (by decide +kernel) (by decide +kernel)
set_option maxRecDepth 20000 in
theorem gX9_variable_X9_isIn : GoodIn wsX9_variable (va_wsS RX9 117 yX9_isIn wsX9_isIn) := goodIn_app (goodIn_of _ (by decide +kernel)) ggX9_variable_X9_isIn
set_option maxRecDepth 20000 in
theorem ggX9_variable_X9_isName : GoodIn wsX9_variable wsX9_isName := goodIn_r _ [19, 10, 11, 7, 12] (by decide +kernel) (by decide +kernel)
set_option maxRecDepth 20000 in
theorem gX9_variable_X9_isName : GoodIn wsX9_variable (va_wsS RX9 132 yX9_isName wsX9_isName) := goodIn_app (goodIn_of _ (by decide +kernel)) ggX9_variable_X9_isName
set_option maxRecDepth 20000 in
theorem ggX9_variable_X9_addPlace : GoodIn wsX9_variable wsX9_addPlace := goodIn_r _ [23, 24, 25, 26, 33, 34, 35, 36, 37, 38, 39, 40, 41, 42, 43, 44, 45, 46, 47, 48, 49, 50, 51, 52, 53, 54, 55, 56, 57, 58, 59, 60, 61, 62, 63, 64, 65, 66, 67, 68, 69, 70, 71, 72, 73, 74, 75, 76, 77, 78, 79, 80, 81, 82, 83, 84, 85, 86, 87, 88, 89, 90, 91, 92] (by decide +kernel) (by decide +kernel)
set_option maxRecDepth 20000 in
theorem gX9_variable_X9_addPlace : GoodIn wsX9_variable (wsV RX9 139 RX9 yX9_addPlace wsX9_addPlace) := goodIn_app (goodIn_of _ (by decide +kernel)) ggX9_variable_X9_addPlace
set_option maxRecDepth 20000 in
theorem ggX9_variable_X9_declare : GoodIn wsX9_variable wsX9_declare := goodIn_r _ [30, 3, 31, 32, 33, 34, 35, 36, 37, 38, 39, 40, 41, 42, 43, 44, 45, 46, 47, 48, 49, 50, 51, 52, 53, 54, 55, 56, 57, 58, 59, 60, 61, 62, 63, 64, 65, 66, 67, 68, 69, 70, 71, 72, 73, 74, 75, 76, 77, 78, 79, 80, 81, 82, 83, 84, 85, 86, 87, 88, 89, 90, 91, 92] (by decide +kernel) (by decide +kernel)
set_option maxRecDepth 20000 in
theorem gX9_variable_X9_declare : GoodIn wsX9_variable (wsV RX9 135 RX9 yX9_declare wsX9_declare) := goodIn_app (goodIn_of _ (by decide +kernel)) ggX9_variable_X9_declare
theorem dX9_variable_0 : decode cX9_variable 0 = .ok (.aload_n 0, 1) := by decide +kernel
theorem dX9_variable_1 : decode cX9_variable 1 = .ok (.iconst 0, 1) := by decide +kernel
theorem dX9_variable_2 : decode cX9_variable 2 = .ok (.putfield 114, 3) := by decide +kernel
theorem dX9_variable_5 : decode cX9_variable 5 = .ok (.aload_n 0, 1) := by decide +kernel
theorem dX9_variable_6 : decode cX9_variable 6 = .ok (.iload_n 1, 1) := by decide +kernel
theorem dX9_variable_7 : decode cX9_variable 7 = .ok (.invokevirtual 124, 3) := by decide +kernel
theorem dX9_variable_10 : decode cX9_variable 10 = .ok (.ifCond .ne 9, 3) := by decide +kernel
theorem dX9_variable_13 : decode cX9_variable 13 = .ok (.aload_n 0, 1) := by decide +kernel
theorem dX9_variable_14 : decode cX9_variable 14 = .ok (.iconst 1, 1) := by decide +kernel
theorem dX9_variable_15 : decode cX9_variable 15 = .ok (.invokevirtual 128, 3) := by decide +kernel
theorem dX9_variable_18 : decode cX9_variable 18 = .ok (.ireturn, 1) := by decide +kernel
theorem dX9_variable_19 : decode cX9_variable 19 = .ok (.iload_n 3, 1) := by decide +kernel
theorem dX9_variable_20 : decode cX9_variable 20 = .ok (.iconst 1, 1) := by decide +kernel
theorem dX9_variable_21 : decode cX9_variable 21 = .ok (.if_icmp .ne 14, 3) := by decide +kernel
theorem dX9_variable_24 : decode cX9_variable 24 = .ok (.iload 4, 2) := by decide +kernel
theorem dX9_variable_26 : decode cX9_variable 26 = .ok (.iconst 1, 1) := by decide +kernel
theorem dX9_variable_27 : decode cX9_variable 27 = .ok (.bipush 8, 2) := by decide +kernel
theorem dX9_variable_29 : decode cX9_variable 29 = .ok (.invokestatic 117, 3) := by decide +kernel
theorem dX9_variable_32 : decode cX9_variable 32 = .ok (.goto 30, 3) := by decide +kernel
theorem dX9_variable_35 : decode cX9_variable 35 = .ok (.iload_n 3, 1) := by decide +kernel
theorem dX9_variable_36 : decode cX9_variable 36 = .ok (.iconst 3, 1) := by decide +kernel
theorem dX9_variable_37 : decode cX9_variable 37 = .ok (.if_icmp .ne 15, 3) := by decide +kernel
theorem dX9_variable_40 : decode cX9_variable 40 = .ok (.iload 4, 2) := by decide +kernel
theorem dX9_variable_42 : decode cX9_variable 42 = .ok (.bipush (-99), 2) := by decide +kernel
theorem dX9_variable_44 : decode cX9_variable 44 = .ok (.bipush 99, 2) := by decide +kernel
theorem dX9_variable_46 : decode cX9_variable 46 = .ok (.invokestatic 117, 3) := by decide +kernel
theorem dX9_variable_49 : decode cX9_variable 49 = .ok (.goto 13, 3) := by decide +kernel
theorem dX9_variable_52 : decode cX9_variable 52 = .ok (.iload 4, 2) := by decide +kernel
theorem dX9_variable_54 : decode cX9_variable 54 = .ok (.ifCond .ne 7, 3) := by decide +kernel
theorem dX9_variable_57 : decode cX9_variable 57 = .ok (.iconst 1, 1) := by decide +kernel
theorem dX9_variable_58 : decode cX9_variable 58 = .ok (.goto 4, 3) := by decide +kernel
theorem dX9_variable_61 : decode cX9_variable 61 = .ok (.iconst 0, 1) := by decide +kernel
theorem dX9_variable_62 : decode cX9_variable 62 = .ok (.istore 5, 2) := by decide +kernel
theorem dX9_variable_64 : decode cX9_variable 64 = .ok (.iload_n 2, 1) := by decide +kernel
theorem dX9_variable_65 : decode cX9_variable 65 = .ok (.invokestatic 132, 3) := by decide +kernel
theorem dX9_variable_68 : decode cX9_variable 68 = .ok (.ifCond .eq 17, 3) := by decide +kernel
theorem dX9_variable_71 : decode cX9_variable 71 = .ok (.iload_n 3, 1) := by decide +kernel
theorem dX9_variable_72 : decode cX9_variable 72 = .ok (.iconst 0, 1) := by decide +kernel
theorem dX9_variable_73 : decode cX9_variable 73 = .ok (.iconst 3, 1) := by decide +kernel
theorem dX9_variable_74 : decode cX9_variable 74 = .ok (.invokestatic 117, 3) := by decide +kernel
theorem dX9_variable_77 : decode cX9_variable 77 = .ok (.ifCond .eq 8, 3) := by decide +kernel
theorem dX9_variable_80 : decode cX9_variable 80 = .ok (.iload 5, 2) := by decide +kernel
theorem dX9_variable_82 : decode cX9_variable 82 = .ok (.ifCond .ne 9, 3) := by decide +kernel
theorem dX9_variable_85 : decode cX9_variable 85 = .ok (.aload_n 0, 1) := by decide +kernel
theorem dX9_variable_86 : decode cX9_variable 86 = .ok (.iconst 2, 1) := by decide +kernel
theorem dX9_variable_87 : decode cX9_variable 87 = .ok (.invokevirtual 128, 3) := by decide +kernel
theorem dX9_variable_90 : decode cX9_variable 90 = .ok (.ireturn, 1) := by decide +kernel
theorem dX9_variable_91 : decode cX9_variable 91 = .ok (.aload_n 0, 1) := by decide +kernel
theorem dX9_variable_92 : decode cX9_variable 92 = .ok (.getfield 23, 3) := by decide +kernel
theorem dX9_variable_95 : decode cX9_variable 95 = .ok (.iload_n 1, 1) := by decide +kernel
theorem dX9_variable_96 : decode cX9_variable 96 = .ok (.iaload, 1) := by decide +kernel
theorem dX9_variable_97 : decode cX9_variable 97 = .ok (.bipush 6, 2) := by decide +kernel
theorem dX9_variable_99 : decode cX9_variable 99 = .ok (.if_icmp .eq 18, 3) := by decide +kernel
theorem dX9_variable_102 : decode cX9_variable 102 = .ok (.aload_n 0, 1) := by decide +kernel
theorem dX9_variable_103 : decode cX9_variable 103 = .ok (.getfield 32, 3) := by decide +kernel
theorem dX9_variable_106 : decode cX9_variable 106 = .ok (.iload_n 1, 1) := by decide +kernel
theorem dX9_variable_107 : decode cX9_variable 107 = .ok (.bipush 16, 2) := by decide +kernel
theorem dX9_variable_109 : decode cX9_variable 109 = .ok (.imul, 1) := by decide +kernel
theorem dX9_variable_110 : decode cX9_variable 110 = .ok (.iload_n 2, 1) := by decide +kernel
theorem dX9_variable_111 : decode cX9_variable 111 = .ok (.iadd, 1) := by decide +kernel
theorem dX9_variable_112 : decode cX9_variable 112 = .ok (.iaload, 1) := by decide +kernel
theorem dX9_variable_113 : decode cX9_variable 113 = .ok (.iconst (-1), 1) := by decide +kernel
theorem dX9_variable_114 : decode cX9_variable 114 = .ok (.if_icmp .eq 9, 3) := by decide +kernel
theorem dX9_variable_117 : decode cX9_variable 117 = .ok (.aload_n 0, 1) := by decide +kernel
theorem dX9_variable_118 : decode cX9_variable 118 = .ok (.iconst 3, 1) := by decide +kernel
theorem dX9_variable_119 : decode cX9_variable 119 = .ok (.invokevirtual 128, 3) := by decide +kernel
theorem dX9_variable_122 : decode cX9_variable 122 = .ok (.ireturn, 1) := by decide +kernel
theorem dX9_variable_123 : decode cX9_variable 123 = .ok (.aload_n 0, 1) := by decide +kernel
theorem dX9_variable_124 : decode cX9_variable 124 = .ok (.getfield 23, 3) := by decide +kernel
theorem dX9_variable_127 : decode cX9_variable 127 = .ok (.iload_n 1, 1) := by decide +kernel
theorem dX9_variable_128 : decode cX9_variable 128 = .ok (.dup2, 1) := by decide +kernel
theorem dX9_variable_129 : decode cX9_variable 129 = .ok (.iaload, 1) := by decide +kernel
theorem dX9_variable_130 : decode cX9_variable 130 = .ok (.iconst 1, 1) := by decide +kernel
theorem dX9_variable_131 : decode cX9_variable 131 = .ok (.iadd, 1) := by decide +kernel
theorem dX9_variable_132 : decode cX9_variable 132 = .ok (.iastore, 1) := by decide +kernel
theorem dX9_variable_133 : decode cX9_variable 133 = .ok (.aload_n 0, 1) := by decide +kernel
theorem dX9_variable_134 : decode cX9_variable 134 = .ok (.iload_n 1, 1) := by decide +kernel
theorem dX9_variable_135 : decode cX9_variable 135 = .ok (.iload_n 2, 1) := by decide +kernel
theorem dX9_variable_136 : decode cX9_variable 136 = .ok (.bipush 6, 2) := by decide +kernel
theorem dX9_variable_138 : decode cX9_variable 138 = .ok (.iload_n 3, 1) := by decide +kernel
theorem dX9_variable_139 : decode cX9_variable 139 = .ok (.iadd, 1) := by decide +kernel
theorem dX9_variable_140 : decode cX9_variable 140 = .ok (.iload_n 3, 1) := by decide +kernel
theorem dX9_variable_141 : decode cX9_variable 141 = .ok (.iconst 3, 1) := by decide +kernel
theorem dX9_variable_142 : decode cX9_variable 142 = .ok (.if_icmp .ne 7, 3) := by decide +kernel
theorem dX9_variable_145 : decode cX9_variable 145 = .ok (.iconst (-1), 1) := by decide +kernel
theorem dX9_variable_146 : decode cX9_variable 146 = .ok (.goto 14, 3) := by decide +kernel
theorem dX9_variable_149 : decode cX9_variable 149 = .ok (.aload_n 0, 1) := by decide +kernel
theorem dX9_variable_150 : decode cX9_variable 150 = .ok (.iload_n 1, 1) := by decide +kernel
theorem dX9_variable_151 : decode cX9_variable 151 = .ok (.bipush 6, 2) := by decide +kernel
theorem dX9_variable_153 : decode cX9_variable 153 = .ok (.iload_n 3, 1) := by decide +kernel
theorem dX9_variable_154 : decode cX9_variable 154 = .ok (.iadd, 1) := by decide +kernel
theorem dX9_variable_155 : decode cX9_variable 155 = .ok (.iload 4, 2) := by decide +kernel
theorem dX9_variable_157 : decode cX9_variable 157 = .ok (.invokevirtual 139, 3) := by decide +kernel
theorem dX9_variable_160 : decode cX9_variable 160 = .ok (.iload 4, 2) := by decide +kernel
theorem dX9_variable_162 : decode cX9_variable 162 = .ok (.invokevirtual 135, 3) := by decide +kernel
theorem dX9_variable_165 : decode cX9_variable 165 = .ok (.ireturn, 1) := by decide +kernel
theorem dX9_declarer_0 : decode cX9_declarer 0 = .ok (.iload_n 1, 1) := by decide +kernel
theorem dX9_declarer_1 : decode cX9_declarer 1 = .ok (.istore_n 3, 1) := by decide +kernel
theorem dX9_declarer_2 : decode cX9_declarer 2 = .ok (.iload_n 3, 1) := by decide +kernel
theorem dX9_declarer_3 : decode cX9_declarer 3 = .ok (.iconst (-1), 1) := by decide +kernel
theorem dX9_declarer_4 : decode cX9_declarer 4 = .ok (.if_icmp .eq 28, 3) := by decide +kernel
theorem dX9_declarer_7 : decode cX9_declarer 7 = .ok (.aload_n 0, 1) := by decide +kernel
theorem dX9_declarer_8 : decode cX9_declarer 8 = .ok (.getfield 32, 3) := by decide +kernel
theorem dX9_declarer_11 : decode cX9_declarer 11 = .ok (.iload_n 3, 1) := by decide +kernel
theorem dX9_declarer_12 : decode cX9_declarer 12 = .ok (.bipush 16, 2) := by decide +kernel
theorem dX9_declarer_14 : decode cX9_declarer 14 = .ok (.imul, 1) := by decide +kernel
theorem dX9_declarer_15 : decode cX9_declarer 15 = .ok (.iload_n 2, 1) := by decide +kernel
theorem dX9_declarer_16 : decode cX9_declarer 16 = .ok (.iadd, 1) := by decide +kernel
theorem dX9_declarer_17 : decode cX9_declarer 17 = .ok (.iaload, 1) := by decide +kernel
theorem dX9_declarer_18 : decode cX9_declarer 18 = .ok (.iconst (-1), 1) := by decide +kernel
theorem dX9_declarer_19 : decode cX9_declarer 19 = .ok (.if_icmp .ne 13, 3) := by decide +kernel
theorem dX9_declarer_22 : decode cX9_declarer 22 = .ok (.aload_n 0, 1) := by decide +kernel
theorem dX9_declarer_23 : decode cX9_declarer 23 = .ok (.getfield 13, 3) := by decide +kernel
theorem dX9_declarer_26 : decode cX9_declarer 26 = .ok (.iload_n 3, 1) := by decide +kernel
theorem dX9_declarer_27 : decode cX9_declarer 27 = .ok (.iaload, 1) := by decide +kernel
theorem dX9_declarer_28 : decode cX9_declarer 28 = .ok (.istore_n 3, 1) := by decide +kernel
theorem dX9_declarer_29 : decode cX9_declarer 29 = .ok (.goto (-27), 3) := by decide +kernel
theorem dX9_declarer_32 : decode cX9_declarer 32 = .ok (.iload_n 3, 1) := by decide +kernel
theorem dX9_declarer_33 : decode cX9_declarer 33 = .ok (.ireturn, 1) := by decide +kernel
theorem dX9_hops_0 : decode cX9_hops 0 = .ok (.iconst 0, 1) := by decide +kernel
theorem dX9_hops_1 : decode cX9_hops 1 = .ok (.istore_n 3, 1) := by decide +kernel
theorem dX9_hops_2 : decode cX9_hops 2 = .ok (.iload_n 1, 1) := by decide +kernel
theorem dX9_hops_3 : decode cX9_hops 3 = .ok (.istore 4, 2) := by decide +kernel
theorem dX9_hops_5 : decode cX9_hops 5 = .ok (.aload_n 0, 1) := by decide +kernel
theorem dX9_hops_6 : decode cX9_hops 6 = .ok (.getfield 32, 3) := by decide +kernel
theorem dX9_hops_9 : decode cX9_hops 9 = .ok (.iload 4, 2) := by decide +kernel
theorem dX9_hops_11 : decode cX9_hops 11 = .ok (.bipush 16, 2) := by decide +kernel
theorem dX9_hops_13 : decode cX9_hops 13 = .ok (.imul, 1) := by decide +kernel
theorem dX9_hops_14 : decode cX9_hops 14 = .ok (.iload_n 2, 1) := by decide +kernel
theorem dX9_hops_15 : decode cX9_hops 15 = .ok (.iadd, 1) := by decide +kernel
theorem dX9_hops_16 : decode cX9_hops 16 = .ok (.iaload, 1) := by decide +kernel
theorem dX9_hops_17 : decode cX9_hops 17 = .ok (.iconst (-1), 1) := by decide +kernel
theorem dX9_hops_18 : decode cX9_hops 18 = .ok (.if_icmp .ne 18, 3) := by decide +kernel
theorem dX9_hops_21 : decode cX9_hops 21 = .ok (.iinc 3 1, 3) := by decide +kernel
theorem dX9_hops_24 : decode cX9_hops 24 = .ok (.aload_n 0, 1) := by decide +kernel
theorem dX9_hops_25 : decode cX9_hops 25 = .ok (.getfield 13, 3) := by decide +kernel
theorem dX9_hops_28 : decode cX9_hops 28 = .ok (.iload 4, 2) := by decide +kernel
theorem dX9_hops_30 : decode cX9_hops 30 = .ok (.iaload, 1) := by decide +kernel
theorem dX9_hops_31 : decode cX9_hops 31 = .ok (.istore 4, 2) := by decide +kernel
theorem dX9_hops_33 : decode cX9_hops 33 = .ok (.goto (-28), 3) := by decide +kernel
theorem dX9_hops_36 : decode cX9_hops 36 = .ok (.iload_n 3, 1) := by decide +kernel
theorem dX9_hops_37 : decode cX9_hops 37 = .ok (.ireturn, 1) := by decide +kernel
set_option maxRecDepth 20000 in
theorem ggX9_whatIs_X9_declarer : GoodIn wsX9_whatIs wsX9_declarer := goodIn_r _ [6, 1, 7, 8, 9, 10, 11, 12, 13, 14, 15, 16, 17, 18, 19, 20, 21, 22, 23, 24, 25, 26, 27, 28, 29, 30, 31, 32, 33, 34, 35, 36, 37, 38, 39, 40, 41, 42, 43, 44, 45, 46, 47, 48, 49, 50, 51, 52, 53, 54, 55, 56, 57, 58, 59, 60, 61, 62, 63, 64, 65, 66, 67] (by decide +kernel) (by decide +kernel)
set_option maxRecDepth 20000 in
theorem gX9_whatIs_X9_declarer : GoodIn wsX9_whatIs (wsV RX9 143 RX9 yX9_declarer wsX9_declarer) := goodIn_app (goodIn_of _ (by decide +kernel)) ggX9_whatIs_X9_declarer
theorem dX9_whatIs_0 : decode cX9_whatIs 0 = .ok (.aload_n 0, 1) := by decide +kernel
theorem dX9_whatIs_1 : decode cX9_whatIs 1 = .ok (.iload_n 1, 1) := by decide +kernel
theorem dX9_whatIs_2 : decode cX9_whatIs 2 = .ok (.iload_n 2, 1) := by decide +kernel
theorem dX9_whatIs_3 : decode cX9_whatIs 3 = .ok (.invokevirtual 143, 3) := by decide +kernel
theorem dX9_whatIs_6 : decode cX9_whatIs 6 = .ok (.istore_n 3, 1) := by decide +kernel
theorem dX9_whatIs_7 : decode cX9_whatIs 7 = .ok (.iload_n 3, 1) := by decide +kernel
theorem dX9_whatIs_8 : decode cX9_whatIs 8 = .ok (.iconst (-1), 1) := by decide +kernel
theorem dX9_whatIs_9 : decode cX9_whatIs 9 = .ok (.if_icmp .ne 7, 3) := by decide +kernel
theorem dX9_whatIs_12 : decode cX9_whatIs 12 = .ok (.iconst (-1), 1) := by decide +kernel
theorem dX9_whatIs_13 : decode cX9_whatIs 13 = .ok (.goto 14, 3) := by decide +kernel
theorem dX9_whatIs_16 : decode cX9_whatIs 16 = .ok (.aload_n 0, 1) := by decide +kernel
theorem dX9_whatIs_17 : decode cX9_whatIs 17 = .ok (.getfield 32, 3) := by decide +kernel
theorem dX9_whatIs_20 : decode cX9_whatIs 20 = .ok (.iload_n 3, 1) := by decide +kernel
theorem dX9_whatIs_21 : decode cX9_whatIs 21 = .ok (.bipush 16, 2) := by decide +kernel
theorem dX9_whatIs_23 : decode cX9_whatIs 23 = .ok (.imul, 1) := by decide +kernel
theorem dX9_whatIs_24 : decode cX9_whatIs 24 = .ok (.iload_n 2, 1) := by decide +kernel
theorem dX9_whatIs_25 : decode cX9_whatIs 25 = .ok (.iadd, 1) := by decide +kernel
theorem dX9_whatIs_26 : decode cX9_whatIs 26 = .ok (.iaload, 1) := by decide +kernel
theorem dX9_whatIs_27 : decode cX9_whatIs 27 = .ok (.ireturn, 1) := by decide +kernel
set_option maxRecDepth 20000 in
theorem ggX9_sizeIs_X9_declarer : GoodIn wsX9_sizeIs wsX9_declarer := goodIn_r _ [6, 7, 8, 9, 10, 11, 12, 13, 14, 15, 16, 17, 18, 19, 20, 21, 22, 23, 24, 25, 26, 27, 28, 29, 30, 31, 32, 33, 34, 35, 36, 37, 38, 39, 40, 41, 42, 43, 44, 45, 46, 47, 48, 49, 50, 51, 52, 53, 54, 55, 56, 57, 58, 59, 60, 61, 62, 63, 64, 65, 66, 67, 68] (by decide +kernel) (by decide +kernel)
set_option maxRecDepth 20000 in
theorem gX9_sizeIs_X9_declarer : GoodIn wsX9_sizeIs (wsV RX9 143 RX9 yX9_declarer wsX9_declarer) := goodIn_app (goodIn_of _ (by decide +kernel)) ggX9_sizeIs_X9_declarer
theorem dX9_sizeIs_0 : decode cX9_sizeIs 0 = .ok (.aload_n 0, 1) := by decide +kernel
theorem dX9_sizeIs_1 : decode cX9_sizeIs 1 = .ok (.getfield 38, 3) := by decide +kernel
theorem dX9_sizeIs_4 : decode cX9_sizeIs 4 = .ok (.aload_n 0, 1) := by decide +kernel
theorem dX9_sizeIs_5 : decode cX9_sizeIs 5 = .ok (.iload_n 1, 1) := by decide +kernel
theorem dX9_sizeIs_6 : decode cX9_sizeIs 6 = .ok (.iload_n 2, 1) := by decide +kernel
theorem dX9_sizeIs_7 : decode cX9_sizeIs 7 = .ok (.invokevirtual 143, 3) := by decide +kernel
theorem dX9_sizeIs_10 : decode cX9_sizeIs 10 = .ok (.bipush 16, 2) := by decide +kernel
theorem dX9_sizeIs_12 : decode cX9_sizeIs 12 = .ok (.imul, 1) := by decide +kernel
theorem dX9_sizeIs_13 : decode cX9_sizeIs 13 = .ok (.iload_n 2, 1) := by decide +kernel
theorem dX9_sizeIs_14 : decode cX9_sizeIs 14 = .ok (.iadd, 1) := by decide +kernel
theorem dX9_sizeIs_15 : decode cX9_sizeIs 15 = .ok (.iaload, 1) := by decide +kernel
theorem dX9_sizeIs_16 : decode cX9_sizeIs 16 = .ok (.ireturn, 1) := by decide +kernel
set_option maxRecDepth 20000 in
theorem ggX9_placeIs_X9_declarer : GoodIn wsX9_placeIs wsX9_declarer := goodIn_r _ [6, 7, 8, 9, 10, 11, 12, 13, 14, 15, 16, 17, 18, 19, 20, 21, 22, 23, 24, 25, 26, 27, 28, 29, 30, 31, 32, 33, 34, 35, 36, 37, 38, 39, 40, 41, 42, 43, 44, 45, 46, 47, 48, 49, 50, 51, 52, 53, 54, 55, 56, 57, 58, 59, 60, 61, 62, 63, 64, 65, 66, 67, 68] (by decide +kernel) (by decide +kernel)
set_option maxRecDepth 20000 in
theorem gX9_placeIs_X9_declarer : GoodIn wsX9_placeIs (wsV RX9 143 RX9 yX9_declarer wsX9_declarer) := goodIn_app (goodIn_of _ (by decide +kernel)) ggX9_placeIs_X9_declarer
theorem dX9_placeIs_0 : decode cX9_placeIs 0 = .ok (.aload_n 0, 1) := by decide +kernel
theorem dX9_placeIs_1 : decode cX9_placeIs 1 = .ok (.getfield 35, 3) := by decide +kernel
theorem dX9_placeIs_4 : decode cX9_placeIs 4 = .ok (.aload_n 0, 1) := by decide +kernel
theorem dX9_placeIs_5 : decode cX9_placeIs 5 = .ok (.iload_n 1, 1) := by decide +kernel
theorem dX9_placeIs_6 : decode cX9_placeIs 6 = .ok (.iload_n 2, 1) := by decide +kernel
theorem dX9_placeIs_7 : decode cX9_placeIs 7 = .ok (.invokevirtual 143, 3) := by decide +kernel
theorem dX9_placeIs_10 : decode cX9_placeIs 10 = .ok (.bipush 16, 2) := by decide +kernel
theorem dX9_placeIs_12 : decode cX9_placeIs 12 = .ok (.imul, 1) := by decide +kernel
theorem dX9_placeIs_13 : decode cX9_placeIs 13 = .ok (.iload_n 2, 1) := by decide +kernel
theorem dX9_placeIs_14 : decode cX9_placeIs 14 = .ok (.iadd, 1) := by decide +kernel
theorem dX9_placeIs_15 : decode cX9_placeIs 15 = .ok (.iaload, 1) := by decide +kernel
theorem dX9_placeIs_16 : decode cX9_placeIs 16 = .ok (.ireturn, 1) := by decide +kernel
set_option maxRecDepth 20000 in
theorem ggX9_ofName_X9_isProcedure : GoodIn wsX9_ofName wsX9_isProcedure := goodIn_r _ [6, 7, 8, 9, 5, 10, 42, 43, 44, 45, 46, 47, 48, 49, 50, 51, 52, 53, 54, 55, 56, 57, 58, 59, 60, 61, 62, 63, 64, 65, 66, 67, 68, 69, 70, 71, 72, 73, 74, 75, 76, 77, 78, 79, 80, 81, 82, 83, 84, 85, 86, 87, 88, 89, 90, 91, 92, 93, 94, 95, 96, 97, 98, 99, 100, 101] (by decide +kernel) (by decide +kernel)
set_option maxRecDepth 20000 in
theorem gX9_ofName_X9_isProcedure : GoodIn wsX9_ofName (wsV RX9 124 RX9 yX9_isProcedure wsX9_isProcedure) := goodIn_app (goodIn_of _ (by decide +kernel)) ggX9_ofName_X9_isProcedure
set_option maxRecDepth 20000 in
theorem ggX9_ofName_X9_no : GoodIn wsX9_ofName wsX9_no := goodIn_r _ [14, 1, 42, 43, 44, 45, 46, 47, 48, 49, 50, 51, 52, 53, 54, 55, 56, 57, 58, 59, 60, 61, 62, 63, 64, 65, 66, 67, 68, 69, 70, 71, 72, 73, 74, 75, 76, 77, 78, 79, 80, 81, 82, 83, 84, 85, 86, 87, 88, 89, 90, 91, 92, 93, 94, 95, 96, 97, 98, 99, 100, 101] (by decide +kernel) (by decide +kernel)
set_option maxRecDepth 20000 in
theorem gX9_ofName_X9_no : GoodIn wsX9_ofName (wsV RX9 128 RX9 yX9_no wsX9_no) := goodIn_app (goodIn_of _ (by decide +kernel)) ggX9_ofName_X9_no
set_option maxRecDepth 20000 in
theorem ggX9_ofName_X9_isName : GoodIn wsX9_ofName wsX9_isName := goodIn_r _ [17, 8, 9, 5, 10] (by decide +kernel) (by decide +kernel)
set_option maxRecDepth 20000 in
theorem gX9_ofName_X9_isName : GoodIn wsX9_ofName (va_wsS RX9 132 yX9_isName wsX9_isName) := goodIn_app (goodIn_of _ (by decide +kernel)) ggX9_ofName_X9_isName
set_option maxRecDepth 20000 in
theorem ggX9_ofName_X9_isIn : GoodIn wsX9_ofName wsX9_isIn := goodIn_r _ [10] (by decide +kernel) (by decide +kernel)
set_option maxRecDepth 20000 in
theorem gX9_ofName_X9_isIn : GoodIn wsX9_ofName (va_wsS RX9 117 yX9_isIn wsX9_isIn) := goodIn_app (goodIn_of _ (by decide +kernel)) ggX9_ofName_X9_isIn
set_option maxRecDepth 20000 in
theorem ggX9_ofName_X9_declarer : GoodIn wsX9_ofName wsX9_declarer := goodIn_r _ [21, 22, 23, 42, 43, 44, 45, 46, 47, 48, 49, 50, 51, 52, 53, 54, 55, 56, 57, 58, 59, 60, 61, 62, 63, 64, 65, 66, 67, 68, 69, 70, 71, 72, 73, 74, 75, 76, 77, 78, 79, 80, 81, 82, 83, 84, 85, 86, 87, 88, 89, 90, 91, 92, 93, 94, 95, 96, 97, 98, 99, 100, 101] (by decide +kernel) (by decide +kernel)
set_option maxRecDepth 20000 in
theorem gX9_ofName_X9_declarer : GoodIn wsX9_ofName (wsV RX9 143 RX9 yX9_declarer wsX9_declarer) := goodIn_app (goodIn_of _ (by decide +kernel)) ggX9_ofName_X9_declarer
set_option maxRecDepth 20000 in
theorem ggX9_ofName_X9_hops : GoodIn wsX9_ofName wsX9_hops := goodIn_r _ [27, 22, 23, 42, 43, 44, 45, 46, 47, 48, 49, 50, 51, 52, 53, 54, 55, 56, 57, 58, 59, 60, 61, 62, 63, 64, 65, 66, 67, 68, 69, 70, 71, 72, 73, 74, 75, 76, 77, 78, 79, 80, 81, 82, 83, 84, 85, 86, 87, 88, 89, 90, 91, 92, 93, 94, 95, 96, 97, 98, 99, 100, 101] (by decide +kernel) (by decide +kernel)
set_option maxRecDepth 20000 in
theorem gX9_ofName_X9_hops : GoodIn wsX9_ofName (wsV RX9 147 RX9 yX9_hops wsX9_hops) := goodIn_app (goodIn_of _ (by decide +kernel)) ggX9_ofName_X9_hops
set_option maxRecDepth 20000 in
theorem ggX9_ofName_X9_placeIs : GoodIn wsX9_ofName wsX9_placeIs := goodIn_r _ [31, 32, 18, 19, 20, 5, 21, 22, 23, 42, 43, 44, 45, 46, 47, 48, 49, 50, 51, 52, 53, 54, 55, 56, 57, 58, 59, 60, 61, 62, 63, 64, 65, 66, 67, 68, 69, 70, 71, 72, 73, 74, 75, 76, 77, 78, 79, 80, 81, 82, 83, 84, 85, 86, 87, 88, 89, 90, 91, 92, 93, 94, 95, 96, 97, 98, 99, 100, 101] (by decide +kernel) (by decide +kernel)
set_option maxRecDepth 20000 in
theorem gX9_ofName_X9_placeIs : GoodIn wsX9_ofName (wsV RX9 150 RX9 yX9_placeIs wsX9_placeIs) := goodIn_app (goodIn_of _ (by decide +kernel)) ggX9_ofName_X9_placeIs
set_option maxRecDepth 20000 in
theorem ggX9_ofName_X9_whatIs : GoodIn wsX9_ofName wsX9_whatIs := goodIn_r _ [36, 22, 18, 19, 20, 5, 21, 23, 42, 43, 44, 45, 46, 47, 48, 49, 50, 51, 52, 53, 54, 55, 56, 57, 58, 59, 60, 61, 62, 63, 64, 65, 66, 67, 68, 69, 70, 71, 72, 73, 74, 75, 76, 77, 78, 79, 80, 81, 82, 83, 84, 85, 86, 87, 88, 89, 90, 91, 92, 93, 94, 95, 96, 97, 98, 99, 100, 101] (by decide +kernel) (by decide +kernel)
set_option maxRecDepth 20000 in
theorem gX9_ofName_X9_whatIs : GoodIn wsX9_ofName (wsV RX9 153 RX9 yX9_whatIs wsX9_whatIs) := goodIn_app (goodIn_of _ (by decide +kernel)) ggX9_ofName_X9_whatIs
set_option maxRecDepth 20000 in
theorem ggX9_ofName_X9_sizeIs : GoodIn wsX9_ofName wsX9_sizeIs := goodIn_r _ [40, 41, 18, 19, 20, 5, 21, 22, 23, 42, 43, 44, 45, 46, 47, 48, 49, 50, 51, 52, 53, 54, 55, 56, 57, 58, 59, 60, 61, 62, 63, 64, 65, 66, 67, 68, 69, 70, 71, 72, 73, 74, 75, 76, 77, 78, 79, 80, 81, 82, 83, 84, 85, 86, 87, 88, 89, 90, 91, 92, 93, 94, 95, 96, 97, 98, 99, 100, 101] (by decide +kernel) (by decide +kernel)
set_option maxRecDepth 20000 in
theorem gX9_ofName_X9_sizeIs : GoodIn wsX9_ofName (wsV RX9 156 RX9 yX9_sizeIs wsX9_sizeIs) := goodIn_app (goodIn_of _ (by decide +kernel)) ggX9_ofName_X9_sizeIs
theorem dX9_ofName_0 : decode cX9_ofName 0 = .ok (.aload_n 0, 1) := by decide +kernel
theorem dX9_ofName_1 : decode cX9_ofName 1 = .ok (.iconst 0, 1) := by decide +kernel
theorem dX9_ofName_2 : decode cX9_ofName 2 = .ok (.putfield 114, 3) := by decide +kernel
theorem dX9_ofName_5 : decode cX9_ofName 5 = .ok (.aload_n 0, 1) := by decide +kernel
theorem dX9_ofName_6 : decode cX9_ofName 6 = .ok (.iload_n 1, 1) := by decide +kernel
theorem dX9_ofName_7 : decode cX9_ofName 7 = .ok (.invokevirtual 124, 3) := by decide +kernel
theorem dX9_ofName_10 : decode cX9_ofName 10 = .ok (.ifCond .ne 9, 3) := by decide +kernel
theorem dX9_ofName_13 : decode cX9_ofName 13 = .ok (.aload_n 0, 1) := by decide +kernel
theorem dX9_ofName_14 : decode cX9_ofName 14 = .ok (.iconst 1, 1) := by decide +kernel
theorem dX9_ofName_15 : decode cX9_ofName 15 = .ok (.invokevirtual 128, 3) := by decide +kernel
theorem dX9_ofName_18 : decode cX9_ofName 18 = .ok (.ireturn, 1) := by decide +kernel
theorem dX9_ofName_19 : decode cX9_ofName 19 = .ok (.iload_n 2, 1) := by decide +kernel
theorem dX9_ofName_20 : decode cX9_ofName 20 = .ok (.invokestatic 132, 3) := by decide +kernel
theorem dX9_ofName_23 : decode cX9_ofName 23 = .ok (.ifCond .eq 12, 3) := by decide +kernel
theorem dX9_ofName_26 : decode cX9_ofName 26 = .ok (.iload_n 3, 1) := by decide +kernel
theorem dX9_ofName_27 : decode cX9_ofName 27 = .ok (.iconst 0, 1) := by decide +kernel
theorem dX9_ofName_28 : decode cX9_ofName 28 = .ok (.iconst 4, 1) := by decide +kernel
theorem dX9_ofName_29 : decode cX9_ofName 29 = .ok (.invokestatic 117, 3) := by decide +kernel
theorem dX9_ofName_32 : decode cX9_ofName 32 = .ok (.ifCond .ne 9, 3) := by decide +kernel
theorem dX9_ofName_35 : decode cX9_ofName 35 = .ok (.aload_n 0, 1) := by decide +kernel
theorem dX9_ofName_36 : decode cX9_ofName 36 = .ok (.iconst 2, 1) := by decide +kernel
theorem dX9_ofName_37 : decode cX9_ofName 37 = .ok (.invokevirtual 128, 3) := by decide +kernel
theorem dX9_ofName_40 : decode cX9_ofName 40 = .ok (.ireturn, 1) := by decide +kernel
theorem dX9_ofName_41 : decode cX9_ofName 41 = .ok (.aload_n 0, 1) := by decide +kernel
theorem dX9_ofName_42 : decode cX9_ofName 42 = .ok (.iload_n 1, 1) := by decide +kernel
theorem dX9_ofName_43 : decode cX9_ofName 43 = .ok (.iload_n 2, 1) := by decide +kernel
theorem dX9_ofName_44 : decode cX9_ofName 44 = .ok (.invokevirtual 143, 3) := by decide +kernel
theorem dX9_ofName_47 : decode cX9_ofName 47 = .ok (.istore 4, 2) := by decide +kernel
theorem dX9_ofName_49 : decode cX9_ofName 49 = .ok (.iload 4, 2) := by decide +kernel
theorem dX9_ofName_51 : decode cX9_ofName 51 = .ok (.iconst (-1), 1) := by decide +kernel
theorem dX9_ofName_52 : decode cX9_ofName 52 = .ok (.if_icmp .eq 7, 3) := by decide +kernel
theorem dX9_ofName_55 : decode cX9_ofName 55 = .ok (.iload_n 3, 1) := by decide +kernel
theorem dX9_ofName_56 : decode cX9_ofName 56 = .ok (.ifCond .ne 6, 3) := by decide +kernel
theorem dX9_ofName_59 : decode cX9_ofName 59 = .ok (.iload 4, 2) := by decide +kernel
theorem dX9_ofName_61 : decode cX9_ofName 61 = .ok (.ireturn, 1) := by decide +kernel
theorem dX9_ofName_62 : decode cX9_ofName 62 = .ok (.iload_n 3, 1) := by decide +kernel
theorem dX9_ofName_63 : decode cX9_ofName 63 = .ok (.tableswitch 46 1 3 #[25, 32, 39], 25) := by decide +kernel
theorem dX9_ofName_88 : decode cX9_ofName 88 = .ok (.aload_n 0, 1) := by decide +kernel
theorem dX9_ofName_89 : decode cX9_ofName 89 = .ok (.iload_n 1, 1) := by decide +kernel
theorem dX9_ofName_90 : decode cX9_ofName 90 = .ok (.iload_n 2, 1) := by decide +kernel
theorem dX9_ofName_91 : decode cX9_ofName 91 = .ok (.invokevirtual 147, 3) := by decide +kernel
theorem dX9_ofName_94 : decode cX9_ofName 94 = .ok (.ireturn, 1) := by decide +kernel
theorem dX9_ofName_95 : decode cX9_ofName 95 = .ok (.aload_n 0, 1) := by decide +kernel
theorem dX9_ofName_96 : decode cX9_ofName 96 = .ok (.iload_n 1, 1) := by decide +kernel
theorem dX9_ofName_97 : decode cX9_ofName 97 = .ok (.iload_n 2, 1) := by decide +kernel
theorem dX9_ofName_98 : decode cX9_ofName 98 = .ok (.invokevirtual 150, 3) := by decide +kernel
theorem dX9_ofName_101 : decode cX9_ofName 101 = .ok (.ireturn, 1) := by decide +kernel
theorem dX9_ofName_102 : decode cX9_ofName 102 = .ok (.aload_n 0, 1) := by decide +kernel
theorem dX9_ofName_103 : decode cX9_ofName 103 = .ok (.iload_n 1, 1) := by decide +kernel
theorem dX9_ofName_104 : decode cX9_ofName 104 = .ok (.iload_n 2, 1) := by decide +kernel
theorem dX9_ofName_105 : decode cX9_ofName 105 = .ok (.invokevirtual 153, 3) := by decide +kernel
theorem dX9_ofName_108 : decode cX9_ofName 108 = .ok (.ireturn, 1) := by decide +kernel
theorem dX9_ofName_109 : decode cX9_ofName 109 = .ok (.aload_n 0, 1) := by decide +kernel
theorem dX9_ofName_110 : decode cX9_ofName 110 = .ok (.iload_n 1, 1) := by decide +kernel
theorem dX9_ofName_111 : decode cX9_ofName 111 = .ok (.iload_n 2, 1) := by decide +kernel
theorem dX9_ofName_112 : decode cX9_ofName 112 = .ok (.invokevirtual 153, 3) := by decide +kernel
theorem dX9_ofName_115 : decode cX9_ofName 115 = .ok (.bipush 7, 2) := by decide +kernel
theorem dX9_ofName_117 : decode cX9_ofName 117 = .ok (.bipush 10, 2) := by decide +kernel
theorem dX9_ofName_119 : decode cX9_ofName 119 = .ok (.invokestatic 117, 3) := by decide +kernel
theorem dX9_ofName_122 : decode cX9_ofName 122 = .ok (.ifCond .eq 12, 3) := by decide +kernel
theorem dX9_ofName_125 : decode cX9_ofName 125 = .ok (.aload_n 0, 1) := by decide +kernel
theorem dX9_ofName_126 : decode cX9_ofName 126 = .ok (.iload_n 1, 1) := by decide +kernel
theorem dX9_ofName_127 : decode cX9_ofName 127 = .ok (.iload_n 2, 1) := by decide +kernel
theorem dX9_ofName_128 : decode cX9_ofName 128 = .ok (.invokevirtual 156, 3) := by decide +kernel
theorem dX9_ofName_131 : decode cX9_ofName 131 = .ok (.goto 4, 3) := by decide +kernel
theorem dX9_ofName_134 : decode cX9_ofName 134 = .ok (.iconst 0, 1) := by decide +kernel
theorem dX9_ofName_135 : decode cX9_ofName 135 = .ok (.ireturn, 1) := by decide +kernel
theorem dX9_isInside_0 : decode cX9_isInside 0 = .ok (.aload_n 0, 1) := by decide +kernel
theorem dX9_isInside_1 : decode cX9_isInside 1 = .ok (.getfield 13, 3) := by decide +kernel
theorem dX9_isInside_4 : decode cX9_isInside 4 = .ok (.iload_n 1, 1) := by decide +kernel
theorem dX9_isInside_5 : decode cX9_isInside 5 = .ok (.iaload, 1) := by decide +kernel
theorem dX9_isInside_6 : decode cX9_isInside 6 = .ok (.istore_n 3, 1) := by decide +kernel
theorem dX9_isInside_7 : decode cX9_isInside 7 = .ok (.iload_n 3, 1) := by decide +kernel
theorem dX9_isInside_8 : decode cX9_isInside 8 = .ok (.iconst (-1), 1) := by decide +kernel
theorem dX9_isInside_9 : decode cX9_isInside 9 = .ok (.if_icmp .eq 18, 3) := by decide +kernel
theorem dX9_isInside_12 : decode cX9_isInside 12 = .ok (.iload_n 3, 1) := by decide +kernel
theorem dX9_isInside_13 : decode cX9_isInside 13 = .ok (.iload_n 2, 1) := by decide +kernel
theorem dX9_isInside_14 : decode cX9_isInside 14 = .ok (.if_icmp .eq 13, 3) := by decide +kernel
theorem dX9_isInside_17 : decode cX9_isInside 17 = .ok (.aload_n 0, 1) := by decide +kernel
theorem dX9_isInside_18 : decode cX9_isInside 18 = .ok (.getfield 13, 3) := by decide +kernel
theorem dX9_isInside_21 : decode cX9_isInside 21 = .ok (.iload_n 3, 1) := by decide +kernel
theorem dX9_isInside_22 : decode cX9_isInside 22 = .ok (.iaload, 1) := by decide +kernel
theorem dX9_isInside_23 : decode cX9_isInside 23 = .ok (.istore_n 3, 1) := by decide +kernel
theorem dX9_isInside_24 : decode cX9_isInside 24 = .ok (.goto (-17), 3) := by decide +kernel
theorem dX9_isInside_27 : decode cX9_isInside 27 = .ok (.iload_n 3, 1) := by decide +kernel
theorem dX9_isInside_28 : decode cX9_isInside 28 = .ok (.iconst (-1), 1) := by decide +kernel
theorem dX9_isInside_29 : decode cX9_isInside 29 = .ok (.if_icmp .eq 7, 3) := by decide +kernel
theorem dX9_isInside_32 : decode cX9_isInside 32 = .ok (.iconst 1, 1) := by decide +kernel
theorem dX9_isInside_33 : decode cX9_isInside 33 = .ok (.goto 4, 3) := by decide +kernel
theorem dX9_isInside_36 : decode cX9_isInside 36 = .ok (.iconst 0, 1) := by decide +kernel
theorem dX9_isInside_37 : decode cX9_isInside 37 = .ok (.ireturn, 1) := by decide +kernel
set_option maxRecDepth 20000 in
theorem ggX9_isExpression_X9_isIn : GoodIn wsX9_isExpression wsX9_isIn := goodIn_r _ [4] (by decide +kernel) (by decide +kernel)
set_option maxRecDepth 20000 in
theorem gX9_isExpression_X9_isIn : GoodIn wsX9_isExpression (va_wsS RX9 117 yX9_isIn wsX9_isIn) := goodIn_app (goodIn_of _ (by decide +kernel)) ggX9_isExpression_X9_isIn
theorem dX9_isExpression_0 : decode cX9_isExpression 0 = .ok (.iload_n 0, 1) := by decide +kernel
theorem dX9_isExpression_1 : decode cX9_isExpression 1 = .ok (.iconst 0, 1) := by decide +kernel
theorem dX9_isExpression_2 : decode cX9_isExpression 2 = .ok (.bipush 8, 2) := by decide +kernel
theorem dX9_isExpression_4 : decode cX9_isExpression 4 = .ok (.invokestatic 117, 3) := by decide +kernel
theorem dX9_isExpression_7 : decode cX9_isExpression 7 = .ok (.ireturn, 1) := by decide +kernel
set_option maxRecDepth 20000 in
theorem ggX9_isStatement_X9_isIn : GoodIn wsX9_isStatement wsX9_isIn := goodIn_r _ [4] (by decide +kernel) (by decide +kernel)
set_option maxRecDepth 20000 in
theorem gX9_isStatement_X9_isIn : GoodIn wsX9_isStatement (va_wsS RX9 117 yX9_isIn wsX9_isIn) := goodIn_app (goodIn_of _ (by decide +kernel)) ggX9_isStatement_X9_isIn
theorem dX9_isStatement_0 : decode cX9_isStatement 0 = .ok (.iload_n 0, 1) := by decide +kernel
theorem dX9_isStatement_1 : decode cX9_isStatement 1 = .ok (.bipush 12, 2) := by decide +kernel
theorem dX9_isStatement_3 : decode cX9_isStatement 3 = .ok (.bipush 21, 2) := by decide +kernel
theorem dX9_isStatement_5 : decode cX9_isStatement 5 = .ok (.invokestatic 117, 3) := by decide +kernel
theorem dX9_isStatement_8 : decode cX9_isStatement 8 = .ok (.ireturn, 1) := by decide +kernel
set_option maxRecDepth 20000 in
theorem ggX9_isFree_X9_isNode : GoodIn wsX9_isFree wsX9_isNode := goodIn_r _ [7, 8, 9, 10, 6, 11, 12, 13, 14, 15, 16, 17, 18, 19, 20, 21, 22, 23, 24, 25, 26, 27, 28, 29, 30, 31, 32, 33, 34, 35, 36, 37, 38, 39, 40, 41, 42, 43, 44, 45, 46, 47, 48, 49, 50, 51, 52, 53, 54, 55, 56, 57, 58, 59, 60, 61, 62, 63, 64, 65, 66, 67, 68, 69, 70, 71] (by decide +kernel) (by decide +kernel)
set_option maxRecDepth 20000 in
theorem gX9_isFree_X9_isNode : GoodIn wsX9_isFree (wsV RX9 159 RX9 yX9_isNode wsX9_isNode) := goodIn_app (goodIn_of _ (by decide +kernel)) ggX9_isFree_X9_isNode
theorem dX9_isFree_0 : decode cX9_isFree 0 = .ok (.aload_n 0, 1) := by decide +kernel
theorem dX9_isFree_1 : decode cX9_isFree 1 = .ok (.iload_n 1, 1) := by decide +kernel
theorem dX9_isFree_2 : decode cX9_isFree 2 = .ok (.invokevirtual 159, 3) := by decide +kernel
theorem dX9_isFree_5 : decode cX9_isFree 5 = .ok (.ifCond .eq 27, 3) := by decide +kernel
theorem dX9_isFree_8 : decode cX9_isFree 8 = .ok (.aload_n 0, 1) := by decide +kernel
theorem dX9_isFree_9 : decode cX9_isFree 9 = .ok (.getfield 59, 3) := by decide +kernel
theorem dX9_isFree_12 : decode cX9_isFree 12 = .ok (.iload_n 1, 1) := by decide +kernel
theorem dX9_isFree_13 : decode cX9_isFree 13 = .ok (.iaload, 1) := by decide +kernel
theorem dX9_isFree_14 : decode cX9_isFree 14 = .ok (.iconst (-1), 1) := by decide +kernel
theorem dX9_isFree_15 : decode cX9_isFree 15 = .ok (.if_icmp .ne 17, 3) := by decide +kernel
theorem dX9_isFree_18 : decode cX9_isFree 18 = .ok (.aload_n 0, 1) := by decide +kernel
theorem dX9_isFree_19 : decode cX9_isFree 19 = .ok (.getfield 62, 3) := by decide +kernel
theorem dX9_isFree_22 : decode cX9_isFree 22 = .ok (.iload_n 1, 1) := by decide +kernel
theorem dX9_isFree_23 : decode cX9_isFree 23 = .ok (.iaload, 1) := by decide +kernel
theorem dX9_isFree_24 : decode cX9_isFree 24 = .ok (.iconst (-1), 1) := by decide +kernel
theorem dX9_isFree_25 : decode cX9_isFree 25 = .ok (.if_icmp .ne 7, 3) := by decide +kernel
theorem dX9_isFree_28 : decode cX9_isFree 28 = .ok (.iconst 1, 1) := by decide +kernel
theorem dX9_isFree_29 : decode cX9_isFree 29 = .ok (.goto 4, 3) := by decide +kernel
theorem dX9_isFree_32 : decode cX9_isFree 32 = .ok (.iconst 0, 1) := by decide +kernel
theorem dX9_isFree_33 : decode cX9_isFree 33 = .ok (.ireturn, 1) := by decide +kernel
set_option maxRecDepth 20000 in
theorem ggX9_isFreeExpression_X9_isFree : GoodIn wsX9_isFreeExpression wsX9_isFree := goodIn_r _ [6, 7, 8, 9, 10, 11, 5, 12, 13, 14, 15, 16, 20, 21, 22, 23, 24, 25, 26, 27, 28, 29, 30, 31, 32, 33, 34, 35, 36, 37, 38, 39, 40, 41, 42, 43, 44, 45, 46, 47, 48, 49, 50, 51, 52, 53, 54, 55, 56, 57, 58, 59, 60, 61, 62, 63, 64, 65, 66, 67, 68, 69, 70, 71, 72, 73, 74, 75, 76, 77, 78, 79] (by decide +kernel) (by decide +kernel)
set_option maxRecDepth 20000 in
theorem gX9_isFreeExpression_X9_isFree : GoodIn wsX9_isFreeExpression (wsV RX9 162 RX9 yX9_isFree wsX9_isFree) := goodIn_app (goodIn_of _ (by decide +kernel)) ggX9_isFreeExpression_X9_isFree
set_option maxRecDepth 20000 in
theorem ggX9_isFreeExpression_X9_isExpression : GoodIn wsX9_isFreeExpression wsX9_isExpression := goodIn_r _ [19, 14, 15, 5, 16] (by decide +kernel) (by decide +kernel)
set_option maxRecDepth 20000 in
theorem gX9_isFreeExpression_X9_isExpression : GoodIn wsX9_isFreeExpression (va_wsS RX9 165 yX9_isExpression wsX9_isExpression) := goodIn_app (goodIn_of _ (by decide +kernel)) ggX9_isFreeExpression_X9_isExpression
theorem dX9_isFreeExpression_0 : decode cX9_isFreeExpression 0 = .ok (.aload_n 0, 1) := by decide +kernel
theorem dX9_isFreeExpression_1 : decode cX9_isFreeExpression 1 = .ok (.iload_n 1, 1) := by decide +kernel
theorem dX9_isFreeExpression_2 : decode cX9_isFreeExpression 2 = .ok (.invokevirtual 162, 3) := by decide +kernel
theorem dX9_isFreeExpression_5 : decode cX9_isFreeExpression 5 = .ok (.ifCond .eq 19, 3) := by decide +kernel
theorem dX9_isFreeExpression_8 : decode cX9_isFreeExpression 8 = .ok (.aload_n 0, 1) := by decide +kernel
theorem dX9_isFreeExpression_9 : decode cX9_isFreeExpression 9 = .ok (.getfield 47, 3) := by decide +kernel
theorem dX9_isFreeExpression_12 : decode cX9_isFreeExpression 12 = .ok (.iload_n 1, 1) := by decide +kernel
theorem dX9_isFreeExpression_13 : decode cX9_isFreeExpression 13 = .ok (.iaload, 1) := by decide +kernel
theorem dX9_isFreeExpression_14 : decode cX9_isFreeExpression 14 = .ok (.invokestatic 165, 3) := by decide +kernel
theorem dX9_isFreeExpression_17 : decode cX9_isFreeExpression 17 = .ok (.ifCond .eq 7, 3) := by decide +kernel
theorem dX9_isFreeExpression_20 : decode cX9_isFreeExpression 20 = .ok (.iconst 1, 1) := by decide +kernel
theorem dX9_isFreeExpression_21 : decode cX9_isFreeExpression 21 = .ok (.goto 4, 3) := by decide +kernel
theorem dX9_isFreeExpression_24 : decode cX9_isFreeExpression 24 = .ok (.iconst 0, 1) := by decide +kernel
theorem dX9_isFreeExpression_25 : decode cX9_isFreeExpression 25 = .ok (.ireturn, 1) := by decide +kernel
set_option maxRecDepth 20000 in
theorem ggX9_isFreeStatement_X9_isFree : GoodIn wsX9_isFreeStatement wsX9_isFree := goodIn_r _ [6, 7, 8, 9, 10, 11, 5, 12, 13, 14, 15, 16, 20, 21, 22, 23, 24, 25, 26, 27, 28, 29, 30, 31, 32, 33, 34, 35, 36, 37, 38, 39, 40, 41, 42, 43, 44, 45, 46, 47, 48, 49, 50, 51, 52, 53, 54, 55, 56, 57, 58, 59, 60, 61, 62, 63, 64, 65, 66, 67, 68, 69, 70, 71, 72, 73, 74, 75, 76, 77, 78, 79] (by decide +kernel) (by decide +kernel)
set_option maxRecDepth 20000 in
theorem gX9_isFreeStatement_X9_isFree : GoodIn wsX9_isFreeStatement (wsV RX9 162 RX9 yX9_isFree wsX9_isFree) := goodIn_app (goodIn_of _ (by decide +kernel)) ggX9_isFreeStatement_X9_isFree
set_option maxRecDepth 20000 in
theorem ggX9_isFreeStatement_X9_isStatement : GoodIn wsX9_isFreeStatement wsX9_isStatement := goodIn_r _ [19, 14, 15, 5, 16] (by decide +kernel) (by decide +kernel)
set_option maxRecDepth 20000 in
theorem gX9_isFreeStatement_X9_isStatement : GoodIn wsX9_isFreeStatement (va_wsS RX9 168 yX9_isStatement wsX9_isStatement) := goodIn_app (goodIn_of _ (by decide +kernel)) ggX9_isFreeStatement_X9_isStatement
theorem dX9_isFreeStatement_0 : decode cX9_isFreeStatement 0 = .ok (.aload_n 0, 1) := by decide +kernel
theorem dX9_isFreeStatement_1 : decode cX9_isFreeStatement 1 = .ok (.iload_n 1, 1) := by decide +kernel
theorem dX9_isFreeStatement_2 : decode cX9_isFreeStatement 2 = .ok (.invokevirtual 162, 3) := by decide +kernel
theorem dX9_isFreeStatement_5 : decode cX9_isFreeStatement 5 = .ok (.ifCond .eq 19, 3) := by decide +kernel
theorem dX9_isFreeStatement_8 : decode cX9_isFreeStatement 8 = .ok (.aload_n 0, 1) := by decide +kernel
theorem dX9_isFreeStatement_9 : decode cX9_isFreeStatement 9 = .ok (.getfield 47, 3) := by decide +kernel
theorem dX9_isFreeStatement_12 : decode cX9_isFreeStatement 12 = .ok (.iload_n 1, 1) := by decide +kernel
theorem dX9_isFreeStatement_13 : decode cX9_isFreeStatement 13 = .ok (.iaload, 1) := by decide +kernel
theorem dX9_isFreeStatement_14 : decode cX9_isFreeStatement 14 = .ok (.invokestatic 168, 3) := by decide +kernel
theorem dX9_isFreeStatement_17 : decode cX9_isFreeStatement 17 = .ok (.ifCond .eq 7, 3) := by decide +kernel
theorem dX9_isFreeStatement_20 : decode cX9_isFreeStatement 20 = .ok (.iconst 1, 1) := by decide +kernel
theorem dX9_isFreeStatement_21 : decode cX9_isFreeStatement 21 = .ok (.goto 4, 3) := by decide +kernel
theorem dX9_isFreeStatement_24 : decode cX9_isFreeStatement 24 = .ok (.iconst 0, 1) := by decide +kernel
theorem dX9_isFreeStatement_25 : decode cX9_isFreeStatement 25 = .ok (.ireturn, 1) := by decide +kernel
set_option maxRecDepth 20000 in
theorem ggX9_isArgument_X9_isFree : GoodIn wsX9_isArgument wsX9_isFree := goodIn_r _ [6, 7, 8, 9, 10, 11, 5, 12, 13, 14, 15, 16, 17, 18, 19, 20, 21, 22, 23, 24, 25, 26, 27, 28, 29, 30, 31, 32, 33, 34, 35, 36, 37, 38, 39, 40, 41, 42, 43, 44, 45, 46, 47, 48, 49, 50, 51, 52, 53, 54, 55, 56, 57, 58, 59, 60, 61, 62, 63, 64, 65, 66, 67, 68, 69, 70, 71, 72, 73, 74, 75, 76] (by decide +kernel) (by decide +kernel)
set_option maxRecDepth 20000 in
theorem gX9_isArgument_X9_isFree : GoodIn wsX9_isArgument (wsV RX9 162 RX9 yX9_isFree wsX9_isFree) := goodIn_app (goodIn_of _ (by decide +kernel)) ggX9_isArgument_X9_isFree
theorem dX9_isArgument_0 : decode cX9_isArgument 0 = .ok (.iload_n 1, 1) := by decide +kernel
theorem dX9_isArgument_1 : decode cX9_isArgument 1 = .ok (.iconst (-1), 1) := by decide +kernel
theorem dX9_isArgument_2 : decode cX9_isArgument 2 = .ok (.if_icmp .eq 22, 3) := by decide +kernel
theorem dX9_isArgument_5 : decode cX9_isArgument 5 = .ok (.aload_n 0, 1) := by decide +kernel
theorem dX9_isArgument_6 : decode cX9_isArgument 6 = .ok (.iload_n 1, 1) := by decide +kernel
theorem dX9_isArgument_7 : decode cX9_isArgument 7 = .ok (.invokevirtual 162, 3) := by decide +kernel
theorem dX9_isArgument_10 : decode cX9_isArgument 10 = .ok (.ifCond .eq 18, 3) := by decide +kernel
theorem dX9_isArgument_13 : decode cX9_isArgument 13 = .ok (.aload_n 0, 1) := by decide +kernel
theorem dX9_isArgument_14 : decode cX9_isArgument 14 = .ok (.getfield 47, 3) := by decide +kernel
theorem dX9_isArgument_17 : decode cX9_isArgument 17 = .ok (.iload_n 1, 1) := by decide +kernel
theorem dX9_isArgument_18 : decode cX9_isArgument 18 = .ok (.iaload, 1) := by decide +kernel
theorem dX9_isArgument_19 : decode cX9_isArgument 19 = .ok (.bipush 9, 2) := by decide +kernel
theorem dX9_isArgument_21 : decode cX9_isArgument 21 = .ok (.if_icmp .ne 7, 3) := by decide +kernel
theorem dX9_isArgument_24 : decode cX9_isArgument 24 = .ok (.iconst 1, 1) := by decide +kernel
theorem dX9_isArgument_25 : decode cX9_isArgument 25 = .ok (.goto 4, 3) := by decide +kernel
theorem dX9_isArgument_28 : decode cX9_isArgument 28 = .ok (.iconst 0, 1) := by decide +kernel
theorem dX9_isArgument_29 : decode cX9_isArgument 29 = .ok (.ireturn, 1) := by decide +kernel
set_option maxRecDepth 20000 in
theorem ggX9_canBe_X9_isIn : GoodIn wsX9_canBe wsX9_isIn := goodIn_r _ [5] (by decide +kernel) (by decide +kernel)
set_option maxRecDepth 20000 in
theorem gX9_canBe_X9_isIn : GoodIn wsX9_canBe (va_wsS RX9 117 yX9_isIn wsX9_isIn) := goodIn_app (goodIn_of _ (by decide +kernel)) ggX9_canBe_X9_isIn
set_option maxRecDepth 20000 in
theorem ggX9_canBe_X9_isName : GoodIn wsX9_canBe wsX9_isName := goodIn_r _ [8, 2, 3, 4, 5] (by decide +kernel) (by decide +kernel)
set_option maxRecDepth 20000 in
theorem gX9_canBe_X9_isName : GoodIn wsX9_canBe (va_wsS RX9 132 yX9_isName wsX9_isName) := goodIn_app (goodIn_of _ (by decide +kernel)) ggX9_canBe_X9_isName
set_option maxRecDepth 20000 in
theorem ggX9_canBe_X9_isFreeExpression : GoodIn wsX9_canBe wsX9_isFreeExpression := goodIn_r _ [12, 1, 13, 14, 15, 4, 16, 17, 18, 19, 20, 21, 22, 23, 2, 3, 5, 24, 25, 26, 38, 39, 40, 41, 42, 43, 44, 45, 46, 47, 48, 49, 50, 51, 52, 53, 54, 55, 56, 57, 58, 59, 60, 61, 62, 63, 64, 65, 66, 67, 68, 69, 70, 71, 72, 73, 74, 75, 76, 77, 78, 79, 80, 81, 82, 83, 84, 85, 86, 87, 88, 89, 90, 91, 92, 93, 94, 95, 96, 97] (by decide +kernel) (by decide +kernel)
set_option maxRecDepth 20000 in
theorem gX9_canBe_X9_isFreeExpression : GoodIn wsX9_canBe (wsV RX9 171 RX9 yX9_isFreeExpression wsX9_isFreeExpression) := goodIn_app (goodIn_of _ (by decide +kernel)) ggX9_canBe_X9_isFreeExpression
set_option maxRecDepth 20000 in
theorem ggX9_canBe_X9_isArgument : GoodIn wsX9_canBe wsX9_isArgument := goodIn_r _ [30, 1, 13, 14, 15, 4, 16, 17, 18, 19, 20, 21, 22, 23, 2, 3, 5, 38, 39, 40, 41, 42, 43, 44, 45, 46, 47, 48, 49, 50, 51, 52, 53, 54, 55, 56, 57, 58, 59, 60, 61, 62, 63, 64, 65, 66, 67, 68, 69, 70, 71, 72, 73, 74, 75, 76, 77, 78, 79, 80, 81, 82, 83, 84, 85, 86, 87, 88, 89, 90, 91, 92, 93, 94, 95, 96, 97] (by decide +kernel) (by decide +kernel)
set_option maxRecDepth 20000 in
theorem gX9_canBe_X9_isArgument : GoodIn wsX9_canBe (wsV RX9 174 RX9 yX9_isArgument wsX9_isArgument) := goodIn_app (goodIn_of _ (by decide +kernel)) ggX9_canBe_X9_isArgument
set_option maxRecDepth 20000 in
theorem ggX9_canBe_X9_isFree : GoodIn wsX9_canBe wsX9_isFree := goodIn_r _ [16, 17, 18, 19, 20, 21, 4, 22, 23, 2, 3, 5, 38, 39, 40, 41, 42, 43, 44, 45, 46, 47, 48, 49, 50, 51, 52, 53, 54, 55, 56, 57, 58, 59, 60, 61, 62, 63, 64, 65, 66, 67, 68, 69, 70, 71, 72, 73, 74, 75, 76, 77, 78, 79, 80, 81, 82, 83, 84, 85, 86, 87, 88, 89, 90, 91, 92, 93, 94, 95, 96, 97] (by decide +kernel) (by decide +kernel)
set_option maxRecDepth 20000 in
theorem gX9_canBe_X9_isFree : GoodIn wsX9_canBe (wsV RX9 162 RX9 yX9_isFree wsX9_isFree) := goodIn_app (goodIn_of _ (by decide +kernel)) ggX9_canBe_X9_isFree
set_option maxRecDepth 20000 in
theorem ggX9_canBe_X9_isExpression : GoodIn wsX9_canBe wsX9_isExpression := goodIn_r _ [26, 2, 3, 4, 5] (by decide +kernel) (by decide +kernel)
set_option maxRecDepth 20000 in
theorem gX9_canBe_X9_isExpression : GoodIn wsX9_canBe (va_wsS RX9 165 yX9_isExpression wsX9_isExpression) := goodIn_app (goodIn_of _ (by decide +kernel)) ggX9_canBe_X9_isExpression
set_option maxRecDepth 20000 in
theorem ggX9_canBe_X9_isFreeStatement : GoodIn wsX9_canBe wsX9_isFreeStatement := goodIn_r _ [34, 1, 13, 14, 15, 4, 16, 17, 18, 19, 20, 21, 22, 23, 2, 3, 5, 35, 36, 37, 38, 39, 40, 41, 42, 43, 44, 45, 46, 47, 48, 49, 50, 51, 52, 53, 54, 55, 56, 57, 58, 59, 60, 61, 62, 63, 64, 65, 66, 67, 68, 69, 70, 71, 72, 73, 74, 75, 76, 77, 78, 79, 80, 81, 82, 83, 84, 85, 86, 87, 88, 89, 90, 91, 92, 93, 94, 95, 96, 97] (by decide +kernel) (by decide +kernel)
set_option maxRecDepth 20000 in
theorem gX9_canBe_X9_isFreeStatement : GoodIn wsX9_canBe (wsV RX9 177 RX9 yX9_isFreeStatement wsX9_isFreeStatement) := goodIn_app (goodIn_of _ (by decide +kernel)) ggX9_canBe_X9_isFreeStatement
theorem dX9_canBe_0 : decode cX9_canBe 0 = .ok (.iload_n 1, 1) := by decide +kernel
theorem dX9_canBe_1 : decode cX9_canBe 1 = .ok (.tableswitch 562 0 21 #[103, 131, 153, 179, 179, 179, 179, 179, 212, 238, 131, 131, 299, 153, 332, 368, 410, 443, 468, 468, 491, 525], 103) := by decide +kernel
theorem dX9_canBe_104 : decode cX9_canBe 104 = .ok (.iload_n 2, 1) := by decide +kernel
theorem dX9_canBe_105 : decode cX9_canBe 105 = .ok (.sipush (-999), 3) := by decide +kernel
theorem dX9_canBe_108 : decode cX9_canBe 108 = .ok (.sipush 999, 3) := by decide +kernel
theorem dX9_canBe_111 : decode cX9_canBe 111 = .ok (.invokestatic 117, 3) := by decide +kernel
theorem dX9_canBe_114 : decode cX9_canBe 114 = .ok (.ifCond .eq 16, 3) := by decide +kernel
theorem dX9_canBe_117 : decode cX9_canBe 117 = .ok (.iload_n 3, 1) := by decide +kernel
theorem dX9_canBe_118 : decode cX9_canBe 118 = .ok (.ifCond .ne 12, 3) := by decide +kernel
theorem dX9_canBe_121 : decode cX9_canBe 121 = .ok (.iload 4, 2) := by decide +kernel
theorem dX9_canBe_123 : decode cX9_canBe 123 = .ok (.ifCond .ne 7, 3) := by decide +kernel
theorem dX9_canBe_126 : decode cX9_canBe 126 = .ok (.iconst 1, 1) := by decide +kernel
theorem dX9_canBe_127 : decode cX9_canBe 127 = .ok (.goto 4, 3) := by decide +kernel
theorem dX9_canBe_130 : decode cX9_canBe 130 = .ok (.iconst 0, 1) := by decide +kernel
theorem dX9_canBe_131 : decode cX9_canBe 131 = .ok (.ireturn, 1) := by decide +kernel
theorem dX9_canBe_132 : decode cX9_canBe 132 = .ok (.iload_n 2, 1) := by decide +kernel
theorem dX9_canBe_133 : decode cX9_canBe 133 = .ok (.invokestatic 132, 3) := by decide +kernel
theorem dX9_canBe_136 : decode cX9_canBe 136 = .ok (.ifCond .eq 16, 3) := by decide +kernel
theorem dX9_canBe_139 : decode cX9_canBe 139 = .ok (.iload_n 3, 1) := by decide +kernel
theorem dX9_canBe_140 : decode cX9_canBe 140 = .ok (.ifCond .ne 12, 3) := by decide +kernel
theorem dX9_canBe_143 : decode cX9_canBe 143 = .ok (.iload 4, 2) := by decide +kernel
theorem dX9_canBe_145 : decode cX9_canBe 145 = .ok (.ifCond .ne 7, 3) := by decide +kernel
theorem dX9_canBe_148 : decode cX9_canBe 148 = .ok (.iconst 1, 1) := by decide +kernel
theorem dX9_canBe_149 : decode cX9_canBe 149 = .ok (.goto 4, 3) := by decide +kernel
theorem dX9_canBe_152 : decode cX9_canBe 152 = .ok (.iconst 0, 1) := by decide +kernel
theorem dX9_canBe_153 : decode cX9_canBe 153 = .ok (.ireturn, 1) := by decide +kernel
theorem dX9_canBe_154 : decode cX9_canBe 154 = .ok (.iload_n 2, 1) := by decide +kernel
theorem dX9_canBe_155 : decode cX9_canBe 155 = .ok (.invokestatic 132, 3) := by decide +kernel
theorem dX9_canBe_158 : decode cX9_canBe 158 = .ok (.ifCond .eq 20, 3) := by decide +kernel
theorem dX9_canBe_161 : decode cX9_canBe 161 = .ok (.aload_n 0, 1) := by decide +kernel
theorem dX9_canBe_162 : decode cX9_canBe 162 = .ok (.iload_n 3, 1) := by decide +kernel
theorem dX9_canBe_163 : decode cX9_canBe 163 = .ok (.invokevirtual 171, 3) := by decide +kernel
theorem dX9_canBe_166 : decode cX9_canBe 166 = .ok (.ifCond .eq 12, 3) := by decide +kernel
theorem dX9_canBe_169 : decode cX9_canBe 169 = .ok (.iload 4, 2) := by decide +kernel
theorem dX9_canBe_171 : decode cX9_canBe 171 = .ok (.ifCond .ne 7, 3) := by decide +kernel
theorem dX9_canBe_174 : decode cX9_canBe 174 = .ok (.iconst 1, 1) := by decide +kernel
theorem dX9_canBe_175 : decode cX9_canBe 175 = .ok (.goto 4, 3) := by decide +kernel
theorem dX9_canBe_178 : decode cX9_canBe 178 = .ok (.iconst 0, 1) := by decide +kernel
theorem dX9_canBe_179 : decode cX9_canBe 179 = .ok (.ireturn, 1) := by decide +kernel
theorem dX9_canBe_180 : decode cX9_canBe 180 = .ok (.iload_n 2, 1) := by decide +kernel
theorem dX9_canBe_181 : decode cX9_canBe 181 = .ok (.ifCond .ne 30, 3) := by decide +kernel
theorem dX9_canBe_184 : decode cX9_canBe 184 = .ok (.aload_n 0, 1) := by decide +kernel
theorem dX9_canBe_185 : decode cX9_canBe 185 = .ok (.iload_n 3, 1) := by decide +kernel
theorem dX9_canBe_186 : decode cX9_canBe 186 = .ok (.invokevirtual 171, 3) := by decide +kernel
theorem dX9_canBe_189 : decode cX9_canBe 189 = .ok (.ifCond .eq 22, 3) := by decide +kernel
theorem dX9_canBe_192 : decode cX9_canBe 192 = .ok (.aload_n 0, 1) := by decide +kernel
theorem dX9_canBe_193 : decode cX9_canBe 193 = .ok (.iload 4, 2) := by decide +kernel
theorem dX9_canBe_195 : decode cX9_canBe 195 = .ok (.invokevirtual 171, 3) := by decide +kernel
theorem dX9_canBe_198 : decode cX9_canBe 198 = .ok (.ifCond .eq 13, 3) := by decide +kernel
theorem dX9_canBe_201 : decode cX9_canBe 201 = .ok (.iload_n 3, 1) := by decide +kernel
theorem dX9_canBe_202 : decode cX9_canBe 202 = .ok (.iload 4, 2) := by decide +kernel
theorem dX9_canBe_204 : decode cX9_canBe 204 = .ok (.if_icmp .eq 7, 3) := by decide +kernel
theorem dX9_canBe_207 : decode cX9_canBe 207 = .ok (.iconst 1, 1) := by decide +kernel
theorem dX9_canBe_208 : decode cX9_canBe 208 = .ok (.goto 4, 3) := by decide +kernel
theorem dX9_canBe_211 : decode cX9_canBe 211 = .ok (.iconst 0, 1) := by decide +kernel
theorem dX9_canBe_212 : decode cX9_canBe 212 = .ok (.ireturn, 1) := by decide +kernel
theorem dX9_canBe_213 : decode cX9_canBe 213 = .ok (.iload_n 2, 1) := by decide +kernel
theorem dX9_canBe_214 : decode cX9_canBe 214 = .ok (.invokestatic 132, 3) := by decide +kernel
theorem dX9_canBe_217 : decode cX9_canBe 217 = .ok (.ifCond .eq 20, 3) := by decide +kernel
theorem dX9_canBe_220 : decode cX9_canBe 220 = .ok (.aload_n 0, 1) := by decide +kernel
theorem dX9_canBe_221 : decode cX9_canBe 221 = .ok (.iload_n 3, 1) := by decide +kernel
theorem dX9_canBe_222 : decode cX9_canBe 222 = .ok (.invokevirtual 174, 3) := by decide +kernel
theorem dX9_canBe_225 : decode cX9_canBe 225 = .ok (.ifCond .eq 12, 3) := by decide +kernel
theorem dX9_canBe_228 : decode cX9_canBe 228 = .ok (.iload 4, 2) := by decide +kernel
theorem dX9_canBe_230 : decode cX9_canBe 230 = .ok (.ifCond .ne 7, 3) := by decide +kernel
theorem dX9_canBe_233 : decode cX9_canBe 233 = .ok (.iconst 1, 1) := by decide +kernel
theorem dX9_canBe_234 : decode cX9_canBe 234 = .ok (.goto 4, 3) := by decide +kernel
theorem dX9_canBe_237 : decode cX9_canBe 237 = .ok (.iconst 0, 1) := by decide +kernel
theorem dX9_canBe_238 : decode cX9_canBe 238 = .ok (.ireturn, 1) := by decide +kernel
theorem dX9_canBe_239 : decode cX9_canBe 239 = .ok (.iload_n 2, 1) := by decide +kernel
theorem dX9_canBe_240 : decode cX9_canBe 240 = .ok (.ifCond .ne 58, 3) := by decide +kernel
theorem dX9_canBe_243 : decode cX9_canBe 243 = .ok (.aload_n 0, 1) := by decide +kernel
theorem dX9_canBe_244 : decode cX9_canBe 244 = .ok (.iload_n 3, 1) := by decide +kernel
theorem dX9_canBe_245 : decode cX9_canBe 245 = .ok (.invokevirtual 162, 3) := by decide +kernel
theorem dX9_canBe_248 : decode cX9_canBe 248 = .ok (.ifCond .eq 50, 3) := by decide +kernel
theorem dX9_canBe_251 : decode cX9_canBe 251 = .ok (.aload_n 0, 1) := by decide +kernel
theorem dX9_canBe_252 : decode cX9_canBe 252 = .ok (.getfield 47, 3) := by decide +kernel
theorem dX9_canBe_255 : decode cX9_canBe 255 = .ok (.iload_n 3, 1) := by decide +kernel
theorem dX9_canBe_256 : decode cX9_canBe 256 = .ok (.iaload, 1) := by decide +kernel
theorem dX9_canBe_257 : decode cX9_canBe 257 = .ok (.invokestatic 165, 3) := by decide +kernel
theorem dX9_canBe_260 : decode cX9_canBe 260 = .ok (.ifCond .ne 25, 3) := by decide +kernel
theorem dX9_canBe_263 : decode cX9_canBe 263 = .ok (.aload_n 0, 1) := by decide +kernel
theorem dX9_canBe_264 : decode cX9_canBe 264 = .ok (.getfield 47, 3) := by decide +kernel
theorem dX9_canBe_267 : decode cX9_canBe 267 = .ok (.iload_n 3, 1) := by decide +kernel
theorem dX9_canBe_268 : decode cX9_canBe 268 = .ok (.iaload, 1) := by decide +kernel
theorem dX9_canBe_269 : decode cX9_canBe 269 = .ok (.bipush 10, 2) := by decide +kernel
theorem dX9_canBe_271 : decode cX9_canBe 271 = .ok (.if_icmp .eq 14, 3) := by decide +kernel
theorem dX9_canBe_274 : decode cX9_canBe 274 = .ok (.aload_n 0, 1) := by decide +kernel
theorem dX9_canBe_275 : decode cX9_canBe 275 = .ok (.getfield 47, 3) := by decide +kernel
theorem dX9_canBe_278 : decode cX9_canBe 278 = .ok (.iload_n 3, 1) := by decide +kernel
theorem dX9_canBe_279 : decode cX9_canBe 279 = .ok (.iaload, 1) := by decide +kernel
theorem dX9_canBe_280 : decode cX9_canBe 280 = .ok (.bipush 11, 2) := by decide +kernel
theorem dX9_canBe_282 : decode cX9_canBe 282 = .ok (.if_icmp .ne 16, 3) := by decide +kernel
theorem dX9_canBe_285 : decode cX9_canBe 285 = .ok (.aload_n 0, 1) := by decide +kernel
theorem dX9_canBe_286 : decode cX9_canBe 286 = .ok (.iload 4, 2) := by decide +kernel
theorem dX9_canBe_288 : decode cX9_canBe 288 = .ok (.invokevirtual 174, 3) := by decide +kernel
theorem dX9_canBe_291 : decode cX9_canBe 291 = .ok (.ifCond .eq 7, 3) := by decide +kernel
theorem dX9_canBe_294 : decode cX9_canBe 294 = .ok (.iconst 1, 1) := by decide +kernel
theorem dX9_canBe_295 : decode cX9_canBe 295 = .ok (.goto 4, 3) := by decide +kernel
theorem dX9_canBe_298 : decode cX9_canBe 298 = .ok (.iconst 0, 1) := by decide +kernel
theorem dX9_canBe_299 : decode cX9_canBe 299 = .ok (.ireturn, 1) := by decide +kernel
theorem dX9_canBe_300 : decode cX9_canBe 300 = .ok (.iload_n 2, 1) := by decide +kernel
theorem dX9_canBe_301 : decode cX9_canBe 301 = .ok (.ifCond .ne 30, 3) := by decide +kernel
theorem dX9_canBe_304 : decode cX9_canBe 304 = .ok (.aload_n 0, 1) := by decide +kernel
theorem dX9_canBe_305 : decode cX9_canBe 305 = .ok (.iload_n 3, 1) := by decide +kernel
theorem dX9_canBe_306 : decode cX9_canBe 306 = .ok (.invokevirtual 177, 3) := by decide +kernel
theorem dX9_canBe_309 : decode cX9_canBe 309 = .ok (.ifCond .eq 22, 3) := by decide +kernel
theorem dX9_canBe_312 : decode cX9_canBe 312 = .ok (.aload_n 0, 1) := by decide +kernel
theorem dX9_canBe_313 : decode cX9_canBe 313 = .ok (.iload 4, 2) := by decide +kernel
theorem dX9_canBe_315 : decode cX9_canBe 315 = .ok (.invokevirtual 177, 3) := by decide +kernel
theorem dX9_canBe_318 : decode cX9_canBe 318 = .ok (.ifCond .eq 13, 3) := by decide +kernel
theorem dX9_canBe_321 : decode cX9_canBe 321 = .ok (.iload_n 3, 1) := by decide +kernel
theorem dX9_canBe_322 : decode cX9_canBe 322 = .ok (.iload 4, 2) := by decide +kernel
theorem dX9_canBe_324 : decode cX9_canBe 324 = .ok (.if_icmp .eq 7, 3) := by decide +kernel
theorem dX9_canBe_327 : decode cX9_canBe 327 = .ok (.iconst 1, 1) := by decide +kernel
theorem dX9_canBe_328 : decode cX9_canBe 328 = .ok (.goto 4, 3) := by decide +kernel
theorem dX9_canBe_331 : decode cX9_canBe 331 = .ok (.iconst 0, 1) := by decide +kernel
theorem dX9_canBe_332 : decode cX9_canBe 332 = .ok (.ireturn, 1) := by decide +kernel
theorem dX9_canBe_333 : decode cX9_canBe 333 = .ok (.iload_n 2, 1) := by decide +kernel
theorem dX9_canBe_334 : decode cX9_canBe 334 = .ok (.invokestatic 132, 3) := by decide +kernel
theorem dX9_canBe_337 : decode cX9_canBe 337 = .ok (.ifCond .eq 30, 3) := by decide +kernel
theorem dX9_canBe_340 : decode cX9_canBe 340 = .ok (.aload_n 0, 1) := by decide +kernel
theorem dX9_canBe_341 : decode cX9_canBe 341 = .ok (.iload_n 3, 1) := by decide +kernel
theorem dX9_canBe_342 : decode cX9_canBe 342 = .ok (.invokevirtual 171, 3) := by decide +kernel
theorem dX9_canBe_345 : decode cX9_canBe 345 = .ok (.ifCond .eq 22, 3) := by decide +kernel
theorem dX9_canBe_348 : decode cX9_canBe 348 = .ok (.aload_n 0, 1) := by decide +kernel
theorem dX9_canBe_349 : decode cX9_canBe 349 = .ok (.iload 4, 2) := by decide +kernel
theorem dX9_canBe_351 : decode cX9_canBe 351 = .ok (.invokevirtual 171, 3) := by decide +kernel
theorem dX9_canBe_354 : decode cX9_canBe 354 = .ok (.ifCond .eq 13, 3) := by decide +kernel
theorem dX9_canBe_357 : decode cX9_canBe 357 = .ok (.iload_n 3, 1) := by decide +kernel
theorem dX9_canBe_358 : decode cX9_canBe 358 = .ok (.iload 4, 2) := by decide +kernel
theorem dX9_canBe_360 : decode cX9_canBe 360 = .ok (.if_icmp .eq 7, 3) := by decide +kernel
theorem dX9_canBe_363 : decode cX9_canBe 363 = .ok (.iconst 1, 1) := by decide +kernel
theorem dX9_canBe_364 : decode cX9_canBe 364 = .ok (.goto 4, 3) := by decide +kernel
theorem dX9_canBe_367 : decode cX9_canBe 367 = .ok (.iconst 0, 1) := by decide +kernel
theorem dX9_canBe_368 : decode cX9_canBe 368 = .ok (.ireturn, 1) := by decide +kernel
theorem dX9_canBe_369 : decode cX9_canBe 369 = .ok (.aload_n 0, 1) := by decide +kernel
theorem dX9_canBe_370 : decode cX9_canBe 370 = .ok (.iload_n 3, 1) := by decide +kernel
theorem dX9_canBe_371 : decode cX9_canBe 371 = .ok (.invokevirtual 171, 3) := by decide +kernel
theorem dX9_canBe_374 : decode cX9_canBe 374 = .ok (.ifCond .eq 35, 3) := by decide +kernel
theorem dX9_canBe_377 : decode cX9_canBe 377 = .ok (.aload_n 0, 1) := by decide +kernel
theorem dX9_canBe_378 : decode cX9_canBe 378 = .ok (.iload 4, 2) := by decide +kernel
theorem dX9_canBe_380 : decode cX9_canBe 380 = .ok (.invokevirtual 177, 3) := by decide +kernel
theorem dX9_canBe_383 : decode cX9_canBe 383 = .ok (.ifCond .eq 26, 3) := by decide +kernel
theorem dX9_canBe_386 : decode cX9_canBe 386 = .ok (.iload_n 2, 1) := by decide +kernel
theorem dX9_canBe_387 : decode cX9_canBe 387 = .ok (.iconst (-1), 1) := by decide +kernel
theorem dX9_canBe_388 : decode cX9_canBe 388 = .ok (.if_icmp .eq 17, 3) := by decide +kernel
theorem dX9_canBe_391 : decode cX9_canBe 391 = .ok (.aload_n 0, 1) := by decide +kernel
theorem dX9_canBe_392 : decode cX9_canBe 392 = .ok (.iload_n 2, 1) := by decide +kernel
theorem dX9_canBe_393 : decode cX9_canBe 393 = .ok (.invokevirtual 177, 3) := by decide +kernel
theorem dX9_canBe_396 : decode cX9_canBe 396 = .ok (.ifCond .eq 13, 3) := by decide +kernel
theorem dX9_canBe_399 : decode cX9_canBe 399 = .ok (.iload_n 2, 1) := by decide +kernel
theorem dX9_canBe_400 : decode cX9_canBe 400 = .ok (.iload 4, 2) := by decide +kernel
theorem dX9_canBe_402 : decode cX9_canBe 402 = .ok (.if_icmp .eq 7, 3) := by decide +kernel
theorem dX9_canBe_405 : decode cX9_canBe 405 = .ok (.iconst 1, 1) := by decide +kernel
theorem dX9_canBe_406 : decode cX9_canBe 406 = .ok (.goto 4, 3) := by decide +kernel
theorem dX9_canBe_409 : decode cX9_canBe 409 = .ok (.iconst 0, 1) := by decide +kernel
theorem dX9_canBe_410 : decode cX9_canBe 410 = .ok (.ireturn, 1) := by decide +kernel
theorem dX9_canBe_411 : decode cX9_canBe 411 = .ok (.iload_n 2, 1) := by decide +kernel
theorem dX9_canBe_412 : decode cX9_canBe 412 = .ok (.iconst 0, 1) := by decide +kernel
theorem dX9_canBe_413 : decode cX9_canBe 413 = .ok (.bipush 9, 2) := by decide +kernel
theorem dX9_canBe_415 : decode cX9_canBe 415 = .ok (.invokestatic 117, 3) := by decide +kernel
theorem dX9_canBe_418 : decode cX9_canBe 418 = .ok (.ifCond .eq 24, 3) := by decide +kernel
theorem dX9_canBe_421 : decode cX9_canBe 421 = .ok (.aload_n 0, 1) := by decide +kernel
theorem dX9_canBe_422 : decode cX9_canBe 422 = .ok (.iload_n 3, 1) := by decide +kernel
theorem dX9_canBe_423 : decode cX9_canBe 423 = .ok (.invokevirtual 171, 3) := by decide +kernel
theorem dX9_canBe_426 : decode cX9_canBe 426 = .ok (.ifCond .eq 16, 3) := by decide +kernel
theorem dX9_canBe_429 : decode cX9_canBe 429 = .ok (.aload_n 0, 1) := by decide +kernel
theorem dX9_canBe_430 : decode cX9_canBe 430 = .ok (.iload 4, 2) := by decide +kernel
theorem dX9_canBe_432 : decode cX9_canBe 432 = .ok (.invokevirtual 177, 3) := by decide +kernel
theorem dX9_canBe_435 : decode cX9_canBe 435 = .ok (.ifCond .eq 7, 3) := by decide +kernel
theorem dX9_canBe_438 : decode cX9_canBe 438 = .ok (.iconst 1, 1) := by decide +kernel
theorem dX9_canBe_439 : decode cX9_canBe 439 = .ok (.goto 4, 3) := by decide +kernel
theorem dX9_canBe_442 : decode cX9_canBe 442 = .ok (.iconst 0, 1) := by decide +kernel
theorem dX9_canBe_443 : decode cX9_canBe 443 = .ok (.ireturn, 1) := by decide +kernel
theorem dX9_canBe_444 : decode cX9_canBe 444 = .ok (.iload_n 2, 1) := by decide +kernel
theorem dX9_canBe_445 : decode cX9_canBe 445 = .ok (.iconst 0, 1) := by decide +kernel
theorem dX9_canBe_446 : decode cX9_canBe 446 = .ok (.bipush 9, 2) := by decide +kernel
theorem dX9_canBe_448 : decode cX9_canBe 448 = .ok (.invokestatic 117, 3) := by decide +kernel
theorem dX9_canBe_451 : decode cX9_canBe 451 = .ok (.ifCond .eq 16, 3) := by decide +kernel
theorem dX9_canBe_454 : decode cX9_canBe 454 = .ok (.iload_n 3, 1) := by decide +kernel
theorem dX9_canBe_455 : decode cX9_canBe 455 = .ok (.ifCond .ne 12, 3) := by decide +kernel
theorem dX9_canBe_458 : decode cX9_canBe 458 = .ok (.iload 4, 2) := by decide +kernel
theorem dX9_canBe_460 : decode cX9_canBe 460 = .ok (.ifCond .ne 7, 3) := by decide +kernel
theorem dX9_canBe_463 : decode cX9_canBe 463 = .ok (.iconst 1, 1) := by decide +kernel
theorem dX9_canBe_464 : decode cX9_canBe 464 = .ok (.goto 4, 3) := by decide +kernel
theorem dX9_canBe_467 : decode cX9_canBe 467 = .ok (.iconst 0, 1) := by decide +kernel
theorem dX9_canBe_468 : decode cX9_canBe 468 = .ok (.ireturn, 1) := by decide +kernel
theorem dX9_canBe_469 : decode cX9_canBe 469 = .ok (.iload_n 2, 1) := by decide +kernel
theorem dX9_canBe_470 : decode cX9_canBe 470 = .ok (.ifCond .ne 20, 3) := by decide +kernel
theorem dX9_canBe_473 : decode cX9_canBe 473 = .ok (.aload_n 0, 1) := by decide +kernel
theorem dX9_canBe_474 : decode cX9_canBe 474 = .ok (.iload_n 3, 1) := by decide +kernel
theorem dX9_canBe_475 : decode cX9_canBe 475 = .ok (.invokevirtual 171, 3) := by decide +kernel
theorem dX9_canBe_478 : decode cX9_canBe 478 = .ok (.ifCond .eq 12, 3) := by decide +kernel
theorem dX9_canBe_481 : decode cX9_canBe 481 = .ok (.iload 4, 2) := by decide +kernel
theorem dX9_canBe_483 : decode cX9_canBe 483 = .ok (.ifCond .ne 7, 3) := by decide +kernel
theorem dX9_canBe_486 : decode cX9_canBe 486 = .ok (.iconst 1, 1) := by decide +kernel
theorem dX9_canBe_487 : decode cX9_canBe 487 = .ok (.goto 4, 3) := by decide +kernel
theorem dX9_canBe_490 : decode cX9_canBe 490 = .ok (.iconst 0, 1) := by decide +kernel
theorem dX9_canBe_491 : decode cX9_canBe 491 = .ok (.ireturn, 1) := by decide +kernel
theorem dX9_canBe_492 : decode cX9_canBe 492 = .ok (.iload_n 2, 1) := by decide +kernel
theorem dX9_canBe_493 : decode cX9_canBe 493 = .ok (.ifCond .ne 31, 3) := by decide +kernel
theorem dX9_canBe_496 : decode cX9_canBe 496 = .ok (.aload_n 0, 1) := by decide +kernel
theorem dX9_canBe_497 : decode cX9_canBe 497 = .ok (.iload_n 3, 1) := by decide +kernel
theorem dX9_canBe_498 : decode cX9_canBe 498 = .ok (.invokevirtual 162, 3) := by decide +kernel
theorem dX9_canBe_501 : decode cX9_canBe 501 = .ok (.ifCond .eq 23, 3) := by decide +kernel
theorem dX9_canBe_504 : decode cX9_canBe 504 = .ok (.aload_n 0, 1) := by decide +kernel
theorem dX9_canBe_505 : decode cX9_canBe 505 = .ok (.getfield 47, 3) := by decide +kernel
theorem dX9_canBe_508 : decode cX9_canBe 508 = .ok (.iload_n 3, 1) := by decide +kernel
theorem dX9_canBe_509 : decode cX9_canBe 509 = .ok (.iaload, 1) := by decide +kernel
theorem dX9_canBe_510 : decode cX9_canBe 510 = .ok (.bipush 8, 2) := by decide +kernel
theorem dX9_canBe_512 : decode cX9_canBe 512 = .ok (.if_icmp .ne 12, 3) := by decide +kernel
theorem dX9_canBe_515 : decode cX9_canBe 515 = .ok (.iload 4, 2) := by decide +kernel
theorem dX9_canBe_517 : decode cX9_canBe 517 = .ok (.ifCond .ne 7, 3) := by decide +kernel
theorem dX9_canBe_520 : decode cX9_canBe 520 = .ok (.iconst 1, 1) := by decide +kernel
theorem dX9_canBe_521 : decode cX9_canBe 521 = .ok (.goto 4, 3) := by decide +kernel
theorem dX9_canBe_524 : decode cX9_canBe 524 = .ok (.iconst 0, 1) := by decide +kernel
theorem dX9_canBe_525 : decode cX9_canBe 525 = .ok (.ireturn, 1) := by decide +kernel
theorem dX9_canBe_526 : decode cX9_canBe 526 = .ok (.iload_n 2, 1) := by decide +kernel
theorem dX9_canBe_527 : decode cX9_canBe 527 = .ok (.invokestatic 132, 3) := by decide +kernel
theorem dX9_canBe_530 : decode cX9_canBe 530 = .ok (.ifCond .eq 31, 3) := by decide +kernel
theorem dX9_canBe_533 : decode cX9_canBe 533 = .ok (.aload_n 0, 1) := by decide +kernel
theorem dX9_canBe_534 : decode cX9_canBe 534 = .ok (.iload_n 3, 1) := by decide +kernel
theorem dX9_canBe_535 : decode cX9_canBe 535 = .ok (.invokevirtual 162, 3) := by decide +kernel
theorem dX9_canBe_538 : decode cX9_canBe 538 = .ok (.ifCond .eq 23, 3) := by decide +kernel
theorem dX9_canBe_541 : decode cX9_canBe 541 = .ok (.aload_n 0, 1) := by decide +kernel
theorem dX9_canBe_542 : decode cX9_canBe 542 = .ok (.getfield 47, 3) := by decide +kernel
theorem dX9_canBe_545 : decode cX9_canBe 545 = .ok (.iload_n 3, 1) := by decide +kernel
theorem dX9_canBe_546 : decode cX9_canBe 546 = .ok (.iaload, 1) := by decide +kernel
theorem dX9_canBe_547 : decode cX9_canBe 547 = .ok (.bipush 10, 2) := by decide +kernel
theorem dX9_canBe_549 : decode cX9_canBe 549 = .ok (.if_icmp .ne 12, 3) := by decide +kernel
theorem dX9_canBe_552 : decode cX9_canBe 552 = .ok (.iload 4, 2) := by decide +kernel
theorem dX9_canBe_554 : decode cX9_canBe 554 = .ok (.ifCond .ne 7, 3) := by decide +kernel
theorem dX9_canBe_557 : decode cX9_canBe 557 = .ok (.iconst 1, 1) := by decide +kernel
theorem dX9_canBe_558 : decode cX9_canBe 558 = .ok (.goto 4, 3) := by decide +kernel
theorem dX9_canBe_561 : decode cX9_canBe 561 = .ok (.iconst 0, 1) := by decide +kernel
theorem dX9_canBe_562 : decode cX9_canBe 562 = .ok (.ireturn, 1) := by decide +kernel
theorem dX9_canBe_563 : decode cX9_canBe 563 = .ok (.iconst 0, 1) := by decide +kernel
theorem dX9_canBe_564 : decode cX9_canBe 564 = .ok (.ireturn, 1) := by decide +kernel
theorem dX9_parts_0 : decode cX9_parts 0 = .ok (.iload_n 0, 1) := by decide +kernel
theorem dX9_parts_1 : decode cX9_parts 1 = .ok (.tableswitch 110 0 21 #[103, 103, 105, 110, 110, 110, 110, 110, 105, 110, 103, 103, 110, 105, 110, 107, 110, 103, 105, 105, 105, 105], 103) := by decide +kernel
theorem dX9_parts_104 : decode cX9_parts 104 = .ok (.iconst 0, 1) := by decide +kernel
theorem dX9_parts_105 : decode cX9_parts 105 = .ok (.ireturn, 1) := by decide +kernel
theorem dX9_parts_106 : decode cX9_parts 106 = .ok (.iconst 2, 1) := by decide +kernel
theorem dX9_parts_107 : decode cX9_parts 107 = .ok (.ireturn, 1) := by decide +kernel
theorem dX9_parts_108 : decode cX9_parts 108 = .ok (.bipush 7, 2) := by decide +kernel
theorem dX9_parts_110 : decode cX9_parts 110 = .ok (.ireturn, 1) := by decide +kernel
theorem dX9_parts_111 : decode cX9_parts 111 = .ok (.bipush 6, 2) := by decide +kernel
theorem dX9_parts_113 : decode cX9_parts 113 = .ok (.ireturn, 1) := by decide +kernel
set_option maxRecDepth 20000 in
theorem ggX9_part_X9_parts : GoodIn wsX9_part wsX9_parts := goodIn_r _ [8] (by decide +kernel) (by decide +kernel)
set_option maxRecDepth 20000 in
theorem gX9_part_X9_parts : GoodIn wsX9_part (va_wsS RX9 180 yX9_parts wsX9_parts) := goodIn_app (goodIn_of _ (by decide +kernel)) ggX9_part_X9_parts
set_option maxRecDepth 20000 in
theorem ggX9_part_X9_has : GoodIn wsX9_part wsX9_has := goodIn_r _ [11] (by decide +kernel) (by decide +kernel)
set_option maxRecDepth 20000 in
theorem gX9_part_X9_has : GoodIn wsX9_part (va_wsS RX9 183 yX9_has wsX9_has) := goodIn_app (goodIn_of _ (by decide +kernel)) ggX9_part_X9_has
theorem dX9_part_0 : decode cX9_part 0 = .ok (.aload_n 0, 1) := by decide +kernel
theorem dX9_part_1 : decode cX9_part 1 = .ok (.getfield 47, 3) := by decide +kernel
theorem dX9_part_4 : decode cX9_part 4 = .ok (.iload_n 1, 1) := by decide +kernel
theorem dX9_part_5 : decode cX9_part 5 = .ok (.iaload, 1) := by decide +kernel
theorem dX9_part_6 : decode cX9_part 6 = .ok (.invokestatic 180, 3) := by decide +kernel
theorem dX9_part_9 : decode cX9_part 9 = .ok (.iload_n 2, 1) := by decide +kernel
theorem dX9_part_10 : decode cX9_part 10 = .ok (.invokestatic 183, 3) := by decide +kernel
theorem dX9_part_13 : decode cX9_part 13 = .ok (.ifCond .ne 5, 3) := by decide +kernel
theorem dX9_part_16 : decode cX9_part 16 = .ok (.iconst (-1), 1) := by decide +kernel
theorem dX9_part_17 : decode cX9_part 17 = .ok (.ireturn, 1) := by decide +kernel
theorem dX9_part_18 : decode cX9_part 18 = .ok (.iload_n 2, 1) := by decide +kernel
theorem dX9_part_19 : decode cX9_part 19 = .ok (.ifCond .ne 12, 3) := by decide +kernel
theorem dX9_part_22 : decode cX9_part 22 = .ok (.aload_n 0, 1) := by decide +kernel
theorem dX9_part_23 : decode cX9_part 23 = .ok (.getfield 50, 3) := by decide +kernel
theorem dX9_part_26 : decode cX9_part 26 = .ok (.iload_n 1, 1) := by decide +kernel
theorem dX9_part_27 : decode cX9_part 27 = .ok (.iaload, 1) := by decide +kernel
theorem dX9_part_28 : decode cX9_part 28 = .ok (.goto 23, 3) := by decide +kernel
theorem dX9_part_31 : decode cX9_part 31 = .ok (.iload_n 2, 1) := by decide +kernel
theorem dX9_part_32 : decode cX9_part 32 = .ok (.iconst 1, 1) := by decide +kernel
theorem dX9_part_33 : decode cX9_part 33 = .ok (.if_icmp .ne 12, 3) := by decide +kernel
theorem dX9_part_36 : decode cX9_part 36 = .ok (.aload_n 0, 1) := by decide +kernel
theorem dX9_part_37 : decode cX9_part 37 = .ok (.getfield 53, 3) := by decide +kernel
theorem dX9_part_40 : decode cX9_part 40 = .ok (.iload_n 1, 1) := by decide +kernel
theorem dX9_part_41 : decode cX9_part 41 = .ok (.iaload, 1) := by decide +kernel
theorem dX9_part_42 : decode cX9_part 42 = .ok (.goto 9, 3) := by decide +kernel
theorem dX9_part_45 : decode cX9_part 45 = .ok (.aload_n 0, 1) := by decide +kernel
theorem dX9_part_46 : decode cX9_part 46 = .ok (.getfield 56, 3) := by decide +kernel
theorem dX9_part_49 : decode cX9_part 49 = .ok (.iload_n 1, 1) := by decide +kernel
theorem dX9_part_50 : decode cX9_part 50 = .ok (.iaload, 1) := by decide +kernel
theorem dX9_part_51 : decode cX9_part 51 = .ok (.ireturn, 1) := by decide +kernel
set_option maxRecDepth 20000 in
theorem ggX9_node_X9_isIn : GoodIn wsX9_node wsX9_isIn := goodIn_r _ [12] (by decide +kernel) (by decide +kernel)
set_option maxRecDepth 20000 in
theorem gX9_node_X9_isIn : GoodIn wsX9_node (va_wsS RX9 117 yX9_isIn wsX9_isIn) := goodIn_app (goodIn_of _ (by decide +kernel)) ggX9_node_X9_isIn
set_option maxRecDepth 20000 in
theorem ggX9_node_X9_canBe : GoodIn wsX9_node wsX9_canBe := goodIn_r _ [16, 3, 9, 10, 11, 12, 17, 18, 19, 20, 21, 22, 23, 24, 25, 26, 27, 7, 8, 28, 29, 30, 31, 2, 32, 33, 34, 35, 36, 37, 38, 39, 40, 41, 42, 43, 44, 45, 60, 61, 62, 63, 64, 65, 66, 67, 68, 69, 70, 71, 72, 73, 74, 75, 76, 77, 78, 79, 80, 81, 82, 83, 84, 85, 86, 87, 88, 89, 90, 91, 92, 93, 94, 95, 96, 97, 98, 99, 100, 101, 102, 103, 104, 105, 106, 107, 108, 109, 110, 111, 112, 113, 114, 115, 116, 117, 118, 119] (by decide +kernel) (by decide +kernel)
set_option maxRecDepth 20000 in
theorem gX9_node_X9_canBe : GoodIn wsX9_node (wsV RX9 187 RX9 yX9_canBe wsX9_canBe) := goodIn_app (goodIn_of _ (by decide +kernel)) ggX9_node_X9_canBe
set_option maxRecDepth 20000 in
theorem ggX9_node_X9_no : GoodIn wsX9_node wsX9_no := goodIn_r _ [49, 1, 60, 61, 62, 63, 64, 65, 66, 67, 68, 69, 70, 71, 72, 73, 74, 75, 76, 77, 78, 79, 80, 81, 82, 83, 84, 85, 86, 87, 88, 89, 90, 91, 92, 93, 94, 95, 96, 97, 98, 99, 100, 101, 102, 103, 104, 105, 106, 107, 108, 109, 110, 111, 112, 113, 114, 115, 116, 117, 118, 119] (by decide +kernel) (by decide +kernel)
set_option maxRecDepth 20000 in
theorem gX9_node_X9_no : GoodIn wsX9_node (wsV RX9 128 RX9 yX9_no wsX9_no) := goodIn_app (goodIn_of _ (by decide +kernel)) ggX9_node_X9_no
set_option maxRecDepth 20000 in
theorem ggX9_node_X9_part : GoodIn wsX9_node wsX9_part := goodIn_r _ [53, 3, 4, 5, 6, 54, 55, 11, 56, 57, 58, 59, 60, 61, 62, 63, 64, 65, 66, 67, 68, 69, 70, 71, 72, 73, 74, 75, 76, 77, 78, 79, 80, 81, 82, 83, 84, 85, 86, 87, 88, 89, 90, 91, 92, 93, 94, 95, 96, 97, 98, 99, 100, 101, 102, 103, 104, 105, 106, 107, 108, 109, 110, 111, 112, 113, 114, 115, 116, 117, 118, 119] (by decide +kernel) (by decide +kernel)
set_option maxRecDepth 20000 in
theorem gX9_node_X9_part : GoodIn wsX9_node (wsV RX9 191 RX9 yX9_part wsX9_part) := goodIn_app (goodIn_of _ (by decide +kernel)) ggX9_node_X9_part
theorem dX9_node_0 : decode cX9_node 0 = .ok (.aload_n 0, 1) := by decide +kernel
theorem dX9_node_1 : decode cX9_node 1 = .ok (.iconst 0, 1) := by decide +kernel
theorem dX9_node_2 : decode cX9_node 2 = .ok (.putfield 114, 3) := by decide +kernel
theorem dX9_node_5 : decode cX9_node 5 = .ok (.iload_n 1, 1) := by decide +kernel
theorem dX9_node_6 : decode cX9_node 6 = .ok (.iconst 0, 1) := by decide +kernel
theorem dX9_node_7 : decode cX9_node 7 = .ok (.bipush 21, 2) := by decide +kernel
theorem dX9_node_9 : decode cX9_node 9 = .ok (.invokestatic 117, 3) := by decide +kernel
theorem dX9_node_12 : decode cX9_node 12 = .ok (.ifCond .eq 15, 3) := by decide +kernel
theorem dX9_node_15 : decode cX9_node 15 = .ok (.aload_n 0, 1) := by decide +kernel
theorem dX9_node_16 : decode cX9_node 16 = .ok (.iload_n 1, 1) := by decide +kernel
theorem dX9_node_17 : decode cX9_node 17 = .ok (.iload_n 2, 1) := by decide +kernel
theorem dX9_node_18 : decode cX9_node 18 = .ok (.iload_n 3, 1) := by decide +kernel
theorem dX9_node_19 : decode cX9_node 19 = .ok (.iload 4, 2) := by decide +kernel
theorem dX9_node_21 : decode cX9_node 21 = .ok (.invokevirtual 187, 3) := by decide +kernel
theorem dX9_node_24 : decode cX9_node 24 = .ok (.ifCond .ne 9, 3) := by decide +kernel
theorem dX9_node_27 : decode cX9_node 27 = .ok (.aload_n 0, 1) := by decide +kernel
theorem dX9_node_28 : decode cX9_node 28 = .ok (.iconst 1, 1) := by decide +kernel
theorem dX9_node_29 : decode cX9_node 29 = .ok (.invokevirtual 128, 3) := by decide +kernel
theorem dX9_node_32 : decode cX9_node 32 = .ok (.ireturn, 1) := by decide +kernel
theorem dX9_node_33 : decode cX9_node 33 = .ok (.aload_n 0, 1) := by decide +kernel
theorem dX9_node_34 : decode cX9_node 34 = .ok (.getfield 121, 3) := by decide +kernel
theorem dX9_node_37 : decode cX9_node 37 = .ok (.bipush 110, 2) := by decide +kernel
theorem dX9_node_39 : decode cX9_node 39 = .ok (.if_icmp .ne 9, 3) := by decide +kernel
theorem dX9_node_42 : decode cX9_node 42 = .ok (.aload_n 0, 1) := by decide +kernel
theorem dX9_node_43 : decode cX9_node 43 = .ok (.iconst 2, 1) := by decide +kernel
theorem dX9_node_44 : decode cX9_node 44 = .ok (.invokevirtual 128, 3) := by decide +kernel
theorem dX9_node_47 : decode cX9_node 47 = .ok (.ireturn, 1) := by decide +kernel
theorem dX9_node_48 : decode cX9_node 48 = .ok (.aload_n 0, 1) := by decide +kernel
theorem dX9_node_49 : decode cX9_node 49 = .ok (.getfield 47, 3) := by decide +kernel
theorem dX9_node_52 : decode cX9_node 52 = .ok (.aload_n 0, 1) := by decide +kernel
theorem dX9_node_53 : decode cX9_node 53 = .ok (.getfield 121, 3) := by decide +kernel
theorem dX9_node_56 : decode cX9_node 56 = .ok (.iload_n 1, 1) := by decide +kernel
theorem dX9_node_57 : decode cX9_node 57 = .ok (.iastore, 1) := by decide +kernel
theorem dX9_node_58 : decode cX9_node 58 = .ok (.aload_n 0, 1) := by decide +kernel
theorem dX9_node_59 : decode cX9_node 59 = .ok (.getfield 50, 3) := by decide +kernel
theorem dX9_node_62 : decode cX9_node 62 = .ok (.aload_n 0, 1) := by decide +kernel
theorem dX9_node_63 : decode cX9_node 63 = .ok (.getfield 121, 3) := by decide +kernel
theorem dX9_node_66 : decode cX9_node 66 = .ok (.iload_n 2, 1) := by decide +kernel
theorem dX9_node_67 : decode cX9_node 67 = .ok (.iastore, 1) := by decide +kernel
theorem dX9_node_68 : decode cX9_node 68 = .ok (.aload_n 0, 1) := by decide +kernel
theorem dX9_node_69 : decode cX9_node 69 = .ok (.getfield 53, 3) := by decide +kernel
theorem dX9_node_72 : decode cX9_node 72 = .ok (.aload_n 0, 1) := by decide +kernel
theorem dX9_node_73 : decode cX9_node 73 = .ok (.getfield 121, 3) := by decide +kernel
theorem dX9_node_76 : decode cX9_node 76 = .ok (.iload_n 3, 1) := by decide +kernel
theorem dX9_node_77 : decode cX9_node 77 = .ok (.iastore, 1) := by decide +kernel
theorem dX9_node_78 : decode cX9_node 78 = .ok (.aload_n 0, 1) := by decide +kernel
theorem dX9_node_79 : decode cX9_node 79 = .ok (.getfield 56, 3) := by decide +kernel
theorem dX9_node_82 : decode cX9_node 82 = .ok (.aload_n 0, 1) := by decide +kernel
theorem dX9_node_83 : decode cX9_node 83 = .ok (.getfield 121, 3) := by decide +kernel
theorem dX9_node_86 : decode cX9_node 86 = .ok (.iload 4, 2) := by decide +kernel
theorem dX9_node_88 : decode cX9_node 88 = .ok (.iastore, 1) := by decide +kernel
theorem dX9_node_89 : decode cX9_node 89 = .ok (.aload_n 0, 1) := by decide +kernel
theorem dX9_node_90 : decode cX9_node 90 = .ok (.getfield 59, 3) := by decide +kernel
theorem dX9_node_93 : decode cX9_node 93 = .ok (.aload_n 0, 1) := by decide +kernel
theorem dX9_node_94 : decode cX9_node 94 = .ok (.getfield 121, 3) := by decide +kernel
theorem dX9_node_97 : decode cX9_node 97 = .ok (.iconst (-1), 1) := by decide +kernel
theorem dX9_node_98 : decode cX9_node 98 = .ok (.iastore, 1) := by decide +kernel
theorem dX9_node_99 : decode cX9_node 99 = .ok (.aload_n 0, 1) := by decide +kernel
theorem dX9_node_100 : decode cX9_node 100 = .ok (.getfield 62, 3) := by decide +kernel
theorem dX9_node_103 : decode cX9_node 103 = .ok (.aload_n 0, 1) := by decide +kernel
theorem dX9_node_104 : decode cX9_node 104 = .ok (.getfield 121, 3) := by decide +kernel
theorem dX9_node_107 : decode cX9_node 107 = .ok (.iconst (-1), 1) := by decide +kernel
theorem dX9_node_108 : decode cX9_node 108 = .ok (.iastore, 1) := by decide +kernel
theorem dX9_node_109 : decode cX9_node 109 = .ok (.iconst 0, 1) := by decide +kernel
theorem dX9_node_110 : decode cX9_node 110 = .ok (.istore 5, 2) := by decide +kernel
theorem dX9_node_112 : decode cX9_node 112 = .ok (.iload 5, 2) := by decide +kernel
theorem dX9_node_114 : decode cX9_node 114 = .ok (.iconst 3, 1) := by decide +kernel
theorem dX9_node_115 : decode cX9_node 115 = .ok (.if_icmp .ge 42, 3) := by decide +kernel
theorem dX9_node_118 : decode cX9_node 118 = .ok (.aload_n 0, 1) := by decide +kernel
theorem dX9_node_119 : decode cX9_node 119 = .ok (.aload_n 0, 1) := by decide +kernel
theorem dX9_node_120 : decode cX9_node 120 = .ok (.getfield 121, 3) := by decide +kernel
theorem dX9_node_123 : decode cX9_node 123 = .ok (.iload 5, 2) := by decide +kernel
theorem dX9_node_125 : decode cX9_node 125 = .ok (.invokevirtual 191, 3) := by decide +kernel
theorem dX9_node_128 : decode cX9_node 128 = .ok (.iconst (-1), 1) := by decide +kernel
theorem dX9_node_129 : decode cX9_node 129 = .ok (.if_icmp .eq 22, 3) := by decide +kernel
theorem dX9_node_132 : decode cX9_node 132 = .ok (.aload_n 0, 1) := by decide +kernel
theorem dX9_node_133 : decode cX9_node 133 = .ok (.getfield 59, 3) := by decide +kernel
theorem dX9_node_136 : decode cX9_node 136 = .ok (.aload_n 0, 1) := by decide +kernel
theorem dX9_node_137 : decode cX9_node 137 = .ok (.aload_n 0, 1) := by decide +kernel
theorem dX9_node_138 : decode cX9_node 138 = .ok (.getfield 121, 3) := by decide +kernel
theorem dX9_node_141 : decode cX9_node 141 = .ok (.iload 5, 2) := by decide +kernel
theorem dX9_node_143 : decode cX9_node 143 = .ok (.invokevirtual 191, 3) := by decide +kernel
theorem dX9_node_146 : decode cX9_node 146 = .ok (.aload_n 0, 1) := by decide +kernel
theorem dX9_node_147 : decode cX9_node 147 = .ok (.getfield 121, 3) := by decide +kernel
theorem dX9_node_150 : decode cX9_node 150 = .ok (.iastore, 1) := by decide +kernel
theorem dX9_node_151 : decode cX9_node 151 = .ok (.iinc 5 1, 3) := by decide +kernel
theorem dX9_node_154 : decode cX9_node 154 = .ok (.goto (-42), 3) := by decide +kernel
theorem dX9_node_157 : decode cX9_node 157 = .ok (.aload_n 0, 1) := by decide +kernel
theorem dX9_node_158 : decode cX9_node 158 = .ok (.dup, 1) := by decide +kernel
theorem dX9_node_159 : decode cX9_node 159 = .ok (.getfield 121, 3) := by decide +kernel
theorem dX9_node_162 : decode cX9_node 162 = .ok (.dup_x1, 1) := by decide +kernel
theorem dX9_node_163 : decode cX9_node 163 = .ok (.iconst 1, 1) := by decide +kernel
theorem dX9_node_164 : decode cX9_node 164 = .ok (.iadd, 1) := by decide +kernel
theorem dX9_node_165 : decode cX9_node 165 = .ok (.putfield 121, 3) := by decide +kernel
theorem dX9_node_168 : decode cX9_node 168 = .ok (.ireturn, 1) := by decide +kernel
set_option maxRecDepth 20000 in
theorem ggX9_body_X9_isProcedure : GoodIn wsX9_body wsX9_isProcedure := goodIn_r _ [9, 10, 11, 12, 8, 13, 31, 32, 33, 34, 35, 36, 37, 38, 39, 40, 41, 42, 43, 44, 45, 46, 47, 48, 49, 50, 51, 52, 53, 54, 55, 56, 57, 58, 59, 60, 61, 62, 63, 64, 65, 66, 67, 68, 69, 70, 71, 72, 73, 74, 75, 76, 77, 78, 79, 80, 81, 82, 83, 84, 85, 86, 87, 88, 89, 90] (by decide +kernel) (by decide +kernel)
set_option maxRecDepth 20000 in
theorem gX9_body_X9_isProcedure : GoodIn wsX9_body (wsV RX9 124 RX9 yX9_isProcedure wsX9_isProcedure) := goodIn_app (goodIn_of _ (by decide +kernel)) ggX9_body_X9_isProcedure
set_option maxRecDepth 20000 in
theorem ggX9_body_X9_isNode : GoodIn wsX9_body wsX9_isNode := goodIn_r _ [17, 18, 11, 12, 8, 13, 31, 32, 33, 34, 35, 36, 37, 38, 39, 40, 41, 42, 43, 44, 45, 46, 47, 48, 49, 50, 51, 52, 53, 54, 55, 56, 57, 58, 59, 60, 61, 62, 63, 64, 65, 66, 67, 68, 69, 70, 71, 72, 73, 74, 75, 76, 77, 78, 79, 80, 81, 82, 83, 84, 85, 86, 87, 88, 89, 90] (by decide +kernel) (by decide +kernel)
set_option maxRecDepth 20000 in
theorem gX9_body_X9_isNode : GoodIn wsX9_body (wsV RX9 159 RX9 yX9_isNode wsX9_isNode) := goodIn_app (goodIn_of _ (by decide +kernel)) ggX9_body_X9_isNode
set_option maxRecDepth 20000 in
theorem ggX9_body_X9_no : GoodIn wsX9_body wsX9_no := goodIn_r _ [22, 1, 31, 32, 33, 34, 35, 36, 37, 38, 39, 40, 41, 42, 43, 44, 45, 46, 47, 48, 49, 50, 51, 52, 53, 54, 55, 56, 57, 58, 59, 60, 61, 62, 63, 64, 65, 66, 67, 68, 69, 70, 71, 72, 73, 74, 75, 76, 77, 78, 79, 80, 81, 82, 83, 84, 85, 86, 87, 88, 89, 90] (by decide +kernel) (by decide +kernel)
set_option maxRecDepth 20000 in
theorem gX9_body_X9_no : GoodIn wsX9_body (wsV RX9 128 RX9 yX9_no wsX9_no) := goodIn_app (goodIn_of _ (by decide +kernel)) ggX9_body_X9_no
set_option maxRecDepth 20000 in
theorem ggX9_body_X9_isStatement : GoodIn wsX9_body wsX9_isStatement := goodIn_r _ [25, 11, 12, 8, 13] (by decide +kernel) (by decide +kernel)
set_option maxRecDepth 20000 in
theorem gX9_body_X9_isStatement : GoodIn wsX9_body (va_wsS RX9 168 yX9_isStatement wsX9_isStatement) := goodIn_app (goodIn_of _ (by decide +kernel)) ggX9_body_X9_isStatement
set_option maxRecDepth 20000 in
theorem ggX9_body_X9_isFree : GoodIn wsX9_body wsX9_isFree := goodIn_r _ [29, 30, 4, 14, 15, 16, 8, 17, 18, 11, 12, 13, 31, 32, 33, 34, 35, 36, 37, 38, 39, 40, 41, 42, 43, 44, 45, 46, 47, 48, 49, 50, 51, 52, 53, 54, 55, 56, 57, 58, 59, 60, 61, 62, 63, 64, 65, 66, 67, 68, 69, 70, 71, 72, 73, 74, 75, 76, 77, 78, 79, 80, 81, 82, 83, 84, 85, 86, 87, 88, 89, 90] (by decide +kernel) (by decide +kernel)
set_option maxRecDepth 20000 in
theorem gX9_body_X9_isFree : GoodIn wsX9_body (wsV RX9 162 RX9 yX9_isFree wsX9_isFree) := goodIn_app (goodIn_of _ (by decide +kernel)) ggX9_body_X9_isFree
theorem dX9_body_0 : decode cX9_body 0 = .ok (.aload_n 0, 1) := by decide +kernel
theorem dX9_body_1 : decode cX9_body 1 = .ok (.iconst 0, 1) := by decide +kernel
theorem dX9_body_2 : decode cX9_body 2 = .ok (.putfield 114, 3) := by decide +kernel
theorem dX9_body_5 : decode cX9_body 5 = .ok (.aload_n 0, 1) := by decide +kernel
theorem dX9_body_6 : decode cX9_body 6 = .ok (.iload_n 1, 1) := by decide +kernel
theorem dX9_body_7 : decode cX9_body 7 = .ok (.invokevirtual 124, 3) := by decide +kernel
theorem dX9_body_10 : decode cX9_body 10 = .ok (.ifCond .eq 11, 3) := by decide +kernel
theorem dX9_body_13 : decode cX9_body 13 = .ok (.aload_n 0, 1) := by decide +kernel
theorem dX9_body_14 : decode cX9_body 14 = .ok (.iload_n 2, 1) := by decide +kernel
theorem dX9_body_15 : decode cX9_body 15 = .ok (.invokevirtual 159, 3) := by decide +kernel
theorem dX9_body_18 : decode cX9_body 18 = .ok (.ifCond .ne 9, 3) := by decide +kernel
theorem dX9_body_21 : decode cX9_body 21 = .ok (.aload_n 0, 1) := by decide +kernel
theorem dX9_body_22 : decode cX9_body 22 = .ok (.iconst 1, 1) := by decide +kernel
theorem dX9_body_23 : decode cX9_body 23 = .ok (.invokevirtual 128, 3) := by decide +kernel
theorem dX9_body_26 : decode cX9_body 26 = .ok (.ireturn, 1) := by decide +kernel
theorem dX9_body_27 : decode cX9_body 27 = .ok (.aload_n 0, 1) := by decide +kernel
theorem dX9_body_28 : decode cX9_body 28 = .ok (.getfield 47, 3) := by decide +kernel
theorem dX9_body_31 : decode cX9_body 31 = .ok (.iload_n 2, 1) := by decide +kernel
theorem dX9_body_32 : decode cX9_body 32 = .ok (.iaload, 1) := by decide +kernel
theorem dX9_body_33 : decode cX9_body 33 = .ok (.invokestatic 168, 3) := by decide +kernel
theorem dX9_body_36 : decode cX9_body 36 = .ok (.ifCond .ne 9, 3) := by decide +kernel
theorem dX9_body_39 : decode cX9_body 39 = .ok (.aload_n 0, 1) := by decide +kernel
theorem dX9_body_40 : decode cX9_body 40 = .ok (.iconst 2, 1) := by decide +kernel
theorem dX9_body_41 : decode cX9_body 41 = .ok (.invokevirtual 128, 3) := by decide +kernel
theorem dX9_body_44 : decode cX9_body 44 = .ok (.ireturn, 1) := by decide +kernel
theorem dX9_body_45 : decode cX9_body 45 = .ok (.aload_n 0, 1) := by decide +kernel
theorem dX9_body_46 : decode cX9_body 46 = .ok (.iload_n 2, 1) := by decide +kernel
theorem dX9_body_47 : decode cX9_body 47 = .ok (.invokevirtual 162, 3) := by decide +kernel
theorem dX9_body_50 : decode cX9_body 50 = .ok (.ifCond .ne 9, 3) := by decide +kernel
theorem dX9_body_53 : decode cX9_body 53 = .ok (.aload_n 0, 1) := by decide +kernel
theorem dX9_body_54 : decode cX9_body 54 = .ok (.iconst 3, 1) := by decide +kernel
theorem dX9_body_55 : decode cX9_body 55 = .ok (.invokevirtual 128, 3) := by decide +kernel
theorem dX9_body_58 : decode cX9_body 58 = .ok (.ireturn, 1) := by decide +kernel
theorem dX9_body_59 : decode cX9_body 59 = .ok (.aload_n 0, 1) := by decide +kernel
theorem dX9_body_60 : decode cX9_body 60 = .ok (.getfield 29, 3) := by decide +kernel
theorem dX9_body_63 : decode cX9_body 63 = .ok (.iload_n 1, 1) := by decide +kernel
theorem dX9_body_64 : decode cX9_body 64 = .ok (.iaload, 1) := by decide +kernel
theorem dX9_body_65 : decode cX9_body 65 = .ok (.istore_n 3, 1) := by decide +kernel
theorem dX9_body_66 : decode cX9_body 66 = .ok (.iload_n 3, 1) := by decide +kernel
theorem dX9_body_67 : decode cX9_body 67 = .ok (.iconst (-1), 1) := by decide +kernel
theorem dX9_body_68 : decode cX9_body 68 = .ok (.if_icmp .eq 10, 3) := by decide +kernel
theorem dX9_body_71 : decode cX9_body 71 = .ok (.aload_n 0, 1) := by decide +kernel
theorem dX9_body_72 : decode cX9_body 72 = .ok (.getfield 62, 3) := by decide +kernel
theorem dX9_body_75 : decode cX9_body 75 = .ok (.iload_n 3, 1) := by decide +kernel
theorem dX9_body_76 : decode cX9_body 76 = .ok (.iconst (-1), 1) := by decide +kernel
theorem dX9_body_77 : decode cX9_body 77 = .ok (.iastore, 1) := by decide +kernel
theorem dX9_body_78 : decode cX9_body 78 = .ok (.aload_n 0, 1) := by decide +kernel
theorem dX9_body_79 : decode cX9_body 79 = .ok (.getfield 29, 3) := by decide +kernel
theorem dX9_body_82 : decode cX9_body 82 = .ok (.iload_n 1, 1) := by decide +kernel
theorem dX9_body_83 : decode cX9_body 83 = .ok (.iload_n 2, 1) := by decide +kernel
theorem dX9_body_84 : decode cX9_body 84 = .ok (.iastore, 1) := by decide +kernel
theorem dX9_body_85 : decode cX9_body 85 = .ok (.aload_n 0, 1) := by decide +kernel
theorem dX9_body_86 : decode cX9_body 86 = .ok (.getfield 62, 3) := by decide +kernel
theorem dX9_body_89 : decode cX9_body 89 = .ok (.iload_n 2, 1) := by decide +kernel
theorem dX9_body_90 : decode cX9_body 90 = .ok (.iload_n 1, 1) := by decide +kernel
theorem dX9_body_91 : decode cX9_body 91 = .ok (.iastore, 1) := by decide +kernel
theorem dX9_body_92 : decode cX9_body 92 = .ok (.iload_n 3, 1) := by decide +kernel
theorem dX9_body_93 : decode cX9_body 93 = .ok (.ireturn, 1) := by decide +kernel
theorem dX9_in_0 : decode cX9_in 0 = .ok (.iload_n 1, 1) := by decide +kernel
theorem dX9_in_1 : decode cX9_in 1 = .ok (.istore_n 2, 1) := by decide +kernel
theorem dX9_in_2 : decode cX9_in 2 = .ok (.aload_n 0, 1) := by decide +kernel
theorem dX9_in_3 : decode cX9_in 3 = .ok (.getfield 59, 3) := by decide +kernel
theorem dX9_in_6 : decode cX9_in 6 = .ok (.iload_n 2, 1) := by decide +kernel
theorem dX9_in_7 : decode cX9_in 7 = .ok (.iaload, 1) := by decide +kernel
theorem dX9_in_8 : decode cX9_in 8 = .ok (.iconst (-1), 1) := by decide +kernel
theorem dX9_in_9 : decode cX9_in 9 = .ok (.if_icmp .eq 13, 3) := by decide +kernel
theorem dX9_in_12 : decode cX9_in 12 = .ok (.aload_n 0, 1) := by decide +kernel
theorem dX9_in_13 : decode cX9_in 13 = .ok (.getfield 59, 3) := by decide +kernel
theorem dX9_in_16 : decode cX9_in 16 = .ok (.iload_n 2, 1) := by decide +kernel
theorem dX9_in_17 : decode cX9_in 17 = .ok (.iaload, 1) := by decide +kernel
theorem dX9_in_18 : decode cX9_in 18 = .ok (.istore_n 2, 1) := by decide +kernel
theorem dX9_in_19 : decode cX9_in 19 = .ok (.goto (-17), 3) := by decide +kernel
theorem dX9_in_22 : decode cX9_in 22 = .ok (.aload_n 0, 1) := by decide +kernel
theorem dX9_in_23 : decode cX9_in 23 = .ok (.getfield 62, 3) := by decide +kernel
theorem dX9_in_26 : decode cX9_in 26 = .ok (.iload_n 2, 1) := by decide +kernel
theorem dX9_in_27 : decode cX9_in 27 = .ok (.iaload, 1) := by decide +kernel
theorem dX9_in_28 : decode cX9_in 28 = .ok (.ireturn, 1) := by decide +kernel
theorem dX9_hasName_0 : decode cX9_hasName 0 = .ok (.iload_n 0, 1) := by decide +kernel
theorem dX9_hasName_1 : decode cX9_hasName 1 = .ok (.iconst 1, 1) := by decide +kernel
theorem dX9_hasName_2 : decode cX9_hasName 2 = .ok (.if_icmp .eq 44, 3) := by decide +kernel
theorem dX9_hasName_5 : decode cX9_hasName 5 = .ok (.iload_n 0, 1) := by decide +kernel
theorem dX9_hasName_6 : decode cX9_hasName 6 = .ok (.iconst 2, 1) := by decide +kernel
theorem dX9_hasName_7 : decode cX9_hasName 7 = .ok (.if_icmp .eq 39, 3) := by decide +kernel
theorem dX9_hasName_10 : decode cX9_hasName 10 = .ok (.iload_n 0, 1) := by decide +kernel
theorem dX9_hasName_11 : decode cX9_hasName 11 = .ok (.bipush 8, 2) := by decide +kernel
theorem dX9_hasName_13 : decode cX9_hasName 13 = .ok (.if_icmp .eq 33, 3) := by decide +kernel
theorem dX9_hasName_16 : decode cX9_hasName 16 = .ok (.iload_n 0, 1) := by decide +kernel
theorem dX9_hasName_17 : decode cX9_hasName 17 = .ok (.bipush 10, 2) := by decide +kernel
theorem dX9_hasName_19 : decode cX9_hasName 19 = .ok (.if_icmp .eq 27, 3) := by decide +kernel
theorem dX9_hasName_22 : decode cX9_hasName 22 = .ok (.iload_n 0, 1) := by decide +kernel
theorem dX9_hasName_23 : decode cX9_hasName 23 = .ok (.bipush 11, 2) := by decide +kernel
theorem dX9_hasName_25 : decode cX9_hasName 25 = .ok (.if_icmp .eq 21, 3) := by decide +kernel
theorem dX9_hasName_28 : decode cX9_hasName 28 = .ok (.iload_n 0, 1) := by decide +kernel
theorem dX9_hasName_29 : decode cX9_hasName 29 = .ok (.bipush 13, 2) := by decide +kernel
theorem dX9_hasName_31 : decode cX9_hasName 31 = .ok (.if_icmp .eq 15, 3) := by decide +kernel
theorem dX9_hasName_34 : decode cX9_hasName 34 = .ok (.iload_n 0, 1) := by decide +kernel
theorem dX9_hasName_35 : decode cX9_hasName 35 = .ok (.bipush 14, 2) := by decide +kernel
theorem dX9_hasName_37 : decode cX9_hasName 37 = .ok (.if_icmp .eq 9, 3) := by decide +kernel
theorem dX9_hasName_40 : decode cX9_hasName 40 = .ok (.iload_n 0, 1) := by decide +kernel
theorem dX9_hasName_41 : decode cX9_hasName 41 = .ok (.bipush 21, 2) := by decide +kernel
theorem dX9_hasName_43 : decode cX9_hasName 43 = .ok (.if_icmp .ne 7, 3) := by decide +kernel
theorem dX9_hasName_46 : decode cX9_hasName 46 = .ok (.iconst 1, 1) := by decide +kernel
theorem dX9_hasName_47 : decode cX9_hasName 47 = .ok (.goto 4, 3) := by decide +kernel
theorem dX9_hasName_50 : decode cX9_hasName 50 = .ok (.iconst 0, 1) := by decide +kernel
theorem dX9_hasName_51 : decode cX9_hasName 51 = .ok (.ireturn, 1) := by decide +kernel
set_option maxRecDepth 20000 in
theorem ggX9_isHandedOn_X9_in : GoodIn wsX9_isHandedOn wsX9_in := goodIn_r _ [8, 9, 10, 26, 27, 28, 29, 30, 31, 32, 33, 34, 35, 36, 37, 38, 39, 40, 41, 42, 43, 44, 45, 46, 47, 48, 49, 50, 51, 52, 53, 54, 55, 56, 57, 58, 59, 60, 61, 62, 63, 64, 65, 66, 67, 68, 69, 70, 71, 72, 73, 74, 75, 76, 77, 78, 79, 80, 81, 82, 83, 84, 85] (by decide +kernel) (by decide +kernel)
set_option maxRecDepth 20000 in
theorem gX9_isHandedOn_X9_in : GoodIn wsX9_isHandedOn (wsV RX9 194 RX9 yX9_in wsX9_in) := goodIn_app (goodIn_of _ (by decide +kernel)) ggX9_isHandedOn_X9_in
set_option maxRecDepth 20000 in
theorem ggX9_isHandedOn_X9_whatIs : GoodIn wsX9_isHandedOn wsX9_whatIs := goodIn_r _ [14, 15, 16, 17, 18, 7, 19, 20, 26, 27, 28, 29, 30, 31, 32, 33, 34, 35, 36, 37, 38, 39, 40, 41, 42, 43, 44, 45, 46, 47, 48, 49, 50, 51, 52, 53, 54, 55, 56, 57, 58, 59, 60, 61, 62, 63, 64, 65, 66, 67, 68, 69, 70, 71, 72, 73, 74, 75, 76, 77, 78, 79, 80, 81, 82, 83, 84, 85] (by decide +kernel) (by decide +kernel)
set_option maxRecDepth 20000 in
theorem gX9_isHandedOn_X9_whatIs : GoodIn wsX9_isHandedOn (wsV RX9 153 RX9 yX9_whatIs wsX9_whatIs) := goodIn_app (goodIn_of _ (by decide +kernel)) ggX9_isHandedOn_X9_whatIs
set_option maxRecDepth 20000 in
theorem ggX9_isHandedOn_X9_sizeIs : GoodIn wsX9_isHandedOn wsX9_sizeIs := goodIn_r _ [24, 25, 16, 17, 18, 7, 19, 15, 20, 26, 27, 28, 29, 30, 31, 32, 33, 34, 35, 36, 37, 38, 39, 40, 41, 42, 43, 44, 45, 46, 47, 48, 49, 50, 51, 52, 53, 54, 55, 56, 57, 58, 59, 60, 61, 62, 63, 64, 65, 66, 67, 68, 69, 70, 71, 72, 73, 74, 75, 76, 77, 78, 79, 80, 81, 82, 83, 84, 85] (by decide +kernel) (by decide +kernel)
set_option maxRecDepth 20000 in
theorem gX9_isHandedOn_X9_sizeIs : GoodIn wsX9_isHandedOn (wsV RX9 156 RX9 yX9_sizeIs wsX9_sizeIs) := goodIn_app (goodIn_of _ (by decide +kernel)) ggX9_isHandedOn_X9_sizeIs
theorem dX9_isHandedOn_0 : decode cX9_isHandedOn 0 = .ok (.iconst 0, 1) := by decide +kernel
theorem dX9_isHandedOn_1 : decode cX9_isHandedOn 1 = .ok (.istore_n 2, 1) := by decide +kernel
theorem dX9_isHandedOn_2 : decode cX9_isHandedOn 2 = .ok (.iload_n 2, 1) := by decide +kernel
theorem dX9_isHandedOn_3 : decode cX9_isHandedOn 3 = .ok (.aload_n 0, 1) := by decide +kernel
theorem dX9_isHandedOn_4 : decode cX9_isHandedOn 4 = .ok (.getfield 121, 3) := by decide +kernel
theorem dX9_isHandedOn_7 : decode cX9_isHandedOn 7 = .ok (.if_icmp .ge 70, 3) := by decide +kernel
theorem dX9_isHandedOn_10 : decode cX9_isHandedOn 10 = .ok (.aload_n 0, 1) := by decide +kernel
theorem dX9_isHandedOn_11 : decode cX9_isHandedOn 11 = .ok (.getfield 47, 3) := by decide +kernel
theorem dX9_isHandedOn_14 : decode cX9_isHandedOn 14 = .ok (.iload_n 2, 1) := by decide +kernel
theorem dX9_isHandedOn_15 : decode cX9_isHandedOn 15 = .ok (.iaload, 1) := by decide +kernel
theorem dX9_isHandedOn_16 : decode cX9_isHandedOn 16 = .ok (.bipush 10, 2) := by decide +kernel
theorem dX9_isHandedOn_18 : decode cX9_isHandedOn 18 = .ok (.if_icmp .ne 53, 3) := by decide +kernel
theorem dX9_isHandedOn_21 : decode cX9_isHandedOn 21 = .ok (.aload_n 0, 1) := by decide +kernel
theorem dX9_isHandedOn_22 : decode cX9_isHandedOn 22 = .ok (.iload_n 2, 1) := by decide +kernel
theorem dX9_isHandedOn_23 : decode cX9_isHandedOn 23 = .ok (.invokevirtual 194, 3) := by decide +kernel
theorem dX9_isHandedOn_26 : decode cX9_isHandedOn 26 = .ok (.iconst (-1), 1) := by decide +kernel
theorem dX9_isHandedOn_27 : decode cX9_isHandedOn 27 = .ok (.if_icmp .eq 44, 3) := by decide +kernel
theorem dX9_isHandedOn_30 : decode cX9_isHandedOn 30 = .ok (.aload_n 0, 1) := by decide +kernel
theorem dX9_isHandedOn_31 : decode cX9_isHandedOn 31 = .ok (.aload_n 0, 1) := by decide +kernel
theorem dX9_isHandedOn_32 : decode cX9_isHandedOn 32 = .ok (.iload_n 2, 1) := by decide +kernel
theorem dX9_isHandedOn_33 : decode cX9_isHandedOn 33 = .ok (.invokevirtual 194, 3) := by decide +kernel
theorem dX9_isHandedOn_36 : decode cX9_isHandedOn 36 = .ok (.aload_n 0, 1) := by decide +kernel
theorem dX9_isHandedOn_37 : decode cX9_isHandedOn 37 = .ok (.getfield 50, 3) := by decide +kernel
theorem dX9_isHandedOn_40 : decode cX9_isHandedOn 40 = .ok (.iload_n 2, 1) := by decide +kernel
theorem dX9_isHandedOn_41 : decode cX9_isHandedOn 41 = .ok (.iaload, 1) := by decide +kernel
theorem dX9_isHandedOn_42 : decode cX9_isHandedOn 42 = .ok (.invokevirtual 153, 3) := by decide +kernel
theorem dX9_isHandedOn_45 : decode cX9_isHandedOn 45 = .ok (.bipush 10, 2) := by decide +kernel
theorem dX9_isHandedOn_47 : decode cX9_isHandedOn 47 = .ok (.if_icmp .ne 24, 3) := by decide +kernel
theorem dX9_isHandedOn_50 : decode cX9_isHandedOn 50 = .ok (.aload_n 0, 1) := by decide +kernel
theorem dX9_isHandedOn_51 : decode cX9_isHandedOn 51 = .ok (.aload_n 0, 1) := by decide +kernel
theorem dX9_isHandedOn_52 : decode cX9_isHandedOn 52 = .ok (.iload_n 2, 1) := by decide +kernel
theorem dX9_isHandedOn_53 : decode cX9_isHandedOn 53 = .ok (.invokevirtual 194, 3) := by decide +kernel
theorem dX9_isHandedOn_56 : decode cX9_isHandedOn 56 = .ok (.aload_n 0, 1) := by decide +kernel
theorem dX9_isHandedOn_57 : decode cX9_isHandedOn 57 = .ok (.getfield 50, 3) := by decide +kernel
theorem dX9_isHandedOn_60 : decode cX9_isHandedOn 60 = .ok (.iload_n 2, 1) := by decide +kernel
theorem dX9_isHandedOn_61 : decode cX9_isHandedOn 61 = .ok (.iaload, 1) := by decide +kernel
theorem dX9_isHandedOn_62 : decode cX9_isHandedOn 62 = .ok (.invokevirtual 156, 3) := by decide +kernel
theorem dX9_isHandedOn_65 : decode cX9_isHandedOn 65 = .ok (.iload_n 1, 1) := by decide +kernel
theorem dX9_isHandedOn_66 : decode cX9_isHandedOn 66 = .ok (.if_icmp .ne 5, 3) := by decide +kernel
theorem dX9_isHandedOn_69 : decode cX9_isHandedOn 69 = .ok (.iconst 1, 1) := by decide +kernel
theorem dX9_isHandedOn_70 : decode cX9_isHandedOn 70 = .ok (.ireturn, 1) := by decide +kernel
theorem dX9_isHandedOn_71 : decode cX9_isHandedOn 71 = .ok (.iinc 2 1, 3) := by decide +kernel
theorem dX9_isHandedOn_74 : decode cX9_isHandedOn 74 = .ok (.goto (-72), 3) := by decide +kernel
theorem dX9_isHandedOn_77 : decode cX9_isHandedOn 77 = .ok (.iconst 0, 1) := by decide +kernel
theorem dX9_isHandedOn_78 : decode cX9_isHandedOn 78 = .ok (.ireturn, 1) := by decide +kernel
set_option maxRecDepth 20000 in
theorem ggX9_isReached_X9_isHandedOn : GoodIn wsX9_isReached wsX9_isHandedOn := goodIn_r _ [6, 7, 8, 9, 10, 11, 12, 5, 13, 14, 15, 16, 17, 18, 19, 20, 21, 22, 23, 24, 1, 25, 26, 27, 28, 29, 30, 31, 32, 33, 34, 35, 36, 37, 38, 39, 40, 41, 42, 43, 44, 45, 46, 47, 48, 49, 50, 51, 52, 53, 54, 55, 56, 57, 58, 59, 60, 61, 62, 63, 64, 65, 66, 67, 68, 69, 70, 71, 72, 73, 74, 75, 76, 77, 78, 79, 80, 81, 82, 83, 84, 85, 86, 87, 88, 89] (by decide +kernel) (by decide +kernel)
set_option maxRecDepth 20000 in
theorem gX9_isReached_X9_isHandedOn : GoodIn wsX9_isReached (wsV RX9 197 RX9 yX9_isHandedOn wsX9_isHandedOn) := goodIn_app (goodIn_of _ (by decide +kernel)) ggX9_isReached_X9_isHandedOn
theorem dX9_isReached_0 : decode cX9_isReached 0 = .ok (.iload_n 1, 1) := by decide +kernel
theorem dX9_isReached_1 : decode cX9_isReached 1 = .ok (.istore_n 3, 1) := by decide +kernel
theorem dX9_isReached_2 : decode cX9_isReached 2 = .ok (.iload_n 3, 1) := by decide +kernel
theorem dX9_isReached_3 : decode cX9_isReached 3 = .ok (.iload_n 2, 1) := by decide +kernel
theorem dX9_isReached_4 : decode cX9_isReached 4 = .ok (.if_icmp .eq 23, 3) := by decide +kernel
theorem dX9_isReached_7 : decode cX9_isReached 7 = .ok (.aload_n 0, 1) := by decide +kernel
theorem dX9_isReached_8 : decode cX9_isReached 8 = .ok (.iload_n 3, 1) := by decide +kernel
theorem dX9_isReached_9 : decode cX9_isReached 9 = .ok (.invokevirtual 197, 3) := by decide +kernel
theorem dX9_isReached_12 : decode cX9_isReached 12 = .ok (.ifCond .eq 5, 3) := by decide +kernel
theorem dX9_isReached_15 : decode cX9_isReached 15 = .ok (.iconst 1, 1) := by decide +kernel
theorem dX9_isReached_16 : decode cX9_isReached 16 = .ok (.ireturn, 1) := by decide +kernel
theorem dX9_isReached_17 : decode cX9_isReached 17 = .ok (.aload_n 0, 1) := by decide +kernel
theorem dX9_isReached_18 : decode cX9_isReached 18 = .ok (.getfield 13, 3) := by decide +kernel
theorem dX9_isReached_21 : decode cX9_isReached 21 = .ok (.iload_n 3, 1) := by decide +kernel
theorem dX9_isReached_22 : decode cX9_isReached 22 = .ok (.iaload, 1) := by decide +kernel
theorem dX9_isReached_23 : decode cX9_isReached 23 = .ok (.istore_n 3, 1) := by decide +kernel
theorem dX9_isReached_24 : decode cX9_isReached 24 = .ok (.goto (-22), 3) := by decide +kernel
theorem dX9_isReached_27 : decode cX9_isReached 27 = .ok (.iconst 0, 1) := by decide +kernel
theorem dX9_isReached_28 : decode cX9_isReached 28 = .ok (.ireturn, 1) := by decide +kernel
set_option maxRecDepth 20000 in
theorem ggX9_escapes_X9_hasName : GoodIn wsX9_escapes wsX9_hasName := goodIn_r _ [7] (by decide +kernel) (by decide +kernel)
set_option maxRecDepth 20000 in
theorem gX9_escapes_X9_hasName : GoodIn wsX9_escapes (va_wsS RX9 200 yX9_hasName wsX9_hasName) := goodIn_app (goodIn_of _ (by decide +kernel)) ggX9_escapes_X9_hasName
set_option maxRecDepth 20000 in
theorem ggX9_escapes_X9_in : GoodIn wsX9_escapes wsX9_in := goodIn_r _ [11, 12, 13, 46, 47, 48, 49, 50, 51, 52, 53, 54, 55, 56, 57, 58, 59, 60, 61, 62, 63, 64, 65, 66, 67, 68, 69, 70, 71, 72, 73, 74, 75, 76, 77, 78, 79, 80, 81, 82, 83, 84, 85, 86, 87, 88, 89, 90, 91, 92, 93, 94, 95, 96, 97, 98, 99, 100, 101, 102, 103, 104, 105] (by decide +kernel) (by decide +kernel)
set_option maxRecDepth 20000 in
theorem gX9_escapes_X9_in : GoodIn wsX9_escapes (wsV RX9 194 RX9 yX9_in wsX9_in) := goodIn_app (goodIn_of _ (by decide +kernel)) ggX9_escapes_X9_in
set_option maxRecDepth 20000 in
theorem ggX9_escapes_X9_isInside : GoodIn wsX9_escapes wsX9_isInside := goodIn_r _ [17, 18, 46, 47, 48, 49, 50, 51, 52, 53, 54, 55, 56, 57, 58, 59, 60, 61, 62, 63, 64, 65, 66, 67, 68, 69, 70, 71, 72, 73, 74, 75, 76, 77, 78, 79, 80, 81, 82, 83, 84, 85, 86, 87, 88, 89, 90, 91, 92, 93, 94, 95, 96, 97, 98, 99, 100, 101, 102, 103, 104, 105] (by decide +kernel) (by decide +kernel)
set_option maxRecDepth 20000 in
theorem gX9_escapes_X9_isInside : GoodIn wsX9_escapes (wsV RX9 203 RX9 yX9_isInside wsX9_isInside) := goodIn_app (goodIn_of _ (by decide +kernel)) ggX9_escapes_X9_isInside
set_option maxRecDepth 20000 in
theorem ggX9_escapes_X9_declarer : GoodIn wsX9_escapes wsX9_declarer := goodIn_r _ [22, 23, 18, 46, 47, 48, 49, 50, 51, 52, 53, 54, 55, 56, 57, 58, 59, 60, 61, 62, 63, 64, 65, 66, 67, 68, 69, 70, 71, 72, 73, 74, 75, 76, 77, 78, 79, 80, 81, 82, 83, 84, 85, 86, 87, 88, 89, 90, 91, 92, 93, 94, 95, 96, 97, 98, 99, 100, 101, 102, 103, 104, 105] (by decide +kernel) (by decide +kernel)
set_option maxRecDepth 20000 in
theorem gX9_escapes_X9_declarer : GoodIn wsX9_escapes (wsV RX9 143 RX9 yX9_declarer wsX9_declarer) := goodIn_app (goodIn_of _ (by decide +kernel)) ggX9_escapes_X9_declarer
set_option maxRecDepth 20000 in
theorem ggX9_escapes_X9_placeIs : GoodIn wsX9_escapes wsX9_placeIs := goodIn_r _ [27, 28, 19, 20, 21, 6, 22, 23, 18, 46, 47, 48, 49, 50, 51, 52, 53, 54, 55, 56, 57, 58, 59, 60, 61, 62, 63, 64, 65, 66, 67, 68, 69, 70, 71, 72, 73, 74, 75, 76, 77, 78, 79, 80, 81, 82, 83, 84, 85, 86, 87, 88, 89, 90, 91, 92, 93, 94, 95, 96, 97, 98, 99, 100, 101, 102, 103, 104, 105] (by decide +kernel) (by decide +kernel)
set_option maxRecDepth 20000 in
theorem gX9_escapes_X9_placeIs : GoodIn wsX9_escapes (wsV RX9 150 RX9 yX9_placeIs wsX9_placeIs) := goodIn_app (goodIn_of _ (by decide +kernel)) ggX9_escapes_X9_placeIs
set_option maxRecDepth 20000 in
theorem ggX9_escapes_X9_isReached : GoodIn wsX9_escapes wsX9_isReached := goodIn_r _ [32, 18, 33, 34, 35, 6, 36, 1, 2, 3, 8, 9, 10, 11, 12, 13, 37, 38, 39, 40, 23, 19, 20, 21, 22, 41, 42, 43, 44, 45, 46, 47, 48, 49, 50, 51, 52, 53, 54, 55, 56, 57, 58, 59, 60, 61, 62, 63, 64, 65, 66, 67, 68, 69, 70, 71, 72, 73, 74, 75, 76, 77, 78, 79, 80, 81, 82, 83, 84, 85, 86, 87, 88, 89, 90, 91, 92, 93, 94, 95, 96, 97, 98, 99, 100, 101, 102, 103, 104, 105] (by decide +kernel) (by decide +kernel)
set_option maxRecDepth 20000 in
theorem gX9_escapes_X9_isReached : GoodIn wsX9_escapes (wsV RX9 206 RX9 yX9_isReached wsX9_isReached) := goodIn_app (goodIn_of _ (by decide +kernel)) ggX9_escapes_X9_isReached
theorem dX9_escapes_0 : decode cX9_escapes 0 = .ok (.iconst 0, 1) := by decide +kernel
theorem dX9_escapes_1 : decode cX9_escapes 1 = .ok (.istore_n 2, 1) := by decide +kernel
theorem dX9_escapes_2 : decode cX9_escapes 2 = .ok (.iconst 0, 1) := by decide +kernel
theorem dX9_escapes_3 : decode cX9_escapes 3 = .ok (.istore_n 3, 1) := by decide +kernel
theorem dX9_escapes_4 : decode cX9_escapes 4 = .ok (.iload_n 3, 1) := by decide +kernel
theorem dX9_escapes_5 : decode cX9_escapes 5 = .ok (.aload_n 0, 1) := by decide +kernel
theorem dX9_escapes_6 : decode cX9_escapes 6 = .ok (.getfield 121, 3) := by decide +kernel
theorem dX9_escapes_9 : decode cX9_escapes 9 = .ok (.if_icmp .ge 121, 3) := by decide +kernel
theorem dX9_escapes_12 : decode cX9_escapes 12 = .ok (.aload_n 0, 1) := by decide +kernel
theorem dX9_escapes_13 : decode cX9_escapes 13 = .ok (.getfield 47, 3) := by decide +kernel
theorem dX9_escapes_16 : decode cX9_escapes 16 = .ok (.iload_n 3, 1) := by decide +kernel
theorem dX9_escapes_17 : decode cX9_escapes 17 = .ok (.iaload, 1) := by decide +kernel
theorem dX9_escapes_18 : decode cX9_escapes 18 = .ok (.invokestatic 200, 3) := by decide +kernel
theorem dX9_escapes_21 : decode cX9_escapes 21 = .ok (.ifCond .eq 103, 3) := by decide +kernel
theorem dX9_escapes_24 : decode cX9_escapes 24 = .ok (.aload_n 0, 1) := by decide +kernel
theorem dX9_escapes_25 : decode cX9_escapes 25 = .ok (.iload_n 3, 1) := by decide +kernel
theorem dX9_escapes_26 : decode cX9_escapes 26 = .ok (.invokevirtual 194, 3) := by decide +kernel
theorem dX9_escapes_29 : decode cX9_escapes 29 = .ok (.iconst (-1), 1) := by decide +kernel
theorem dX9_escapes_30 : decode cX9_escapes 30 = .ok (.if_icmp .eq 94, 3) := by decide +kernel
theorem dX9_escapes_33 : decode cX9_escapes 33 = .ok (.aload_n 0, 1) := by decide +kernel
theorem dX9_escapes_34 : decode cX9_escapes 34 = .ok (.aload_n 0, 1) := by decide +kernel
theorem dX9_escapes_35 : decode cX9_escapes 35 = .ok (.iload_n 3, 1) := by decide +kernel
theorem dX9_escapes_36 : decode cX9_escapes 36 = .ok (.invokevirtual 194, 3) := by decide +kernel
theorem dX9_escapes_39 : decode cX9_escapes 39 = .ok (.iload_n 1, 1) := by decide +kernel
theorem dX9_escapes_40 : decode cX9_escapes 40 = .ok (.invokevirtual 203, 3) := by decide +kernel
theorem dX9_escapes_43 : decode cX9_escapes 43 = .ok (.ifCond .eq 81, 3) := by decide +kernel
theorem dX9_escapes_46 : decode cX9_escapes 46 = .ok (.aload_n 0, 1) := by decide +kernel
theorem dX9_escapes_47 : decode cX9_escapes 47 = .ok (.aload_n 0, 1) := by decide +kernel
theorem dX9_escapes_48 : decode cX9_escapes 48 = .ok (.iload_n 3, 1) := by decide +kernel
theorem dX9_escapes_49 : decode cX9_escapes 49 = .ok (.invokevirtual 194, 3) := by decide +kernel
theorem dX9_escapes_52 : decode cX9_escapes 52 = .ok (.aload_n 0, 1) := by decide +kernel
theorem dX9_escapes_53 : decode cX9_escapes 53 = .ok (.getfield 50, 3) := by decide +kernel
theorem dX9_escapes_56 : decode cX9_escapes 56 = .ok (.iload_n 3, 1) := by decide +kernel
theorem dX9_escapes_57 : decode cX9_escapes 57 = .ok (.iaload, 1) := by decide +kernel
theorem dX9_escapes_58 : decode cX9_escapes 58 = .ok (.invokevirtual 143, 3) := by decide +kernel
theorem dX9_escapes_61 : decode cX9_escapes 61 = .ok (.iload_n 1, 1) := by decide +kernel
theorem dX9_escapes_62 : decode cX9_escapes 62 = .ok (.if_icmp .ne 62, 3) := by decide +kernel
theorem dX9_escapes_65 : decode cX9_escapes 65 = .ok (.aload_n 0, 1) := by decide +kernel
theorem dX9_escapes_66 : decode cX9_escapes 66 = .ok (.aload_n 0, 1) := by decide +kernel
theorem dX9_escapes_67 : decode cX9_escapes 67 = .ok (.iload_n 3, 1) := by decide +kernel
theorem dX9_escapes_68 : decode cX9_escapes 68 = .ok (.invokevirtual 194, 3) := by decide +kernel
theorem dX9_escapes_71 : decode cX9_escapes 71 = .ok (.aload_n 0, 1) := by decide +kernel
theorem dX9_escapes_72 : decode cX9_escapes 72 = .ok (.getfield 50, 3) := by decide +kernel
theorem dX9_escapes_75 : decode cX9_escapes 75 = .ok (.iload_n 3, 1) := by decide +kernel
theorem dX9_escapes_76 : decode cX9_escapes 76 = .ok (.iaload, 1) := by decide +kernel
theorem dX9_escapes_77 : decode cX9_escapes 77 = .ok (.invokevirtual 150, 3) := by decide +kernel
theorem dX9_escapes_80 : decode cX9_escapes 80 = .ok (.iconst (-1), 1) := by decide +kernel
theorem dX9_escapes_81 : decode cX9_escapes 81 = .ok (.if_icmp .ne 6, 3) := by decide +kernel
theorem dX9_escapes_84 : decode cX9_escapes 84 = .ok (.goto 40, 3) := by decide +kernel
theorem dX9_escapes_87 : decode cX9_escapes 87 = .ok (.iload_n 2, 1) := by decide +kernel
theorem dX9_escapes_88 : decode cX9_escapes 88 = .ok (.aload_n 0, 1) := by decide +kernel
theorem dX9_escapes_89 : decode cX9_escapes 89 = .ok (.aload_n 0, 1) := by decide +kernel
theorem dX9_escapes_90 : decode cX9_escapes 90 = .ok (.iload_n 3, 1) := by decide +kernel
theorem dX9_escapes_91 : decode cX9_escapes 91 = .ok (.invokevirtual 194, 3) := by decide +kernel
theorem dX9_escapes_94 : decode cX9_escapes 94 = .ok (.iload_n 1, 1) := by decide +kernel
