theorem dX3_call_199 : decode cX3_call 199 = .ok (.getfield 237, 3) := by decide +kernel
theorem dX3_call_202 : decode cX3_call 202 = .ok (.iload_n 1, 1) := by decide +kernel
theorem dX3_call_203 : decode cX3_call 203 = .ok (.iaload, 1) := by decide +kernel
theorem dX3_call_204 : decode cX3_call 204 = .ok (.putfield 46, 3) := by decide +kernel
theorem dX3_call_207 : decode cX3_call 207 = .ok (.return_, 1) := by decide +kernel
set_option maxRecDepth 20000 in
theorem ggX3_layPlaces_X7_add : GoodIn wsX3_layPlaces wsX7_add := goodIn_r _ [13, 14, 15, 16, 17, 18, 19, 20, 21, 22, 23, 24, 25, 26, 27, 28, 29, 30, 31, 32, 33, 34, 35, 69, 70, 71] (by decide +kernel) (by decide +kernel)
set_option maxRecDepth 20000 in
theorem gX3_layPlaces_X7_add : GoodIn wsX3_layPlaces (wsV RX3 215 RX7 yX7_add wsX7_add) := goodIn_app (goodIn_of _ (by decide +kernel)) ggX3_layPlaces_X7_add
set_option maxRecDepth 20000 in
theorem ggX3_layPlaces_X7_at : GoodIn wsX3_layPlaces wsX7_at := goodIn_r _ [39, 16, 15, 40, 41, 42, 12, 43, 14, 69, 70, 71] (by decide +kernel) (by decide +kernel)
set_option maxRecDepth 20000 in
theorem gX3_layPlaces_X7_at : GoodIn wsX3_layPlaces (wsV RX3 221 RX7 yX7_at wsX7_at) := goodIn_app (goodIn_of _ (by decide +kernel)) ggX3_layPlaces_X7_at
set_option maxRecDepth 20000 in
theorem ggX3_layPlaces_X7_put : GoodIn wsX3_layPlaces wsX7_put := goodIn_r _ [47, 16, 15, 40, 41, 42, 12, 43, 14, 69, 70, 71] (by decide +kernel) (by decide +kernel)
set_option maxRecDepth 20000 in
theorem gX3_layPlaces_X7_put : GoodIn wsX3_layPlaces (wsV RX3 218 RX7 yX7_put wsX7_put) := goodIn_app (goodIn_of _ (by decide +kernel)) ggX3_layPlaces_X7_put
set_option maxRecDepth 20000 in
theorem ggX3_layPlaces_X7_cut : GoodIn wsX3_layPlaces wsX7_cut := goodIn_r _ [51, 14, 69, 70, 71] (by decide +kernel) (by decide +kernel)
set_option maxRecDepth 20000 in
theorem gX3_layPlaces_X7_cut : GoodIn wsX3_layPlaces (wsV RX3 111 RX7 yX7_cut wsX7_cut) := goodIn_app (goodIn_of _ (by decide +kernel)) ggX3_layPlaces_X7_cut
theorem dX3_layPlaces_0 : decode cX3_layPlaces 0 = .ok (.aload_n 0, 1) := by decide +kernel
theorem dX3_layPlaces_1 : decode cX3_layPlaces 1 = .ok (.getfield 14, 3) := by decide +kernel
theorem dX3_layPlaces_4 : decode cX3_layPlaces 4 = .ok (.getfield 200, 3) := by decide +kernel
theorem dX3_layPlaces_7 : decode cX3_layPlaces 7 = .ok (.istore_n 2, 1) := by decide +kernel
theorem dX3_layPlaces_8 : decode cX3_layPlaces 8 = .ok (.aload_n 0, 1) := by decide +kernel
theorem dX3_layPlaces_9 : decode cX3_layPlaces 9 = .ok (.getfield 62, 3) := by decide +kernel
theorem dX3_layPlaces_12 : decode cX3_layPlaces 12 = .ok (.getfield 281, 3) := by decide +kernel
theorem dX3_layPlaces_15 : decode cX3_layPlaces 15 = .ok (.iload_n 1, 1) := by decide +kernel
theorem dX3_layPlaces_16 : decode cX3_layPlaces 16 = .ok (.iaload, 1) := by decide +kernel
theorem dX3_layPlaces_17 : decode cX3_layPlaces 17 = .ok (.istore_n 3, 1) := by decide +kernel
theorem dX3_layPlaces_18 : decode cX3_layPlaces 18 = .ok (.aload_n 0, 1) := by decide +kernel
theorem dX3_layPlaces_19 : decode cX3_layPlaces 19 = .ok (.getfield 62, 3) := by decide +kernel
theorem dX3_layPlaces_22 : decode cX3_layPlaces 22 = .ok (.getfield 261, 3) := by decide +kernel
theorem dX3_layPlaces_25 : decode cX3_layPlaces 25 = .ok (.iload_n 1, 1) := by decide +kernel
theorem dX3_layPlaces_26 : decode cX3_layPlaces 26 = .ok (.iaload, 1) := by decide +kernel
theorem dX3_layPlaces_27 : decode cX3_layPlaces 27 = .ok (.istore 4, 2) := by decide +kernel
theorem dX3_layPlaces_29 : decode cX3_layPlaces 29 = .ok (.aload_n 0, 1) := by decide +kernel
theorem dX3_layPlaces_30 : decode cX3_layPlaces 30 = .ok (.getfield 20, 3) := by decide +kernel
theorem dX3_layPlaces_33 : decode cX3_layPlaces 33 = .ok (.getfield 200, 3) := by decide +kernel
theorem dX3_layPlaces_36 : decode cX3_layPlaces 36 = .ok (.iload 4, 2) := by decide +kernel
theorem dX3_layPlaces_38 : decode cX3_layPlaces 38 = .ok (.isub, 1) := by decide +kernel
theorem dX3_layPlaces_39 : decode cX3_layPlaces 39 = .ok (.istore 5, 2) := by decide +kernel
theorem dX3_layPlaces_41 : decode cX3_layPlaces 41 = .ok (.iload_n 2, 1) := by decide +kernel
theorem dX3_layPlaces_42 : decode cX3_layPlaces 42 = .ok (.iload_n 3, 1) := by decide +kernel
theorem dX3_layPlaces_43 : decode cX3_layPlaces 43 = .ok (.iadd, 1) := by decide +kernel
theorem dX3_layPlaces_44 : decode cX3_layPlaces 44 = .ok (.istore 6, 2) := by decide +kernel
theorem dX3_layPlaces_46 : decode cX3_layPlaces 46 = .ok (.iconst 0, 1) := by decide +kernel
theorem dX3_layPlaces_47 : decode cX3_layPlaces 47 = .ok (.istore 7, 2) := by decide +kernel
theorem dX3_layPlaces_49 : decode cX3_layPlaces 49 = .ok (.iload 7, 2) := by decide +kernel
theorem dX3_layPlaces_51 : decode cX3_layPlaces 51 = .ok (.iload_n 3, 1) := by decide +kernel
theorem dX3_layPlaces_52 : decode cX3_layPlaces 52 = .ok (.if_icmp .ge 167, 3) := by decide +kernel
theorem dX3_layPlaces_55 : decode cX3_layPlaces 55 = .ok (.aload_n 0, 1) := by decide +kernel
theorem dX3_layPlaces_56 : decode cX3_layPlaces 56 = .ok (.getfield 14, 3) := by decide +kernel
theorem dX3_layPlaces_59 : decode cX3_layPlaces 59 = .ok (.invokevirtual 215, 3) := by decide +kernel
theorem dX3_layPlaces_62 : decode cX3_layPlaces 62 = .ok (.istore 8, 2) := by decide +kernel
theorem dX3_layPlaces_64 : decode cX3_layPlaces 64 = .ok (.aload_n 0, 1) := by decide +kernel
theorem dX3_layPlaces_65 : decode cX3_layPlaces 65 = .ok (.getfield 62, 3) := by decide +kernel
theorem dX3_layPlaces_68 : decode cX3_layPlaces 68 = .ok (.getfield 298, 3) := by decide +kernel
theorem dX3_layPlaces_71 : decode cX3_layPlaces 71 = .ok (.iload_n 1, 1) := by decide +kernel
theorem dX3_layPlaces_72 : decode cX3_layPlaces 72 = .ok (.bipush 10, 2) := by decide +kernel
theorem dX3_layPlaces_74 : decode cX3_layPlaces 74 = .ok (.imul, 1) := by decide +kernel
theorem dX3_layPlaces_75 : decode cX3_layPlaces 75 = .ok (.iload 7, 2) := by decide +kernel
theorem dX3_layPlaces_77 : decode cX3_layPlaces 77 = .ok (.iadd, 1) := by decide +kernel
theorem dX3_layPlaces_78 : decode cX3_layPlaces 78 = .ok (.iaload, 1) := by decide +kernel
theorem dX3_layPlaces_79 : decode cX3_layPlaces 79 = .ok (.istore 9, 2) := by decide +kernel
theorem dX3_layPlaces_81 : decode cX3_layPlaces 81 = .ok (.iload 7, 2) := by decide +kernel
theorem dX3_layPlaces_83 : decode cX3_layPlaces 83 = .ok (.iload 4, 2) := by decide +kernel
theorem dX3_layPlaces_85 : decode cX3_layPlaces 85 = .ok (.if_icmp .ge 52, 3) := by decide +kernel
theorem dX3_layPlaces_88 : decode cX3_layPlaces 88 = .ok (.aload_n 0, 1) := by decide +kernel
theorem dX3_layPlaces_89 : decode cX3_layPlaces 89 = .ok (.getfield 14, 3) := by decide +kernel
theorem dX3_layPlaces_92 : decode cX3_layPlaces 92 = .ok (.iload 8, 2) := by decide +kernel
theorem dX3_layPlaces_94 : decode cX3_layPlaces 94 = .ok (.iconst 0, 1) := by decide +kernel
theorem dX3_layPlaces_95 : decode cX3_layPlaces 95 = .ok (.aload_n 0, 1) := by decide +kernel
theorem dX3_layPlaces_96 : decode cX3_layPlaces 96 = .ok (.getfield 20, 3) := by decide +kernel
theorem dX3_layPlaces_99 : decode cX3_layPlaces 99 = .ok (.iload 5, 2) := by decide +kernel
theorem dX3_layPlaces_101 : decode cX3_layPlaces 101 = .ok (.iload 7, 2) := by decide +kernel
theorem dX3_layPlaces_103 : decode cX3_layPlaces 103 = .ok (.iadd, 1) := by decide +kernel
theorem dX3_layPlaces_104 : decode cX3_layPlaces 104 = .ok (.iconst 0, 1) := by decide +kernel
theorem dX3_layPlaces_105 : decode cX3_layPlaces 105 = .ok (.invokevirtual 221, 3) := by decide +kernel
theorem dX3_layPlaces_108 : decode cX3_layPlaces 108 = .ok (.invokevirtual 218, 3) := by decide +kernel
theorem dX3_layPlaces_111 : decode cX3_layPlaces 111 = .ok (.aload_n 0, 1) := by decide +kernel
theorem dX3_layPlaces_112 : decode cX3_layPlaces 112 = .ok (.getfield 14, 3) := by decide +kernel
theorem dX3_layPlaces_115 : decode cX3_layPlaces 115 = .ok (.iload 8, 2) := by decide +kernel
theorem dX3_layPlaces_117 : decode cX3_layPlaces 117 = .ok (.iconst 1, 1) := by decide +kernel
theorem dX3_layPlaces_118 : decode cX3_layPlaces 118 = .ok (.aload_n 0, 1) := by decide +kernel
theorem dX3_layPlaces_119 : decode cX3_layPlaces 119 = .ok (.getfield 20, 3) := by decide +kernel
theorem dX3_layPlaces_122 : decode cX3_layPlaces 122 = .ok (.iload 5, 2) := by decide +kernel
theorem dX3_layPlaces_124 : decode cX3_layPlaces 124 = .ok (.iload 7, 2) := by decide +kernel
theorem dX3_layPlaces_126 : decode cX3_layPlaces 126 = .ok (.iadd, 1) := by decide +kernel
theorem dX3_layPlaces_127 : decode cX3_layPlaces 127 = .ok (.iconst 1, 1) := by decide +kernel
theorem dX3_layPlaces_128 : decode cX3_layPlaces 128 = .ok (.invokevirtual 221, 3) := by decide +kernel
theorem dX3_layPlaces_131 : decode cX3_layPlaces 131 = .ok (.invokevirtual 218, 3) := by decide +kernel
theorem dX3_layPlaces_134 : decode cX3_layPlaces 134 = .ok (.goto 79, 3) := by decide +kernel
theorem dX3_layPlaces_137 : decode cX3_layPlaces 137 = .ok (.iload 9, 2) := by decide +kernel
theorem dX3_layPlaces_139 : decode cX3_layPlaces 139 = .ok (.bipush 7, 2) := by decide +kernel
theorem dX3_layPlaces_141 : decode cX3_layPlaces 141 = .ok (.if_icmp .ne 54, 3) := by decide +kernel
theorem dX3_layPlaces_144 : decode cX3_layPlaces 144 = .ok (.aload_n 0, 1) := by decide +kernel
theorem dX3_layPlaces_145 : decode cX3_layPlaces 145 = .ok (.getfield 62, 3) := by decide +kernel
theorem dX3_layPlaces_148 : decode cX3_layPlaces 148 = .ok (.getfield 301, 3) := by decide +kernel
theorem dX3_layPlaces_151 : decode cX3_layPlaces 151 = .ok (.iload_n 1, 1) := by decide +kernel
theorem dX3_layPlaces_152 : decode cX3_layPlaces 152 = .ok (.bipush 10, 2) := by decide +kernel
theorem dX3_layPlaces_154 : decode cX3_layPlaces 154 = .ok (.imul, 1) := by decide +kernel
theorem dX3_layPlaces_155 : decode cX3_layPlaces 155 = .ok (.iload 7, 2) := by decide +kernel
theorem dX3_layPlaces_157 : decode cX3_layPlaces 157 = .ok (.iadd, 1) := by decide +kernel
theorem dX3_layPlaces_158 : decode cX3_layPlaces 158 = .ok (.iaload, 1) := by decide +kernel
theorem dX3_layPlaces_159 : decode cX3_layPlaces 159 = .ok (.istore 10, 2) := by decide +kernel
theorem dX3_layPlaces_161 : decode cX3_layPlaces 161 = .ok (.aload_n 0, 1) := by decide +kernel
theorem dX3_layPlaces_162 : decode cX3_layPlaces 162 = .ok (.getfield 14, 3) := by decide +kernel
theorem dX3_layPlaces_165 : decode cX3_layPlaces 165 = .ok (.iload 8, 2) := by decide +kernel
theorem dX3_layPlaces_167 : decode cX3_layPlaces 167 = .ok (.iconst 0, 1) := by decide +kernel
theorem dX3_layPlaces_168 : decode cX3_layPlaces 168 = .ok (.iload 6, 2) := by decide +kernel
theorem dX3_layPlaces_170 : decode cX3_layPlaces 170 = .ok (.invokevirtual 218, 3) := by decide +kernel
theorem dX3_layPlaces_173 : decode cX3_layPlaces 173 = .ok (.aload_n 0, 1) := by decide +kernel
theorem dX3_layPlaces_174 : decode cX3_layPlaces 174 = .ok (.getfield 14, 3) := by decide +kernel
theorem dX3_layPlaces_177 : decode cX3_layPlaces 177 = .ok (.iload 8, 2) := by decide +kernel
theorem dX3_layPlaces_179 : decode cX3_layPlaces 179 = .ok (.iconst 1, 1) := by decide +kernel
theorem dX3_layPlaces_180 : decode cX3_layPlaces 180 = .ok (.iload 10, 2) := by decide +kernel
theorem dX3_layPlaces_182 : decode cX3_layPlaces 182 = .ok (.invokevirtual 218, 3) := by decide +kernel
theorem dX3_layPlaces_185 : decode cX3_layPlaces 185 = .ok (.iload 6, 2) := by decide +kernel
theorem dX3_layPlaces_187 : decode cX3_layPlaces 187 = .ok (.iload 10, 2) := by decide +kernel
theorem dX3_layPlaces_189 : decode cX3_layPlaces 189 = .ok (.iadd, 1) := by decide +kernel
theorem dX3_layPlaces_190 : decode cX3_layPlaces 190 = .ok (.istore 6, 2) := by decide +kernel
theorem dX3_layPlaces_192 : decode cX3_layPlaces 192 = .ok (.goto 21, 3) := by decide +kernel
theorem dX3_layPlaces_195 : decode cX3_layPlaces 195 = .ok (.iload 9, 2) := by decide +kernel
theorem dX3_layPlaces_197 : decode cX3_layPlaces 197 = .ok (.bipush 8, 2) := by decide +kernel
theorem dX3_layPlaces_199 : decode cX3_layPlaces 199 = .ok (.if_icmp .ne 14, 3) := by decide +kernel
theorem dX3_layPlaces_202 : decode cX3_layPlaces 202 = .ok (.aload_n 0, 1) := by decide +kernel
theorem dX3_layPlaces_203 : decode cX3_layPlaces 203 = .ok (.getfield 14, 3) := by decide +kernel
theorem dX3_layPlaces_206 : decode cX3_layPlaces 206 = .ok (.iload 8, 2) := by decide +kernel
theorem dX3_layPlaces_208 : decode cX3_layPlaces 208 = .ok (.iconst 0, 1) := by decide +kernel
theorem dX3_layPlaces_209 : decode cX3_layPlaces 209 = .ok (.iconst (-1), 1) := by decide +kernel
theorem dX3_layPlaces_210 : decode cX3_layPlaces 210 = .ok (.invokevirtual 218, 3) := by decide +kernel
theorem dX3_layPlaces_213 : decode cX3_layPlaces 213 = .ok (.iinc 7 1, 3) := by decide +kernel
theorem dX3_layPlaces_216 : decode cX3_layPlaces 216 = .ok (.goto (-167), 3) := by decide +kernel
theorem dX3_layPlaces_219 : decode cX3_layPlaces 219 = .ok (.aload_n 0, 1) := by decide +kernel
theorem dX3_layPlaces_220 : decode cX3_layPlaces 220 = .ok (.getfield 20, 3) := by decide +kernel
theorem dX3_layPlaces_223 : decode cX3_layPlaces 223 = .ok (.iload 5, 2) := by decide +kernel
theorem dX3_layPlaces_225 : decode cX3_layPlaces 225 = .ok (.invokevirtual 111, 3) := by decide +kernel
theorem dX3_layPlaces_228 : decode cX3_layPlaces 228 = .ok (.aload_n 0, 1) := by decide +kernel
theorem dX3_layPlaces_229 : decode cX3_layPlaces 229 = .ok (.getfield 14, 3) := by decide +kernel
theorem dX3_layPlaces_232 : decode cX3_layPlaces 232 = .ok (.getfield 200, 3) := by decide +kernel
theorem dX3_layPlaces_235 : decode cX3_layPlaces 235 = .ok (.istore 7, 2) := by decide +kernel
theorem dX3_layPlaces_237 : decode cX3_layPlaces 237 = .ok (.iload 7, 2) := by decide +kernel
theorem dX3_layPlaces_239 : decode cX3_layPlaces 239 = .ok (.iload 6, 2) := by decide +kernel
theorem dX3_layPlaces_241 : decode cX3_layPlaces 241 = .ok (.if_icmp .ge 17, 3) := by decide +kernel
theorem dX3_layPlaces_244 : decode cX3_layPlaces 244 = .ok (.aload_n 0, 1) := by decide +kernel
theorem dX3_layPlaces_245 : decode cX3_layPlaces 245 = .ok (.getfield 14, 3) := by decide +kernel
theorem dX3_layPlaces_248 : decode cX3_layPlaces 248 = .ok (.invokevirtual 215, 3) := by decide +kernel
theorem dX3_layPlaces_251 : decode cX3_layPlaces 251 = .ok (.pop, 1) := by decide +kernel
theorem dX3_layPlaces_252 : decode cX3_layPlaces 252 = .ok (.iinc 7 1, 3) := by decide +kernel
theorem dX3_layPlaces_255 : decode cX3_layPlaces 255 = .ok (.goto (-18), 3) := by decide +kernel
theorem dX3_layPlaces_258 : decode cX3_layPlaces 258 = .ok (.return_, 1) := by decide +kernel
