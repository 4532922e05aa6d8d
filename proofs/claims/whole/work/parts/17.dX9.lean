theorem dX9_writeSimple_267 : decode cX9_writeSimple 267 = .ok (.iload_n 1, 1) := by decide +kernel
theorem dX9_writeSimple_268 : decode cX9_writeSimple 268 = .ok (.iaload, 1) := by decide +kernel
theorem dX9_writeSimple_269 : decode cX9_writeSimple 269 = .ok (.invokevirtual 296, 3) := by decide +kernel
theorem dX9_writeSimple_272 : decode cX9_writeSimple 272 = .ok (.goto 85, 3) := by decide +kernel
theorem dX9_writeSimple_275 : decode cX9_writeSimple 275 = .ok (.goto 82, 3) := by decide +kernel
theorem dX9_writeSimple_278 : decode cX9_writeSimple 278 = .ok (.aload_n 0, 1) := by decide +kernel
theorem dX9_writeSimple_279 : decode cX9_writeSimple 279 = .ok (.bipush 19, 2) := by decide +kernel
theorem dX9_writeSimple_281 : decode cX9_writeSimple 281 = .ok (.iload_n 2, 1) := by decide +kernel
theorem dX9_writeSimple_282 : decode cX9_writeSimple 282 = .ok (.aload_n 0, 1) := by decide +kernel
theorem dX9_writeSimple_283 : decode cX9_writeSimple 283 = .ok (.getfield 50, 3) := by decide +kernel
theorem dX9_writeSimple_286 : decode cX9_writeSimple 286 = .ok (.iload_n 1, 1) := by decide +kernel
theorem dX9_writeSimple_287 : decode cX9_writeSimple 287 = .ok (.iaload, 1) := by decide +kernel
theorem dX9_writeSimple_288 : decode cX9_writeSimple 288 = .ok (.invokevirtual 296, 3) := by decide +kernel
theorem dX9_writeSimple_291 : decode cX9_writeSimple 291 = .ok (.goto 66, 3) := by decide +kernel
theorem dX9_writeSimple_294 : decode cX9_writeSimple 294 = .ok (.aload_n 0, 1) := by decide +kernel
theorem dX9_writeSimple_295 : decode cX9_writeSimple 295 = .ok (.bipush 20, 2) := by decide +kernel
theorem dX9_writeSimple_297 : decode cX9_writeSimple 297 = .ok (.iload_n 2, 1) := by decide +kernel
theorem dX9_writeSimple_298 : decode cX9_writeSimple 298 = .ok (.aload_n 0, 1) := by decide +kernel
theorem dX9_writeSimple_299 : decode cX9_writeSimple 299 = .ok (.getfield 50, 3) := by decide +kernel
theorem dX9_writeSimple_302 : decode cX9_writeSimple 302 = .ok (.iload_n 1, 1) := by decide +kernel
theorem dX9_writeSimple_303 : decode cX9_writeSimple 303 = .ok (.iaload, 1) := by decide +kernel
theorem dX9_writeSimple_304 : decode cX9_writeSimple 304 = .ok (.invokevirtual 296, 3) := by decide +kernel
theorem dX9_writeSimple_307 : decode cX9_writeSimple 307 = .ok (.goto 50, 3) := by decide +kernel
theorem dX9_writeSimple_310 : decode cX9_writeSimple 310 = .ok (.aload_n 0, 1) := by decide +kernel
theorem dX9_writeSimple_311 : decode cX9_writeSimple 311 = .ok (.bipush 15, 2) := by decide +kernel
theorem dX9_writeSimple_313 : decode cX9_writeSimple 313 = .ok (.iconst 0, 1) := by decide +kernel
theorem dX9_writeSimple_314 : decode cX9_writeSimple 314 = .ok (.iconst 0, 1) := by decide +kernel
theorem dX9_writeSimple_315 : decode cX9_writeSimple 315 = .ok (.invokevirtual 292, 3) := by decide +kernel
theorem dX9_writeSimple_318 : decode cX9_writeSimple 318 = .ok (.goto 39, 3) := by decide +kernel
theorem dX9_writeSimple_321 : decode cX9_writeSimple 321 = .ok (.aload_n 0, 1) := by decide +kernel
theorem dX9_writeSimple_322 : decode cX9_writeSimple 322 = .ok (.bipush 26, 2) := by decide +kernel
theorem dX9_writeSimple_324 : decode cX9_writeSimple 324 = .ok (.iconst 0, 1) := by decide +kernel
theorem dX9_writeSimple_325 : decode cX9_writeSimple 325 = .ok (.iconst 0, 1) := by decide +kernel
theorem dX9_writeSimple_326 : decode cX9_writeSimple 326 = .ok (.invokevirtual 292, 3) := by decide +kernel
theorem dX9_writeSimple_329 : decode cX9_writeSimple 329 = .ok (.goto 28, 3) := by decide +kernel
theorem dX9_writeSimple_332 : decode cX9_writeSimple 332 = .ok (.aload_n 0, 1) := by decide +kernel
theorem dX9_writeSimple_333 : decode cX9_writeSimple 333 = .ok (.bipush 27, 2) := by decide +kernel
theorem dX9_writeSimple_335 : decode cX9_writeSimple 335 = .ok (.iconst 0, 1) := by decide +kernel
theorem dX9_writeSimple_336 : decode cX9_writeSimple 336 = .ok (.iconst 0, 1) := by decide +kernel
theorem dX9_writeSimple_337 : decode cX9_writeSimple 337 = .ok (.invokevirtual 292, 3) := by decide +kernel
theorem dX9_writeSimple_340 : decode cX9_writeSimple 340 = .ok (.goto 17, 3) := by decide +kernel
theorem dX9_writeSimple_343 : decode cX9_writeSimple 343 = .ok (.aload_n 0, 1) := by decide +kernel
theorem dX9_writeSimple_344 : decode cX9_writeSimple 344 = .ok (.aload_n 0, 1) := by decide +kernel
theorem dX9_writeSimple_345 : decode cX9_writeSimple 345 = .ok (.getfield 47, 3) := by decide +kernel
theorem dX9_writeSimple_348 : decode cX9_writeSimple 348 = .ok (.iload_n 1, 1) := by decide +kernel
theorem dX9_writeSimple_349 : decode cX9_writeSimple 349 = .ok (.iaload, 1) := by decide +kernel
theorem dX9_writeSimple_350 : decode cX9_writeSimple 350 = .ok (.iconst 1, 1) := by decide +kernel
theorem dX9_writeSimple_351 : decode cX9_writeSimple 351 = .ok (.iadd, 1) := by decide +kernel
theorem dX9_writeSimple_352 : decode cX9_writeSimple 352 = .ok (.iconst 0, 1) := by decide +kernel
theorem dX9_writeSimple_353 : decode cX9_writeSimple 353 = .ok (.iconst 0, 1) := by decide +kernel
theorem dX9_writeSimple_354 : decode cX9_writeSimple 354 = .ok (.invokevirtual 292, 3) := by decide +kernel
theorem dX9_writeSimple_357 : decode cX9_writeSimple 357 = .ok (.return_, 1) := by decide +kernel
set_option maxRecDepth 20000 in
theorem ggX9_writeCall_X9_modeOf : GoodIn wsX9_writeCall wsX9_modeOf := goodIn_r _ [8, 3, 9, 10, 11, 12, 7, 13, 14, 15, 16, 17, 18, 19, 20, 21, 22, 23, 24, 25, 26, 27, 28, 29, 30, 158, 159, 160, 161, 162, 163, 164, 165, 166, 167, 168, 169, 170, 171, 172, 173, 174, 175, 176, 177, 178, 179, 180, 181, 182, 183, 184, 185, 186, 187, 188, 189, 190, 191, 192, 193, 194, 195, 196, 197, 198, 199, 200, 201, 202, 203, 204, 205, 206, 207, 208, 209, 210, 211, 212, 213, 214, 215, 216, 217] (by decide +kernel) (by decide +kernel)
set_option maxRecDepth 20000 in
theorem gX9_writeCall_X9_modeOf : GoodIn wsX9_writeCall (wsV RX9 258 RX9 yX9_modeOf wsX9_modeOf) := goodIn_app (goodIn_of _ (by decide +kernel)) ggX9_writeCall_X9_modeOf
set_option maxRecDepth 20000 in
theorem ggX9_writeCall_X9_writeArgument : GoodIn wsX9_writeCall wsX9_writeArgument := goodIn_r _ [91, 1, 63, 46, 47, 64, 3, 42, 43, 44, 7, 45, 48, 49, 50, 51, 52, 92, 93, 94, 53, 54, 55, 56, 38, 39, 40, 41, 20, 25, 57, 58, 59, 60, 61, 21, 22, 23, 24, 62, 16, 17, 18, 19, 26, 27, 28, 29, 30, 65, 66, 67, 34, 35, 36, 37, 68, 69, 70, 71, 72, 73, 74, 75, 76, 77, 78, 14, 79, 80, 81, 82, 83, 84, 85, 86, 87, 10, 11, 12, 13, 15, 88, 89, 90, 0, 2, 4, 5, 6, 8, 9, 31, 32, 33, 95, 96, 97, 98, 99, 100, 101, 102, 103, 104, 105, 106, 107, 108, 109, 110, 111, 112, 113, 114, 115, 116, 117, 118, 119, 120, 121, 122, 123, 124, 125, 126, 127, 128, 129, 130, 131, 132, 133, 134, 135, 136, 137, 138, 139, 140, 141, 142, 143, 144, 145, 146, 147, 148, 149, 150, 151, 152, 153, 154, 155, 156, 157, 158, 159, 160, 161, 162, 163, 164, 165, 166, 167, 168, 169, 170, 171, 172, 173, 174, 175, 176, 177, 178, 179, 180, 181, 182, 183, 184, 185, 186, 187, 188, 189, 190, 191, 192, 193, 194, 195, 196, 197, 198, 199, 200, 201, 202, 203, 204, 205, 206, 207, 208, 209, 210, 211, 212, 213, 214, 215, 216, 217] (by decide +kernel) (by decide +kernel)
set_option maxRecDepth 20000 in
theorem gX9_writeCall_X9_writeArgument : GoodIn wsX9_writeCall (wsV RX9 322 RX9 yX9_writeArgument wsX9_writeArgument) := goodIn_app (goodIn_of _ (by decide +kernel)) ggX9_writeCall_X9_writeArgument
set_option maxRecDepth 20000 in
theorem ggX9_writeCall_X9_whatIs : GoodIn wsX9_writeCall wsX9_whatIs := goodIn_r _ [19, 20, 21, 22, 23, 7, 24, 25, 158, 159, 160, 161, 162, 163, 164, 165, 166, 167, 168, 169, 170, 171, 172, 173, 174, 175, 176, 177, 178, 179, 180, 181, 182, 183, 184, 185, 186, 187, 188, 189, 190, 191, 192, 193, 194, 195, 196, 197, 198, 199, 200, 201, 202, 203, 204, 205, 206, 207, 208, 209, 210, 211, 212, 213, 214, 215, 216, 217] (by decide +kernel) (by decide +kernel)
set_option maxRecDepth 20000 in
theorem gX9_writeCall_X9_whatIs : GoodIn wsX9_writeCall (wsV RX9 153 RX9 yX9_whatIs wsX9_whatIs) := goodIn_app (goodIn_of _ (by decide +kernel)) ggX9_writeCall_X9_whatIs
set_option maxRecDepth 20000 in
theorem ggX9_writeCall_X9_routine : GoodIn wsX9_writeCall wsX9_routine := goodIn_r _ [37, 38, 39, 40, 7, 41, 20, 25, 26, 27, 28, 29, 30, 21, 22, 23, 24, 42, 43, 44, 45, 46, 47, 48, 49, 50, 51, 52, 158, 159, 160, 161, 162, 163, 164, 165, 166, 167, 168, 169, 170, 171, 172, 173, 174, 175, 176, 177, 178, 179, 180, 181, 182, 183, 184, 185, 186, 187, 188, 189, 190, 191, 192, 193, 194, 195, 196, 197, 198, 199, 200, 201, 202, 203, 204, 205, 206, 207, 208, 209, 210, 211, 212, 213, 214, 215, 216, 217] (by decide +kernel) (by decide +kernel)
set_option maxRecDepth 20000 in
theorem gX9_writeCall_X9_routine : GoodIn wsX9_writeCall (wsV RX9 302 RX9 yX9_routine wsX9_routine) := goodIn_app (goodIn_of _ (by decide +kernel)) ggX9_writeCall_X9_routine
set_option maxRecDepth 20000 in
theorem ggX9_writeCall_X9_named : GoodIn wsX9_writeCall wsX9_named := goodIn_r _ [56, 38, 39, 40, 7, 41, 20, 25, 57, 58, 59, 60, 61, 21, 22, 23, 24, 42, 43, 44, 45, 46, 47, 48, 49, 50, 51, 52, 158, 159, 160, 161, 162, 163, 164, 165, 166, 167, 168, 169, 170, 171, 172, 173, 174, 175, 176, 177, 178, 179, 180, 181, 182, 183, 184, 185, 186, 187, 188, 189, 190, 191, 192, 193, 194, 195, 196, 197, 198, 199, 200, 201, 202, 203, 204, 205, 206, 207, 208, 209, 210, 211, 212, 213, 214, 215, 216, 217] (by decide +kernel) (by decide +kernel)
set_option maxRecDepth 20000 in
theorem gX9_writeCall_X9_named : GoodIn wsX9_writeCall (wsV RX9 296 RX9 yX9_named wsX9_named) := goodIn_app (goodIn_of _ (by decide +kernel)) ggX9_writeCall_X9_named
theorem dX9_writeCall_0 : decode cX9_writeCall 0 = .ok (.iconst 0, 1) := by decide +kernel
theorem dX9_writeCall_1 : decode cX9_writeCall 1 = .ok (.istore 4, 2) := by decide +kernel
theorem dX9_writeCall_3 : decode cX9_writeCall 3 = .ok (.aload_n 0, 1) := by decide +kernel
theorem dX9_writeCall_4 : decode cX9_writeCall 4 = .ok (.getfield 53, 3) := by decide +kernel
theorem dX9_writeCall_7 : decode cX9_writeCall 7 = .ok (.iload_n 1, 1) := by decide +kernel
theorem dX9_writeCall_8 : decode cX9_writeCall 8 = .ok (.iaload, 1) := by decide +kernel
theorem dX9_writeCall_9 : decode cX9_writeCall 9 = .ok (.istore 5, 2) := by decide +kernel
theorem dX9_writeCall_11 : decode cX9_writeCall 11 = .ok (.iload 5, 2) := by decide +kernel
theorem dX9_writeCall_13 : decode cX9_writeCall 13 = .ok (.iconst (-1), 1) := by decide +kernel
theorem dX9_writeCall_14 : decode cX9_writeCall 14 = .ok (.if_icmp .eq 32, 3) := by decide +kernel
theorem dX9_writeCall_17 : decode cX9_writeCall 17 = .ok (.aload_n 0, 1) := by decide +kernel
theorem dX9_writeCall_18 : decode cX9_writeCall 18 = .ok (.iload 5, 2) := by decide +kernel
theorem dX9_writeCall_20 : decode cX9_writeCall 20 = .ok (.iload_n 2, 1) := by decide +kernel
theorem dX9_writeCall_21 : decode cX9_writeCall 21 = .ok (.aload_n 0, 1) := by decide +kernel
theorem dX9_writeCall_22 : decode cX9_writeCall 22 = .ok (.iload_n 1, 1) := by decide +kernel
theorem dX9_writeCall_23 : decode cX9_writeCall 23 = .ok (.iload 4, 2) := by decide +kernel
theorem dX9_writeCall_25 : decode cX9_writeCall 25 = .ok (.iinc 4 1, 3) := by decide +kernel
theorem dX9_writeCall_28 : decode cX9_writeCall 28 = .ok (.invokevirtual 258, 3) := by decide +kernel
theorem dX9_writeCall_31 : decode cX9_writeCall 31 = .ok (.invokevirtual 322, 3) := by decide +kernel
theorem dX9_writeCall_34 : decode cX9_writeCall 34 = .ok (.aload_n 0, 1) := by decide +kernel
theorem dX9_writeCall_35 : decode cX9_writeCall 35 = .ok (.getfield 56, 3) := by decide +kernel
theorem dX9_writeCall_38 : decode cX9_writeCall 38 = .ok (.iload 5, 2) := by decide +kernel
theorem dX9_writeCall_40 : decode cX9_writeCall 40 = .ok (.iaload, 1) := by decide +kernel
theorem dX9_writeCall_41 : decode cX9_writeCall 41 = .ok (.istore 5, 2) := by decide +kernel
theorem dX9_writeCall_43 : decode cX9_writeCall 43 = .ok (.goto (-32), 3) := by decide +kernel
theorem dX9_writeCall_46 : decode cX9_writeCall 46 = .ok (.aload_n 0, 1) := by decide +kernel
theorem dX9_writeCall_47 : decode cX9_writeCall 47 = .ok (.iload_n 2, 1) := by decide +kernel
theorem dX9_writeCall_48 : decode cX9_writeCall 48 = .ok (.aload_n 0, 1) := by decide +kernel
theorem dX9_writeCall_49 : decode cX9_writeCall 49 = .ok (.getfield 50, 3) := by decide +kernel
theorem dX9_writeCall_52 : decode cX9_writeCall 52 = .ok (.iload_n 1, 1) := by decide +kernel
theorem dX9_writeCall_53 : decode cX9_writeCall 53 = .ok (.iaload, 1) := by decide +kernel
theorem dX9_writeCall_54 : decode cX9_writeCall 54 = .ok (.invokevirtual 153, 3) := by decide +kernel
theorem dX9_writeCall_57 : decode cX9_writeCall 57 = .ok (.bipush 10, 2) := by decide +kernel
theorem dX9_writeCall_59 : decode cX9_writeCall 59 = .ok (.if_icmp .ne 28, 3) := by decide +kernel
theorem dX9_writeCall_62 : decode cX9_writeCall 62 = .ok (.aload_n 0, 1) := by decide +kernel
theorem dX9_writeCall_63 : decode cX9_writeCall 63 = .ok (.iload_n 3, 1) := by decide +kernel
theorem dX9_writeCall_64 : decode cX9_writeCall 64 = .ok (.ifCond .eq 8, 3) := by decide +kernel
theorem dX9_writeCall_67 : decode cX9_writeCall 67 = .ok (.bipush 11, 2) := by decide +kernel
theorem dX9_writeCall_69 : decode cX9_writeCall 69 = .ok (.goto 5, 3) := by decide +kernel
theorem dX9_writeCall_72 : decode cX9_writeCall 72 = .ok (.bipush 9, 2) := by decide +kernel
theorem dX9_writeCall_74 : decode cX9_writeCall 74 = .ok (.iload_n 2, 1) := by decide +kernel
theorem dX9_writeCall_75 : decode cX9_writeCall 75 = .ok (.aload_n 0, 1) := by decide +kernel
theorem dX9_writeCall_76 : decode cX9_writeCall 76 = .ok (.getfield 50, 3) := by decide +kernel
theorem dX9_writeCall_79 : decode cX9_writeCall 79 = .ok (.iload_n 1, 1) := by decide +kernel
theorem dX9_writeCall_80 : decode cX9_writeCall 80 = .ok (.iaload, 1) := by decide +kernel
theorem dX9_writeCall_81 : decode cX9_writeCall 81 = .ok (.invokevirtual 302, 3) := by decide +kernel
theorem dX9_writeCall_84 : decode cX9_writeCall 84 = .ok (.goto 16, 3) := by decide +kernel
theorem dX9_writeCall_87 : decode cX9_writeCall 87 = .ok (.aload_n 0, 1) := by decide +kernel
theorem dX9_writeCall_88 : decode cX9_writeCall 88 = .ok (.bipush 10, 2) := by decide +kernel
theorem dX9_writeCall_90 : decode cX9_writeCall 90 = .ok (.iload_n 2, 1) := by decide +kernel
theorem dX9_writeCall_91 : decode cX9_writeCall 91 = .ok (.aload_n 0, 1) := by decide +kernel
theorem dX9_writeCall_92 : decode cX9_writeCall 92 = .ok (.getfield 50, 3) := by decide +kernel
theorem dX9_writeCall_95 : decode cX9_writeCall 95 = .ok (.iload_n 1, 1) := by decide +kernel
theorem dX9_writeCall_96 : decode cX9_writeCall 96 = .ok (.iaload, 1) := by decide +kernel
theorem dX9_writeCall_97 : decode cX9_writeCall 97 = .ok (.invokevirtual 296, 3) := by decide +kernel
theorem dX9_writeCall_100 : decode cX9_writeCall 100 = .ok (.return_, 1) := by decide +kernel
set_option maxRecDepth 20000 in
theorem ggX9_writeArgument_X9_emit : GoodIn wsX9_writeArgument wsX9_emit := goodIn_r _ [11, 3, 4, 12, 13, 14, 15, 16, 158, 159, 160, 161, 162, 163, 164, 165, 166, 167, 168, 169, 170, 171, 172, 173, 174, 175, 176, 177, 178, 179, 180, 181, 182, 183, 184, 185, 186, 187, 188, 189, 190, 191, 192, 193, 194, 195, 196, 197, 198, 199, 200, 201, 202, 203, 204, 205, 206, 207, 208, 209, 210, 211, 212, 213, 214, 215, 216, 217] (by decide +kernel) (by decide +kernel)
set_option maxRecDepth 20000 in
theorem gX9_writeArgument_X9_emit : GoodIn wsX9_writeArgument (wsV RX9 292 RX9 yX9_emit wsX9_emit) := goodIn_app (goodIn_of _ (by decide +kernel)) ggX9_writeArgument_X9_emit
set_option maxRecDepth 20000 in
theorem ggX9_writeArgument_X9_write : GoodIn wsX9_writeArgument wsX9_write := goodIn_r _ [39, 2, 3, 5, 6, 29, 7, 8, 9, 10, 11, 4, 12, 13, 14, 15, 16, 40, 41, 42, 43, 28, 35, 36, 37, 38, 44, 45, 46, 47, 48, 20, 21, 22, 23, 24, 25, 26, 27, 30, 31, 32, 33, 34, 49, 50, 51, 52, 53, 54, 55, 56, 57, 58, 59, 60, 61, 62, 63, 64, 65, 66, 67, 68, 69, 70, 71, 72, 73, 74, 75, 76, 77, 78, 79, 80, 81, 82, 83, 84, 0, 1, 17, 18, 19, 85, 86, 87, 88, 89, 90, 91, 92, 93, 94, 95, 96, 97, 98, 99, 100, 101, 102, 103, 104, 105, 106, 107, 108, 109, 110, 111, 112, 113, 114, 115, 116, 117, 118, 119, 120, 121, 122, 123, 124, 125, 126, 127, 128, 129, 130, 131, 132, 133, 134, 135, 136, 137, 138, 139, 140, 141, 142, 143, 144, 145, 146, 147, 148, 149, 150, 151, 152, 153, 154, 155, 156, 157, 158, 159, 160, 161, 162, 163, 164, 165, 166, 167, 168, 169, 170, 171, 172, 173, 174, 175, 176, 177, 178, 179, 180, 181, 182, 183, 184, 185, 186, 187, 188, 189, 190, 191, 192, 193, 194, 195, 196, 197, 198, 199, 200, 201, 202, 203, 204, 205, 206, 207, 208, 209, 210, 211, 212, 213, 214, 215, 216, 217] (by decide +kernel) (by decide +kernel)
set_option maxRecDepth 20000 in
theorem gX9_writeArgument_X9_write : GoodIn wsX9_writeArgument (wsV RX9 319 RX9 yX9_write wsX9_write) := goodIn_app (goodIn_of _ (by decide +kernel)) ggX9_writeArgument_X9_write
set_option maxRecDepth 20000 in
theorem ggX9_writeArgument_X9_named : GoodIn wsX9_writeArgument wsX9_named := goodIn_r _ [23, 24, 25, 26, 10, 27, 28, 29, 30, 31, 32, 33, 34, 35, 36, 37, 38, 7, 8, 9, 11, 3, 4, 12, 13, 14, 15, 16, 158, 159, 160, 161, 162, 163, 164, 165, 166, 167, 168, 169, 170, 171, 172, 173, 174, 175, 176, 177, 178, 179, 180, 181, 182, 183, 184, 185, 186, 187, 188, 189, 190, 191, 192, 193, 194, 195, 196, 197, 198, 199, 200, 201, 202, 203, 204, 205, 206, 207, 208, 209, 210, 211, 212, 213, 214, 215, 216, 217] (by decide +kernel) (by decide +kernel)
set_option maxRecDepth 20000 in
theorem gX9_writeArgument_X9_named : GoodIn wsX9_writeArgument (wsV RX9 296 RX9 yX9_named wsX9_named) := goodIn_app (goodIn_of _ (by decide +kernel)) ggX9_writeArgument_X9_named
theorem dX9_writeArgument_0 : decode cX9_writeArgument 0 = .ok (.aload_n 0, 1) := by decide +kernel
theorem dX9_writeArgument_1 : decode cX9_writeArgument 1 = .ok (.getfield 53, 3) := by decide +kernel
theorem dX9_writeArgument_4 : decode cX9_writeArgument 4 = .ok (.iload_n 1, 1) := by decide +kernel
theorem dX9_writeArgument_5 : decode cX9_writeArgument 5 = .ok (.iaload, 1) := by decide +kernel
theorem dX9_writeArgument_6 : decode cX9_writeArgument 6 = .ok (.istore 4, 2) := by decide +kernel
theorem dX9_writeArgument_8 : decode cX9_writeArgument 8 = .ok (.aload_n 0, 1) := by decide +kernel
theorem dX9_writeArgument_9 : decode cX9_writeArgument 9 = .ok (.getfield 83, 3) := by decide +kernel
theorem dX9_writeArgument_12 : decode cX9_writeArgument 12 = .ok (.iload_n 1, 1) := by decide +kernel
theorem dX9_writeArgument_13 : decode cX9_writeArgument 13 = .ok (.aload_n 0, 1) := by decide +kernel
theorem dX9_writeArgument_14 : decode cX9_writeArgument 14 = .ok (.getfield 283, 3) := by decide +kernel
theorem dX9_writeArgument_17 : decode cX9_writeArgument 17 = .ok (.iastore, 1) := by decide +kernel
theorem dX9_writeArgument_18 : decode cX9_writeArgument 18 = .ok (.iload_n 3, 1) := by decide +kernel
theorem dX9_writeArgument_19 : decode cX9_writeArgument 19 = .ok (.iconst 2, 1) := by decide +kernel
theorem dX9_writeArgument_20 : decode cX9_writeArgument 20 = .ok (.if_icmp .ne 50, 3) := by decide +kernel
theorem dX9_writeArgument_23 : decode cX9_writeArgument 23 = .ok (.aload_n 0, 1) := by decide +kernel
theorem dX9_writeArgument_24 : decode cX9_writeArgument 24 = .ok (.getfield 283, 3) := by decide +kernel
theorem dX9_writeArgument_27 : decode cX9_writeArgument 27 = .ok (.istore 5, 2) := by decide +kernel
theorem dX9_writeArgument_29 : decode cX9_writeArgument 29 = .ok (.aload_n 0, 1) := by decide +kernel
theorem dX9_writeArgument_30 : decode cX9_writeArgument 30 = .ok (.bipush 14, 2) := by decide +kernel
theorem dX9_writeArgument_32 : decode cX9_writeArgument 32 = .ok (.iconst 0, 1) := by decide +kernel
theorem dX9_writeArgument_33 : decode cX9_writeArgument 33 = .ok (.iconst 0, 1) := by decide +kernel
theorem dX9_writeArgument_34 : decode cX9_writeArgument 34 = .ok (.invokevirtual 292, 3) := by decide +kernel
theorem dX9_writeArgument_37 : decode cX9_writeArgument 37 = .ok (.aload_n 0, 1) := by decide +kernel
theorem dX9_writeArgument_38 : decode cX9_writeArgument 38 = .ok (.iload 4, 2) := by decide +kernel
theorem dX9_writeArgument_40 : decode cX9_writeArgument 40 = .ok (.iload_n 2, 1) := by decide +kernel
theorem dX9_writeArgument_41 : decode cX9_writeArgument 41 = .ok (.invokevirtual 319, 3) := by decide +kernel
theorem dX9_writeArgument_44 : decode cX9_writeArgument 44 = .ok (.aload_n 0, 1) := by decide +kernel
theorem dX9_writeArgument_45 : decode cX9_writeArgument 45 = .ok (.bipush 15, 2) := by decide +kernel
theorem dX9_writeArgument_47 : decode cX9_writeArgument 47 = .ok (.iconst 0, 1) := by decide +kernel
theorem dX9_writeArgument_48 : decode cX9_writeArgument 48 = .ok (.iconst 0, 1) := by decide +kernel
theorem dX9_writeArgument_49 : decode cX9_writeArgument 49 = .ok (.invokevirtual 292, 3) := by decide +kernel
theorem dX9_writeArgument_52 : decode cX9_writeArgument 52 = .ok (.aload_n 0, 1) := by decide +kernel
theorem dX9_writeArgument_53 : decode cX9_writeArgument 53 = .ok (.getfield 80, 3) := by decide +kernel
theorem dX9_writeArgument_56 : decode cX9_writeArgument 56 = .ok (.iconst 3, 1) := by decide +kernel
theorem dX9_writeArgument_57 : decode cX9_writeArgument 57 = .ok (.iload 5, 2) := by decide +kernel
theorem dX9_writeArgument_59 : decode cX9_writeArgument 59 = .ok (.imul, 1) := by decide +kernel
theorem dX9_writeArgument_60 : decode cX9_writeArgument 60 = .ok (.iconst 1, 1) := by decide +kernel
theorem dX9_writeArgument_61 : decode cX9_writeArgument 61 = .ok (.iadd, 1) := by decide +kernel
theorem dX9_writeArgument_62 : decode cX9_writeArgument 62 = .ok (.aload_n 0, 1) := by decide +kernel
theorem dX9_writeArgument_63 : decode cX9_writeArgument 63 = .ok (.getfield 283, 3) := by decide +kernel
theorem dX9_writeArgument_66 : decode cX9_writeArgument 66 = .ok (.iastore, 1) := by decide +kernel
theorem dX9_writeArgument_67 : decode cX9_writeArgument 67 = .ok (.goto 130, 3) := by decide +kernel
theorem dX9_writeArgument_70 : decode cX9_writeArgument 70 = .ok (.iload_n 3, 1) := by decide +kernel
theorem dX9_writeArgument_71 : decode cX9_writeArgument 71 = .ok (.iconst 1, 1) := by decide +kernel
theorem dX9_writeArgument_72 : decode cX9_writeArgument 72 = .ok (.if_icmp .ne 70, 3) := by decide +kernel
theorem dX9_writeArgument_75 : decode cX9_writeArgument 75 = .ok (.aload_n 0, 1) := by decide +kernel
theorem dX9_writeArgument_76 : decode cX9_writeArgument 76 = .ok (.getfield 83, 3) := by decide +kernel
theorem dX9_writeArgument_79 : decode cX9_writeArgument 79 = .ok (.iload 4, 2) := by decide +kernel
theorem dX9_writeArgument_81 : decode cX9_writeArgument 81 = .ok (.aload_n 0, 1) := by decide +kernel
theorem dX9_writeArgument_82 : decode cX9_writeArgument 82 = .ok (.getfield 283, 3) := by decide +kernel
theorem dX9_writeArgument_85 : decode cX9_writeArgument 85 = .ok (.iastore, 1) := by decide +kernel
theorem dX9_writeArgument_86 : decode cX9_writeArgument 86 = .ok (.aload_n 0, 1) := by decide +kernel
theorem dX9_writeArgument_87 : decode cX9_writeArgument 87 = .ok (.getfield 47, 3) := by decide +kernel
theorem dX9_writeArgument_90 : decode cX9_writeArgument 90 = .ok (.iload 4, 2) := by decide +kernel
theorem dX9_writeArgument_92 : decode cX9_writeArgument 92 = .ok (.iaload, 1) := by decide +kernel
theorem dX9_writeArgument_93 : decode cX9_writeArgument 93 = .ok (.iconst 2, 1) := by decide +kernel
theorem dX9_writeArgument_94 : decode cX9_writeArgument 94 = .ok (.if_icmp .ne 15, 3) := by decide +kernel
theorem dX9_writeArgument_97 : decode cX9_writeArgument 97 = .ok (.aload_n 0, 1) := by decide +kernel
theorem dX9_writeArgument_98 : decode cX9_writeArgument 98 = .ok (.aload_n 0, 1) := by decide +kernel
theorem dX9_writeArgument_99 : decode cX9_writeArgument 99 = .ok (.getfield 53, 3) := by decide +kernel
theorem dX9_writeArgument_102 : decode cX9_writeArgument 102 = .ok (.iload 4, 2) := by decide +kernel
theorem dX9_writeArgument_104 : decode cX9_writeArgument 104 = .ok (.iaload, 1) := by decide +kernel
theorem dX9_writeArgument_105 : decode cX9_writeArgument 105 = .ok (.iload_n 2, 1) := by decide +kernel
theorem dX9_writeArgument_106 : decode cX9_writeArgument 106 = .ok (.invokevirtual 319, 3) := by decide +kernel
theorem dX9_writeArgument_109 : decode cX9_writeArgument 109 = .ok (.aload_n 0, 1) := by decide +kernel
theorem dX9_writeArgument_110 : decode cX9_writeArgument 110 = .ok (.aload_n 0, 1) := by decide +kernel
theorem dX9_writeArgument_111 : decode cX9_writeArgument 111 = .ok (.getfield 47, 3) := by decide +kernel
theorem dX9_writeArgument_114 : decode cX9_writeArgument 114 = .ok (.iload 4, 2) := by decide +kernel
theorem dX9_writeArgument_116 : decode cX9_writeArgument 116 = .ok (.iaload, 1) := by decide +kernel
theorem dX9_writeArgument_117 : decode cX9_writeArgument 117 = .ok (.iconst 2, 1) := by decide +kernel
theorem dX9_writeArgument_118 : decode cX9_writeArgument 118 = .ok (.if_icmp .ne 8, 3) := by decide +kernel
theorem dX9_writeArgument_121 : decode cX9_writeArgument 121 = .ok (.bipush 13, 2) := by decide +kernel
theorem dX9_writeArgument_123 : decode cX9_writeArgument 123 = .ok (.goto 5, 3) := by decide +kernel
theorem dX9_writeArgument_126 : decode cX9_writeArgument 126 = .ok (.bipush 12, 2) := by decide +kernel
theorem dX9_writeArgument_128 : decode cX9_writeArgument 128 = .ok (.iload_n 2, 1) := by decide +kernel
theorem dX9_writeArgument_129 : decode cX9_writeArgument 129 = .ok (.aload_n 0, 1) := by decide +kernel
theorem dX9_writeArgument_130 : decode cX9_writeArgument 130 = .ok (.getfield 50, 3) := by decide +kernel
theorem dX9_writeArgument_133 : decode cX9_writeArgument 133 = .ok (.iload 4, 2) := by decide +kernel
theorem dX9_writeArgument_135 : decode cX9_writeArgument 135 = .ok (.iaload, 1) := by decide +kernel
theorem dX9_writeArgument_136 : decode cX9_writeArgument 136 = .ok (.invokevirtual 296, 3) := by decide +kernel
theorem dX9_writeArgument_139 : decode cX9_writeArgument 139 = .ok (.goto 58, 3) := by decide +kernel
theorem dX9_writeArgument_142 : decode cX9_writeArgument 142 = .ok (.iload_n 3, 1) := by decide +kernel
theorem dX9_writeArgument_143 : decode cX9_writeArgument 143 = .ok (.iconst 3, 1) := by decide +kernel
theorem dX9_writeArgument_144 : decode cX9_writeArgument 144 = .ok (.if_icmp .eq 8, 3) := by decide +kernel
theorem dX9_writeArgument_147 : decode cX9_writeArgument 147 = .ok (.iload_n 3, 1) := by decide +kernel
theorem dX9_writeArgument_148 : decode cX9_writeArgument 148 = .ok (.iconst 4, 1) := by decide +kernel
theorem dX9_writeArgument_149 : decode cX9_writeArgument 149 = .ok (.if_icmp .ne 41, 3) := by decide +kernel
theorem dX9_writeArgument_152 : decode cX9_writeArgument 152 = .ok (.aload_n 0, 1) := by decide +kernel
theorem dX9_writeArgument_153 : decode cX9_writeArgument 153 = .ok (.getfield 83, 3) := by decide +kernel
theorem dX9_writeArgument_156 : decode cX9_writeArgument 156 = .ok (.iload 4, 2) := by decide +kernel
theorem dX9_writeArgument_158 : decode cX9_writeArgument 158 = .ok (.aload_n 0, 1) := by decide +kernel
theorem dX9_writeArgument_159 : decode cX9_writeArgument 159 = .ok (.getfield 283, 3) := by decide +kernel
theorem dX9_writeArgument_162 : decode cX9_writeArgument 162 = .ok (.iastore, 1) := by decide +kernel
theorem dX9_writeArgument_163 : decode cX9_writeArgument 163 = .ok (.aload_n 0, 1) := by decide +kernel
theorem dX9_writeArgument_164 : decode cX9_writeArgument 164 = .ok (.iload_n 3, 1) := by decide +kernel
theorem dX9_writeArgument_165 : decode cX9_writeArgument 165 = .ok (.iconst 3, 1) := by decide +kernel
theorem dX9_writeArgument_166 : decode cX9_writeArgument 166 = .ok (.if_icmp .ne 8, 3) := by decide +kernel
theorem dX9_writeArgument_169 : decode cX9_writeArgument 169 = .ok (.bipush 16, 2) := by decide +kernel
theorem dX9_writeArgument_171 : decode cX9_writeArgument 171 = .ok (.goto 5, 3) := by decide +kernel
theorem dX9_writeArgument_174 : decode cX9_writeArgument 174 = .ok (.bipush 17, 2) := by decide +kernel
theorem dX9_writeArgument_176 : decode cX9_writeArgument 176 = .ok (.iload_n 2, 1) := by decide +kernel
theorem dX9_writeArgument_177 : decode cX9_writeArgument 177 = .ok (.aload_n 0, 1) := by decide +kernel
theorem dX9_writeArgument_178 : decode cX9_writeArgument 178 = .ok (.getfield 50, 3) := by decide +kernel
theorem dX9_writeArgument_181 : decode cX9_writeArgument 181 = .ok (.iload 4, 2) := by decide +kernel
theorem dX9_writeArgument_183 : decode cX9_writeArgument 183 = .ok (.iaload, 1) := by decide +kernel
theorem dX9_writeArgument_184 : decode cX9_writeArgument 184 = .ok (.invokevirtual 296, 3) := by decide +kernel
theorem dX9_writeArgument_187 : decode cX9_writeArgument 187 = .ok (.goto 10, 3) := by decide +kernel
theorem dX9_writeArgument_190 : decode cX9_writeArgument 190 = .ok (.aload_n 0, 1) := by decide +kernel
theorem dX9_writeArgument_191 : decode cX9_writeArgument 191 = .ok (.iload 4, 2) := by decide +kernel
theorem dX9_writeArgument_193 : decode cX9_writeArgument 193 = .ok (.iload_n 2, 1) := by decide +kernel
theorem dX9_writeArgument_194 : decode cX9_writeArgument 194 = .ok (.invokevirtual 319, 3) := by decide +kernel
theorem dX9_writeArgument_197 : decode cX9_writeArgument 197 = .ok (.return_, 1) := by decide +kernel
set_option maxRecDepth 20000 in
theorem ggX9_writeTurn_X9_emit : GoodIn wsX9_writeTurn wsX9_emit := goodIn_r _ [11, 3, 6, 12, 13, 14, 15, 16, 158, 159, 160, 161, 162, 163, 164, 165, 166, 167, 168, 169, 170, 171, 172, 173, 174, 175, 176, 177, 178, 179, 180, 181, 182, 183, 184, 185, 186, 187, 188, 189, 190, 191, 192, 193, 194, 195, 196, 197, 198, 199, 200, 201, 202, 203, 204, 205, 206, 207, 208, 209, 210, 211, 212, 213, 214, 215, 216, 217] (by decide +kernel) (by decide +kernel)
set_option maxRecDepth 20000 in
theorem gX9_writeTurn_X9_emit : GoodIn wsX9_writeTurn (wsV RX9 292 RX9 yX9_emit wsX9_emit) := goodIn_app (goodIn_of _ (by decide +kernel)) ggX9_writeTurn_X9_emit
set_option maxRecDepth 20000 in
theorem ggX9_writeTurn_X9_write : GoodIn wsX9_writeTurn wsX9_write := goodIn_r _ [20, 21, 3, 1, 2, 22, 7, 8, 9, 10, 11, 6, 12, 13, 14, 15, 16, 23, 24, 25, 26, 27, 28, 29, 30, 31, 32, 33, 34, 35, 36, 37, 38, 39, 40, 41, 42, 43, 44, 45, 46, 47, 48, 49, 50, 51, 52, 53, 54, 55, 56, 57, 58, 59, 60, 61, 62, 63, 64, 65, 66, 67, 68, 69, 70, 71, 72, 73, 74, 75, 76, 77, 78, 79, 80, 81, 82, 83, 84, 85, 86, 4, 17, 18, 19, 87, 5, 88, 89, 90, 91, 92, 93, 94, 95, 96, 97, 98, 99, 100, 101, 102, 103, 104, 105, 106, 107, 108, 109, 110, 111, 112, 113, 114, 115, 116, 117, 118, 119, 120, 121, 122, 123, 124, 125, 126, 127, 128, 129, 130, 131, 132, 133, 134, 135, 136, 137, 138, 139, 140, 141, 142, 143, 144, 145, 146, 147, 148, 149, 150, 151, 152, 153, 154, 155, 156, 157, 0, 158, 159, 160, 161, 162, 163, 164, 165, 166, 167, 168, 169, 170, 171, 172, 173, 174, 175, 176, 177, 178, 179, 180, 181, 182, 183, 184, 185, 186, 187, 188, 189, 190, 191, 192, 193, 194, 195, 196, 197, 198, 199, 200, 201, 202, 203, 204, 205, 206, 207, 208, 209, 210, 211, 212, 213, 214, 215, 216, 217] (by decide +kernel) (by decide +kernel)
set_option maxRecDepth 20000 in
theorem gX9_writeTurn_X9_write : GoodIn wsX9_writeTurn (wsV RX9 319 RX9 yX9_write wsX9_write) := goodIn_app (goodIn_of _ (by decide +kernel)) ggX9_writeTurn_X9_write
theorem dX9_writeTurn_0 : decode cX9_writeTurn 0 = .ok (.aload_n 0, 1) := by decide +kernel
theorem dX9_writeTurn_1 : decode cX9_writeTurn 1 = .ok (.getfield 47, 3) := by decide +kernel
theorem dX9_writeTurn_4 : decode cX9_writeTurn 4 = .ok (.iload_n 1, 1) := by decide +kernel
theorem dX9_writeTurn_5 : decode cX9_writeTurn 5 = .ok (.iaload, 1) := by decide +kernel
theorem dX9_writeTurn_6 : decode cX9_writeTurn 6 = .ok (.bipush 16, 2) := by decide +kernel
theorem dX9_writeTurn_8 : decode cX9_writeTurn 8 = .ok (.if_icmp .ne 7, 3) := by decide +kernel
theorem dX9_writeTurn_11 : decode cX9_writeTurn 11 = .ok (.iconst 1, 1) := by decide +kernel
theorem dX9_writeTurn_12 : decode cX9_writeTurn 12 = .ok (.goto 4, 3) := by decide +kernel
theorem dX9_writeTurn_15 : decode cX9_writeTurn 15 = .ok (.iconst 0, 1) := by decide +kernel
theorem dX9_writeTurn_16 : decode cX9_writeTurn 16 = .ok (.istore_n 3, 1) := by decide +kernel
theorem dX9_writeTurn_17 : decode cX9_writeTurn 17 = .ok (.iload_n 3, 1) := by decide +kernel
theorem dX9_writeTurn_18 : decode cX9_writeTurn 18 = .ok (.ifCond .eq 16, 3) := by decide +kernel
theorem dX9_writeTurn_21 : decode cX9_writeTurn 21 = .ok (.aload_n 0, 1) := by decide +kernel
theorem dX9_writeTurn_22 : decode cX9_writeTurn 22 = .ok (.bipush 23, 2) := by decide +kernel
theorem dX9_writeTurn_24 : decode cX9_writeTurn 24 = .ok (.aload_n 0, 1) := by decide +kernel
theorem dX9_writeTurn_25 : decode cX9_writeTurn 25 = .ok (.getfield 50, 3) := by decide +kernel
theorem dX9_writeTurn_28 : decode cX9_writeTurn 28 = .ok (.iload_n 1, 1) := by decide +kernel
theorem dX9_writeTurn_29 : decode cX9_writeTurn 29 = .ok (.iaload, 1) := by decide +kernel
theorem dX9_writeTurn_30 : decode cX9_writeTurn 30 = .ok (.iconst 0, 1) := by decide +kernel
theorem dX9_writeTurn_31 : decode cX9_writeTurn 31 = .ok (.invokevirtual 292, 3) := by decide +kernel
theorem dX9_writeTurn_34 : decode cX9_writeTurn 34 = .ok (.aload_n 0, 1) := by decide +kernel
theorem dX9_writeTurn_35 : decode cX9_writeTurn 35 = .ok (.getfield 283, 3) := by decide +kernel
theorem dX9_writeTurn_38 : decode cX9_writeTurn 38 = .ok (.istore 4, 2) := by decide +kernel
theorem dX9_writeTurn_40 : decode cX9_writeTurn 40 = .ok (.aload_n 0, 1) := by decide +kernel
theorem dX9_writeTurn_41 : decode cX9_writeTurn 41 = .ok (.aload_n 0, 1) := by decide +kernel
theorem dX9_writeTurn_42 : decode cX9_writeTurn 42 = .ok (.getfield 53, 3) := by decide +kernel
theorem dX9_writeTurn_45 : decode cX9_writeTurn 45 = .ok (.iload_n 1, 1) := by decide +kernel
theorem dX9_writeTurn_46 : decode cX9_writeTurn 46 = .ok (.iaload, 1) := by decide +kernel
theorem dX9_writeTurn_47 : decode cX9_writeTurn 47 = .ok (.iload_n 2, 1) := by decide +kernel
theorem dX9_writeTurn_48 : decode cX9_writeTurn 48 = .ok (.invokevirtual 319, 3) := by decide +kernel
theorem dX9_writeTurn_51 : decode cX9_writeTurn 51 = .ok (.aload_n 0, 1) := by decide +kernel
theorem dX9_writeTurn_52 : decode cX9_writeTurn 52 = .ok (.getfield 283, 3) := by decide +kernel
theorem dX9_writeTurn_55 : decode cX9_writeTurn 55 = .ok (.istore 5, 2) := by decide +kernel
theorem dX9_writeTurn_57 : decode cX9_writeTurn 57 = .ok (.aload_n 0, 1) := by decide +kernel
theorem dX9_writeTurn_58 : decode cX9_writeTurn 58 = .ok (.bipush 21, 2) := by decide +kernel
theorem dX9_writeTurn_60 : decode cX9_writeTurn 60 = .ok (.iconst 0, 1) := by decide +kernel
theorem dX9_writeTurn_61 : decode cX9_writeTurn 61 = .ok (.iconst 0, 1) := by decide +kernel
theorem dX9_writeTurn_62 : decode cX9_writeTurn 62 = .ok (.invokevirtual 292, 3) := by decide +kernel
theorem dX9_writeTurn_65 : decode cX9_writeTurn 65 = .ok (.aload_n 0, 1) := by decide +kernel
theorem dX9_writeTurn_66 : decode cX9_writeTurn 66 = .ok (.aload_n 0, 1) := by decide +kernel
theorem dX9_writeTurn_67 : decode cX9_writeTurn 67 = .ok (.getfield 56, 3) := by decide +kernel
theorem dX9_writeTurn_70 : decode cX9_writeTurn 70 = .ok (.iload_n 1, 1) := by decide +kernel
theorem dX9_writeTurn_71 : decode cX9_writeTurn 71 = .ok (.iaload, 1) := by decide +kernel
theorem dX9_writeTurn_72 : decode cX9_writeTurn 72 = .ok (.iload_n 2, 1) := by decide +kernel
theorem dX9_writeTurn_73 : decode cX9_writeTurn 73 = .ok (.invokevirtual 319, 3) := by decide +kernel
theorem dX9_writeTurn_76 : decode cX9_writeTurn 76 = .ok (.aload_n 0, 1) := by decide +kernel
theorem dX9_writeTurn_77 : decode cX9_writeTurn 77 = .ok (.getfield 283, 3) := by decide +kernel
theorem dX9_writeTurn_80 : decode cX9_writeTurn 80 = .ok (.istore 6, 2) := by decide +kernel
theorem dX9_writeTurn_82 : decode cX9_writeTurn 82 = .ok (.iload_n 3, 1) := by decide +kernel
theorem dX9_writeTurn_83 : decode cX9_writeTurn 83 = .ok (.ifCond .ne 13, 3) := by decide +kernel
theorem dX9_writeTurn_86 : decode cX9_writeTurn 86 = .ok (.aload_n 0, 1) := by decide +kernel
theorem dX9_writeTurn_87 : decode cX9_writeTurn 87 = .ok (.getfield 50, 3) := by decide +kernel
theorem dX9_writeTurn_90 : decode cX9_writeTurn 90 = .ok (.iload_n 1, 1) := by decide +kernel
theorem dX9_writeTurn_91 : decode cX9_writeTurn 91 = .ok (.iaload, 1) := by decide +kernel
theorem dX9_writeTurn_92 : decode cX9_writeTurn 92 = .ok (.iconst (-1), 1) := by decide +kernel
theorem dX9_writeTurn_93 : decode cX9_writeTurn 93 = .ok (.if_icmp .eq 12, 3) := by decide +kernel
theorem dX9_writeTurn_96 : decode cX9_writeTurn 96 = .ok (.aload_n 0, 1) := by decide +kernel
theorem dX9_writeTurn_97 : decode cX9_writeTurn 97 = .ok (.bipush 22, 2) := by decide +kernel
theorem dX9_writeTurn_99 : decode cX9_writeTurn 99 = .ok (.iload 4, 2) := by decide +kernel
theorem dX9_writeTurn_101 : decode cX9_writeTurn 101 = .ok (.iconst 0, 1) := by decide +kernel
theorem dX9_writeTurn_102 : decode cX9_writeTurn 102 = .ok (.invokevirtual 292, 3) := by decide +kernel
theorem dX9_writeTurn_105 : decode cX9_writeTurn 105 = .ok (.aload_n 0, 1) := by decide +kernel
theorem dX9_writeTurn_106 : decode cX9_writeTurn 106 = .ok (.getfield 80, 3) := by decide +kernel
theorem dX9_writeTurn_109 : decode cX9_writeTurn 109 = .ok (.iconst 3, 1) := by decide +kernel
theorem dX9_writeTurn_110 : decode cX9_writeTurn 110 = .ok (.iload 5, 2) := by decide +kernel
theorem dX9_writeTurn_112 : decode cX9_writeTurn 112 = .ok (.imul, 1) := by decide +kernel
theorem dX9_writeTurn_113 : decode cX9_writeTurn 113 = .ok (.iconst 1, 1) := by decide +kernel
theorem dX9_writeTurn_114 : decode cX9_writeTurn 114 = .ok (.iadd, 1) := by decide +kernel
theorem dX9_writeTurn_115 : decode cX9_writeTurn 115 = .ok (.aload_n 0, 1) := by decide +kernel
theorem dX9_writeTurn_116 : decode cX9_writeTurn 116 = .ok (.getfield 283, 3) := by decide +kernel
theorem dX9_writeTurn_119 : decode cX9_writeTurn 119 = .ok (.iastore, 1) := by decide +kernel
theorem dX9_writeTurn_120 : decode cX9_writeTurn 120 = .ok (.iload_n 3, 1) := by decide +kernel
theorem dX9_writeTurn_121 : decode cX9_writeTurn 121 = .ok (.ifCond .eq 14, 3) := by decide +kernel
theorem dX9_writeTurn_124 : decode cX9_writeTurn 124 = .ok (.aload_n 0, 1) := by decide +kernel
theorem dX9_writeTurn_125 : decode cX9_writeTurn 125 = .ok (.bipush 24, 2) := by decide +kernel
theorem dX9_writeTurn_127 : decode cX9_writeTurn 127 = .ok (.iconst 0, 1) := by decide +kernel
theorem dX9_writeTurn_128 : decode cX9_writeTurn 128 = .ok (.iconst 0, 1) := by decide +kernel
theorem dX9_writeTurn_129 : decode cX9_writeTurn 129 = .ok (.invokevirtual 292, 3) := by decide +kernel
theorem dX9_writeTurn_132 : decode cX9_writeTurn 132 = .ok (.goto 39, 3) := by decide +kernel
theorem dX9_writeTurn_135 : decode cX9_writeTurn 135 = .ok (.aload_n 0, 1) := by decide +kernel
theorem dX9_writeTurn_136 : decode cX9_writeTurn 136 = .ok (.getfield 50, 3) := by decide +kernel
theorem dX9_writeTurn_139 : decode cX9_writeTurn 139 = .ok (.iload_n 1, 1) := by decide +kernel
theorem dX9_writeTurn_140 : decode cX9_writeTurn 140 = .ok (.iaload, 1) := by decide +kernel
theorem dX9_writeTurn_141 : decode cX9_writeTurn 141 = .ok (.iconst (-1), 1) := by decide +kernel
theorem dX9_writeTurn_142 : decode cX9_writeTurn 142 = .ok (.if_icmp .eq 29, 3) := by decide +kernel
theorem dX9_writeTurn_145 : decode cX9_writeTurn 145 = .ok (.aload_n 0, 1) := by decide +kernel
theorem dX9_writeTurn_146 : decode cX9_writeTurn 146 = .ok (.aload_n 0, 1) := by decide +kernel
theorem dX9_writeTurn_147 : decode cX9_writeTurn 147 = .ok (.getfield 50, 3) := by decide +kernel
theorem dX9_writeTurn_150 : decode cX9_writeTurn 150 = .ok (.iload_n 1, 1) := by decide +kernel
theorem dX9_writeTurn_151 : decode cX9_writeTurn 151 = .ok (.iaload, 1) := by decide +kernel
theorem dX9_writeTurn_152 : decode cX9_writeTurn 152 = .ok (.iload_n 2, 1) := by decide +kernel
theorem dX9_writeTurn_153 : decode cX9_writeTurn 153 = .ok (.invokevirtual 319, 3) := by decide +kernel
theorem dX9_writeTurn_156 : decode cX9_writeTurn 156 = .ok (.aload_n 0, 1) := by decide +kernel
theorem dX9_writeTurn_157 : decode cX9_writeTurn 157 = .ok (.getfield 80, 3) := by decide +kernel
theorem dX9_writeTurn_160 : decode cX9_writeTurn 160 = .ok (.iconst 3, 1) := by decide +kernel
theorem dX9_writeTurn_161 : decode cX9_writeTurn 161 = .ok (.iload 6, 2) := by decide +kernel
theorem dX9_writeTurn_163 : decode cX9_writeTurn 163 = .ok (.imul, 1) := by decide +kernel
theorem dX9_writeTurn_164 : decode cX9_writeTurn 164 = .ok (.iconst 1, 1) := by decide +kernel
theorem dX9_writeTurn_165 : decode cX9_writeTurn 165 = .ok (.iadd, 1) := by decide +kernel
theorem dX9_writeTurn_166 : decode cX9_writeTurn 166 = .ok (.aload_n 0, 1) := by decide +kernel
theorem dX9_writeTurn_167 : decode cX9_writeTurn 167 = .ok (.getfield 283, 3) := by decide +kernel
theorem dX9_writeTurn_170 : decode cX9_writeTurn 170 = .ok (.iastore, 1) := by decide +kernel
theorem dX9_writeTurn_171 : decode cX9_writeTurn 171 = .ok (.return_, 1) := by decide +kernel
set_option maxRecDepth 20000 in
theorem ggX9_writeAll_X9_write : GoodIn wsX9_writeAll wsX9_write := goodIn_r _ [9, 3, 2, 10, 11, 12, 13, 14, 15, 8, 16, 17, 18, 19, 20, 21, 22, 23, 24, 25, 26, 27, 28, 29, 30, 31, 32, 33, 34, 35, 36, 37, 38, 39, 40, 41, 42, 43, 44, 45, 46, 47, 48, 49, 50, 51, 52, 53, 54, 55, 56, 57, 58, 59, 60, 61, 62, 63, 64, 65, 66, 67, 68, 69, 70, 71, 72, 73, 74, 75, 76, 77, 78, 79, 80, 81, 82, 83, 84, 85, 86, 87, 5, 6, 7, 88, 89, 90, 91, 92, 93, 94, 95, 96, 97, 98, 1, 99, 100, 101, 102, 103, 104, 105, 106, 107, 108, 109, 110, 111, 112, 113, 114, 115, 116, 117, 118, 119, 120, 121, 122, 123, 124, 125, 126, 127, 128, 129, 130, 131, 132, 133, 134, 135, 136, 137, 138, 139, 140, 141, 142, 143, 144, 145, 146, 147, 148, 149, 150, 151, 152, 153, 154, 155, 156, 157, 158, 159, 160, 161, 162, 163, 164, 165, 166, 167, 168, 169, 170, 171, 172, 173, 174, 175, 176, 177, 178, 179, 180, 181, 182, 183, 184, 185, 186, 187, 188, 189, 190, 191, 192, 193, 194, 195, 196, 197, 198, 199, 200, 201, 202, 203, 204, 205, 206, 207, 208, 209, 210, 211, 212, 213, 214, 215, 216, 217, 218, 219] (by decide +kernel) (by decide +kernel)
set_option maxRecDepth 20000 in
theorem gX9_writeAll_X9_write : GoodIn wsX9_writeAll (wsV RX9 319 RX9 yX9_write wsX9_write) := goodIn_app (goodIn_of _ (by decide +kernel)) ggX9_writeAll_X9_write
set_option maxRecDepth 20000 in
theorem ggX9_writeAll_X9_emit : GoodIn wsX9_writeAll wsX9_emit := goodIn_r _ [16, 2, 17, 18, 19, 20, 21, 22, 160, 161, 162, 163, 164, 165, 166, 167, 168, 169, 170, 171, 172, 173, 174, 175, 176, 177, 178, 179, 180, 181, 182, 183, 184, 185, 186, 187, 188, 189, 190, 191, 192, 193, 194, 195, 196, 197, 198, 199, 200, 201, 202, 203, 204, 205, 206, 207, 208, 209, 210, 211, 212, 213, 214, 215, 216, 217, 218, 219] (by decide +kernel) (by decide +kernel)
set_option maxRecDepth 20000 in
theorem gX9_writeAll_X9_emit : GoodIn wsX9_writeAll (wsV RX9 292 RX9 yX9_emit wsX9_emit) := goodIn_app (goodIn_of _ (by decide +kernel)) ggX9_writeAll_X9_emit
theorem dX9_writeAll_0 : decode cX9_writeAll 0 = .ok (.aload_n 0, 1) := by decide +kernel
theorem dX9_writeAll_1 : decode cX9_writeAll 1 = .ok (.iload_n 2, 1) := by decide +kernel
theorem dX9_writeAll_2 : decode cX9_writeAll 2 = .ok (.putfield 316, 3) := by decide +kernel
theorem dX9_writeAll_5 : decode cX9_writeAll 5 = .ok (.aload_n 0, 1) := by decide +kernel
theorem dX9_writeAll_6 : decode cX9_writeAll 6 = .ok (.iconst 0, 1) := by decide +kernel
theorem dX9_writeAll_7 : decode cX9_writeAll 7 = .ok (.putfield 283, 3) := by decide +kernel
theorem dX9_writeAll_10 : decode cX9_writeAll 10 = .ok (.iconst 0, 1) := by decide +kernel
theorem dX9_writeAll_11 : decode cX9_writeAll 11 = .ok (.istore_n 3, 1) := by decide +kernel
theorem dX9_writeAll_12 : decode cX9_writeAll 12 = .ok (.iload_n 3, 1) := by decide +kernel
theorem dX9_writeAll_13 : decode cX9_writeAll 13 = .ok (.bipush 110, 2) := by decide +kernel
theorem dX9_writeAll_15 : decode cX9_writeAll 15 = .ok (.if_icmp .ge 16, 3) := by decide +kernel
theorem dX9_writeAll_18 : decode cX9_writeAll 18 = .ok (.aload_n 0, 1) := by decide +kernel
theorem dX9_writeAll_19 : decode cX9_writeAll 19 = .ok (.getfield 83, 3) := by decide +kernel
theorem dX9_writeAll_22 : decode cX9_writeAll 22 = .ok (.iload_n 3, 1) := by decide +kernel
theorem dX9_writeAll_23 : decode cX9_writeAll 23 = .ok (.iconst (-1), 1) := by decide +kernel
theorem dX9_writeAll_24 : decode cX9_writeAll 24 = .ok (.iastore, 1) := by decide +kernel
theorem dX9_writeAll_25 : decode cX9_writeAll 25 = .ok (.iinc 3 1, 3) := by decide +kernel
theorem dX9_writeAll_28 : decode cX9_writeAll 28 = .ok (.goto (-16), 3) := by decide +kernel
theorem dX9_writeAll_31 : decode cX9_writeAll 31 = .ok (.aload_n 0, 1) := by decide +kernel
theorem dX9_writeAll_32 : decode cX9_writeAll 32 = .ok (.aload_n 0, 1) := by decide +kernel
theorem dX9_writeAll_33 : decode cX9_writeAll 33 = .ok (.getfield 29, 3) := by decide +kernel
theorem dX9_writeAll_36 : decode cX9_writeAll 36 = .ok (.iload_n 1, 1) := by decide +kernel
theorem dX9_writeAll_37 : decode cX9_writeAll 37 = .ok (.iaload, 1) := by decide +kernel
theorem dX9_writeAll_38 : decode cX9_writeAll 38 = .ok (.iload_n 1, 1) := by decide +kernel
theorem dX9_writeAll_39 : decode cX9_writeAll 39 = .ok (.invokevirtual 319, 3) := by decide +kernel
theorem dX9_writeAll_42 : decode cX9_writeAll 42 = .ok (.aload_n 0, 1) := by decide +kernel
theorem dX9_writeAll_43 : decode cX9_writeAll 43 = .ok (.iconst 1, 1) := by decide +kernel
theorem dX9_writeAll_44 : decode cX9_writeAll 44 = .ok (.iconst 0, 1) := by decide +kernel
theorem dX9_writeAll_45 : decode cX9_writeAll 45 = .ok (.iconst 0, 1) := by decide +kernel
theorem dX9_writeAll_46 : decode cX9_writeAll 46 = .ok (.invokevirtual 292, 3) := by decide +kernel
theorem dX9_writeAll_49 : decode cX9_writeAll 49 = .ok (.aload_n 0, 1) := by decide +kernel
theorem dX9_writeAll_50 : decode cX9_writeAll 50 = .ok (.bipush 15, 2) := by decide +kernel
theorem dX9_writeAll_52 : decode cX9_writeAll 52 = .ok (.iconst 0, 1) := by decide +kernel
theorem dX9_writeAll_53 : decode cX9_writeAll 53 = .ok (.iconst 0, 1) := by decide +kernel
theorem dX9_writeAll_54 : decode cX9_writeAll 54 = .ok (.invokevirtual 292, 3) := by decide +kernel
theorem dX9_writeAll_57 : decode cX9_writeAll 57 = .ok (.return_, 1) := by decide +kernel
set_option maxRecDepth 20000 in
theorem ggX9_length_X9_writeAll : GoodIn wsX9_length wsX9_writeAll := goodIn_r _ [6, 7, 1, 8, 9, 10, 11, 12, 5, 13, 14, 15, 16, 17, 18, 19, 20, 21, 22, 23, 24, 25, 26, 27, 28, 29, 30, 31, 32, 33, 34, 35, 36, 37, 38, 39, 40, 41, 42, 43, 44, 45, 46, 47, 48, 49, 50, 51, 52, 53, 54, 55, 56, 57, 58, 59, 60, 61, 62, 63, 64, 65, 66, 67, 68, 69, 70, 71, 72, 73, 74, 75, 76, 77, 78, 79, 80, 81, 82, 83, 84, 85, 86, 87, 88, 89, 90, 91, 92, 93, 94, 95, 96, 97, 98, 99, 100, 101, 102, 103, 104, 105, 106, 107, 108, 109, 110, 111, 112, 113, 114, 115, 116, 117, 118, 119, 120, 121, 122, 123, 124, 125, 126, 127, 128, 129, 130, 131, 132, 133, 134, 135, 136, 137, 138, 139, 140, 141, 142, 143, 144, 145, 146, 147, 148, 149, 150, 151, 152, 153, 154, 155, 156, 157, 158, 159, 160, 161, 162, 163, 164, 165, 166, 167, 168, 169, 170, 171, 172, 173, 174, 175, 176, 177, 178, 179, 180, 181, 182, 183, 184, 185, 186, 187, 188, 189, 190, 191, 192, 193, 194, 195, 196, 197, 198, 199, 200, 201, 202, 203, 204, 205, 206, 207, 208, 209, 210, 211, 212, 213, 214, 215, 216, 217, 218, 219, 220, 221, 222, 223] (by decide +kernel) (by decide +kernel)
set_option maxRecDepth 20000 in
theorem gX9_length_X9_writeAll : GoodIn wsX9_length (wsV RX9 325 RX9 yX9_writeAll wsX9_writeAll) := goodIn_app (goodIn_of _ (by decide +kernel)) ggX9_length_X9_writeAll
theorem dX9_length_0 : decode cX9_length 0 = .ok (.aload_n 0, 1) := by decide +kernel
theorem dX9_length_1 : decode cX9_length 1 = .ok (.iload_n 1, 1) := by decide +kernel
theorem dX9_length_2 : decode cX9_length 2 = .ok (.iload_n 2, 1) := by decide +kernel
theorem dX9_length_3 : decode cX9_length 3 = .ok (.invokevirtual 325, 3) := by decide +kernel
theorem dX9_length_6 : decode cX9_length 6 = .ok (.aload_n 0, 1) := by decide +kernel
theorem dX9_length_7 : decode cX9_length 7 = .ok (.getfield 283, 3) := by decide +kernel
theorem dX9_length_10 : decode cX9_length 10 = .ok (.ireturn, 1) := by decide +kernel
set_option maxRecDepth 20000 in
theorem ggX9_allCode_X9_length : GoodIn wsX9_allCode wsX9_length := goodIn_r _ [6, 7, 8, 9, 10, 5, 11, 12, 13, 14, 15, 16, 17, 18, 19, 20, 21, 22, 23, 24, 25, 26, 27, 28, 29, 30, 31, 32, 33, 34, 35, 36, 37, 38, 39, 40, 41, 42, 43, 44, 45, 46, 47, 48, 49, 50, 51, 52, 53, 54, 55, 56, 57, 58, 59, 60, 61, 62, 63, 64, 65, 66, 67, 68, 69, 70, 71, 72, 73, 74, 75, 76, 77, 78, 79, 80, 81, 82, 83, 84, 85, 86, 87, 88, 89, 90, 91, 92, 93, 94, 95, 96, 97, 98, 99, 100, 101, 102, 103, 104, 105, 106, 107, 108, 109, 110, 111, 112, 113, 114, 115, 116, 117, 118, 119, 120, 121, 122, 123, 124, 125, 126, 127, 128, 129, 130, 131, 132, 133, 134, 135, 136, 137, 138, 139, 140, 141, 142, 143, 144, 145, 146, 147, 148, 149, 150, 151, 152, 153, 154, 155, 156, 157, 158, 159, 160, 161, 162, 163, 164, 165, 166, 167, 168, 169, 170, 171, 172, 173, 174, 175, 176, 177, 178, 179, 180, 181, 182, 183, 184, 185, 186, 187, 188, 189, 190, 191, 192, 193, 194, 195, 196, 197, 198, 199, 200, 201, 202, 203, 204, 205, 206, 207, 208, 209, 210, 211, 212, 213, 214, 215, 216, 217, 218, 219, 220, 221, 222, 223, 224, 225, 226, 227, 228] (by decide +kernel) (by decide +kernel)
set_option maxRecDepth 20000 in
theorem gX9_allCode_X9_length : GoodIn wsX9_allCode (wsV RX9 231 RX9 yX9_length wsX9_length) := goodIn_app (goodIn_of _ (by decide +kernel)) ggX9_allCode_X9_length
theorem dX9_allCode_0 : decode cX9_allCode 0 = .ok (.iconst 0, 1) := by decide +kernel
theorem dX9_allCode_1 : decode cX9_allCode 1 = .ok (.istore_n 2, 1) := by decide +kernel
theorem dX9_allCode_2 : decode cX9_allCode 2 = .ok (.iconst 0, 1) := by decide +kernel
theorem dX9_allCode_3 : decode cX9_allCode 3 = .ok (.istore_n 3, 1) := by decide +kernel
theorem dX9_allCode_4 : decode cX9_allCode 4 = .ok (.iload_n 3, 1) := by decide +kernel
theorem dX9_allCode_5 : decode cX9_allCode 5 = .ok (.aload_n 0, 1) := by decide +kernel
theorem dX9_allCode_6 : decode cX9_allCode 6 = .ok (.getfield 7, 3) := by decide +kernel
theorem dX9_allCode_9 : decode cX9_allCode 9 = .ok (.if_icmp .ge 18, 3) := by decide +kernel
theorem dX9_allCode_12 : decode cX9_allCode 12 = .ok (.iload_n 2, 1) := by decide +kernel
theorem dX9_allCode_13 : decode cX9_allCode 13 = .ok (.aload_n 0, 1) := by decide +kernel
theorem dX9_allCode_14 : decode cX9_allCode 14 = .ok (.iload_n 3, 1) := by decide +kernel
theorem dX9_allCode_15 : decode cX9_allCode 15 = .ok (.iload_n 1, 1) := by decide +kernel
theorem dX9_allCode_16 : decode cX9_allCode 16 = .ok (.invokevirtual 231, 3) := by decide +kernel
theorem dX9_allCode_19 : decode cX9_allCode 19 = .ok (.iadd, 1) := by decide +kernel
theorem dX9_allCode_20 : decode cX9_allCode 20 = .ok (.istore_n 2, 1) := by decide +kernel
theorem dX9_allCode_21 : decode cX9_allCode 21 = .ok (.iinc 3 1, 3) := by decide +kernel
theorem dX9_allCode_24 : decode cX9_allCode 24 = .ok (.goto (-20), 3) := by decide +kernel
theorem dX9_allCode_27 : decode cX9_allCode 27 = .ok (.iload_n 2, 1) := by decide +kernel
theorem dX9_allCode_28 : decode cX9_allCode 28 = .ok (.ireturn, 1) := by decide +kernel
set_option maxRecDepth 20000 in
theorem ggX9_passes_X9_isIn : GoodIn wsX9_passes wsX9_isIn := goodIn_r _ [6] (by decide +kernel) (by decide +kernel)
set_option maxRecDepth 20000 in
theorem gX9_passes_X9_isIn : GoodIn wsX9_passes (va_wsS RX9 117 yX9_isIn wsX9_isIn) := goodIn_app (goodIn_of _ (by decide +kernel)) ggX9_passes_X9_isIn
set_option maxRecDepth 20000 in
theorem ggX9_passes_X9_no : GoodIn wsX9_passes wsX9_no := goodIn_r _ [10, 1, 11, 12, 13, 14, 15, 16, 17, 18, 19, 20, 21, 22, 23, 24, 25, 26, 27, 28, 29, 30, 31, 32, 33, 34, 35, 36, 37, 38, 39, 40, 41, 42, 43, 44, 45, 46, 47, 48, 49, 50, 51, 52, 53, 54, 55, 56, 57, 58, 59, 60, 61, 62, 63, 64, 65, 66, 67, 68, 69, 70] (by decide +kernel) (by decide +kernel)
set_option maxRecDepth 20000 in
theorem gX9_passes_X9_no : GoodIn wsX9_passes (wsV RX9 128 RX9 yX9_no wsX9_no) := goodIn_app (goodIn_of _ (by decide +kernel)) ggX9_passes_X9_no
theorem dX9_passes_0 : decode cX9_passes 0 = .ok (.aload_n 0, 1) := by decide +kernel
theorem dX9_passes_1 : decode cX9_passes 1 = .ok (.iconst 0, 1) := by decide +kernel
theorem dX9_passes_2 : decode cX9_passes 2 = .ok (.putfield 114, 3) := by decide +kernel
theorem dX9_passes_5 : decode cX9_passes 5 = .ok (.iload_n 1, 1) := by decide +kernel
theorem dX9_passes_6 : decode cX9_passes 6 = .ok (.iconst 0, 1) := by decide +kernel
theorem dX9_passes_7 : decode cX9_passes 7 = .ok (.bipush 7, 2) := by decide +kernel
theorem dX9_passes_9 : decode cX9_passes 9 = .ok (.invokestatic 117, 3) := by decide +kernel
theorem dX9_passes_12 : decode cX9_passes 12 = .ok (.ifCond .ne 9, 3) := by decide +kernel
theorem dX9_passes_15 : decode cX9_passes 15 = .ok (.aload_n 0, 1) := by decide +kernel
theorem dX9_passes_16 : decode cX9_passes 16 = .ok (.iconst 1, 1) := by decide +kernel
theorem dX9_passes_17 : decode cX9_passes 17 = .ok (.invokevirtual 128, 3) := by decide +kernel
theorem dX9_passes_20 : decode cX9_passes 20 = .ok (.ireturn, 1) := by decide +kernel
theorem dX9_passes_21 : decode cX9_passes 21 = .ok (.aload_n 0, 1) := by decide +kernel
theorem dX9_passes_22 : decode cX9_passes 22 = .ok (.getfield 65, 3) := by decide +kernel
theorem dX9_passes_25 : decode cX9_passes 25 = .ok (.istore_n 2, 1) := by decide +kernel
theorem dX9_passes_26 : decode cX9_passes 26 = .ok (.aload_n 0, 1) := by decide +kernel
theorem dX9_passes_27 : decode cX9_passes 27 = .ok (.iload_n 1, 1) := by decide +kernel
theorem dX9_passes_28 : decode cX9_passes 28 = .ok (.putfield 65, 3) := by decide +kernel
theorem dX9_passes_31 : decode cX9_passes 31 = .ok (.iload_n 2, 1) := by decide +kernel
theorem dX9_passes_32 : decode cX9_passes 32 = .ok (.ireturn, 1) := by decide +kernel
theorem dX9_instruction_0 : decode cX9_instruction 0 = .ok (.iload_n 2, 1) := by decide +kernel
theorem dX9_instruction_1 : decode cX9_instruction 1 = .ok (.iconst 3, 1) := by decide +kernel
theorem dX9_instruction_2 : decode cX9_instruction 2 = .ok (.if_icmp .ge 14, 3) := by decide +kernel
theorem dX9_instruction_5 : decode cX9_instruction 5 = .ok (.aload_n 0, 1) := by decide +kernel
theorem dX9_instruction_6 : decode cX9_instruction 6 = .ok (.getfield 80, 3) := by decide +kernel
theorem dX9_instruction_9 : decode cX9_instruction 9 = .ok (.iconst 3, 1) := by decide +kernel
theorem dX9_instruction_10 : decode cX9_instruction 10 = .ok (.iload_n 1, 1) := by decide +kernel
theorem dX9_instruction_11 : decode cX9_instruction 11 = .ok (.imul, 1) := by decide +kernel
theorem dX9_instruction_12 : decode cX9_instruction 12 = .ok (.iload_n 2, 1) := by decide +kernel
theorem dX9_instruction_13 : decode cX9_instruction 13 = .ok (.iadd, 1) := by decide +kernel
theorem dX9_instruction_14 : decode cX9_instruction 14 = .ok (.iaload, 1) := by decide +kernel
theorem dX9_instruction_15 : decode cX9_instruction 15 = .ok (.ireturn, 1) := by decide +kernel
theorem dX9_instruction_16 : decode cX9_instruction 16 = .ok (.iconst 0, 1) := by decide +kernel
theorem dX9_instruction_17 : decode cX9_instruction 17 = .ok (.istore_n 3, 1) := by decide +kernel
theorem dX9_instruction_18 : decode cX9_instruction 18 = .ok (.iconst 0, 1) := by decide +kernel
theorem dX9_instruction_19 : decode cX9_instruction 19 = .ok (.istore 4, 2) := by decide +kernel
theorem dX9_instruction_21 : decode cX9_instruction 21 = .ok (.iload 4, 2) := by decide +kernel
theorem dX9_instruction_23 : decode cX9_instruction 23 = .ok (.aload_n 0, 1) := by decide +kernel
theorem dX9_instruction_24 : decode cX9_instruction 24 = .ok (.getfield 121, 3) := by decide +kernel
theorem dX9_instruction_27 : decode cX9_instruction 27 = .ok (.if_icmp .ge 28, 3) := by decide +kernel
theorem dX9_instruction_30 : decode cX9_instruction 30 = .ok (.iload_n 3, 1) := by decide +kernel
theorem dX9_instruction_31 : decode cX9_instruction 31 = .ok (.aload_n 0, 1) := by decide +kernel
theorem dX9_instruction_32 : decode cX9_instruction 32 = .ok (.getfield 83, 3) := by decide +kernel
theorem dX9_instruction_35 : decode cX9_instruction 35 = .ok (.iload 4, 2) := by decide +kernel
theorem dX9_instruction_37 : decode cX9_instruction 37 = .ok (.iaload, 1) := by decide +kernel
theorem dX9_instruction_38 : decode cX9_instruction 38 = .ok (.iload_n 1, 1) := by decide +kernel
theorem dX9_instruction_39 : decode cX9_instruction 39 = .ok (.if_icmp .ne 7, 3) := by decide +kernel
theorem dX9_instruction_42 : decode cX9_instruction 42 = .ok (.iconst 1, 1) := by decide +kernel
theorem dX9_instruction_43 : decode cX9_instruction 43 = .ok (.goto 4, 3) := by decide +kernel
theorem dX9_instruction_46 : decode cX9_instruction 46 = .ok (.iconst 0, 1) := by decide +kernel
theorem dX9_instruction_47 : decode cX9_instruction 47 = .ok (.iadd, 1) := by decide +kernel
theorem dX9_instruction_48 : decode cX9_instruction 48 = .ok (.istore_n 3, 1) := by decide +kernel
theorem dX9_instruction_49 : decode cX9_instruction 49 = .ok (.iinc 4 1, 3) := by decide +kernel
theorem dX9_instruction_52 : decode cX9_instruction 52 = .ok (.goto (-31), 3) := by decide +kernel
theorem dX9_instruction_55 : decode cX9_instruction 55 = .ok (.iload_n 3, 1) := by decide +kernel
theorem dX9_instruction_56 : decode cX9_instruction 56 = .ok (.ireturn, 1) := by decide +kernel
set_option maxRecDepth 20000 in
theorem ggX9_code_X9_isProcedure : GoodIn wsX9_code wsX9_isProcedure := goodIn_r _ [7, 8, 9, 10, 6, 11, 220, 221, 222, 223, 224, 225, 226, 227, 228, 229, 230, 231, 232, 233, 234, 235, 236, 237, 238, 239, 240, 241, 242, 243, 244, 245, 246, 247, 248, 249, 250, 251, 252, 253, 254, 255, 256, 257, 258, 259, 260, 261, 262, 263, 264, 265, 266, 267, 268, 269, 270, 271, 272, 273, 274, 275, 276, 277, 278, 279] (by decide +kernel) (by decide +kernel)
set_option maxRecDepth 20000 in
theorem gX9_code_X9_isProcedure : GoodIn wsX9_code (wsV RX9 124 RX9 yX9_isProcedure wsX9_isProcedure) := goodIn_app (goodIn_of _ (by decide +kernel)) ggX9_code_X9_isProcedure
set_option maxRecDepth 20000 in
theorem ggX9_code_X9_faults : GoodIn wsX9_code wsX9_faults := goodIn_r _ [15, 16, 17, 18, 6, 19, 20, 8, 21, 22, 23, 24, 25, 26, 27, 28, 29, 30, 31, 32, 33, 34, 35, 36, 37, 38, 39, 40, 41, 42, 43, 44, 45, 46, 47, 48, 49, 50, 51, 52, 53, 54, 55, 56, 57, 58, 59, 60, 61, 62, 63, 64, 65, 66, 67, 68, 69, 70, 71, 72, 73, 74, 75, 76, 77, 78, 79, 80, 81, 82, 83, 84, 85, 86, 87, 88, 89, 90, 91, 92, 93, 94, 95, 96, 97, 98, 99, 100, 101, 102, 103, 104, 105, 9, 10, 11, 106, 107, 108, 109, 110, 111, 112, 113, 114, 115, 220, 221, 222, 223, 224, 225, 226, 227, 228, 229, 230, 231, 232, 233, 234, 235, 236, 237, 238, 239, 240, 241, 242, 243, 244, 245, 246, 247, 248, 249, 250, 251, 252, 253, 254, 255, 256, 257, 258, 259, 260, 261, 262, 263, 264, 265, 266, 267, 268, 269, 270, 271, 272, 273, 274, 275, 276, 277, 278, 279] (by decide +kernel) (by decide +kernel)
set_option maxRecDepth 20000 in
theorem gX9_code_X9_faults : GoodIn wsX9_code (wsV RX9 227 RX9 yX9_faults wsX9_faults) := goodIn_app (goodIn_of _ (by decide +kernel)) ggX9_code_X9_faults
set_option maxRecDepth 20000 in
theorem ggX9_code_X9_no : GoodIn wsX9_code wsX9_no := goodIn_r _ [119, 1, 220, 221, 222, 223, 224, 225, 226, 227, 228, 229, 230, 231, 232, 233, 234, 235, 236, 237, 238, 239, 240, 241, 242, 243, 244, 245, 246, 247, 248, 249, 250, 251, 252, 253, 254, 255, 256, 257, 258, 259, 260, 261, 262, 263, 264, 265, 266, 267, 268, 269, 270, 271, 272, 273, 274, 275, 276, 277, 278, 279] (by decide +kernel) (by decide +kernel)
set_option maxRecDepth 20000 in
theorem gX9_code_X9_no : GoodIn wsX9_code (wsV RX9 128 RX9 yX9_no wsX9_no) := goodIn_app (goodIn_of _ (by decide +kernel)) ggX9_code_X9_no
set_option maxRecDepth 20000 in
theorem ggX9_code_X9_length : GoodIn wsX9_code wsX9_length := goodIn_r _ [123, 124, 125, 126, 127, 6, 128, 129, 130, 21, 131, 132, 133, 134, 26, 27, 46, 135, 136, 137, 138, 139, 20, 140, 141, 142, 143, 55, 56, 57, 58, 59, 60, 61, 62, 63, 71, 72, 73, 74, 75, 144, 145, 146, 147, 148, 149, 150, 151, 152, 153, 154, 155, 156, 157, 158, 159, 160, 161, 162, 163, 164, 165, 166, 34, 35, 36, 37, 38, 39, 40, 41, 32, 42, 43, 44, 45, 47, 48, 49, 50, 51, 28, 29, 30, 31, 33, 167, 168, 169, 170, 89, 171, 90, 95, 96, 97, 98, 81, 172, 173, 174, 175, 9, 10, 11, 113, 114, 115, 176, 177, 178, 179, 180, 181, 182, 183, 184, 185, 186, 187, 188, 189, 190, 191, 192, 193, 194, 106, 107, 108, 109, 110, 111, 112, 195, 196, 197, 198, 199, 200, 201, 202, 76, 77, 78, 79, 80, 203, 204, 205, 206, 52, 53, 54, 207, 208, 209, 210, 211, 212, 213, 214, 215, 220, 221, 222, 223, 224, 225, 226, 227, 228, 229, 230, 231, 232, 233, 234, 235, 236, 237, 238, 239, 240, 241, 242, 243, 244, 245, 246, 247, 248, 249, 250, 251, 252, 253, 254, 255, 256, 257, 258, 259, 260, 261, 262, 263, 264, 265, 266, 267, 268, 269, 270, 271, 272, 273, 274, 275, 276, 277, 278, 279] (by decide +kernel) (by decide +kernel)
set_option maxRecDepth 20000 in
theorem gX9_code_X9_length : GoodIn wsX9_code (wsV RX9 231 RX9 yX9_length wsX9_length) := goodIn_app (goodIn_of _ (by decide +kernel)) ggX9_code_X9_length
set_option maxRecDepth 20000 in
theorem ggX9_code_X9_isIn : GoodIn wsX9_code wsX9_isIn := goodIn_r _ [11] (by decide +kernel) (by decide +kernel)
set_option maxRecDepth 20000 in
theorem gX9_code_X9_isIn : GoodIn wsX9_code (va_wsS RX9 117 yX9_isIn wsX9_isIn) := goodIn_app (goodIn_of _ (by decide +kernel)) ggX9_code_X9_isIn
set_option maxRecDepth 20000 in
theorem ggX9_code_X9_instruction : GoodIn wsX9_code wsX9_instruction := goodIn_r _ [219, 139, 51, 130, 220, 221, 222, 223, 224, 225, 226, 227, 228, 229, 230, 231, 232, 233, 234, 235, 236, 237, 238, 239, 240, 241, 242, 243, 244, 245, 246, 247, 248, 249, 250, 251, 252, 253, 254, 255, 256, 257, 258, 259, 260, 261, 262, 263, 264, 265, 266, 267, 268, 269, 270, 271, 272, 273, 274, 275, 276, 277, 278, 279] (by decide +kernel) (by decide +kernel)
set_option maxRecDepth 20000 in
theorem gX9_code_X9_instruction : GoodIn wsX9_code (wsV RX9 328 RX9 yX9_instruction wsX9_instruction) := goodIn_app (goodIn_of _ (by decide +kernel)) ggX9_code_X9_instruction
theorem dX9_code_0 : decode cX9_code 0 = .ok (.aload_n 0, 1) := by decide +kernel
theorem dX9_code_1 : decode cX9_code 1 = .ok (.iconst 0, 1) := by decide +kernel
theorem dX9_code_2 : decode cX9_code 2 = .ok (.putfield 114, 3) := by decide +kernel
theorem dX9_code_5 : decode cX9_code 5 = .ok (.aload_n 0, 1) := by decide +kernel
theorem dX9_code_6 : decode cX9_code 6 = .ok (.iload_n 1, 1) := by decide +kernel
theorem dX9_code_7 : decode cX9_code 7 = .ok (.invokevirtual 124, 3) := by decide +kernel
theorem dX9_code_10 : decode cX9_code 10 = .ok (.ifCond .eq 10, 3) := by decide +kernel
theorem dX9_code_13 : decode cX9_code 13 = .ok (.aload_n 0, 1) := by decide +kernel
theorem dX9_code_14 : decode cX9_code 14 = .ok (.invokevirtual 227, 3) := by decide +kernel
theorem dX9_code_17 : decode cX9_code 17 = .ok (.ifCond .le 9, 3) := by decide +kernel
theorem dX9_code_20 : decode cX9_code 20 = .ok (.aload_n 0, 1) := by decide +kernel
theorem dX9_code_21 : decode cX9_code 21 = .ok (.iconst 1, 1) := by decide +kernel
theorem dX9_code_22 : decode cX9_code 22 = .ok (.invokevirtual 128, 3) := by decide +kernel
theorem dX9_code_25 : decode cX9_code 25 = .ok (.ireturn, 1) := by decide +kernel
theorem dX9_code_26 : decode cX9_code 26 = .ok (.iload_n 2, 1) := by decide +kernel
theorem dX9_code_27 : decode cX9_code 27 = .ok (.iconst 0, 1) := by decide +kernel
theorem dX9_code_28 : decode cX9_code 28 = .ok (.aload_n 0, 1) := by decide +kernel
theorem dX9_code_29 : decode cX9_code 29 = .ok (.iload_n 1, 1) := by decide +kernel
theorem dX9_code_30 : decode cX9_code 30 = .ok (.aload_n 0, 1) := by decide +kernel
theorem dX9_code_31 : decode cX9_code 31 = .ok (.getfield 65, 3) := by decide +kernel
theorem dX9_code_34 : decode cX9_code 34 = .ok (.invokevirtual 231, 3) := by decide +kernel
theorem dX9_code_37 : decode cX9_code 37 = .ok (.iconst 1, 1) := by decide +kernel
theorem dX9_code_38 : decode cX9_code 38 = .ok (.isub, 1) := by decide +kernel
theorem dX9_code_39 : decode cX9_code 39 = .ok (.invokestatic 117, 3) := by decide +kernel
theorem dX9_code_42 : decode cX9_code 42 = .ok (.ifCond .ne 9, 3) := by decide +kernel
theorem dX9_code_45 : decode cX9_code 45 = .ok (.aload_n 0, 1) := by decide +kernel
theorem dX9_code_46 : decode cX9_code 46 = .ok (.iconst 1, 1) := by decide +kernel
theorem dX9_code_47 : decode cX9_code 47 = .ok (.invokevirtual 128, 3) := by decide +kernel
theorem dX9_code_50 : decode cX9_code 50 = .ok (.ireturn, 1) := by decide +kernel
theorem dX9_code_51 : decode cX9_code 51 = .ok (.iload_n 3, 1) := by decide +kernel
theorem dX9_code_52 : decode cX9_code 52 = .ok (.iconst 0, 1) := by decide +kernel
theorem dX9_code_53 : decode cX9_code 53 = .ok (.iconst 3, 1) := by decide +kernel
theorem dX9_code_54 : decode cX9_code 54 = .ok (.invokestatic 117, 3) := by decide +kernel
theorem dX9_code_57 : decode cX9_code 57 = .ok (.ifCond .eq 12, 3) := by decide +kernel
theorem dX9_code_60 : decode cX9_code 60 = .ok (.aload_n 0, 1) := by decide +kernel
theorem dX9_code_61 : decode cX9_code 61 = .ok (.iload_n 2, 1) := by decide +kernel
theorem dX9_code_62 : decode cX9_code 62 = .ok (.iload_n 3, 1) := by decide +kernel
theorem dX9_code_63 : decode cX9_code 63 = .ok (.invokevirtual 328, 3) := by decide +kernel
theorem dX9_code_66 : decode cX9_code 66 = .ok (.goto 8, 3) := by decide +kernel
theorem dX9_code_69 : decode cX9_code 69 = .ok (.aload_n 0, 1) := by decide +kernel
theorem dX9_code_70 : decode cX9_code 70 = .ok (.iconst 2, 1) := by decide +kernel
theorem dX9_code_71 : decode cX9_code 71 = .ok (.invokevirtual 128, 3) := by decide +kernel
theorem dX9_code_74 : decode cX9_code 74 = .ok (.ireturn, 1) := by decide +kernel
theorem dX9_room_0 : decode cX9_room 0 = .ok (.iload_n 1, 1) := by decide +kernel
theorem dX9_room_1 : decode cX9_room 1 = .ok (.aload_n 0, 1) := by decide +kernel
theorem dX9_room_2 : decode cX9_room 2 = .ok (.arraylength, 1) := by decide +kernel
theorem dX9_room_3 : decode cX9_room 3 = .ok (.if_icmp .gt 5, 3) := by decide +kernel
theorem dX9_room_6 : decode cX9_room 6 = .ok (.aload_n 0, 1) := by decide +kernel
theorem dX9_room_7 : decode cX9_room 7 = .ok (.areturn, 1) := by decide +kernel
theorem dX9_room_8 : decode cX9_room 8 = .ok (.iload_n 1, 1) := by decide +kernel
theorem dX9_room_9 : decode cX9_room 9 = .ok (.iconst 2, 1) := by decide +kernel
theorem dX9_room_10 : decode cX9_room 10 = .ok (.aload_n 0, 1) := by decide +kernel
theorem dX9_room_11 : decode cX9_room 11 = .ok (.arraylength, 1) := by decide +kernel
theorem dX9_room_12 : decode cX9_room 12 = .ok (.imul, 1) := by decide +kernel
theorem dX9_room_13 : decode cX9_room 13 = .ok (.invokestatic 331, 3) := by decide +kernel
theorem dX9_room_16 : decode cX9_room 16 = .ok (.newarray .int, 2) := by decide +kernel
theorem dX9_room_18 : decode cX9_room 18 = .ok (.astore_n 2, 1) := by decide +kernel
theorem dX9_room_19 : decode cX9_room 19 = .ok (.aload_n 0, 1) := by decide +kernel
theorem dX9_room_20 : decode cX9_room 20 = .ok (.iconst 0, 1) := by decide +kernel
theorem dX9_room_21 : decode cX9_room 21 = .ok (.aload_n 2, 1) := by decide +kernel
theorem dX9_room_22 : decode cX9_room 22 = .ok (.iconst 0, 1) := by decide +kernel
theorem dX9_room_23 : decode cX9_room 23 = .ok (.aload_n 0, 1) := by decide +kernel
theorem dX9_room_24 : decode cX9_room 24 = .ok (.arraylength, 1) := by decide +kernel
theorem dX9_room_25 : decode cX9_room 25 = .ok (.invokestatic 286, 3) := by decide +kernel
theorem dX9_room_28 : decode cX9_room 28 = .ok (.aload_n 2, 1) := by decide +kernel
theorem dX9_room_29 : decode cX9_room 29 = .ok (.areturn, 1) := by decide +kernel
theorem dX9_stop_0 : decode cX9_stop 0 = .ok (.aload_n 0, 1) := by decide +kernel
theorem dX9_stop_1 : decode cX9_stop 1 = .ok (.iload_n 1, 1) := by decide +kernel
theorem dX9_stop_2 : decode cX9_stop 2 = .ok (.putfield 336, 3) := by decide +kernel
theorem dX9_stop_5 : decode cX9_stop 5 = .ok (.aload_n 0, 1) := by decide +kernel
theorem dX9_stop_6 : decode cX9_stop 6 = .ok (.iload_n 2, 1) := by decide +kernel
theorem dX9_stop_7 : decode cX9_stop 7 = .ok (.putfield 339, 3) := by decide +kernel
theorem dX9_stop_10 : decode cX9_stop 10 = .ok (.return_, 1) := by decide +kernel
set_option maxRecDepth 20000 in
theorem ggX9_put_X9_room : GoodIn wsX9_put wsX9_room := goodIn_r _ [6, 7, 8, 9, 10, 11, 12, 13, 14, 15] (by decide +kernel) (by decide +kernel)
set_option maxRecDepth 20000 in
theorem gX9_put_X9_room : GoodIn wsX9_put (va_wsS RX9 345 yX9_room wsX9_room) := goodIn_app (goodIn_of _ (by decide +kernel)) ggX9_put_X9_room
theorem dX9_put_0 : decode cX9_put 0 = .ok (.aload_n 0, 1) := by decide +kernel
theorem dX9_put_1 : decode cX9_put 1 = .ok (.aload_n 0, 1) := by decide +kernel
theorem dX9_put_2 : decode cX9_put 2 = .ok (.getfield 89, 3) := by decide +kernel
theorem dX9_put_5 : decode cX9_put 5 = .ok (.aload_n 0, 1) := by decide +kernel
theorem dX9_put_6 : decode cX9_put 6 = .ok (.getfield 342, 3) := by decide +kernel
theorem dX9_put_9 : decode cX9_put 9 = .ok (.bipush 32, 2) := by decide +kernel
theorem dX9_put_11 : decode cX9_put 11 = .ok (.iadd, 1) := by decide +kernel
theorem dX9_put_12 : decode cX9_put 12 = .ok (.invokestatic 345, 3) := by decide +kernel
theorem dX9_put_15 : decode cX9_put 15 = .ok (.putfield 89, 3) := by decide +kernel
theorem dX9_put_18 : decode cX9_put 18 = .ok (.aload_n 0, 1) := by decide +kernel
theorem dX9_put_19 : decode cX9_put 19 = .ok (.getfield 89, 3) := by decide +kernel
theorem dX9_put_22 : decode cX9_put 22 = .ok (.aload_n 0, 1) := by decide +kernel
theorem dX9_put_23 : decode cX9_put 23 = .ok (.dup, 1) := by decide +kernel
theorem dX9_put_24 : decode cX9_put 24 = .ok (.getfield 342, 3) := by decide +kernel
theorem dX9_put_27 : decode cX9_put 27 = .ok (.dup_x1, 1) := by decide +kernel
theorem dX9_put_28 : decode cX9_put 28 = .ok (.iconst 1, 1) := by decide +kernel
theorem dX9_put_29 : decode cX9_put 29 = .ok (.iadd, 1) := by decide +kernel
theorem dX9_put_30 : decode cX9_put 30 = .ok (.putfield 342, 3) := by decide +kernel
theorem dX9_put_33 : decode cX9_put 33 = .ok (.iload_n 1, 1) := by decide +kernel
theorem dX9_put_34 : decode cX9_put 34 = .ok (.iastore, 1) := by decide +kernel
theorem dX9_put_35 : decode cX9_put 35 = .ok (.return_, 1) := by decide +kernel
theorem dX9_take_0 : decode cX9_take 0 = .ok (.aload_n 0, 1) := by decide +kernel
theorem dX9_take_1 : decode cX9_take 1 = .ok (.getfield 89, 3) := by decide +kernel
theorem dX9_take_4 : decode cX9_take 4 = .ok (.aload_n 0, 1) := by decide +kernel
theorem dX9_take_5 : decode cX9_take 5 = .ok (.dup, 1) := by decide +kernel
theorem dX9_take_6 : decode cX9_take 6 = .ok (.getfield 342, 3) := by decide +kernel
theorem dX9_take_9 : decode cX9_take 9 = .ok (.iconst 1, 1) := by decide +kernel
theorem dX9_take_10 : decode cX9_take 10 = .ok (.isub, 1) := by decide +kernel
theorem dX9_take_11 : decode cX9_take 11 = .ok (.dup_x1, 1) := by decide +kernel
theorem dX9_take_12 : decode cX9_take 12 = .ok (.putfield 342, 3) := by decide +kernel
theorem dX9_take_15 : decode cX9_take 15 = .ok (.iaload, 1) := by decide +kernel
theorem dX9_take_16 : decode cX9_take 16 = .ok (.ireturn, 1) := by decide +kernel
set_option maxRecDepth 20000 in
theorem ggX9_begin_X9_stop : GoodIn wsX9_begin wsX9_stop := goodIn_r _ [12, 13, 14, 27, 28, 29, 30, 31, 32, 33, 34, 35, 36, 37, 38, 39, 40, 41, 42, 43, 44, 45, 46, 47, 48, 49, 50, 51, 52, 53, 54, 55, 56, 57, 58, 59, 60, 61, 62, 63, 64, 65, 66, 67, 68, 69, 70, 71, 72, 73, 74, 75, 76, 77, 78, 79, 80, 81, 82, 83, 84, 85, 86] (by decide +kernel) (by decide +kernel)
set_option maxRecDepth 20000 in
theorem gX9_begin_X9_stop : GoodIn wsX9_begin (wsV RX9 355 RX9 yX9_stop wsX9_stop) := goodIn_app (goodIn_of _ (by decide +kernel)) ggX9_begin_X9_stop
set_option maxRecDepth 20000 in
theorem ggX9_begin_X9_room : GoodIn wsX9_begin wsX9_room := goodIn_r _ [17, 18, 19, 20, 21, 22, 23, 24, 25, 26] (by decide +kernel) (by decide +kernel)
set_option maxRecDepth 20000 in
theorem gX9_begin_X9_room : GoodIn wsX9_begin (va_wsS RX9 345 yX9_room wsX9_room) := goodIn_app (goodIn_of _ (by decide +kernel)) ggX9_begin_X9_room
theorem dX9_begin_0 : decode cX9_begin 0 = .ok (.aload_n 0, 1) := by decide +kernel
theorem dX9_begin_1 : decode cX9_begin 1 = .ok (.getfield 349, 3) := by decide +kernel
theorem dX9_begin_4 : decode cX9_begin 4 = .ok (.aload_n 0, 1) := by decide +kernel
theorem dX9_begin_5 : decode cX9_begin 5 = .ok (.getfield 352, 3) := by decide +kernel
theorem dX9_begin_8 : decode cX9_begin 8 = .ok (.if_icmp .ne 11, 3) := by decide +kernel
theorem dX9_begin_11 : decode cX9_begin 11 = .ok (.aload_n 0, 1) := by decide +kernel
theorem dX9_begin_12 : decode cX9_begin 12 = .ok (.bipush 6, 2) := by decide +kernel
theorem dX9_begin_14 : decode cX9_begin 14 = .ok (.iload_n 1, 1) := by decide +kernel
theorem dX9_begin_15 : decode cX9_begin 15 = .ok (.invokevirtual 355, 3) := by decide +kernel
theorem dX9_begin_18 : decode cX9_begin 18 = .ok (.return_, 1) := by decide +kernel
theorem dX9_begin_19 : decode cX9_begin 19 = .ok (.aload_n 0, 1) := by decide +kernel
theorem dX9_begin_20 : decode cX9_begin 20 = .ok (.dup, 1) := by decide +kernel
theorem dX9_begin_21 : decode cX9_begin 21 = .ok (.getfield 349, 3) := by decide +kernel
theorem dX9_begin_24 : decode cX9_begin 24 = .ok (.iconst 1, 1) := by decide +kernel
theorem dX9_begin_25 : decode cX9_begin 25 = .ok (.iadd, 1) := by decide +kernel
theorem dX9_begin_26 : decode cX9_begin 26 = .ok (.putfield 349, 3) := by decide +kernel
theorem dX9_begin_29 : decode cX9_begin 29 = .ok (.aload_n 0, 1) := by decide +kernel
theorem dX9_begin_30 : decode cX9_begin 30 = .ok (.aload_n 0, 1) := by decide +kernel
theorem dX9_begin_31 : decode cX9_begin 31 = .ok (.getfield 86, 3) := by decide +kernel
theorem dX9_begin_34 : decode cX9_begin 34 = .ok (.bipush 7, 2) := by decide +kernel
theorem dX9_begin_36 : decode cX9_begin 36 = .ok (.aload_n 0, 1) := by decide +kernel
theorem dX9_begin_37 : decode cX9_begin 37 = .ok (.getfield 358, 3) := by decide +kernel
theorem dX9_begin_40 : decode cX9_begin 40 = .ok (.imul, 1) := by decide +kernel
theorem dX9_begin_41 : decode cX9_begin 41 = .ok (.bipush 112, 2) := by decide +kernel
theorem dX9_begin_43 : decode cX9_begin 43 = .ok (.iadd, 1) := by decide +kernel
theorem dX9_begin_44 : decode cX9_begin 44 = .ok (.invokestatic 345, 3) := by decide +kernel
theorem dX9_begin_47 : decode cX9_begin 47 = .ok (.putfield 86, 3) := by decide +kernel
theorem dX9_begin_50 : decode cX9_begin 50 = .ok (.bipush 7, 2) := by decide +kernel
theorem dX9_begin_52 : decode cX9_begin 52 = .ok (.aload_n 0, 1) := by decide +kernel
theorem dX9_begin_53 : decode cX9_begin 53 = .ok (.dup, 1) := by decide +kernel
theorem dX9_begin_54 : decode cX9_begin 54 = .ok (.getfield 358, 3) := by decide +kernel
theorem dX9_begin_57 : decode cX9_begin 57 = .ok (.dup_x1, 1) := by decide +kernel
theorem dX9_begin_58 : decode cX9_begin 58 = .ok (.iconst 1, 1) := by decide +kernel
theorem dX9_begin_59 : decode cX9_begin 59 = .ok (.iadd, 1) := by decide +kernel
theorem dX9_begin_60 : decode cX9_begin 60 = .ok (.putfield 358, 3) := by decide +kernel
theorem dX9_begin_63 : decode cX9_begin 63 = .ok (.imul, 1) := by decide +kernel
theorem dX9_begin_64 : decode cX9_begin 64 = .ok (.istore 4, 2) := by decide +kernel
theorem dX9_begin_66 : decode cX9_begin 66 = .ok (.aload_n 0, 1) := by decide +kernel
theorem dX9_begin_67 : decode cX9_begin 67 = .ok (.getfield 86, 3) := by decide +kernel
theorem dX9_begin_70 : decode cX9_begin 70 = .ok (.iload 4, 2) := by decide +kernel
theorem dX9_begin_72 : decode cX9_begin 72 = .ok (.iload_n 1, 1) := by decide +kernel
theorem dX9_begin_73 : decode cX9_begin 73 = .ok (.iastore, 1) := by decide +kernel
theorem dX9_begin_74 : decode cX9_begin 74 = .ok (.aload_n 0, 1) := by decide +kernel
theorem dX9_begin_75 : decode cX9_begin 75 = .ok (.getfield 86, 3) := by decide +kernel
theorem dX9_begin_78 : decode cX9_begin 78 = .ok (.iload 4, 2) := by decide +kernel
theorem dX9_begin_80 : decode cX9_begin 80 = .ok (.iconst 1, 1) := by decide +kernel
theorem dX9_begin_81 : decode cX9_begin 81 = .ok (.iadd, 1) := by decide +kernel
theorem dX9_begin_82 : decode cX9_begin 82 = .ok (.iconst 0, 1) := by decide +kernel
theorem dX9_begin_83 : decode cX9_begin 83 = .ok (.iastore, 1) := by decide +kernel
theorem dX9_begin_84 : decode cX9_begin 84 = .ok (.aload_n 0, 1) := by decide +kernel
theorem dX9_begin_85 : decode cX9_begin 85 = .ok (.getfield 86, 3) := by decide +kernel
theorem dX9_begin_88 : decode cX9_begin 88 = .ok (.iload 4, 2) := by decide +kernel
theorem dX9_begin_90 : decode cX9_begin 90 = .ok (.iconst 2, 1) := by decide +kernel
theorem dX9_begin_91 : decode cX9_begin 91 = .ok (.iadd, 1) := by decide +kernel
theorem dX9_begin_92 : decode cX9_begin 92 = .ok (.iload_n 2, 1) := by decide +kernel
theorem dX9_begin_93 : decode cX9_begin 93 = .ok (.iastore, 1) := by decide +kernel
theorem dX9_begin_94 : decode cX9_begin 94 = .ok (.aload_n 0, 1) := by decide +kernel
theorem dX9_begin_95 : decode cX9_begin 95 = .ok (.getfield 86, 3) := by decide +kernel
theorem dX9_begin_98 : decode cX9_begin 98 = .ok (.iload 4, 2) := by decide +kernel
theorem dX9_begin_100 : decode cX9_begin 100 = .ok (.iconst 3, 1) := by decide +kernel
theorem dX9_begin_101 : decode cX9_begin 101 = .ok (.iadd, 1) := by decide +kernel
theorem dX9_begin_102 : decode cX9_begin 102 = .ok (.iload_n 3, 1) := by decide +kernel
theorem dX9_begin_103 : decode cX9_begin 103 = .ok (.iastore, 1) := by decide +kernel
theorem dX9_begin_104 : decode cX9_begin 104 = .ok (.aload_n 0, 1) := by decide +kernel
theorem dX9_begin_105 : decode cX9_begin 105 = .ok (.getfield 86, 3) := by decide +kernel
theorem dX9_begin_108 : decode cX9_begin 108 = .ok (.iload 4, 2) := by decide +kernel
theorem dX9_begin_110 : decode cX9_begin 110 = .ok (.iconst 4, 1) := by decide +kernel
theorem dX9_begin_111 : decode cX9_begin 111 = .ok (.iadd, 1) := by decide +kernel
theorem dX9_begin_112 : decode cX9_begin 112 = .ok (.aload_n 0, 1) := by decide +kernel
theorem dX9_begin_113 : decode cX9_begin 113 = .ok (.getfield 342, 3) := by decide +kernel
theorem dX9_begin_116 : decode cX9_begin 116 = .ok (.iastore, 1) := by decide +kernel
theorem dX9_begin_117 : decode cX9_begin 117 = .ok (.aload_n 0, 1) := by decide +kernel
theorem dX9_begin_118 : decode cX9_begin 118 = .ok (.getfield 86, 3) := by decide +kernel
theorem dX9_begin_121 : decode cX9_begin 121 = .ok (.iload 4, 2) := by decide +kernel
theorem dX9_begin_123 : decode cX9_begin 123 = .ok (.iconst 5, 1) := by decide +kernel
theorem dX9_begin_124 : decode cX9_begin 124 = .ok (.iadd, 1) := by decide +kernel
theorem dX9_begin_125 : decode cX9_begin 125 = .ok (.aload_n 0, 1) := by decide +kernel
theorem dX9_begin_126 : decode cX9_begin 126 = .ok (.getfield 361, 3) := by decide +kernel
theorem dX9_begin_129 : decode cX9_begin 129 = .ok (.iastore, 1) := by decide +kernel
theorem dX9_begin_130 : decode cX9_begin 130 = .ok (.aload_n 0, 1) := by decide +kernel
theorem dX9_begin_131 : decode cX9_begin 131 = .ok (.getfield 86, 3) := by decide +kernel
theorem dX9_begin_134 : decode cX9_begin 134 = .ok (.iload 4, 2) := by decide +kernel
theorem dX9_begin_136 : decode cX9_begin 136 = .ok (.bipush 6, 2) := by decide +kernel
theorem dX9_begin_138 : decode cX9_begin 138 = .ok (.iadd, 1) := by decide +kernel
theorem dX9_begin_139 : decode cX9_begin 139 = .ok (.aload_n 0, 1) := by decide +kernel
theorem dX9_begin_140 : decode cX9_begin 140 = .ok (.getfield 364, 3) := by decide +kernel
theorem dX9_begin_143 : decode cX9_begin 143 = .ok (.iastore, 1) := by decide +kernel
theorem dX9_begin_144 : decode cX9_begin 144 = .ok (.return_, 1) := by decide +kernel
theorem dX9_cutTo_0 : decode cX9_cutTo 0 = .ok (.aload_n 0, 1) := by decide +kernel
theorem dX9_cutTo_1 : decode cX9_cutTo 1 = .ok (.iload_n 1, 1) := by decide +kernel
theorem dX9_cutTo_2 : decode cX9_cutTo 2 = .ok (.putfield 358, 3) := by decide +kernel
theorem dX9_cutTo_5 : decode cX9_cutTo 5 = .ok (.aload_n 0, 1) := by decide +kernel
theorem dX9_cutTo_6 : decode cX9_cutTo 6 = .ok (.aload_n 0, 1) := by decide +kernel
theorem dX9_cutTo_7 : decode cX9_cutTo 7 = .ok (.getfield 86, 3) := by decide +kernel
theorem dX9_cutTo_10 : decode cX9_cutTo 10 = .ok (.bipush 7, 2) := by decide +kernel
theorem dX9_cutTo_12 : decode cX9_cutTo 12 = .ok (.iload_n 1, 1) := by decide +kernel
theorem dX9_cutTo_13 : decode cX9_cutTo 13 = .ok (.imul, 1) := by decide +kernel
theorem dX9_cutTo_14 : decode cX9_cutTo 14 = .ok (.iconst 4, 1) := by decide +kernel
theorem dX9_cutTo_15 : decode cX9_cutTo 15 = .ok (.iadd, 1) := by decide +kernel
theorem dX9_cutTo_16 : decode cX9_cutTo 16 = .ok (.iaload, 1) := by decide +kernel
theorem dX9_cutTo_17 : decode cX9_cutTo 17 = .ok (.putfield 342, 3) := by decide +kernel
theorem dX9_cutTo_20 : decode cX9_cutTo 20 = .ok (.aload_n 0, 1) := by decide +kernel
theorem dX9_cutTo_21 : decode cX9_cutTo 21 = .ok (.aload_n 0, 1) := by decide +kernel
theorem dX9_cutTo_22 : decode cX9_cutTo 22 = .ok (.getfield 86, 3) := by decide +kernel
theorem dX9_cutTo_25 : decode cX9_cutTo 25 = .ok (.bipush 7, 2) := by decide +kernel
theorem dX9_cutTo_27 : decode cX9_cutTo 27 = .ok (.iload_n 1, 1) := by decide +kernel
theorem dX9_cutTo_28 : decode cX9_cutTo 28 = .ok (.imul, 1) := by decide +kernel
theorem dX9_cutTo_29 : decode cX9_cutTo 29 = .ok (.iconst 5, 1) := by decide +kernel
theorem dX9_cutTo_30 : decode cX9_cutTo 30 = .ok (.iadd, 1) := by decide +kernel
theorem dX9_cutTo_31 : decode cX9_cutTo 31 = .ok (.iaload, 1) := by decide +kernel
theorem dX9_cutTo_32 : decode cX9_cutTo 32 = .ok (.putfield 361, 3) := by decide +kernel
theorem dX9_cutTo_35 : decode cX9_cutTo 35 = .ok (.aload_n 0, 1) := by decide +kernel
theorem dX9_cutTo_36 : decode cX9_cutTo 36 = .ok (.aload_n 0, 1) := by decide +kernel
theorem dX9_cutTo_37 : decode cX9_cutTo 37 = .ok (.getfield 86, 3) := by decide +kernel
theorem dX9_cutTo_40 : decode cX9_cutTo 40 = .ok (.bipush 7, 2) := by decide +kernel
theorem dX9_cutTo_42 : decode cX9_cutTo 42 = .ok (.iload_n 1, 1) := by decide +kernel
theorem dX9_cutTo_43 : decode cX9_cutTo 43 = .ok (.imul, 1) := by decide +kernel
theorem dX9_cutTo_44 : decode cX9_cutTo 44 = .ok (.bipush 6, 2) := by decide +kernel
theorem dX9_cutTo_46 : decode cX9_cutTo 46 = .ok (.iadd, 1) := by decide +kernel
theorem dX9_cutTo_47 : decode cX9_cutTo 47 = .ok (.iaload, 1) := by decide +kernel
theorem dX9_cutTo_48 : decode cX9_cutTo 48 = .ok (.putfield 364, 3) := by decide +kernel
theorem dX9_cutTo_51 : decode cX9_cutTo 51 = .ok (.return_, 1) := by decide +kernel
set_option maxRecDepth 20000 in
theorem ggX9_finish_X9_put : GoodIn wsX9_finish wsX9_put := goodIn_r _ [6, 7, 8, 9, 10, 5, 11, 12, 13, 14, 15, 16, 17, 18, 19, 20, 21, 22, 23, 24, 25, 26, 27, 28, 29, 30, 31, 32, 33, 34, 35, 36, 37, 38, 39, 40, 41, 42, 43, 44, 45, 46, 47, 48, 49, 50, 51, 52, 53, 54, 55, 56, 57, 58, 59, 60, 61, 62, 63, 64, 65, 66, 67, 68, 69, 70, 71, 72, 73, 74, 75, 76, 77, 78, 79, 80] (by decide +kernel) (by decide +kernel)
set_option maxRecDepth 20000 in
theorem gX9_finish_X9_put : GoodIn wsX9_finish (wsV RX9 367 RX9 yX9_put wsX9_put) := goodIn_app (goodIn_of _ (by decide +kernel)) ggX9_finish_X9_put
theorem dX9_finish_0 : decode cX9_finish 0 = .ok (.aload_n 0, 1) := by decide +kernel
theorem dX9_finish_1 : decode cX9_finish 1 = .ok (.dup, 1) := by decide +kernel
theorem dX9_finish_2 : decode cX9_finish 2 = .ok (.getfield 358, 3) := by decide +kernel
theorem dX9_finish_5 : decode cX9_finish 5 = .ok (.iconst 1, 1) := by decide +kernel
theorem dX9_finish_6 : decode cX9_finish 6 = .ok (.isub, 1) := by decide +kernel
theorem dX9_finish_7 : decode cX9_finish 7 = .ok (.putfield 358, 3) := by decide +kernel
theorem dX9_finish_10 : decode cX9_finish 10 = .ok (.aload_n 0, 1) := by decide +kernel
theorem dX9_finish_11 : decode cX9_finish 11 = .ok (.iload_n 1, 1) := by decide +kernel
theorem dX9_finish_12 : decode cX9_finish 12 = .ok (.invokevirtual 367, 3) := by decide +kernel
theorem dX9_finish_15 : decode cX9_finish 15 = .ok (.return_, 1) := by decide +kernel
set_option maxRecDepth 20000 in
theorem ggX9_allot_X9_room : GoodIn wsX9_allot wsX9_room := goodIn_r _ [6, 7, 8, 9, 10, 11, 12, 13, 14, 15] (by decide +kernel) (by decide +kernel)
set_option maxRecDepth 20000 in
theorem gX9_allot_X9_room : GoodIn wsX9_allot (va_wsS RX9 345 yX9_room wsX9_room) := goodIn_app (goodIn_of _ (by decide +kernel)) ggX9_allot_X9_room
theorem dX9_allot_0 : decode cX9_allot 0 = .ok (.aload_n 0, 1) := by decide +kernel
theorem dX9_allot_1 : decode cX9_allot 1 = .ok (.aload_n 0, 1) := by decide +kernel
theorem dX9_allot_2 : decode cX9_allot 2 = .ok (.getfield 92, 3) := by decide +kernel
theorem dX9_allot_5 : decode cX9_allot 5 = .ok (.aload_n 0, 1) := by decide +kernel
theorem dX9_allot_6 : decode cX9_allot 6 = .ok (.getfield 370, 3) := by decide +kernel
theorem dX9_allot_9 : decode cX9_allot 9 = .ok (.iload_n 1, 1) := by decide +kernel
theorem dX9_allot_10 : decode cX9_allot 10 = .ok (.iadd, 1) := by decide +kernel
theorem dX9_allot_11 : decode cX9_allot 11 = .ok (.bipush 32, 2) := by decide +kernel
theorem dX9_allot_13 : decode cX9_allot 13 = .ok (.iadd, 1) := by decide +kernel
theorem dX9_allot_14 : decode cX9_allot 14 = .ok (.invokestatic 345, 3) := by decide +kernel
theorem dX9_allot_17 : decode cX9_allot 17 = .ok (.putfield 92, 3) := by decide +kernel
theorem dX9_allot_20 : decode cX9_allot 20 = .ok (.aload_n 0, 1) := by decide +kernel
theorem dX9_allot_21 : decode cX9_allot 21 = .ok (.getfield 370, 3) := by decide +kernel
theorem dX9_allot_24 : decode cX9_allot 24 = .ok (.istore_n 2, 1) := by decide +kernel
theorem dX9_allot_25 : decode cX9_allot 25 = .ok (.aload_n 0, 1) := by decide +kernel
theorem dX9_allot_26 : decode cX9_allot 26 = .ok (.dup, 1) := by decide +kernel
theorem dX9_allot_27 : decode cX9_allot 27 = .ok (.getfield 370, 3) := by decide +kernel
theorem dX9_allot_30 : decode cX9_allot 30 = .ok (.iload_n 1, 1) := by decide +kernel
theorem dX9_allot_31 : decode cX9_allot 31 = .ok (.iadd, 1) := by decide +kernel
theorem dX9_allot_32 : decode cX9_allot 32 = .ok (.putfield 370, 3) := by decide +kernel
theorem dX9_allot_35 : decode cX9_allot 35 = .ok (.iload_n 2, 1) := by decide +kernel
theorem dX9_allot_36 : decode cX9_allot 36 = .ok (.ireturn, 1) := by decide +kernel
set_option maxRecDepth 20000 in
theorem ggX9_newArray_X9_room : GoodIn wsX9_newArray wsX9_room := goodIn_r _ [7, 8, 9, 10, 11, 12, 13, 14, 15, 16] (by decide +kernel) (by decide +kernel)
set_option maxRecDepth 20000 in
theorem gX9_newArray_X9_room : GoodIn wsX9_newArray (va_wsS RX9 345 yX9_room wsX9_room) := goodIn_app (goodIn_of _ (by decide +kernel)) ggX9_newArray_X9_room
set_option maxRecDepth 20000 in
theorem ggX9_newArray_X9_allot : GoodIn wsX9_newArray wsX9_allot := goodIn_r _ [20, 3, 21, 4, 5, 6, 7, 8, 9, 10, 11, 12, 13, 14, 15, 16, 22, 23, 24, 25, 26, 27, 28, 29, 30, 31, 32, 33, 34, 35, 36, 37, 38, 39, 40, 41, 42, 43, 44, 45, 46, 47, 48, 49, 50, 51, 52, 53, 54, 55, 56, 57, 58, 59, 60, 61, 62, 63, 64, 65, 66, 67, 68, 69, 70, 71, 72, 73, 74, 75, 76, 77, 78, 79, 80, 81] (by decide +kernel) (by decide +kernel)
set_option maxRecDepth 20000 in
theorem gX9_newArray_X9_allot : GoodIn wsX9_newArray (wsV RX9 376 RX9 yX9_allot wsX9_allot) := goodIn_app (goodIn_of _ (by decide +kernel)) ggX9_newArray_X9_allot
theorem dX9_newArray_0 : decode cX9_newArray 0 = .ok (.aload_n 0, 1) := by decide +kernel
theorem dX9_newArray_1 : decode cX9_newArray 1 = .ok (.aload_n 0, 1) := by decide +kernel
theorem dX9_newArray_2 : decode cX9_newArray 2 = .ok (.getfield 98, 3) := by decide +kernel
theorem dX9_newArray_5 : decode cX9_newArray 5 = .ok (.iconst 2, 1) := by decide +kernel
theorem dX9_newArray_6 : decode cX9_newArray 6 = .ok (.aload_n 0, 1) := by decide +kernel
theorem dX9_newArray_7 : decode cX9_newArray 7 = .ok (.getfield 373, 3) := by decide +kernel
theorem dX9_newArray_10 : decode cX9_newArray 10 = .ok (.imul, 1) := by decide +kernel
theorem dX9_newArray_11 : decode cX9_newArray 11 = .ok (.iconst 2, 1) := by decide +kernel
theorem dX9_newArray_12 : decode cX9_newArray 12 = .ok (.iadd, 1) := by decide +kernel
theorem dX9_newArray_13 : decode cX9_newArray 13 = .ok (.bipush 16, 2) := by decide +kernel
theorem dX9_newArray_15 : decode cX9_newArray 15 = .ok (.iadd, 1) := by decide +kernel
theorem dX9_newArray_16 : decode cX9_newArray 16 = .ok (.invokestatic 345, 3) := by decide +kernel
theorem dX9_newArray_19 : decode cX9_newArray 19 = .ok (.putfield 98, 3) := by decide +kernel
theorem dX9_newArray_22 : decode cX9_newArray 22 = .ok (.aload_n 0, 1) := by decide +kernel
theorem dX9_newArray_23 : decode cX9_newArray 23 = .ok (.getfield 98, 3) := by decide +kernel
theorem dX9_newArray_26 : decode cX9_newArray 26 = .ok (.iconst 2, 1) := by decide +kernel
theorem dX9_newArray_27 : decode cX9_newArray 27 = .ok (.aload_n 0, 1) := by decide +kernel
theorem dX9_newArray_28 : decode cX9_newArray 28 = .ok (.getfield 373, 3) := by decide +kernel
theorem dX9_newArray_31 : decode cX9_newArray 31 = .ok (.imul, 1) := by decide +kernel
theorem dX9_newArray_32 : decode cX9_newArray 32 = .ok (.aload_n 0, 1) := by decide +kernel
theorem dX9_newArray_33 : decode cX9_newArray 33 = .ok (.iload_n 1, 1) := by decide +kernel
theorem dX9_newArray_34 : decode cX9_newArray 34 = .ok (.invokevirtual 376, 3) := by decide +kernel
theorem dX9_newArray_37 : decode cX9_newArray 37 = .ok (.iastore, 1) := by decide +kernel
theorem dX9_newArray_38 : decode cX9_newArray 38 = .ok (.aload_n 0, 1) := by decide +kernel
theorem dX9_newArray_39 : decode cX9_newArray 39 = .ok (.getfield 98, 3) := by decide +kernel
theorem dX9_newArray_42 : decode cX9_newArray 42 = .ok (.iconst 2, 1) := by decide +kernel
theorem dX9_newArray_43 : decode cX9_newArray 43 = .ok (.aload_n 0, 1) := by decide +kernel
theorem dX9_newArray_44 : decode cX9_newArray 44 = .ok (.getfield 373, 3) := by decide +kernel
theorem dX9_newArray_47 : decode cX9_newArray 47 = .ok (.imul, 1) := by decide +kernel
theorem dX9_newArray_48 : decode cX9_newArray 48 = .ok (.iconst 1, 1) := by decide +kernel
theorem dX9_newArray_49 : decode cX9_newArray 49 = .ok (.iadd, 1) := by decide +kernel
theorem dX9_newArray_50 : decode cX9_newArray 50 = .ok (.iload_n 1, 1) := by decide +kernel
theorem dX9_newArray_51 : decode cX9_newArray 51 = .ok (.iastore, 1) := by decide +kernel
theorem dX9_newArray_52 : decode cX9_newArray 52 = .ok (.iconst 0, 1) := by decide +kernel
theorem dX9_newArray_53 : decode cX9_newArray 53 = .ok (.istore_n 2, 1) := by decide +kernel
theorem dX9_newArray_54 : decode cX9_newArray 54 = .ok (.iload_n 2, 1) := by decide +kernel
theorem dX9_newArray_55 : decode cX9_newArray 55 = .ok (.iload_n 1, 1) := by decide +kernel
theorem dX9_newArray_56 : decode cX9_newArray 56 = .ok (.if_icmp .ge 28, 3) := by decide +kernel
theorem dX9_newArray_59 : decode cX9_newArray 59 = .ok (.aload_n 0, 1) := by decide +kernel
theorem dX9_newArray_60 : decode cX9_newArray 60 = .ok (.getfield 92, 3) := by decide +kernel
theorem dX9_newArray_63 : decode cX9_newArray 63 = .ok (.aload_n 0, 1) := by decide +kernel
theorem dX9_newArray_64 : decode cX9_newArray 64 = .ok (.getfield 98, 3) := by decide +kernel
theorem dX9_newArray_67 : decode cX9_newArray 67 = .ok (.iconst 2, 1) := by decide +kernel
theorem dX9_newArray_68 : decode cX9_newArray 68 = .ok (.aload_n 0, 1) := by decide +kernel
theorem dX9_newArray_69 : decode cX9_newArray 69 = .ok (.getfield 373, 3) := by decide +kernel
theorem dX9_newArray_72 : decode cX9_newArray 72 = .ok (.imul, 1) := by decide +kernel
theorem dX9_newArray_73 : decode cX9_newArray 73 = .ok (.iaload, 1) := by decide +kernel
theorem dX9_newArray_74 : decode cX9_newArray 74 = .ok (.iload_n 2, 1) := by decide +kernel
theorem dX9_newArray_75 : decode cX9_newArray 75 = .ok (.iadd, 1) := by decide +kernel
theorem dX9_newArray_76 : decode cX9_newArray 76 = .ok (.iconst 0, 1) := by decide +kernel
theorem dX9_newArray_77 : decode cX9_newArray 77 = .ok (.iastore, 1) := by decide +kernel
theorem dX9_newArray_78 : decode cX9_newArray 78 = .ok (.iinc 2 1, 3) := by decide +kernel
theorem dX9_newArray_81 : decode cX9_newArray 81 = .ok (.goto (-27), 3) := by decide +kernel
theorem dX9_newArray_84 : decode cX9_newArray 84 = .ok (.aload_n 0, 1) := by decide +kernel
theorem dX9_newArray_85 : decode cX9_newArray 85 = .ok (.dup, 1) := by decide +kernel
theorem dX9_newArray_86 : decode cX9_newArray 86 = .ok (.getfield 373, 3) := by decide +kernel
theorem dX9_newArray_89 : decode cX9_newArray 89 = .ok (.dup_x1, 1) := by decide +kernel
theorem dX9_newArray_90 : decode cX9_newArray 90 = .ok (.iconst 1, 1) := by decide +kernel
theorem dX9_newArray_91 : decode cX9_newArray 91 = .ok (.iadd, 1) := by decide +kernel
theorem dX9_newArray_92 : decode cX9_newArray 92 = .ok (.putfield 373, 3) := by decide +kernel
theorem dX9_newArray_95 : decode cX9_newArray 95 = .ok (.ireturn, 1) := by decide +kernel
set_option maxRecDepth 20000 in
theorem ggX9_copyOf_X9_newArray : GoodIn wsX9_copyOf wsX9_newArray := goodIn_r _ [11, 1, 12, 2, 13, 14, 10, 15, 16, 17, 18, 19, 20, 3, 4, 5, 6, 21, 22, 23, 24, 25, 26, 27, 28, 29, 30, 31, 32, 33, 34, 35, 36, 37, 38, 39, 40, 41, 42, 43, 44, 45, 46, 47, 48, 49, 50, 51, 52, 53, 54, 55, 56, 57, 58, 59, 60, 61, 62, 63, 64, 65, 66, 67, 68, 69, 70, 71, 72, 73, 74, 75, 76, 77, 78, 79, 80, 81, 82, 83, 84, 85] (by decide +kernel) (by decide +kernel)
set_option maxRecDepth 20000 in
theorem gX9_copyOf_X9_newArray : GoodIn wsX9_copyOf (wsV RX9 379 RX9 yX9_newArray wsX9_newArray) := goodIn_app (goodIn_of _ (by decide +kernel)) ggX9_copyOf_X9_newArray
theorem dX9_copyOf_0 : decode cX9_copyOf 0 = .ok (.aload_n 0, 1) := by decide +kernel
theorem dX9_copyOf_1 : decode cX9_copyOf 1 = .ok (.aload_n 0, 1) := by decide +kernel
theorem dX9_copyOf_2 : decode cX9_copyOf 2 = .ok (.getfield 98, 3) := by decide +kernel
theorem dX9_copyOf_5 : decode cX9_copyOf 5 = .ok (.iconst 2, 1) := by decide +kernel
theorem dX9_copyOf_6 : decode cX9_copyOf 6 = .ok (.iload_n 1, 1) := by decide +kernel
theorem dX9_copyOf_7 : decode cX9_copyOf 7 = .ok (.imul, 1) := by decide +kernel
theorem dX9_copyOf_8 : decode cX9_copyOf 8 = .ok (.iconst 1, 1) := by decide +kernel
theorem dX9_copyOf_9 : decode cX9_copyOf 9 = .ok (.iadd, 1) := by decide +kernel
theorem dX9_copyOf_10 : decode cX9_copyOf 10 = .ok (.iaload, 1) := by decide +kernel
theorem dX9_copyOf_11 : decode cX9_copyOf 11 = .ok (.invokevirtual 379, 3) := by decide +kernel
theorem dX9_copyOf_14 : decode cX9_copyOf 14 = .ok (.istore_n 2, 1) := by decide +kernel
theorem dX9_copyOf_15 : decode cX9_copyOf 15 = .ok (.aload_n 0, 1) := by decide +kernel
theorem dX9_copyOf_16 : decode cX9_copyOf 16 = .ok (.getfield 92, 3) := by decide +kernel
theorem dX9_copyOf_19 : decode cX9_copyOf 19 = .ok (.aload_n 0, 1) := by decide +kernel
theorem dX9_copyOf_20 : decode cX9_copyOf 20 = .ok (.getfield 98, 3) := by decide +kernel
theorem dX9_copyOf_23 : decode cX9_copyOf 23 = .ok (.iconst 2, 1) := by decide +kernel
theorem dX9_copyOf_24 : decode cX9_copyOf 24 = .ok (.iload_n 1, 1) := by decide +kernel
theorem dX9_copyOf_25 : decode cX9_copyOf 25 = .ok (.imul, 1) := by decide +kernel
theorem dX9_copyOf_26 : decode cX9_copyOf 26 = .ok (.iaload, 1) := by decide +kernel
theorem dX9_copyOf_27 : decode cX9_copyOf 27 = .ok (.aload_n 0, 1) := by decide +kernel
theorem dX9_copyOf_28 : decode cX9_copyOf 28 = .ok (.getfield 92, 3) := by decide +kernel
theorem dX9_copyOf_31 : decode cX9_copyOf 31 = .ok (.aload_n 0, 1) := by decide +kernel
theorem dX9_copyOf_32 : decode cX9_copyOf 32 = .ok (.getfield 98, 3) := by decide +kernel
theorem dX9_copyOf_35 : decode cX9_copyOf 35 = .ok (.iconst 2, 1) := by decide +kernel
theorem dX9_copyOf_36 : decode cX9_copyOf 36 = .ok (.iload_n 2, 1) := by decide +kernel
theorem dX9_copyOf_37 : decode cX9_copyOf 37 = .ok (.imul, 1) := by decide +kernel
theorem dX9_copyOf_38 : decode cX9_copyOf 38 = .ok (.iaload, 1) := by decide +kernel
theorem dX9_copyOf_39 : decode cX9_copyOf 39 = .ok (.aload_n 0, 1) := by decide +kernel
theorem dX9_copyOf_40 : decode cX9_copyOf 40 = .ok (.getfield 98, 3) := by decide +kernel
theorem dX9_copyOf_43 : decode cX9_copyOf 43 = .ok (.iconst 2, 1) := by decide +kernel
theorem dX9_copyOf_44 : decode cX9_copyOf 44 = .ok (.iload_n 1, 1) := by decide +kernel
theorem dX9_copyOf_45 : decode cX9_copyOf 45 = .ok (.imul, 1) := by decide +kernel
theorem dX9_copyOf_46 : decode cX9_copyOf 46 = .ok (.iconst 1, 1) := by decide +kernel
theorem dX9_copyOf_47 : decode cX9_copyOf 47 = .ok (.iadd, 1) := by decide +kernel
theorem dX9_copyOf_48 : decode cX9_copyOf 48 = .ok (.iaload, 1) := by decide +kernel
theorem dX9_copyOf_49 : decode cX9_copyOf 49 = .ok (.invokestatic 286, 3) := by decide +kernel
theorem dX9_copyOf_52 : decode cX9_copyOf 52 = .ok (.iload_n 2, 1) := by decide +kernel
theorem dX9_copyOf_53 : decode cX9_copyOf 53 = .ok (.ireturn, 1) := by decide +kernel
set_option maxRecDepth 20000 in
theorem ggX9_frameOf_X9_hops : GoodIn wsX9_frameOf wsX9_hops := goodIn_r _ [8, 9, 10, 11, 12, 13, 14, 15, 16, 17, 18, 19, 20, 21, 22, 23, 24, 25, 26, 27, 28, 29, 30, 31, 32, 33, 34, 35, 36, 37, 38, 39, 40, 41, 42, 43, 44, 45, 46, 47, 48, 49, 50, 51, 52, 53, 54, 55, 56, 57, 58, 59, 60, 61, 62, 63, 64, 65, 66, 67, 68, 69, 70] (by decide +kernel) (by decide +kernel)
set_option maxRecDepth 20000 in
theorem gX9_frameOf_X9_hops : GoodIn wsX9_frameOf (wsV RX9 147 RX9 yX9_hops wsX9_hops) := goodIn_app (goodIn_of _ (by decide +kernel)) ggX9_frameOf_X9_hops
theorem dX9_frameOf_0 : decode cX9_frameOf 0 = .ok (.iload_n 2, 1) := by decide +kernel
theorem dX9_frameOf_1 : decode cX9_frameOf 1 = .ok (.istore_n 3, 1) := by decide +kernel
theorem dX9_frameOf_2 : decode cX9_frameOf 2 = .ok (.aload_n 0, 1) := by decide +kernel
theorem dX9_frameOf_3 : decode cX9_frameOf 3 = .ok (.aload_n 0, 1) := by decide +kernel
theorem dX9_frameOf_4 : decode cX9_frameOf 4 = .ok (.getfield 104, 3) := by decide +kernel
theorem dX9_frameOf_7 : decode cX9_frameOf 7 = .ok (.iload_n 1, 1) := by decide +kernel
theorem dX9_frameOf_8 : decode cX9_frameOf 8 = .ok (.iaload, 1) := by decide +kernel
theorem dX9_frameOf_9 : decode cX9_frameOf 9 = .ok (.aload_n 0, 1) := by decide +kernel
theorem dX9_frameOf_10 : decode cX9_frameOf 10 = .ok (.getfield 50, 3) := by decide +kernel
theorem dX9_frameOf_13 : decode cX9_frameOf 13 = .ok (.iload_n 1, 1) := by decide +kernel
theorem dX9_frameOf_14 : decode cX9_frameOf 14 = .ok (.iaload, 1) := by decide +kernel
theorem dX9_frameOf_15 : decode cX9_frameOf 15 = .ok (.invokevirtual 147, 3) := by decide +kernel
theorem dX9_frameOf_18 : decode cX9_frameOf 18 = .ok (.istore 4, 2) := by decide +kernel
theorem dX9_frameOf_20 : decode cX9_frameOf 20 = .ok (.iload 4, 2) := by decide +kernel
theorem dX9_frameOf_22 : decode cX9_frameOf 22 = .ok (.ifCond .le 20, 3) := by decide +kernel
theorem dX9_frameOf_25 : decode cX9_frameOf 25 = .ok (.aload_n 0, 1) := by decide +kernel
theorem dX9_frameOf_26 : decode cX9_frameOf 26 = .ok (.getfield 95, 3) := by decide +kernel
theorem dX9_frameOf_29 : decode cX9_frameOf 29 = .ok (.iconst 3, 1) := by decide +kernel
theorem dX9_frameOf_30 : decode cX9_frameOf 30 = .ok (.iload_n 3, 1) := by decide +kernel
theorem dX9_frameOf_31 : decode cX9_frameOf 31 = .ok (.imul, 1) := by decide +kernel
theorem dX9_frameOf_32 : decode cX9_frameOf 32 = .ok (.iconst 1, 1) := by decide +kernel
theorem dX9_frameOf_33 : decode cX9_frameOf 33 = .ok (.iadd, 1) := by decide +kernel
theorem dX9_frameOf_34 : decode cX9_frameOf 34 = .ok (.iaload, 1) := by decide +kernel
theorem dX9_frameOf_35 : decode cX9_frameOf 35 = .ok (.istore_n 3, 1) := by decide +kernel
theorem dX9_frameOf_36 : decode cX9_frameOf 36 = .ok (.iinc 4 (-1), 3) := by decide +kernel
theorem dX9_frameOf_39 : decode cX9_frameOf 39 = .ok (.goto (-19), 3) := by decide +kernel
theorem dX9_frameOf_42 : decode cX9_frameOf 42 = .ok (.iload_n 3, 1) := by decide +kernel
theorem dX9_frameOf_43 : decode cX9_frameOf 43 = .ok (.ireturn, 1) := by decide +kernel
set_option maxRecDepth 20000 in
theorem ggX9_slot_X9_frameOf : GoodIn wsX9_slot wsX9_frameOf := goodIn_r _ [8, 2, 3, 1, 9, 10, 11, 7, 12, 13, 14, 24, 25, 26, 27, 28, 29, 30, 31, 32, 33, 34, 35, 36, 37, 38, 39, 40, 41, 42, 43, 44, 45, 46, 47, 48, 49, 50, 51, 52, 53, 54, 55, 56, 57, 58, 59, 60, 61, 62, 63, 64, 65, 66, 67, 68, 69, 70, 71, 72, 73, 74, 75, 76, 77, 78, 79, 80, 81, 82, 83] (by decide +kernel) (by decide +kernel)
set_option maxRecDepth 20000 in
theorem gX9_slot_X9_frameOf : GoodIn wsX9_slot (wsV RX9 382 RX9 yX9_frameOf wsX9_frameOf) := goodIn_app (goodIn_of _ (by decide +kernel)) ggX9_slot_X9_frameOf
set_option maxRecDepth 20000 in
theorem ggX9_slot_X9_placeIs : GoodIn wsX9_slot wsX9_placeIs := goodIn_r _ [18, 19, 20, 21, 22, 7, 23, 13, 14, 24, 25, 26, 27, 28, 29, 30, 31, 32, 33, 34, 35, 36, 37, 38, 39, 40, 41, 42, 43, 44, 45, 46, 47, 48, 49, 50, 51, 52, 53, 54, 55, 56, 57, 58, 59, 60, 61, 62, 63, 64, 65, 66, 67, 68, 69, 70, 71, 72, 73, 74, 75, 76, 77, 78, 79, 80, 81, 82, 83] (by decide +kernel) (by decide +kernel)
set_option maxRecDepth 20000 in
theorem gX9_slot_X9_placeIs : GoodIn wsX9_slot (wsV RX9 150 RX9 yX9_placeIs wsX9_placeIs) := goodIn_app (goodIn_of _ (by decide +kernel)) ggX9_slot_X9_placeIs
theorem dX9_slot_0 : decode cX9_slot 0 = .ok (.aload_n 0, 1) := by decide +kernel
theorem dX9_slot_1 : decode cX9_slot 1 = .ok (.getfield 95, 3) := by decide +kernel
theorem dX9_slot_4 : decode cX9_slot 4 = .ok (.iconst 3, 1) := by decide +kernel
theorem dX9_slot_5 : decode cX9_slot 5 = .ok (.aload_n 0, 1) := by decide +kernel
theorem dX9_slot_6 : decode cX9_slot 6 = .ok (.iload_n 1, 1) := by decide +kernel
theorem dX9_slot_7 : decode cX9_slot 7 = .ok (.iload_n 2, 1) := by decide +kernel
theorem dX9_slot_8 : decode cX9_slot 8 = .ok (.invokevirtual 382, 3) := by decide +kernel
theorem dX9_slot_11 : decode cX9_slot 11 = .ok (.imul, 1) := by decide +kernel
theorem dX9_slot_12 : decode cX9_slot 12 = .ok (.iaload, 1) := by decide +kernel
theorem dX9_slot_13 : decode cX9_slot 13 = .ok (.aload_n 0, 1) := by decide +kernel
theorem dX9_slot_14 : decode cX9_slot 14 = .ok (.aload_n 0, 1) := by decide +kernel
theorem dX9_slot_15 : decode cX9_slot 15 = .ok (.getfield 104, 3) := by decide +kernel
theorem dX9_slot_18 : decode cX9_slot 18 = .ok (.iload_n 1, 1) := by decide +kernel
theorem dX9_slot_19 : decode cX9_slot 19 = .ok (.iaload, 1) := by decide +kernel
theorem dX9_slot_20 : decode cX9_slot 20 = .ok (.aload_n 0, 1) := by decide +kernel
theorem dX9_slot_21 : decode cX9_slot 21 = .ok (.getfield 50, 3) := by decide +kernel
theorem dX9_slot_24 : decode cX9_slot 24 = .ok (.iload_n 1, 1) := by decide +kernel
theorem dX9_slot_25 : decode cX9_slot 25 = .ok (.iaload, 1) := by decide +kernel
theorem dX9_slot_26 : decode cX9_slot 26 = .ok (.invokevirtual 150, 3) := by decide +kernel
theorem dX9_slot_29 : decode cX9_slot 29 = .ok (.iadd, 1) := by decide +kernel
theorem dX9_slot_30 : decode cX9_slot 30 = .ok (.ireturn, 1) := by decide +kernel
set_option maxRecDepth 20000 in
theorem ggX9_newFrame_X9_room : GoodIn wsX9_newFrame wsX9_room := goodIn_r _ [21, 12, 13, 14, 15, 22, 23, 24, 25, 26] (by decide +kernel) (by decide +kernel)
set_option maxRecDepth 20000 in
theorem gX9_newFrame_X9_room : GoodIn wsX9_newFrame (va_wsS RX9 345 yX9_room wsX9_room) := goodIn_app (goodIn_of _ (by decide +kernel)) ggX9_newFrame_X9_room
set_option maxRecDepth 20000 in
theorem ggX9_newFrame_X9_allot : GoodIn wsX9_newFrame wsX9_allot := goodIn_r _ [30, 5, 31, 18, 19, 20, 21, 12, 13, 14, 15, 22, 23, 24, 25, 26, 38, 39, 40, 41, 42, 43, 44, 45, 46, 47, 48, 49, 50, 51, 52, 53, 54, 55, 56, 57, 58, 59, 60, 61, 62, 63, 64, 65, 66, 67, 68, 69, 70, 71, 72, 73, 74, 75, 76, 77, 78, 79, 80, 81, 82, 83, 84, 85, 86, 87, 88, 89, 90, 91, 92, 93, 94, 95, 96, 97] (by decide +kernel) (by decide +kernel)
set_option maxRecDepth 20000 in
theorem gX9_newFrame_X9_allot : GoodIn wsX9_newFrame (wsV RX9 376 RX9 yX9_allot wsX9_allot) := goodIn_app (goodIn_of _ (by decide +kernel)) ggX9_newFrame_X9_allot
set_option maxRecDepth 20000 in
theorem ggX9_newFrame_X9_newArray : GoodIn wsX9_newFrame wsX9_newArray := goodIn_r _ [35, 36, 37, 5, 18, 19, 20, 21, 12, 13, 14, 15, 22, 23, 24, 25, 26, 27, 28, 29, 30, 31, 38, 39, 40, 41, 42, 43, 44, 45, 46, 47, 48, 49, 50, 51, 52, 53, 54, 55, 56, 57, 58, 59, 60, 61, 62, 63, 64, 65, 66, 67, 68, 69, 70, 71, 72, 73, 74, 75, 76, 77, 78, 79, 80, 81, 82, 83, 84, 85, 86, 87, 88, 89, 90, 91, 92, 93, 94, 95, 96, 97] (by decide +kernel) (by decide +kernel)
set_option maxRecDepth 20000 in
theorem gX9_newFrame_X9_newArray : GoodIn wsX9_newFrame (wsV RX9 379 RX9 yX9_newArray wsX9_newArray) := goodIn_app (goodIn_of _ (by decide +kernel)) ggX9_newFrame_X9_newArray
theorem dX9_newFrame_0 : decode cX9_newFrame 0 = .ok (.aload_n 0, 1) := by decide +kernel
theorem dX9_newFrame_1 : decode cX9_newFrame 1 = .ok (.aload_n 0, 1) := by decide +kernel
theorem dX9_newFrame_2 : decode cX9_newFrame 2 = .ok (.getfield 95, 3) := by decide +kernel
theorem dX9_newFrame_5 : decode cX9_newFrame 5 = .ok (.iconst 3, 1) := by decide +kernel
theorem dX9_newFrame_6 : decode cX9_newFrame 6 = .ok (.aload_n 0, 1) := by decide +kernel
theorem dX9_newFrame_7 : decode cX9_newFrame 7 = .ok (.getfield 385, 3) := by decide +kernel
theorem dX9_newFrame_10 : decode cX9_newFrame 10 = .ok (.imul, 1) := by decide +kernel
theorem dX9_newFrame_11 : decode cX9_newFrame 11 = .ok (.iconst 3, 1) := by decide +kernel
theorem dX9_newFrame_12 : decode cX9_newFrame 12 = .ok (.iadd, 1) := by decide +kernel
theorem dX9_newFrame_13 : decode cX9_newFrame 13 = .ok (.bipush 24, 2) := by decide +kernel
theorem dX9_newFrame_15 : decode cX9_newFrame 15 = .ok (.iadd, 1) := by decide +kernel
theorem dX9_newFrame_16 : decode cX9_newFrame 16 = .ok (.invokestatic 345, 3) := by decide +kernel
theorem dX9_newFrame_19 : decode cX9_newFrame 19 = .ok (.putfield 95, 3) := by decide +kernel
theorem dX9_newFrame_22 : decode cX9_newFrame 22 = .ok (.aload_n 0, 1) := by decide +kernel
theorem dX9_newFrame_23 : decode cX9_newFrame 23 = .ok (.aload_n 0, 1) := by decide +kernel
theorem dX9_newFrame_24 : decode cX9_newFrame 24 = .ok (.getfield 26, 3) := by decide +kernel
theorem dX9_newFrame_27 : decode cX9_newFrame 27 = .ok (.iload_n 1, 1) := by decide +kernel
theorem dX9_newFrame_28 : decode cX9_newFrame 28 = .ok (.iaload, 1) := by decide +kernel
theorem dX9_newFrame_29 : decode cX9_newFrame 29 = .ok (.invokevirtual 376, 3) := by decide +kernel
theorem dX9_newFrame_32 : decode cX9_newFrame 32 = .ok (.istore 4, 2) := by decide +kernel
theorem dX9_newFrame_34 : decode cX9_newFrame 34 = .ok (.aload_n 0, 1) := by decide +kernel
theorem dX9_newFrame_35 : decode cX9_newFrame 35 = .ok (.getfield 95, 3) := by decide +kernel
theorem dX9_newFrame_38 : decode cX9_newFrame 38 = .ok (.iconst 3, 1) := by decide +kernel
theorem dX9_newFrame_39 : decode cX9_newFrame 39 = .ok (.aload_n 0, 1) := by decide +kernel
theorem dX9_newFrame_40 : decode cX9_newFrame 40 = .ok (.getfield 385, 3) := by decide +kernel
theorem dX9_newFrame_43 : decode cX9_newFrame 43 = .ok (.imul, 1) := by decide +kernel
theorem dX9_newFrame_44 : decode cX9_newFrame 44 = .ok (.iload 4, 2) := by decide +kernel
theorem dX9_newFrame_46 : decode cX9_newFrame 46 = .ok (.iastore, 1) := by decide +kernel
theorem dX9_newFrame_47 : decode cX9_newFrame 47 = .ok (.aload_n 0, 1) := by decide +kernel
theorem dX9_newFrame_48 : decode cX9_newFrame 48 = .ok (.getfield 95, 3) := by decide +kernel
theorem dX9_newFrame_51 : decode cX9_newFrame 51 = .ok (.iconst 3, 1) := by decide +kernel
theorem dX9_newFrame_52 : decode cX9_newFrame 52 = .ok (.aload_n 0, 1) := by decide +kernel
theorem dX9_newFrame_53 : decode cX9_newFrame 53 = .ok (.getfield 385, 3) := by decide +kernel
theorem dX9_newFrame_56 : decode cX9_newFrame 56 = .ok (.imul, 1) := by decide +kernel
theorem dX9_newFrame_57 : decode cX9_newFrame 57 = .ok (.iconst 1, 1) := by decide +kernel
theorem dX9_newFrame_58 : decode cX9_newFrame 58 = .ok (.iadd, 1) := by decide +kernel
theorem dX9_newFrame_59 : decode cX9_newFrame 59 = .ok (.iload_n 2, 1) := by decide +kernel
theorem dX9_newFrame_60 : decode cX9_newFrame 60 = .ok (.iastore, 1) := by decide +kernel
theorem dX9_newFrame_61 : decode cX9_newFrame 61 = .ok (.aload_n 0, 1) := by decide +kernel
theorem dX9_newFrame_62 : decode cX9_newFrame 62 = .ok (.getfield 95, 3) := by decide +kernel
theorem dX9_newFrame_65 : decode cX9_newFrame 65 = .ok (.iconst 3, 1) := by decide +kernel
theorem dX9_newFrame_66 : decode cX9_newFrame 66 = .ok (.aload_n 0, 1) := by decide +kernel
theorem dX9_newFrame_67 : decode cX9_newFrame 67 = .ok (.getfield 385, 3) := by decide +kernel
theorem dX9_newFrame_70 : decode cX9_newFrame 70 = .ok (.imul, 1) := by decide +kernel
theorem dX9_newFrame_71 : decode cX9_newFrame 71 = .ok (.iconst 2, 1) := by decide +kernel
theorem dX9_newFrame_72 : decode cX9_newFrame 72 = .ok (.iadd, 1) := by decide +kernel
theorem dX9_newFrame_73 : decode cX9_newFrame 73 = .ok (.iload_n 3, 1) := by decide +kernel
theorem dX9_newFrame_74 : decode cX9_newFrame 74 = .ok (.iastore, 1) := by decide +kernel
theorem dX9_newFrame_75 : decode cX9_newFrame 75 = .ok (.iconst 0, 1) := by decide +kernel
theorem dX9_newFrame_76 : decode cX9_newFrame 76 = .ok (.istore 5, 2) := by decide +kernel
theorem dX9_newFrame_78 : decode cX9_newFrame 78 = .ok (.iload 5, 2) := by decide +kernel
theorem dX9_newFrame_80 : decode cX9_newFrame 80 = .ok (.aload_n 0, 1) := by decide +kernel
theorem dX9_newFrame_81 : decode cX9_newFrame 81 = .ok (.getfield 26, 3) := by decide +kernel
theorem dX9_newFrame_84 : decode cX9_newFrame 84 = .ok (.iload_n 1, 1) := by decide +kernel
theorem dX9_newFrame_85 : decode cX9_newFrame 85 = .ok (.iaload, 1) := by decide +kernel
theorem dX9_newFrame_86 : decode cX9_newFrame 86 = .ok (.if_icmp .ge 82, 3) := by decide +kernel
theorem dX9_newFrame_89 : decode cX9_newFrame 89 = .ok (.aload_n 0, 1) := by decide +kernel
theorem dX9_newFrame_90 : decode cX9_newFrame 90 = .ok (.getfield 41, 3) := by decide +kernel
theorem dX9_newFrame_93 : decode cX9_newFrame 93 = .ok (.iload_n 1, 1) := by decide +kernel
theorem dX9_newFrame_94 : decode cX9_newFrame 94 = .ok (.bipush 10, 2) := by decide +kernel
theorem dX9_newFrame_96 : decode cX9_newFrame 96 = .ok (.imul, 1) := by decide +kernel
theorem dX9_newFrame_97 : decode cX9_newFrame 97 = .ok (.iload 5, 2) := by decide +kernel
theorem dX9_newFrame_99 : decode cX9_newFrame 99 = .ok (.iadd, 1) := by decide +kernel
theorem dX9_newFrame_100 : decode cX9_newFrame 100 = .ok (.iaload, 1) := by decide +kernel
theorem dX9_newFrame_101 : decode cX9_newFrame 101 = .ok (.istore 6, 2) := by decide +kernel
theorem dX9_newFrame_103 : decode cX9_newFrame 103 = .ok (.aload_n 0, 1) := by decide +kernel
theorem dX9_newFrame_104 : decode cX9_newFrame 104 = .ok (.getfield 92, 3) := by decide +kernel
theorem dX9_newFrame_107 : decode cX9_newFrame 107 = .ok (.iload 4, 2) := by decide +kernel
theorem dX9_newFrame_109 : decode cX9_newFrame 109 = .ok (.iload 5, 2) := by decide +kernel
theorem dX9_newFrame_111 : decode cX9_newFrame 111 = .ok (.iadd, 1) := by decide +kernel
theorem dX9_newFrame_112 : decode cX9_newFrame 112 = .ok (.iload 6, 2) := by decide +kernel
theorem dX9_newFrame_114 : decode cX9_newFrame 114 = .ok (.bipush 8, 2) := by decide +kernel
theorem dX9_newFrame_116 : decode cX9_newFrame 116 = .ok (.if_icmp .ne 7, 3) := by decide +kernel
theorem dX9_newFrame_119 : decode cX9_newFrame 119 = .ok (.iconst (-1), 1) := by decide +kernel
theorem dX9_newFrame_120 : decode cX9_newFrame 120 = .ok (.goto 4, 3) := by decide +kernel
theorem dX9_newFrame_123 : decode cX9_newFrame 123 = .ok (.iconst 0, 1) := by decide +kernel
theorem dX9_newFrame_124 : decode cX9_newFrame 124 = .ok (.iastore, 1) := by decide +kernel
theorem dX9_newFrame_125 : decode cX9_newFrame 125 = .ok (.iload 6, 2) := by decide +kernel
theorem dX9_newFrame_127 : decode cX9_newFrame 127 = .ok (.bipush 7, 2) := by decide +kernel
theorem dX9_newFrame_129 : decode cX9_newFrame 129 = .ok (.if_icmp .ne 33, 3) := by decide +kernel
theorem dX9_newFrame_132 : decode cX9_newFrame 132 = .ok (.aload_n 0, 1) := by decide +kernel
theorem dX9_newFrame_133 : decode cX9_newFrame 133 = .ok (.aload_n 0, 1) := by decide +kernel
theorem dX9_newFrame_134 : decode cX9_newFrame 134 = .ok (.getfield 44, 3) := by decide +kernel
theorem dX9_newFrame_137 : decode cX9_newFrame 137 = .ok (.iload_n 1, 1) := by decide +kernel
theorem dX9_newFrame_138 : decode cX9_newFrame 138 = .ok (.bipush 10, 2) := by decide +kernel
theorem dX9_newFrame_140 : decode cX9_newFrame 140 = .ok (.imul, 1) := by decide +kernel
theorem dX9_newFrame_141 : decode cX9_newFrame 141 = .ok (.iload 5, 2) := by decide +kernel
theorem dX9_newFrame_143 : decode cX9_newFrame 143 = .ok (.iadd, 1) := by decide +kernel
theorem dX9_newFrame_144 : decode cX9_newFrame 144 = .ok (.iaload, 1) := by decide +kernel
theorem dX9_newFrame_145 : decode cX9_newFrame 145 = .ok (.invokevirtual 379, 3) := by decide +kernel
theorem dX9_newFrame_148 : decode cX9_newFrame 148 = .ok (.istore 7, 2) := by decide +kernel
theorem dX9_newFrame_150 : decode cX9_newFrame 150 = .ok (.aload_n 0, 1) := by decide +kernel
theorem dX9_newFrame_151 : decode cX9_newFrame 151 = .ok (.getfield 92, 3) := by decide +kernel
theorem dX9_newFrame_154 : decode cX9_newFrame 154 = .ok (.iload 4, 2) := by decide +kernel
theorem dX9_newFrame_156 : decode cX9_newFrame 156 = .ok (.iload 5, 2) := by decide +kernel
theorem dX9_newFrame_158 : decode cX9_newFrame 158 = .ok (.iadd, 1) := by decide +kernel
theorem dX9_newFrame_159 : decode cX9_newFrame 159 = .ok (.iload 7, 2) := by decide +kernel
theorem dX9_newFrame_161 : decode cX9_newFrame 161 = .ok (.iastore, 1) := by decide +kernel
theorem dX9_newFrame_162 : decode cX9_newFrame 162 = .ok (.iinc 5 1, 3) := by decide +kernel
theorem dX9_newFrame_165 : decode cX9_newFrame 165 = .ok (.goto (-87), 3) := by decide +kernel
theorem dX9_newFrame_168 : decode cX9_newFrame 168 = .ok (.aload_n 0, 1) := by decide +kernel
theorem dX9_newFrame_169 : decode cX9_newFrame 169 = .ok (.dup, 1) := by decide +kernel
theorem dX9_newFrame_170 : decode cX9_newFrame 170 = .ok (.getfield 388, 3) := by decide +kernel
theorem dX9_newFrame_173 : decode cX9_newFrame 173 = .ok (.iconst 1, 1) := by decide +kernel
theorem dX9_newFrame_174 : decode cX9_newFrame 174 = .ok (.iadd, 1) := by decide +kernel
theorem dX9_newFrame_175 : decode cX9_newFrame 175 = .ok (.putfield 388, 3) := by decide +kernel
theorem dX9_newFrame_178 : decode cX9_newFrame 178 = .ok (.aload_n 0, 1) := by decide +kernel
theorem dX9_newFrame_179 : decode cX9_newFrame 179 = .ok (.dup, 1) := by decide +kernel
theorem dX9_newFrame_180 : decode cX9_newFrame 180 = .ok (.getfield 391, 3) := by decide +kernel
theorem dX9_newFrame_183 : decode cX9_newFrame 183 = .ok (.aload_n 0, 1) := by decide +kernel
theorem dX9_newFrame_184 : decode cX9_newFrame 184 = .ok (.getfield 107, 3) := by decide +kernel
theorem dX9_newFrame_187 : decode cX9_newFrame 187 = .ok (.iload_n 1, 1) := by decide +kernel
theorem dX9_newFrame_188 : decode cX9_newFrame 188 = .ok (.iaload, 1) := by decide +kernel
theorem dX9_newFrame_189 : decode cX9_newFrame 189 = .ok (.iadd, 1) := by decide +kernel
theorem dX9_newFrame_190 : decode cX9_newFrame 190 = .ok (.putfield 391, 3) := by decide +kernel
theorem dX9_newFrame_193 : decode cX9_newFrame 193 = .ok (.aload_n 0, 1) := by decide +kernel
theorem dX9_newFrame_194 : decode cX9_newFrame 194 = .ok (.aload_n 0, 1) := by decide +kernel
theorem dX9_newFrame_195 : decode cX9_newFrame 195 = .ok (.getfield 394, 3) := by decide +kernel
theorem dX9_newFrame_198 : decode cX9_newFrame 198 = .ok (.aload_n 0, 1) := by decide +kernel
theorem dX9_newFrame_199 : decode cX9_newFrame 199 = .ok (.getfield 361, 3) := by decide +kernel
theorem dX9_newFrame_202 : decode cX9_newFrame 202 = .ok (.invokestatic 331, 3) := by decide +kernel
theorem dX9_newFrame_205 : decode cX9_newFrame 205 = .ok (.putfield 394, 3) := by decide +kernel
theorem dX9_newFrame_208 : decode cX9_newFrame 208 = .ok (.aload_n 0, 1) := by decide +kernel
theorem dX9_newFrame_209 : decode cX9_newFrame 209 = .ok (.aload_n 0, 1) := by decide +kernel
theorem dX9_newFrame_210 : decode cX9_newFrame 210 = .ok (.getfield 397, 3) := by decide +kernel
theorem dX9_newFrame_213 : decode cX9_newFrame 213 = .ok (.aload_n 0, 1) := by decide +kernel
theorem dX9_newFrame_214 : decode cX9_newFrame 214 = .ok (.getfield 364, 3) := by decide +kernel
theorem dX9_newFrame_217 : decode cX9_newFrame 217 = .ok (.invokestatic 331, 3) := by decide +kernel
theorem dX9_newFrame_220 : decode cX9_newFrame 220 = .ok (.putfield 397, 3) := by decide +kernel
theorem dX9_newFrame_223 : decode cX9_newFrame 223 = .ok (.aload_n 0, 1) := by decide +kernel
theorem dX9_newFrame_224 : decode cX9_newFrame 224 = .ok (.dup, 1) := by decide +kernel
theorem dX9_newFrame_225 : decode cX9_newFrame 225 = .ok (.getfield 385, 3) := by decide +kernel
theorem dX9_newFrame_228 : decode cX9_newFrame 228 = .ok (.dup_x1, 1) := by decide +kernel
theorem dX9_newFrame_229 : decode cX9_newFrame 229 = .ok (.iconst 1, 1) := by decide +kernel
theorem dX9_newFrame_230 : decode cX9_newFrame 230 = .ok (.iadd, 1) := by decide +kernel
theorem dX9_newFrame_231 : decode cX9_newFrame 231 = .ok (.putfield 385, 3) := by decide +kernel
theorem dX9_newFrame_234 : decode cX9_newFrame 234 = .ok (.ireturn, 1) := by decide +kernel
set_option maxRecDepth 20000 in
theorem ggX9_walk_X9_finish : GoodIn wsX9_walk wsX9_finish := goodIn_r _ [11, 1, 12, 13, 14, 10, 15, 16, 17, 18, 19, 20, 21, 22, 23, 24, 25, 26, 27, 28, 29, 201, 202, 203, 204, 205, 206, 207, 208, 209, 210, 211, 212, 213, 214, 215, 216, 217, 218, 219, 220, 221, 222, 223, 224, 225, 226, 227, 228, 229, 230, 231, 232, 233, 234, 235, 236, 237, 238, 239, 240, 241, 242, 243, 244, 245, 246, 247, 248, 249, 250, 251, 252, 253, 254, 255, 256, 257, 258, 259, 260] (by decide +kernel) (by decide +kernel)
set_option maxRecDepth 20000 in
theorem gX9_walk_X9_finish : GoodIn wsX9_walk (wsV RX9 400 RX9 yX9_finish wsX9_finish) := goodIn_app (goodIn_of _ (by decide +kernel)) ggX9_walk_X9_finish
set_option maxRecDepth 20000 in
theorem ggX9_walk_X9_use : GoodIn wsX9_walk wsX9_use := goodIn_r _ [33, 5, 4, 1, 6, 34, 35, 36, 10, 37, 38, 39, 40, 41, 42, 43, 44, 45, 46, 47, 48, 7, 8, 9, 11, 12, 13, 14, 15, 16, 17, 18, 19, 20, 21, 22, 23, 24, 25, 26, 27, 28, 29, 49, 50, 51, 52, 53, 54, 55, 56, 57, 58, 59, 60, 61, 62, 63, 64, 65, 66, 67, 68, 69, 70, 71, 72, 2, 73, 74, 75, 76, 77, 78, 79, 80, 201, 202, 203, 204, 205, 206, 207, 208, 209, 210, 211, 212, 213, 214, 215, 216, 217, 218, 219, 220, 221, 222, 223, 224, 225, 226, 227, 228, 229, 230, 231, 232, 233, 234, 235, 236, 237, 238, 239, 240, 241, 242, 243, 244, 245, 246, 247, 248, 249, 250, 251, 252, 253, 254, 255, 256, 257, 258, 259, 260] (by decide +kernel) (by decide +kernel)
set_option maxRecDepth 20000 in
theorem gX9_walk_X9_use : GoodIn wsX9_walk (wsV RX9 403 RX9 yX9_use wsX9_use) := goodIn_app (goodIn_of _ (by decide +kernel)) ggX9_walk_X9_use
set_option maxRecDepth 20000 in
theorem ggX9_walk_X9_reckonNode : GoodIn wsX9_walk wsX9_reckonNode := goodIn_r _ [84, 3, 85, 86, 6, 87, 67, 68, 69, 10, 70, 71, 72, 2, 1, 17, 73, 74, 75, 76, 77, 78, 79, 80, 18, 19, 20, 21, 22, 23, 24, 25, 26, 27, 28, 29, 88, 89, 90, 91, 16, 49, 50, 51, 52, 53, 5, 4, 54, 55, 56, 57, 58, 59, 60, 61, 38, 43, 62, 63, 64, 65, 66, 39, 40, 41, 42, 92, 93, 94, 7, 8, 9, 11, 12, 13, 14, 15, 95, 96, 97, 201, 202, 203, 204, 205, 206, 207, 208, 209, 210, 211, 212, 213, 214, 215, 216, 217, 218, 219, 220, 221, 222, 223, 224, 225, 226, 227, 228, 229, 230, 231, 232, 233, 234, 235, 236, 237, 238, 239, 240, 241, 242, 243, 244, 245, 246, 247, 248, 249, 250, 251, 252, 253, 254, 255, 256, 257, 258, 259, 260] (by decide +kernel) (by decide +kernel)
set_option maxRecDepth 20000 in
theorem gX9_walk_X9_reckonNode : GoodIn wsX9_walk (wsV RX9 407 RX9 yX9_reckonNode wsX9_reckonNode) := goodIn_app (goodIn_of _ (by decide +kernel)) ggX9_walk_X9_reckonNode
set_option maxRecDepth 20000 in
theorem ggX9_walk_X9_call : GoodIn wsX9_walk wsX9_call := goodIn_r _ [101, 85, 1, 67, 68, 69, 10, 70, 71, 72, 2, 17, 73, 74, 75, 76, 77, 78, 79, 80, 18, 19, 20, 21, 22, 23, 24, 25, 26, 27, 28, 29, 102, 103, 104, 105, 5, 4, 6, 106, 107, 53, 108, 16, 109, 34, 35, 36, 37, 38, 39, 40, 41, 42, 43, 49, 50, 51, 52, 54, 55, 56, 57, 58, 59, 60, 61, 62, 63, 64, 65, 66, 44, 45, 46, 47, 48, 110, 111, 112, 113, 86, 114, 115, 116, 117, 118, 119, 120, 121, 122, 123, 124, 125, 126, 127, 128, 129, 130, 131, 132, 133, 134, 135, 87, 136, 137, 138, 139, 140, 12, 13, 14, 15, 201, 202, 203, 204, 205, 206, 207, 208, 209, 210, 211, 212, 213, 214, 215, 216, 217, 218, 219, 220, 221, 222, 223, 224, 225, 226, 227, 228, 229, 230, 231, 232, 233, 234, 235, 236, 237, 238, 239, 240, 241, 242, 243, 244, 245, 246, 247, 248, 249, 250, 251, 252, 253, 254, 255, 256, 257, 258, 259, 260] (by decide +kernel) (by decide +kernel)
set_option maxRecDepth 20000 in
theorem gX9_walk_X9_call : GoodIn wsX9_walk (wsV RX9 410 RX9 yX9_call wsX9_call) := goodIn_app (goodIn_of _ (by decide +kernel)) ggX9_walk_X9_call
set_option maxRecDepth 20000 in
theorem ggX9_walk_X9_argument : GoodIn wsX9_walk wsX9_argument := goodIn_r _ [144, 145, 3, 85, 86, 1, 146, 147, 148, 10, 149, 4, 120, 150, 151, 152, 153, 154, 34, 35, 36, 37, 38, 39, 40, 41, 42, 43, 44, 45, 46, 47, 48, 12, 13, 14, 15, 16, 17, 18, 19, 20, 21, 22, 23, 24, 25, 26, 27, 28, 29, 67, 68, 69, 70, 71, 72, 2, 73, 74, 75, 76, 77, 78, 79, 80, 201, 202, 203, 204, 205, 206, 207, 208, 209, 210, 211, 212, 213, 214, 215, 216, 217, 218, 219, 220, 221, 222, 223, 224, 225, 226, 227, 228, 229, 230, 231, 232, 233, 234, 235, 236, 237, 238, 239, 240, 241, 242, 243, 244, 245, 246, 247, 248, 249, 250, 251, 252, 253, 254, 255, 256, 257, 258, 259, 260] (by decide +kernel) (by decide +kernel)
set_option maxRecDepth 20000 in
theorem gX9_walk_X9_argument : GoodIn wsX9_walk (wsV RX9 413 RX9 yX9_argument wsX9_argument) := goodIn_app (goodIn_of _ (by decide +kernel)) ggX9_walk_X9_argument
set_option maxRecDepth 20000 in
theorem ggX9_walk_X9_whatIs : GoodIn wsX9_walk wsX9_whatIs := goodIn_r _ [37, 38, 39, 40, 41, 10, 42, 43, 201, 202, 203, 204, 205, 206, 207, 208, 209, 210, 211, 212, 213, 214, 215, 216, 217, 218, 219, 220, 221, 222, 223, 224, 225, 226, 227, 228, 229, 230, 231, 232, 233, 234, 235, 236, 237, 238, 239, 240, 241, 242, 243, 244, 245, 246, 247, 248, 249, 250, 251, 252, 253, 254, 255, 256, 257, 258, 259, 260] (by decide +kernel) (by decide +kernel)
set_option maxRecDepth 20000 in
theorem gX9_walk_X9_whatIs : GoodIn wsX9_walk (wsV RX9 153 RX9 yX9_whatIs wsX9_whatIs) := goodIn_app (goodIn_of _ (by decide +kernel)) ggX9_walk_X9_whatIs
set_option maxRecDepth 20000 in
theorem ggX9_walk_X9_sizeIs : GoodIn wsX9_walk wsX9_sizeIs := goodIn_r _ [47, 48, 39, 40, 41, 10, 42, 38, 43, 201, 202, 203, 204, 205, 206, 207, 208, 209, 210, 211, 212, 213, 214, 215, 216, 217, 218, 219, 220, 221, 222, 223, 224, 225, 226, 227, 228, 229, 230, 231, 232, 233, 234, 235, 236, 237, 238, 239, 240, 241, 242, 243, 244, 245, 246, 247, 248, 249, 250, 251, 252, 253, 254, 255, 256, 257, 258, 259, 260] (by decide +kernel) (by decide +kernel)
set_option maxRecDepth 20000 in
theorem gX9_walk_X9_sizeIs : GoodIn wsX9_walk (wsV RX9 156 RX9 yX9_sizeIs wsX9_sizeIs) := goodIn_app (goodIn_of _ (by decide +kernel)) ggX9_walk_X9_sizeIs
set_option maxRecDepth 20000 in
theorem ggX9_walk_X9_frameOf : GoodIn wsX9_walk wsX9_frameOf := goodIn_r _ [57, 5, 4, 53, 58, 59, 60, 10, 61, 38, 43, 201, 202, 203, 204, 205, 206, 207, 208, 209, 210, 211, 212, 213, 214, 215, 216, 217, 218, 219, 220, 221, 222, 223, 224, 225, 226, 227, 228, 229, 230, 231, 232, 233, 234, 235, 236, 237, 238, 239, 240, 241, 242, 243, 244, 245, 246, 247, 248, 249, 250, 251, 252, 253, 254, 255, 256, 257, 258, 259, 260] (by decide +kernel) (by decide +kernel)
set_option maxRecDepth 20000 in
theorem gX9_walk_X9_frameOf : GoodIn wsX9_walk (wsV RX9 382 RX9 yX9_frameOf wsX9_frameOf) := goodIn_app (goodIn_of _ (by decide +kernel)) ggX9_walk_X9_frameOf
set_option maxRecDepth 20000 in
theorem ggX9_walk_X9_slot : GoodIn wsX9_walk wsX9_slot := goodIn_r _ [52, 53, 5, 4, 54, 55, 56, 10, 57, 58, 59, 60, 61, 38, 43, 62, 63, 64, 65, 66, 39, 40, 41, 42, 201, 202, 203, 204, 205, 206, 207, 208, 209, 210, 211, 212, 213, 214, 215, 216, 217, 218, 219, 220, 221, 222, 223, 224, 225, 226, 227, 228, 229, 230, 231, 232, 233, 234, 235, 236, 237, 238, 239, 240, 241, 242, 243, 244, 245, 246, 247, 248, 249, 250, 251, 252, 253, 254, 255, 256, 257, 258, 259, 260] (by decide +kernel) (by decide +kernel)
set_option maxRecDepth 20000 in
theorem gX9_walk_X9_slot : GoodIn wsX9_walk (wsV RX9 416 RX9 yX9_slot wsX9_slot) := goodIn_app (goodIn_of _ (by decide +kernel)) ggX9_walk_X9_slot
set_option maxRecDepth 20000 in
theorem ggX9_walk_X9_copyOf : GoodIn wsX9_walk wsX9_copyOf := goodIn_r _ [158, 87, 6, 26, 27, 28, 29, 132, 133, 134, 10, 135, 136, 18, 19, 20, 21, 22, 23, 24, 25, 127, 128, 129, 130, 131, 201, 202, 203, 204, 205, 206, 207, 208, 209, 210, 211, 212, 213, 214, 215, 216, 217, 218, 219, 220, 221, 222, 223, 224, 225, 226, 227, 228, 229, 230, 231, 232, 233, 234, 235, 236, 237, 238, 239, 240, 241, 242, 243, 244, 245, 246, 247, 248, 249, 250, 251, 252, 253, 254, 255, 256, 257, 258, 259, 260] (by decide +kernel) (by decide +kernel)
set_option maxRecDepth 20000 in
theorem gX9_walk_X9_copyOf : GoodIn wsX9_walk (wsV RX9 419 RX9 yX9_copyOf wsX9_copyOf) := goodIn_app (goodIn_of _ (by decide +kernel)) ggX9_walk_X9_copyOf
set_option maxRecDepth 20000 in
theorem ggX9_walk_X9_leave : GoodIn wsX9_walk wsX9_leave := goodIn_r _ [162, 4, 5, 53, 43, 1, 2, 3, 163, 164, 165, 10, 166, 145, 167, 168, 169, 170, 171, 172, 173, 174, 175, 150, 151, 152, 153, 154, 75, 76, 77, 78, 79, 80, 137, 138, 139, 140, 17, 73, 74, 201, 202, 203, 204, 205, 206, 207, 208, 209, 210, 211, 212, 213, 214, 215, 216, 217, 218, 219, 220, 221, 222, 223, 224, 225, 226, 227, 228, 229, 230, 231, 232, 233, 234, 235, 236, 237, 238, 239, 240, 241, 242, 243, 244, 245, 246, 247, 248, 249, 250, 251, 252, 253, 254, 255, 256, 257, 258, 259, 260] (by decide +kernel) (by decide +kernel)
set_option maxRecDepth 20000 in
theorem gX9_walk_X9_leave : GoodIn wsX9_walk (wsV RX9 422 RX9 yX9_leave wsX9_leave) := goodIn_app (goodIn_of _ (by decide +kernel)) ggX9_walk_X9_leave
set_option maxRecDepth 20000 in
theorem ggX9_walk_X9_state : GoodIn wsX9_walk wsX9_state := goodIn_r _ [179, 85, 180, 3, 86, 5, 4, 6, 17, 79, 1, 67, 68, 69, 10, 70, 71, 72, 2, 73, 74, 75, 76, 77, 78, 80, 18, 19, 20, 21, 22, 23, 24, 25, 26, 27, 28, 29, 49, 50, 51, 52, 53, 54, 55, 56, 57, 58, 59, 60, 61, 38, 43, 62, 63, 64, 65, 66, 39, 40, 41, 42, 34, 35, 36, 37, 88, 89, 90, 91, 16, 181, 182, 183, 184, 87, 92, 93, 94, 185, 186, 187, 188, 189, 190, 191, 192, 193, 137, 138, 139, 140, 12, 13, 14, 15, 194, 195, 196, 197, 198, 199, 200, 201, 202, 203, 204, 205, 206, 207, 208, 209, 210, 211, 212, 213, 214, 215, 216, 217, 218, 219, 220, 221, 222, 223, 224, 225, 226, 227, 228, 229, 230, 231, 232, 233, 234, 235, 236, 237, 238, 239, 240, 241, 242, 243, 244, 245, 246, 247, 248, 249, 250, 251, 252, 253, 254, 255, 256, 257, 258, 259, 260] (by decide +kernel) (by decide +kernel)
set_option maxRecDepth 20000 in
theorem gX9_walk_X9_state : GoodIn wsX9_walk (wsV RX9 425 RX9 yX9_state wsX9_state) := goodIn_app (goodIn_of _ (by decide +kernel)) ggX9_walk_X9_state
theorem dX9_walk_0 : decode cX9_walk 0 = .ok (.bipush 7, 2) := by decide +kernel
theorem dX9_walk_2 : decode cX9_walk 2 = .ok (.aload_n 0, 1) := by decide +kernel
theorem dX9_walk_3 : decode cX9_walk 3 = .ok (.getfield 358, 3) := by decide +kernel
theorem dX9_walk_6 : decode cX9_walk 6 = .ok (.iconst 1, 1) := by decide +kernel
theorem dX9_walk_7 : decode cX9_walk 7 = .ok (.isub, 1) := by decide +kernel
theorem dX9_walk_8 : decode cX9_walk 8 = .ok (.imul, 1) := by decide +kernel
theorem dX9_walk_9 : decode cX9_walk 9 = .ok (.istore_n 1, 1) := by decide +kernel
theorem dX9_walk_10 : decode cX9_walk 10 = .ok (.aload_n 0, 1) := by decide +kernel
theorem dX9_walk_11 : decode cX9_walk 11 = .ok (.getfield 86, 3) := by decide +kernel
theorem dX9_walk_14 : decode cX9_walk 14 = .ok (.iload_n 1, 1) := by decide +kernel
theorem dX9_walk_15 : decode cX9_walk 15 = .ok (.iaload, 1) := by decide +kernel
theorem dX9_walk_16 : decode cX9_walk 16 = .ok (.istore_n 2, 1) := by decide +kernel
theorem dX9_walk_17 : decode cX9_walk 17 = .ok (.aload_n 0, 1) := by decide +kernel
theorem dX9_walk_18 : decode cX9_walk 18 = .ok (.getfield 86, 3) := by decide +kernel
theorem dX9_walk_21 : decode cX9_walk 21 = .ok (.iload_n 1, 1) := by decide +kernel
theorem dX9_walk_22 : decode cX9_walk 22 = .ok (.iconst 1, 1) := by decide +kernel
theorem dX9_walk_23 : decode cX9_walk 23 = .ok (.iadd, 1) := by decide +kernel
theorem dX9_walk_24 : decode cX9_walk 24 = .ok (.dup2, 1) := by decide +kernel
theorem dX9_walk_25 : decode cX9_walk 25 = .ok (.iaload, 1) := by decide +kernel
theorem dX9_walk_26 : decode cX9_walk 26 = .ok (.dup_x2, 1) := by decide +kernel
theorem dX9_walk_27 : decode cX9_walk 27 = .ok (.iconst 1, 1) := by decide +kernel
theorem dX9_walk_28 : decode cX9_walk 28 = .ok (.iadd, 1) := by decide +kernel
theorem dX9_walk_29 : decode cX9_walk 29 = .ok (.iastore, 1) := by decide +kernel
theorem dX9_walk_30 : decode cX9_walk 30 = .ok (.istore_n 3, 1) := by decide +kernel
theorem dX9_walk_31 : decode cX9_walk 31 = .ok (.aload_n 0, 1) := by decide +kernel
theorem dX9_walk_32 : decode cX9_walk 32 = .ok (.getfield 86, 3) := by decide +kernel
theorem dX9_walk_35 : decode cX9_walk 35 = .ok (.iload_n 1, 1) := by decide +kernel
theorem dX9_walk_36 : decode cX9_walk 36 = .ok (.iconst 2, 1) := by decide +kernel
theorem dX9_walk_37 : decode cX9_walk 37 = .ok (.iadd, 1) := by decide +kernel
theorem dX9_walk_38 : decode cX9_walk 38 = .ok (.iaload, 1) := by decide +kernel
theorem dX9_walk_39 : decode cX9_walk 39 = .ok (.istore 4, 2) := by decide +kernel
theorem dX9_walk_41 : decode cX9_walk 41 = .ok (.aload_n 0, 1) := by decide +kernel
theorem dX9_walk_42 : decode cX9_walk 42 = .ok (.getfield 86, 3) := by decide +kernel
theorem dX9_walk_45 : decode cX9_walk 45 = .ok (.iload_n 1, 1) := by decide +kernel
theorem dX9_walk_46 : decode cX9_walk 46 = .ok (.iconst 3, 1) := by decide +kernel
theorem dX9_walk_47 : decode cX9_walk 47 = .ok (.iadd, 1) := by decide +kernel
theorem dX9_walk_48 : decode cX9_walk 48 = .ok (.iaload, 1) := by decide +kernel
theorem dX9_walk_49 : decode cX9_walk 49 = .ok (.istore 5, 2) := by decide +kernel
theorem dX9_walk_51 : decode cX9_walk 51 = .ok (.aload_n 0, 1) := by decide +kernel
theorem dX9_walk_52 : decode cX9_walk 52 = .ok (.getfield 47, 3) := by decide +kernel
theorem dX9_walk_55 : decode cX9_walk 55 = .ok (.iload_n 2, 1) := by decide +kernel
theorem dX9_walk_56 : decode cX9_walk 56 = .ok (.iaload, 1) := by decide +kernel
theorem dX9_walk_57 : decode cX9_walk 57 = .ok (.tableswitch 270 0 17 #[87, 100, 113, 113, 113, 113, 113, 113, 126, 139, 152, 222, 270, 270, 270, 270, 270, 260], 87) := by decide +kernel
theorem dX9_walk_144 : decode cX9_walk 144 = .ok (.aload_n 0, 1) := by decide +kernel
theorem dX9_walk_145 : decode cX9_walk 145 = .ok (.aload_n 0, 1) := by decide +kernel
theorem dX9_walk_146 : decode cX9_walk 146 = .ok (.getfield 50, 3) := by decide +kernel
theorem dX9_walk_149 : decode cX9_walk 149 = .ok (.iload_n 2, 1) := by decide +kernel
theorem dX9_walk_150 : decode cX9_walk 150 = .ok (.iaload, 1) := by decide +kernel
theorem dX9_walk_151 : decode cX9_walk 151 = .ok (.invokevirtual 400, 3) := by decide +kernel
theorem dX9_walk_154 : decode cX9_walk 154 = .ok (.goto 181, 3) := by decide +kernel
theorem dX9_walk_157 : decode cX9_walk 157 = .ok (.aload_n 0, 1) := by decide +kernel
theorem dX9_walk_158 : decode cX9_walk 158 = .ok (.iload_n 2, 1) := by decide +kernel
theorem dX9_walk_159 : decode cX9_walk 159 = .ok (.iload_n 3, 1) := by decide +kernel
theorem dX9_walk_160 : decode cX9_walk 160 = .ok (.iload 4, 2) := by decide +kernel
theorem dX9_walk_162 : decode cX9_walk 162 = .ok (.iload 5, 2) := by decide +kernel
theorem dX9_walk_164 : decode cX9_walk 164 = .ok (.invokevirtual 403, 3) := by decide +kernel
theorem dX9_walk_167 : decode cX9_walk 167 = .ok (.goto 168, 3) := by decide +kernel
theorem dX9_walk_170 : decode cX9_walk 170 = .ok (.aload_n 0, 1) := by decide +kernel
theorem dX9_walk_171 : decode cX9_walk 171 = .ok (.iload_n 2, 1) := by decide +kernel
theorem dX9_walk_172 : decode cX9_walk 172 = .ok (.iload_n 3, 1) := by decide +kernel
theorem dX9_walk_173 : decode cX9_walk 173 = .ok (.iload 4, 2) := by decide +kernel
theorem dX9_walk_175 : decode cX9_walk 175 = .ok (.iload 5, 2) := by decide +kernel
theorem dX9_walk_177 : decode cX9_walk 177 = .ok (.invokevirtual 407, 3) := by decide +kernel
theorem dX9_walk_180 : decode cX9_walk 180 = .ok (.goto 155, 3) := by decide +kernel
theorem dX9_walk_183 : decode cX9_walk 183 = .ok (.aload_n 0, 1) := by decide +kernel
theorem dX9_walk_184 : decode cX9_walk 184 = .ok (.iload_n 2, 1) := by decide +kernel
theorem dX9_walk_185 : decode cX9_walk 185 = .ok (.iload_n 3, 1) := by decide +kernel
theorem dX9_walk_186 : decode cX9_walk 186 = .ok (.iload 4, 2) := by decide +kernel
theorem dX9_walk_188 : decode cX9_walk 188 = .ok (.iload 5, 2) := by decide +kernel
theorem dX9_walk_190 : decode cX9_walk 190 = .ok (.invokevirtual 410, 3) := by decide +kernel
theorem dX9_walk_193 : decode cX9_walk 193 = .ok (.goto 142, 3) := by decide +kernel
theorem dX9_walk_196 : decode cX9_walk 196 = .ok (.aload_n 0, 1) := by decide +kernel
theorem dX9_walk_197 : decode cX9_walk 197 = .ok (.iload_n 2, 1) := by decide +kernel
theorem dX9_walk_198 : decode cX9_walk 198 = .ok (.iload_n 3, 1) := by decide +kernel
theorem dX9_walk_199 : decode cX9_walk 199 = .ok (.iload 4, 2) := by decide +kernel
theorem dX9_walk_201 : decode cX9_walk 201 = .ok (.iload 5, 2) := by decide +kernel
theorem dX9_walk_203 : decode cX9_walk 203 = .ok (.invokevirtual 413, 3) := by decide +kernel
theorem dX9_walk_206 : decode cX9_walk 206 = .ok (.goto 129, 3) := by decide +kernel
theorem dX9_walk_209 : decode cX9_walk 209 = .ok (.aload_n 0, 1) := by decide +kernel
theorem dX9_walk_210 : decode cX9_walk 210 = .ok (.aload_n 0, 1) := by decide +kernel
theorem dX9_walk_211 : decode cX9_walk 211 = .ok (.aload_n 0, 1) := by decide +kernel
theorem dX9_walk_212 : decode cX9_walk 212 = .ok (.getfield 104, 3) := by decide +kernel
theorem dX9_walk_215 : decode cX9_walk 215 = .ok (.iload_n 2, 1) := by decide +kernel
theorem dX9_walk_216 : decode cX9_walk 216 = .ok (.iaload, 1) := by decide +kernel
theorem dX9_walk_217 : decode cX9_walk 217 = .ok (.aload_n 0, 1) := by decide +kernel
theorem dX9_walk_218 : decode cX9_walk 218 = .ok (.getfield 50, 3) := by decide +kernel
theorem dX9_walk_221 : decode cX9_walk 221 = .ok (.iload_n 2, 1) := by decide +kernel
theorem dX9_walk_222 : decode cX9_walk 222 = .ok (.iaload, 1) := by decide +kernel
theorem dX9_walk_223 : decode cX9_walk 223 = .ok (.invokevirtual 153, 3) := by decide +kernel
theorem dX9_walk_226 : decode cX9_walk 226 = .ok (.bipush 10, 2) := by decide +kernel
theorem dX9_walk_228 : decode cX9_walk 228 = .ok (.if_icmp .ne 33, 3) := by decide +kernel
theorem dX9_walk_231 : decode cX9_walk 231 = .ok (.aload_n 0, 1) := by decide +kernel
theorem dX9_walk_232 : decode cX9_walk 232 = .ok (.aload_n 0, 1) := by decide +kernel
theorem dX9_walk_233 : decode cX9_walk 233 = .ok (.getfield 104, 3) := by decide +kernel
theorem dX9_walk_236 : decode cX9_walk 236 = .ok (.iload_n 2, 1) := by decide +kernel
theorem dX9_walk_237 : decode cX9_walk 237 = .ok (.iaload, 1) := by decide +kernel
theorem dX9_walk_238 : decode cX9_walk 238 = .ok (.aload_n 0, 1) := by decide +kernel
theorem dX9_walk_239 : decode cX9_walk 239 = .ok (.getfield 50, 3) := by decide +kernel
theorem dX9_walk_242 : decode cX9_walk 242 = .ok (.iload_n 2, 1) := by decide +kernel
theorem dX9_walk_243 : decode cX9_walk 243 = .ok (.iaload, 1) := by decide +kernel
theorem dX9_walk_244 : decode cX9_walk 244 = .ok (.invokevirtual 156, 3) := by decide +kernel
theorem dX9_walk_247 : decode cX9_walk 247 = .ok (.bipush 16, 2) := by decide +kernel
theorem dX9_walk_249 : decode cX9_walk 249 = .ok (.aload_n 0, 1) := by decide +kernel
theorem dX9_walk_250 : decode cX9_walk 250 = .ok (.iload_n 2, 1) := by decide +kernel
theorem dX9_walk_251 : decode cX9_walk 251 = .ok (.iload 4, 2) := by decide +kernel
theorem dX9_walk_253 : decode cX9_walk 253 = .ok (.invokevirtual 382, 3) := by decide +kernel
theorem dX9_walk_256 : decode cX9_walk 256 = .ok (.imul, 1) := by decide +kernel
theorem dX9_walk_257 : decode cX9_walk 257 = .ok (.iadd, 1) := by decide +kernel
theorem dX9_walk_258 : decode cX9_walk 258 = .ok (.goto 15, 3) := by decide +kernel
theorem dX9_walk_261 : decode cX9_walk 261 = .ok (.aload_n 0, 1) := by decide +kernel
theorem dX9_walk_262 : decode cX9_walk 262 = .ok (.getfield 92, 3) := by decide +kernel
theorem dX9_walk_265 : decode cX9_walk 265 = .ok (.aload_n 0, 1) := by decide +kernel
theorem dX9_walk_266 : decode cX9_walk 266 = .ok (.iload_n 2, 1) := by decide +kernel
theorem dX9_walk_267 : decode cX9_walk 267 = .ok (.iload 4, 2) := by decide +kernel
theorem dX9_walk_269 : decode cX9_walk 269 = .ok (.invokevirtual 416, 3) := by decide +kernel
theorem dX9_walk_272 : decode cX9_walk 272 = .ok (.iaload, 1) := by decide +kernel
theorem dX9_walk_273 : decode cX9_walk 273 = .ok (.invokevirtual 400, 3) := by decide +kernel
theorem dX9_walk_276 : decode cX9_walk 276 = .ok (.goto 59, 3) := by decide +kernel
theorem dX9_walk_279 : decode cX9_walk 279 = .ok (.aload_n 0, 1) := by decide +kernel
theorem dX9_walk_280 : decode cX9_walk 280 = .ok (.getfield 92, 3) := by decide +kernel
theorem dX9_walk_283 : decode cX9_walk 283 = .ok (.aload_n 0, 1) := by decide +kernel
theorem dX9_walk_284 : decode cX9_walk 284 = .ok (.iload_n 2, 1) := by decide +kernel
theorem dX9_walk_285 : decode cX9_walk 285 = .ok (.iload 4, 2) := by decide +kernel
theorem dX9_walk_287 : decode cX9_walk 287 = .ok (.invokevirtual 416, 3) := by decide +kernel
theorem dX9_walk_290 : decode cX9_walk 290 = .ok (.iaload, 1) := by decide +kernel
theorem dX9_walk_291 : decode cX9_walk 291 = .ok (.istore 6, 2) := by decide +kernel
theorem dX9_walk_293 : decode cX9_walk 293 = .ok (.aload_n 0, 1) := by decide +kernel
theorem dX9_walk_294 : decode cX9_walk 294 = .ok (.iload 5, 2) := by decide +kernel
theorem dX9_walk_296 : decode cX9_walk 296 = .ok (.iconst 1, 1) := by decide +kernel
theorem dX9_walk_297 : decode cX9_walk 297 = .ok (.if_icmp .ne 12, 3) := by decide +kernel
theorem dX9_walk_300 : decode cX9_walk 300 = .ok (.aload_n 0, 1) := by decide +kernel
theorem dX9_walk_301 : decode cX9_walk 301 = .ok (.iload 6, 2) := by decide +kernel
theorem dX9_walk_303 : decode cX9_walk 303 = .ok (.invokevirtual 419, 3) := by decide +kernel
theorem dX9_walk_306 : decode cX9_walk 306 = .ok (.goto 5, 3) := by decide +kernel
theorem dX9_walk_309 : decode cX9_walk 309 = .ok (.iload 6, 2) := by decide +kernel
theorem dX9_walk_311 : decode cX9_walk 311 = .ok (.invokevirtual 400, 3) := by decide +kernel
theorem dX9_walk_314 : decode cX9_walk 314 = .ok (.goto 21, 3) := by decide +kernel
theorem dX9_walk_317 : decode cX9_walk 317 = .ok (.aload_n 0, 1) := by decide +kernel
theorem dX9_walk_318 : decode cX9_walk 318 = .ok (.iload_n 2, 1) := by decide +kernel
theorem dX9_walk_319 : decode cX9_walk 319 = .ok (.iload 4, 2) := by decide +kernel
theorem dX9_walk_321 : decode cX9_walk 321 = .ok (.invokevirtual 422, 3) := by decide +kernel
theorem dX9_walk_324 : decode cX9_walk 324 = .ok (.goto 11, 3) := by decide +kernel
theorem dX9_walk_327 : decode cX9_walk 327 = .ok (.aload_n 0, 1) := by decide +kernel
theorem dX9_walk_328 : decode cX9_walk 328 = .ok (.iload_n 2, 1) := by decide +kernel
theorem dX9_walk_329 : decode cX9_walk 329 = .ok (.iload_n 3, 1) := by decide +kernel
theorem dX9_walk_330 : decode cX9_walk 330 = .ok (.iload 4, 2) := by decide +kernel
theorem dX9_walk_332 : decode cX9_walk 332 = .ok (.invokevirtual 425, 3) := by decide +kernel
theorem dX9_walk_335 : decode cX9_walk 335 = .ok (.return_, 1) := by decide +kernel
set_option maxRecDepth 20000 in
theorem ggX9_use_X9_whatIs : GoodIn wsX9_use wsX9_whatIs := goodIn_r _ [9, 10, 11, 12, 13, 8, 14, 15, 76, 77, 78, 79, 80, 81, 82, 83, 84, 85, 86, 87, 88, 89, 90, 91, 92, 93, 94, 95, 96, 97, 98, 99, 100, 101, 102, 103, 104, 105, 106, 107, 108, 109, 110, 111, 112, 113, 114, 115, 116, 117, 118, 119, 120, 121, 122, 123, 124, 125, 126, 127, 128, 129, 130, 131, 132, 133, 134, 135] (by decide +kernel) (by decide +kernel)
set_option maxRecDepth 20000 in
theorem gX9_use_X9_whatIs : GoodIn wsX9_use (wsV RX9 153 RX9 yX9_whatIs wsX9_whatIs) := goodIn_app (goodIn_of _ (by decide +kernel)) ggX9_use_X9_whatIs
set_option maxRecDepth 20000 in
theorem ggX9_use_X9_sizeIs : GoodIn wsX9_use wsX9_sizeIs := goodIn_r _ [19, 20, 11, 12, 13, 8, 14, 10, 15, 76, 77, 78, 79, 80, 81, 82, 83, 84, 85, 86, 87, 88, 89, 90, 91, 92, 93, 94, 95, 96, 97, 98, 99, 100, 101, 102, 103, 104, 105, 106, 107, 108, 109, 110, 111, 112, 113, 114, 115, 116, 117, 118, 119, 120, 121, 122, 123, 124, 125, 126, 127, 128, 129, 130, 131, 132, 133, 134, 135] (by decide +kernel) (by decide +kernel)
set_option maxRecDepth 20000 in
theorem gX9_use_X9_sizeIs : GoodIn wsX9_use (wsV RX9 156 RX9 yX9_sizeIs wsX9_sizeIs) := goodIn_app (goodIn_of _ (by decide +kernel)) ggX9_use_X9_sizeIs
set_option maxRecDepth 20000 in
theorem ggX9_use_X9_finish : GoodIn wsX9_use wsX9_finish := goodIn_r _ [24, 3, 25, 26, 27, 8, 28, 29, 30, 31, 32, 33, 34, 35, 36, 37, 38, 39, 40, 41, 42, 76, 77, 78, 79, 80, 81, 82, 83, 84, 85, 86, 87, 88, 89, 90, 91, 92, 93, 94, 95, 96, 97, 98, 99, 100, 101, 102, 103, 104, 105, 106, 107, 108, 109, 110, 111, 112, 113, 114, 115, 116, 117, 118, 119, 120, 121, 122, 123, 124, 125, 126, 127, 128, 129, 130, 131, 132, 133, 134, 135] (by decide +kernel) (by decide +kernel)
set_option maxRecDepth 20000 in
theorem gX9_use_X9_finish : GoodIn wsX9_use (wsV RX9 400 RX9 yX9_finish wsX9_finish) := goodIn_app (goodIn_of _ (by decide +kernel)) ggX9_use_X9_finish
set_option maxRecDepth 20000 in
theorem ggX9_use_X9_slot : GoodIn wsX9_use wsX9_slot := goodIn_r _ [46, 47, 1, 2, 48, 49, 50, 8, 51, 52, 53, 54, 55, 10, 15, 56, 57, 58, 59, 60, 11, 12, 13, 14, 76, 77, 78, 79, 80, 81, 82, 83, 84, 85, 86, 87, 88, 89, 90, 91, 92, 93, 94, 95, 96, 97, 98, 99, 100, 101, 102, 103, 104, 105, 106, 107, 108, 109, 110, 111, 112, 113, 114, 115, 116, 117, 118, 119, 120, 121, 122, 123, 124, 125, 126, 127, 128, 129, 130, 131, 132, 133, 134, 135] (by decide +kernel) (by decide +kernel)
set_option maxRecDepth 20000 in
theorem gX9_use_X9_slot : GoodIn wsX9_use (wsV RX9 416 RX9 yX9_slot wsX9_slot) := goodIn_app (goodIn_of _ (by decide +kernel)) ggX9_use_X9_slot
set_option maxRecDepth 20000 in
theorem ggX9_use_X9_begin : GoodIn wsX9_use wsX9_begin := goodIn_r _ [64, 65, 66, 67, 3, 30, 68, 69, 70, 71, 72, 8, 73, 74, 75, 31, 32, 33, 34, 35, 36, 37, 38, 39, 40, 41, 42, 76, 77, 78, 79, 80, 81, 82, 83, 84, 85, 86, 87, 88, 89, 90, 91, 92, 93, 94, 95, 96, 97, 98, 99, 100, 101, 102, 103, 104, 105, 106, 107, 108, 109, 110, 111, 112, 113, 114, 115, 116, 117, 118, 119, 120, 121, 122, 123, 124, 125, 126, 127, 128, 129, 130, 131, 132, 133, 134, 135] (by decide +kernel) (by decide +kernel)
set_option maxRecDepth 20000 in
theorem gX9_use_X9_begin : GoodIn wsX9_use (wsV RX9 428 RX9 yX9_begin wsX9_begin) := goodIn_app (goodIn_of _ (by decide +kernel)) ggX9_use_X9_begin
theorem dX9_use_0 : decode cX9_use 0 = .ok (.aload_n 0, 1) := by decide +kernel
theorem dX9_use_1 : decode cX9_use 1 = .ok (.aload_n 0, 1) := by decide +kernel
theorem dX9_use_2 : decode cX9_use 2 = .ok (.getfield 104, 3) := by decide +kernel
theorem dX9_use_5 : decode cX9_use 5 = .ok (.iload_n 1, 1) := by decide +kernel
theorem dX9_use_6 : decode cX9_use 6 = .ok (.iaload, 1) := by decide +kernel
theorem dX9_use_7 : decode cX9_use 7 = .ok (.aload_n 0, 1) := by decide +kernel
theorem dX9_use_8 : decode cX9_use 8 = .ok (.getfield 50, 3) := by decide +kernel
theorem dX9_use_11 : decode cX9_use 11 = .ok (.iload_n 1, 1) := by decide +kernel
theorem dX9_use_12 : decode cX9_use 12 = .ok (.iaload, 1) := by decide +kernel
theorem dX9_use_13 : decode cX9_use 13 = .ok (.invokevirtual 153, 3) := by decide +kernel
theorem dX9_use_16 : decode cX9_use 16 = .ok (.istore 5, 2) := by decide +kernel
theorem dX9_use_18 : decode cX9_use 18 = .ok (.iload_n 2, 1) := by decide +kernel
theorem dX9_use_19 : decode cX9_use 19 = .ok (.iconst 1, 1) := by decide +kernel
theorem dX9_use_20 : decode cX9_use 20 = .ok (.if_icmp .ne 16, 3) := by decide +kernel
theorem dX9_use_23 : decode cX9_use 23 = .ok (.aload_n 0, 1) := by decide +kernel
theorem dX9_use_24 : decode cX9_use 24 = .ok (.dup, 1) := by decide +kernel
theorem dX9_use_25 : decode cX9_use 25 = .ok (.getfield 358, 3) := by decide +kernel
theorem dX9_use_28 : decode cX9_use 28 = .ok (.iconst 1, 1) := by decide +kernel
theorem dX9_use_29 : decode cX9_use 29 = .ok (.isub, 1) := by decide +kernel
theorem dX9_use_30 : decode cX9_use 30 = .ok (.putfield 358, 3) := by decide +kernel
theorem dX9_use_33 : decode cX9_use 33 = .ok (.goto 117, 3) := by decide +kernel
theorem dX9_use_36 : decode cX9_use 36 = .ok (.iload 5, 2) := by decide +kernel
theorem dX9_use_38 : decode cX9_use 38 = .ok (.bipush 9, 2) := by decide +kernel
theorem dX9_use_40 : decode cX9_use 40 = .ok (.if_icmp .ne 26, 3) := by decide +kernel
theorem dX9_use_43 : decode cX9_use 43 = .ok (.aload_n 0, 1) := by decide +kernel
theorem dX9_use_44 : decode cX9_use 44 = .ok (.aload_n 0, 1) := by decide +kernel
theorem dX9_use_45 : decode cX9_use 45 = .ok (.aload_n 0, 1) := by decide +kernel
theorem dX9_use_46 : decode cX9_use 46 = .ok (.getfield 104, 3) := by decide +kernel
theorem dX9_use_49 : decode cX9_use 49 = .ok (.iload_n 1, 1) := by decide +kernel
theorem dX9_use_50 : decode cX9_use 50 = .ok (.iaload, 1) := by decide +kernel
theorem dX9_use_51 : decode cX9_use 51 = .ok (.aload_n 0, 1) := by decide +kernel
theorem dX9_use_52 : decode cX9_use 52 = .ok (.getfield 50, 3) := by decide +kernel
theorem dX9_use_55 : decode cX9_use 55 = .ok (.iload_n 1, 1) := by decide +kernel
theorem dX9_use_56 : decode cX9_use 56 = .ok (.iaload, 1) := by decide +kernel
theorem dX9_use_57 : decode cX9_use 57 = .ok (.invokevirtual 156, 3) := by decide +kernel
theorem dX9_use_60 : decode cX9_use 60 = .ok (.invokevirtual 400, 3) := by decide +kernel
theorem dX9_use_63 : decode cX9_use 63 = .ok (.goto 87, 3) := by decide +kernel
theorem dX9_use_66 : decode cX9_use 66 = .ok (.iload 5, 2) := by decide +kernel
theorem dX9_use_68 : decode cX9_use 68 = .ok (.iconst 2, 1) := by decide +kernel
theorem dX9_use_69 : decode cX9_use 69 = .ok (.if_icmp .ne 36, 3) := by decide +kernel
theorem dX9_use_72 : decode cX9_use 72 = .ok (.aload_n 0, 1) := by decide +kernel
theorem dX9_use_73 : decode cX9_use 73 = .ok (.getfield 92, 3) := by decide +kernel
theorem dX9_use_76 : decode cX9_use 76 = .ok (.aload_n 0, 1) := by decide +kernel
theorem dX9_use_77 : decode cX9_use 77 = .ok (.iload_n 1, 1) := by decide +kernel
theorem dX9_use_78 : decode cX9_use 78 = .ok (.iload_n 3, 1) := by decide +kernel
theorem dX9_use_79 : decode cX9_use 79 = .ok (.invokevirtual 416, 3) := by decide +kernel
theorem dX9_use_82 : decode cX9_use 82 = .ok (.iaload, 1) := by decide +kernel
theorem dX9_use_83 : decode cX9_use 83 = .ok (.istore 6, 2) := by decide +kernel
theorem dX9_use_85 : decode cX9_use 85 = .ok (.aload_n 0, 1) := by decide +kernel
theorem dX9_use_86 : decode cX9_use 86 = .ok (.iload 6, 2) := by decide +kernel
theorem dX9_use_88 : decode cX9_use 88 = .ok (.sipush 128, 3) := by decide +kernel
theorem dX9_use_91 : decode cX9_use 91 = .ok (.irem, 1) := by decide +kernel
theorem dX9_use_92 : decode cX9_use 92 = .ok (.iload 6, 2) := by decide +kernel
theorem dX9_use_94 : decode cX9_use 94 = .ok (.sipush 128, 3) := by decide +kernel
theorem dX9_use_97 : decode cX9_use 97 = .ok (.idiv, 1) := by decide +kernel
theorem dX9_use_98 : decode cX9_use 98 = .ok (.iconst 0, 1) := by decide +kernel
theorem dX9_use_99 : decode cX9_use 99 = .ok (.invokevirtual 428, 3) := by decide +kernel
theorem dX9_use_102 : decode cX9_use 102 = .ok (.goto 48, 3) := by decide +kernel
theorem dX9_use_105 : decode cX9_use 105 = .ok (.aload_n 0, 1) := by decide +kernel
theorem dX9_use_106 : decode cX9_use 106 = .ok (.iload_n 1, 1) := by decide +kernel
theorem dX9_use_107 : decode cX9_use 107 = .ok (.iload_n 3, 1) := by decide +kernel
theorem dX9_use_108 : decode cX9_use 108 = .ok (.invokevirtual 416, 3) := by decide +kernel
theorem dX9_use_111 : decode cX9_use 111 = .ok (.istore 6, 2) := by decide +kernel
theorem dX9_use_113 : decode cX9_use 113 = .ok (.iload 5, 2) := by decide +kernel
theorem dX9_use_115 : decode cX9_use 115 = .ok (.iconst 1, 1) := by decide +kernel
theorem dX9_use_116 : decode cX9_use 116 = .ok (.if_icmp .ne 12, 3) := by decide +kernel
theorem dX9_use_119 : decode cX9_use 119 = .ok (.aload_n 0, 1) := by decide +kernel
theorem dX9_use_120 : decode cX9_use 120 = .ok (.getfield 92, 3) := by decide +kernel
theorem dX9_use_123 : decode cX9_use 123 = .ok (.iload 6, 2) := by decide +kernel
theorem dX9_use_125 : decode cX9_use 125 = .ok (.iaload, 1) := by decide +kernel
theorem dX9_use_126 : decode cX9_use 126 = .ok (.istore 6, 2) := by decide +kernel
theorem dX9_use_128 : decode cX9_use 128 = .ok (.aload_n 0, 1) := by decide +kernel
theorem dX9_use_129 : decode cX9_use 129 = .ok (.iload 4, 2) := by decide +kernel
theorem dX9_use_131 : decode cX9_use 131 = .ok (.iconst 1, 1) := by decide +kernel
theorem dX9_use_132 : decode cX9_use 132 = .ok (.if_icmp .ne 8, 3) := by decide +kernel
theorem dX9_use_135 : decode cX9_use 135 = .ok (.iload 6, 2) := by decide +kernel
theorem dX9_use_137 : decode cX9_use 137 = .ok (.goto 10, 3) := by decide +kernel
theorem dX9_use_140 : decode cX9_use 140 = .ok (.aload_n 0, 1) := by decide +kernel
theorem dX9_use_141 : decode cX9_use 141 = .ok (.getfield 92, 3) := by decide +kernel
theorem dX9_use_144 : decode cX9_use 144 = .ok (.iload 6, 2) := by decide +kernel
theorem dX9_use_146 : decode cX9_use 146 = .ok (.iaload, 1) := by decide +kernel
theorem dX9_use_147 : decode cX9_use 147 = .ok (.invokevirtual 400, 3) := by decide +kernel
theorem dX9_use_150 : decode cX9_use 150 = .ok (.return_, 1) := by decide +kernel
set_option maxRecDepth 20000 in
theorem ggX9_reckonNode_X9_begin : GoodIn wsX9_reckonNode wsX9_begin := goodIn_r _ [10, 11, 12, 13, 14, 15, 16, 17, 18, 19, 20, 9, 21, 22, 23, 24, 25, 26, 27, 28, 29, 30, 31, 32, 33, 34, 35, 81, 82, 83, 84, 85, 86, 87, 88, 89, 90, 91, 92, 93, 94, 95, 96, 97, 98, 99, 100, 101, 102, 103, 104, 105, 106, 107, 108, 109, 110, 111, 112, 113, 114, 115, 116, 117, 118, 119, 120, 121, 122, 123, 124, 125, 126, 127, 128, 129, 130, 131, 132, 133, 134, 135, 136, 137, 138, 139, 140] (by decide +kernel) (by decide +kernel)
set_option maxRecDepth 20000 in
theorem gX9_reckonNode_X9_begin : GoodIn wsX9_reckonNode (wsV RX9 428 RX9 yX9_begin wsX9_begin) := goodIn_app (goodIn_of _ (by decide +kernel)) ggX9_reckonNode_X9_begin
set_option maxRecDepth 20000 in
theorem ggX9_reckonNode_X9_take : GoodIn wsX9_reckonNode wsX9_take := goodIn_r _ [39, 40, 15, 81, 82, 83, 84, 85, 86, 87, 88, 89, 90, 91, 92, 93, 94, 95, 96, 97, 98, 99, 100, 101, 102, 103, 104, 105, 106, 107, 108, 109, 110, 111, 112, 113, 114, 115, 116, 117, 118, 119, 120, 121, 122, 123, 124, 125, 126, 127, 128, 129, 130, 131, 132, 133, 134, 135, 136, 137, 138, 139, 140] (by decide +kernel) (by decide +kernel)
set_option maxRecDepth 20000 in
theorem gX9_reckonNode_X9_take : GoodIn wsX9_reckonNode (wsV RX9 431 RX9 yX9_take wsX9_take) := goodIn_app (goodIn_of _ (by decide +kernel)) ggX9_reckonNode_X9_take
set_option maxRecDepth 20000 in
theorem ggX9_reckonNode_X9_slot : GoodIn wsX9_reckonNode wsX9_slot := goodIn_r _ [44, 45, 46, 47, 48, 49, 50, 9, 51, 52, 53, 54, 55, 56, 57, 58, 59, 60, 61, 62, 63, 64, 65, 66, 81, 82, 83, 84, 85, 86, 87, 88, 89, 90, 91, 92, 93, 94, 95, 96, 97, 98, 99, 100, 101, 102, 103, 104, 105, 106, 107, 108, 109, 110, 111, 112, 113, 114, 115, 116, 117, 118, 119, 120, 121, 122, 123, 124, 125, 126, 127, 128, 129, 130, 131, 132, 133, 134, 135, 136, 137, 138, 139, 140] (by decide +kernel) (by decide +kernel)
set_option maxRecDepth 20000 in
theorem gX9_reckonNode_X9_slot : GoodIn wsX9_reckonNode (wsV RX9 416 RX9 yX9_slot wsX9_slot) := goodIn_app (goodIn_of _ (by decide +kernel)) ggX9_reckonNode_X9_slot
set_option maxRecDepth 20000 in
theorem ggX9_reckonNode_X9_isIn : GoodIn wsX9_reckonNode wsX9_isIn := goodIn_r _ [69] (by decide +kernel) (by decide +kernel)
set_option maxRecDepth 20000 in
theorem gX9_reckonNode_X9_isIn : GoodIn wsX9_reckonNode (va_wsS RX9 117 yX9_isIn wsX9_isIn) := goodIn_app (goodIn_of _ (by decide +kernel)) ggX9_reckonNode_X9_isIn
set_option maxRecDepth 20000 in
theorem ggX9_reckonNode_X9_stop : GoodIn wsX9_reckonNode wsX9_stop := goodIn_r _ [21, 22, 23, 81, 82, 83, 84, 85, 86, 87, 88, 89, 90, 91, 92, 93, 94, 95, 96, 97, 98, 99, 100, 101, 102, 103, 104, 105, 106, 107, 108, 109, 110, 111, 112, 113, 114, 115, 116, 117, 118, 119, 120, 121, 122, 123, 124, 125, 126, 127, 128, 129, 130, 131, 132, 133, 134, 135, 136, 137, 138, 139, 140] (by decide +kernel) (by decide +kernel)
set_option maxRecDepth 20000 in
theorem gX9_reckonNode_X9_stop : GoodIn wsX9_reckonNode (wsV RX9 355 RX9 yX9_stop wsX9_stop) := goodIn_app (goodIn_of _ (by decide +kernel)) ggX9_reckonNode_X9_stop
set_option maxRecDepth 20000 in
theorem ggX9_reckonNode_X9_finish : GoodIn wsX9_reckonNode wsX9_finish := goodIn_r _ [73, 14, 74, 75, 76, 9, 77, 40, 15, 24, 25, 26, 27, 28, 29, 30, 31, 32, 33, 34, 35, 81, 82, 83, 84, 85, 86, 87, 88, 89, 90, 91, 92, 93, 94, 95, 96, 97, 98, 99, 100, 101, 102, 103, 104, 105, 106, 107, 108, 109, 110, 111, 112, 113, 114, 115, 116, 117, 118, 119, 120, 121, 122, 123, 124, 125, 126, 127, 128, 129, 130, 131, 132, 133, 134, 135, 136, 137, 138, 139, 140] (by decide +kernel) (by decide +kernel)
set_option maxRecDepth 20000 in
theorem gX9_reckonNode_X9_finish : GoodIn wsX9_reckonNode (wsV RX9 400 RX9 yX9_finish wsX9_finish) := goodIn_app (goodIn_of _ (by decide +kernel)) ggX9_reckonNode_X9_finish
set_option maxRecDepth 20000 in
theorem ggX9_reckonNode_X9_reckon : GoodIn wsX9_reckonNode wsX9_reckon := goodIn_r _ [80] (by decide +kernel) (by decide +kernel)
set_option maxRecDepth 20000 in
theorem gX9_reckonNode_X9_reckon : GoodIn wsX9_reckonNode (va_wsS RX9 218 yX9_reckon wsX9_reckon) := goodIn_app (goodIn_of _ (by decide +kernel)) ggX9_reckonNode_X9_reckon
theorem dX9_reckonNode_0 : decode cX9_reckonNode 0 = .ok (.iload_n 2, 1) := by decide +kernel
theorem dX9_reckonNode_1 : decode cX9_reckonNode 1 = .ok (.ifCond .eq 18, 3) := by decide +kernel
theorem dX9_reckonNode_4 : decode cX9_reckonNode 4 = .ok (.iload_n 2, 1) := by decide +kernel
theorem dX9_reckonNode_5 : decode cX9_reckonNode 5 = .ok (.iconst 1, 1) := by decide +kernel
theorem dX9_reckonNode_6 : decode cX9_reckonNode 6 = .ok (.if_icmp .ne 39, 3) := by decide +kernel
theorem dX9_reckonNode_9 : decode cX9_reckonNode 9 = .ok (.aload_n 0, 1) := by decide +kernel
theorem dX9_reckonNode_10 : decode cX9_reckonNode 10 = .ok (.getfield 47, 3) := by decide +kernel
theorem dX9_reckonNode_13 : decode cX9_reckonNode 13 = .ok (.iload_n 1, 1) := by decide +kernel
theorem dX9_reckonNode_14 : decode cX9_reckonNode 14 = .ok (.iaload, 1) := by decide +kernel
theorem dX9_reckonNode_15 : decode cX9_reckonNode 15 = .ok (.iconst 2, 1) := by decide +kernel
theorem dX9_reckonNode_16 : decode cX9_reckonNode 16 = .ok (.if_icmp .eq 29, 3) := by decide +kernel
theorem dX9_reckonNode_19 : decode cX9_reckonNode 19 = .ok (.aload_n 0, 1) := by decide +kernel
theorem dX9_reckonNode_20 : decode cX9_reckonNode 20 = .ok (.iload_n 2, 1) := by decide +kernel
theorem dX9_reckonNode_21 : decode cX9_reckonNode 21 = .ok (.ifCond .ne 12, 3) := by decide +kernel
theorem dX9_reckonNode_24 : decode cX9_reckonNode 24 = .ok (.aload_n 0, 1) := by decide +kernel
theorem dX9_reckonNode_25 : decode cX9_reckonNode 25 = .ok (.getfield 53, 3) := by decide +kernel
theorem dX9_reckonNode_28 : decode cX9_reckonNode 28 = .ok (.iload_n 1, 1) := by decide +kernel
theorem dX9_reckonNode_29 : decode cX9_reckonNode 29 = .ok (.iaload, 1) := by decide +kernel
theorem dX9_reckonNode_30 : decode cX9_reckonNode 30 = .ok (.goto 9, 3) := by decide +kernel
theorem dX9_reckonNode_33 : decode cX9_reckonNode 33 = .ok (.aload_n 0, 1) := by decide +kernel
theorem dX9_reckonNode_34 : decode cX9_reckonNode 34 = .ok (.getfield 56, 3) := by decide +kernel
theorem dX9_reckonNode_37 : decode cX9_reckonNode 37 = .ok (.iload_n 1, 1) := by decide +kernel
theorem dX9_reckonNode_38 : decode cX9_reckonNode 38 = .ok (.iaload, 1) := by decide +kernel
theorem dX9_reckonNode_39 : decode cX9_reckonNode 39 = .ok (.iload_n 3, 1) := by decide +kernel
theorem dX9_reckonNode_40 : decode cX9_reckonNode 40 = .ok (.iconst 0, 1) := by decide +kernel
theorem dX9_reckonNode_41 : decode cX9_reckonNode 41 = .ok (.invokevirtual 428, 3) := by decide +kernel
theorem dX9_reckonNode_44 : decode cX9_reckonNode 44 = .ok (.return_, 1) := by decide +kernel
theorem dX9_reckonNode_45 : decode cX9_reckonNode 45 = .ok (.aload_n 0, 1) := by decide +kernel
theorem dX9_reckonNode_46 : decode cX9_reckonNode 46 = .ok (.invokevirtual 431, 3) := by decide +kernel
theorem dX9_reckonNode_49 : decode cX9_reckonNode 49 = .ok (.istore 5, 2) := by decide +kernel
theorem dX9_reckonNode_51 : decode cX9_reckonNode 51 = .ok (.aload_n 0, 1) := by decide +kernel
theorem dX9_reckonNode_52 : decode cX9_reckonNode 52 = .ok (.getfield 47, 3) := by decide +kernel
theorem dX9_reckonNode_55 : decode cX9_reckonNode 55 = .ok (.iload_n 1, 1) := by decide +kernel
theorem dX9_reckonNode_56 : decode cX9_reckonNode 56 = .ok (.iaload, 1) := by decide +kernel
theorem dX9_reckonNode_57 : decode cX9_reckonNode 57 = .ok (.iconst 2, 1) := by decide +kernel
theorem dX9_reckonNode_58 : decode cX9_reckonNode 58 = .ok (.if_icmp .ne 90, 3) := by decide +kernel
theorem dX9_reckonNode_61 : decode cX9_reckonNode 61 = .ok (.aload_n 0, 1) := by decide +kernel
theorem dX9_reckonNode_62 : decode cX9_reckonNode 62 = .ok (.getfield 92, 3) := by decide +kernel
theorem dX9_reckonNode_65 : decode cX9_reckonNode 65 = .ok (.aload_n 0, 1) := by decide +kernel
theorem dX9_reckonNode_66 : decode cX9_reckonNode 66 = .ok (.iload_n 1, 1) := by decide +kernel
theorem dX9_reckonNode_67 : decode cX9_reckonNode 67 = .ok (.iload_n 3, 1) := by decide +kernel
theorem dX9_reckonNode_68 : decode cX9_reckonNode 68 = .ok (.invokevirtual 416, 3) := by decide +kernel
theorem dX9_reckonNode_71 : decode cX9_reckonNode 71 = .ok (.iaload, 1) := by decide +kernel
theorem dX9_reckonNode_72 : decode cX9_reckonNode 72 = .ok (.istore 6, 2) := by decide +kernel
theorem dX9_reckonNode_74 : decode cX9_reckonNode 74 = .ok (.iload 5, 2) := by decide +kernel
theorem dX9_reckonNode_76 : decode cX9_reckonNode 76 = .ok (.iconst 0, 1) := by decide +kernel
theorem dX9_reckonNode_77 : decode cX9_reckonNode 77 = .ok (.aload_n 0, 1) := by decide +kernel
theorem dX9_reckonNode_78 : decode cX9_reckonNode 78 = .ok (.getfield 98, 3) := by decide +kernel
theorem dX9_reckonNode_81 : decode cX9_reckonNode 81 = .ok (.iconst 2, 1) := by decide +kernel
theorem dX9_reckonNode_82 : decode cX9_reckonNode 82 = .ok (.iload 6, 2) := by decide +kernel
theorem dX9_reckonNode_84 : decode cX9_reckonNode 84 = .ok (.imul, 1) := by decide +kernel
theorem dX9_reckonNode_85 : decode cX9_reckonNode 85 = .ok (.iconst 1, 1) := by decide +kernel
theorem dX9_reckonNode_86 : decode cX9_reckonNode 86 = .ok (.iadd, 1) := by decide +kernel
theorem dX9_reckonNode_87 : decode cX9_reckonNode 87 = .ok (.iaload, 1) := by decide +kernel
theorem dX9_reckonNode_88 : decode cX9_reckonNode 88 = .ok (.iconst 1, 1) := by decide +kernel
theorem dX9_reckonNode_89 : decode cX9_reckonNode 89 = .ok (.isub, 1) := by decide +kernel
theorem dX9_reckonNode_90 : decode cX9_reckonNode 90 = .ok (.invokestatic 117, 3) := by decide +kernel
theorem dX9_reckonNode_93 : decode cX9_reckonNode 93 = .ok (.ifCond .ne 12, 3) := by decide +kernel
theorem dX9_reckonNode_96 : decode cX9_reckonNode 96 = .ok (.aload_n 0, 1) := by decide +kernel
theorem dX9_reckonNode_97 : decode cX9_reckonNode 97 = .ok (.iconst 2, 1) := by decide +kernel
theorem dX9_reckonNode_98 : decode cX9_reckonNode 98 = .ok (.iload_n 1, 1) := by decide +kernel
theorem dX9_reckonNode_99 : decode cX9_reckonNode 99 = .ok (.invokevirtual 355, 3) := by decide +kernel
theorem dX9_reckonNode_102 : decode cX9_reckonNode 102 = .ok (.goto 45, 3) := by decide +kernel
theorem dX9_reckonNode_105 : decode cX9_reckonNode 105 = .ok (.aload_n 0, 1) := by decide +kernel
theorem dX9_reckonNode_106 : decode cX9_reckonNode 106 = .ok (.iload 4, 2) := by decide +kernel
theorem dX9_reckonNode_108 : decode cX9_reckonNode 108 = .ok (.iconst 1, 1) := by decide +kernel
theorem dX9_reckonNode_109 : decode cX9_reckonNode 109 = .ok (.if_icmp .ne 18, 3) := by decide +kernel
theorem dX9_reckonNode_112 : decode cX9_reckonNode 112 = .ok (.aload_n 0, 1) := by decide +kernel
theorem dX9_reckonNode_113 : decode cX9_reckonNode 113 = .ok (.getfield 98, 3) := by decide +kernel
theorem dX9_reckonNode_116 : decode cX9_reckonNode 116 = .ok (.iconst 2, 1) := by decide +kernel
theorem dX9_reckonNode_117 : decode cX9_reckonNode 117 = .ok (.iload 6, 2) := by decide +kernel
theorem dX9_reckonNode_119 : decode cX9_reckonNode 119 = .ok (.imul, 1) := by decide +kernel
theorem dX9_reckonNode_120 : decode cX9_reckonNode 120 = .ok (.iaload, 1) := by decide +kernel
theorem dX9_reckonNode_121 : decode cX9_reckonNode 121 = .ok (.iload 5, 2) := by decide +kernel
theorem dX9_reckonNode_123 : decode cX9_reckonNode 123 = .ok (.iadd, 1) := by decide +kernel
theorem dX9_reckonNode_124 : decode cX9_reckonNode 124 = .ok (.goto 20, 3) := by decide +kernel
theorem dX9_reckonNode_127 : decode cX9_reckonNode 127 = .ok (.aload_n 0, 1) := by decide +kernel
theorem dX9_reckonNode_128 : decode cX9_reckonNode 128 = .ok (.getfield 92, 3) := by decide +kernel
theorem dX9_reckonNode_131 : decode cX9_reckonNode 131 = .ok (.aload_n 0, 1) := by decide +kernel
theorem dX9_reckonNode_132 : decode cX9_reckonNode 132 = .ok (.getfield 98, 3) := by decide +kernel
theorem dX9_reckonNode_135 : decode cX9_reckonNode 135 = .ok (.iconst 2, 1) := by decide +kernel
theorem dX9_reckonNode_136 : decode cX9_reckonNode 136 = .ok (.iload 6, 2) := by decide +kernel
theorem dX9_reckonNode_138 : decode cX9_reckonNode 138 = .ok (.imul, 1) := by decide +kernel
theorem dX9_reckonNode_139 : decode cX9_reckonNode 139 = .ok (.iaload, 1) := by decide +kernel
theorem dX9_reckonNode_140 : decode cX9_reckonNode 140 = .ok (.iload 5, 2) := by decide +kernel
theorem dX9_reckonNode_142 : decode cX9_reckonNode 142 = .ok (.iadd, 1) := by decide +kernel
theorem dX9_reckonNode_143 : decode cX9_reckonNode 143 = .ok (.iaload, 1) := by decide +kernel
theorem dX9_reckonNode_144 : decode cX9_reckonNode 144 = .ok (.invokevirtual 400, 3) := by decide +kernel
theorem dX9_reckonNode_147 : decode cX9_reckonNode 147 = .ok (.return_, 1) := by decide +kernel
theorem dX9_reckonNode_148 : decode cX9_reckonNode 148 = .ok (.aload_n 0, 1) := by decide +kernel
theorem dX9_reckonNode_149 : decode cX9_reckonNode 149 = .ok (.invokevirtual 431, 3) := by decide +kernel
theorem dX9_reckonNode_152 : decode cX9_reckonNode 152 = .ok (.istore 6, 2) := by decide +kernel
theorem dX9_reckonNode_154 : decode cX9_reckonNode 154 = .ok (.aload_n 0, 1) := by decide +kernel
theorem dX9_reckonNode_155 : decode cX9_reckonNode 155 = .ok (.getfield 47, 3) := by decide +kernel
theorem dX9_reckonNode_158 : decode cX9_reckonNode 158 = .ok (.iload_n 1, 1) := by decide +kernel
theorem dX9_reckonNode_159 : decode cX9_reckonNode 159 = .ok (.iaload, 1) := by decide +kernel
theorem dX9_reckonNode_160 : decode cX9_reckonNode 160 = .ok (.bipush 6, 2) := by decide +kernel
theorem dX9_reckonNode_162 : decode cX9_reckonNode 162 = .ok (.if_icmp .ne 17, 3) := by decide +kernel
theorem dX9_reckonNode_165 : decode cX9_reckonNode 165 = .ok (.iload 5, 2) := by decide +kernel
theorem dX9_reckonNode_167 : decode cX9_reckonNode 167 = .ok (.ifCond .ne 12, 3) := by decide +kernel
theorem dX9_reckonNode_170 : decode cX9_reckonNode 170 = .ok (.aload_n 0, 1) := by decide +kernel
theorem dX9_reckonNode_171 : decode cX9_reckonNode 171 = .ok (.iconst 1, 1) := by decide +kernel
theorem dX9_reckonNode_172 : decode cX9_reckonNode 172 = .ok (.iload_n 1, 1) := by decide +kernel
theorem dX9_reckonNode_173 : decode cX9_reckonNode 173 = .ok (.invokevirtual 355, 3) := by decide +kernel
theorem dX9_reckonNode_176 : decode cX9_reckonNode 176 = .ok (.goto 20, 3) := by decide +kernel
theorem dX9_reckonNode_179 : decode cX9_reckonNode 179 = .ok (.aload_n 0, 1) := by decide +kernel
theorem dX9_reckonNode_180 : decode cX9_reckonNode 180 = .ok (.aload_n 0, 1) := by decide +kernel
theorem dX9_reckonNode_181 : decode cX9_reckonNode 181 = .ok (.getfield 47, 3) := by decide +kernel
theorem dX9_reckonNode_184 : decode cX9_reckonNode 184 = .ok (.iload_n 1, 1) := by decide +kernel
theorem dX9_reckonNode_185 : decode cX9_reckonNode 185 = .ok (.iaload, 1) := by decide +kernel
theorem dX9_reckonNode_186 : decode cX9_reckonNode 186 = .ok (.iload 6, 2) := by decide +kernel
theorem dX9_reckonNode_188 : decode cX9_reckonNode 188 = .ok (.iload 5, 2) := by decide +kernel
theorem dX9_reckonNode_190 : decode cX9_reckonNode 190 = .ok (.invokestatic 218, 3) := by decide +kernel
theorem dX9_reckonNode_193 : decode cX9_reckonNode 193 = .ok (.invokevirtual 400, 3) := by decide +kernel
theorem dX9_reckonNode_196 : decode cX9_reckonNode 196 = .ok (.return_, 1) := by decide +kernel
set_option maxRecDepth 20000 in
theorem ggX9_argument_X9_modeOf : GoodIn wsX9_argument wsX9_modeOf := goodIn_r _ [10, 11, 12, 13, 14, 15, 9, 16, 1, 17, 18, 19, 20, 21, 22, 23, 24, 25, 26, 27, 28, 29, 30, 31, 32, 66, 67, 68, 69, 70, 71, 72, 73, 74, 75, 76, 77, 78, 79, 80, 81, 82, 83, 84, 85, 86, 87, 88, 89, 90, 91, 92, 93, 94, 95, 96, 97, 98, 99, 100, 101, 102, 103, 104, 105, 106, 107, 108, 109, 110, 111, 112, 113, 114, 115, 116, 117, 118, 119, 120, 121, 122, 123, 124, 125] (by decide +kernel) (by decide +kernel)
set_option maxRecDepth 20000 in
theorem gX9_argument_X9_modeOf : GoodIn wsX9_argument (wsV RX9 258 RX9 yX9_modeOf wsX9_modeOf) := goodIn_app (goodIn_of _ (by decide +kernel)) ggX9_argument_X9_modeOf
set_option maxRecDepth 20000 in
theorem ggX9_argument_X9_put : GoodIn wsX9_argument wsX9_put := goodIn_r _ [36, 37, 38, 39, 40, 9, 41, 42, 43, 44, 45, 46, 47, 48, 49, 50, 66, 67, 68, 69, 70, 71, 72, 73, 74, 75, 76, 77, 78, 79, 80, 81, 82, 83, 84, 85, 86, 87, 88, 89, 90, 91, 92, 93, 94, 95, 96, 97, 98, 99, 100, 101, 102, 103, 104, 105, 106, 107, 108, 109, 110, 111, 112, 113, 114, 115, 116, 117, 118, 119, 120, 121, 122, 123, 124, 125] (by decide +kernel) (by decide +kernel)
set_option maxRecDepth 20000 in
theorem gX9_argument_X9_put : GoodIn wsX9_argument (wsV RX9 367 RX9 yX9_put wsX9_put) := goodIn_app (goodIn_of _ (by decide +kernel)) ggX9_argument_X9_put
set_option maxRecDepth 20000 in
theorem ggX9_argument_X9_begin : GoodIn wsX9_argument wsX9_begin := goodIn_r _ [54, 55, 56, 57, 5, 38, 58, 59, 60, 61, 62, 9, 63, 64, 65, 39, 40, 41, 42, 43, 44, 45, 46, 47, 48, 49, 50, 66, 67, 68, 69, 70, 71, 72, 73, 74, 75, 76, 77, 78, 79, 80, 81, 82, 83, 84, 85, 86, 87, 88, 89, 90, 91, 92, 93, 94, 95, 96, 97, 98, 99, 100, 101, 102, 103, 104, 105, 106, 107, 108, 109, 110, 111, 112, 113, 114, 115, 116, 117, 118, 119, 120, 121, 122, 123, 124, 125] (by decide +kernel) (by decide +kernel)
set_option maxRecDepth 20000 in
theorem gX9_argument_X9_begin : GoodIn wsX9_argument (wsV RX9 428 RX9 yX9_begin wsX9_begin) := goodIn_app (goodIn_of _ (by decide +kernel)) ggX9_argument_X9_begin
theorem dX9_argument_0 : decode cX9_argument 0 = .ok (.iload_n 2, 1) := by decide +kernel
theorem dX9_argument_1 : decode cX9_argument 1 = .ok (.ifCond .ne 101, 3) := by decide +kernel
theorem dX9_argument_4 : decode cX9_argument 4 = .ok (.aload_n 0, 1) := by decide +kernel
theorem dX9_argument_5 : decode cX9_argument 5 = .ok (.getfield 59, 3) := by decide +kernel
theorem dX9_argument_8 : decode cX9_argument 8 = .ok (.iload_n 1, 1) := by decide +kernel
theorem dX9_argument_9 : decode cX9_argument 9 = .ok (.iaload, 1) := by decide +kernel
theorem dX9_argument_10 : decode cX9_argument 10 = .ok (.istore 5, 2) := by decide +kernel
theorem dX9_argument_12 : decode cX9_argument 12 = .ok (.aload_n 0, 1) := by decide +kernel
theorem dX9_argument_13 : decode cX9_argument 13 = .ok (.getfield 47, 3) := by decide +kernel
theorem dX9_argument_16 : decode cX9_argument 16 = .ok (.iload 5, 2) := by decide +kernel
theorem dX9_argument_18 : decode cX9_argument 18 = .ok (.iaload, 1) := by decide +kernel
theorem dX9_argument_19 : decode cX9_argument 19 = .ok (.bipush 8, 2) := by decide +kernel
theorem dX9_argument_21 : decode cX9_argument 21 = .ok (.if_icmp .eq 15, 3) := by decide +kernel
theorem dX9_argument_24 : decode cX9_argument 24 = .ok (.aload_n 0, 1) := by decide +kernel
theorem dX9_argument_25 : decode cX9_argument 25 = .ok (.getfield 59, 3) := by decide +kernel
theorem dX9_argument_28 : decode cX9_argument 28 = .ok (.iload 5, 2) := by decide +kernel
theorem dX9_argument_30 : decode cX9_argument 30 = .ok (.iaload, 1) := by decide +kernel
theorem dX9_argument_31 : decode cX9_argument 31 = .ok (.istore 5, 2) := by decide +kernel
theorem dX9_argument_33 : decode cX9_argument 33 = .ok (.goto (-21), 3) := by decide +kernel
theorem dX9_argument_36 : decode cX9_argument 36 = .ok (.aload_n 0, 1) := by decide +kernel
theorem dX9_argument_37 : decode cX9_argument 37 = .ok (.iload 5, 2) := by decide +kernel
theorem dX9_argument_39 : decode cX9_argument 39 = .ok (.iload 4, 2) := by decide +kernel
theorem dX9_argument_41 : decode cX9_argument 41 = .ok (.invokevirtual 258, 3) := by decide +kernel
theorem dX9_argument_44 : decode cX9_argument 44 = .ok (.istore 6, 2) := by decide +kernel
theorem dX9_argument_46 : decode cX9_argument 46 = .ok (.iload 6, 2) := by decide +kernel
theorem dX9_argument_48 : decode cX9_argument 48 = .ok (.iconst 2, 1) := by decide +kernel
theorem dX9_argument_49 : decode cX9_argument 49 = .ok (.if_icmp .ne 22, 3) := by decide +kernel
theorem dX9_argument_52 : decode cX9_argument 52 = .ok (.aload_n 0, 1) := by decide +kernel
theorem dX9_argument_53 : decode cX9_argument 53 = .ok (.aload_n 0, 1) := by decide +kernel
theorem dX9_argument_54 : decode cX9_argument 54 = .ok (.getfield 53, 3) := by decide +kernel
theorem dX9_argument_57 : decode cX9_argument 57 = .ok (.iload_n 1, 1) := by decide +kernel
theorem dX9_argument_58 : decode cX9_argument 58 = .ok (.iaload, 1) := by decide +kernel
theorem dX9_argument_59 : decode cX9_argument 59 = .ok (.sipush 128, 3) := by decide +kernel
theorem dX9_argument_62 : decode cX9_argument 62 = .ok (.iload_n 3, 1) := by decide +kernel
theorem dX9_argument_63 : decode cX9_argument 63 = .ok (.imul, 1) := by decide +kernel
theorem dX9_argument_64 : decode cX9_argument 64 = .ok (.iadd, 1) := by decide +kernel
theorem dX9_argument_65 : decode cX9_argument 65 = .ok (.invokevirtual 367, 3) := by decide +kernel
theorem dX9_argument_68 : decode cX9_argument 68 = .ok (.goto 31, 3) := by decide +kernel
theorem dX9_argument_71 : decode cX9_argument 71 = .ok (.aload_n 0, 1) := by decide +kernel
theorem dX9_argument_72 : decode cX9_argument 72 = .ok (.aload_n 0, 1) := by decide +kernel
theorem dX9_argument_73 : decode cX9_argument 73 = .ok (.getfield 53, 3) := by decide +kernel
theorem dX9_argument_76 : decode cX9_argument 76 = .ok (.iload_n 1, 1) := by decide +kernel
theorem dX9_argument_77 : decode cX9_argument 77 = .ok (.iaload, 1) := by decide +kernel
