theorem dX9_escapes_95 : decode cX9_escapes 95 = .ok (.invokevirtual 206, 3) := by decide +kernel
theorem dX9_escapes_98 : decode cX9_escapes 98 = .ok (.ifCond .eq 23, 3) := by decide +kernel
theorem dX9_escapes_101 : decode cX9_escapes 101 = .ok (.iconst 1, 1) := by decide +kernel
theorem dX9_escapes_102 : decode cX9_escapes 102 = .ok (.aload_n 0, 1) := by decide +kernel
theorem dX9_escapes_103 : decode cX9_escapes 103 = .ok (.aload_n 0, 1) := by decide +kernel
theorem dX9_escapes_104 : decode cX9_escapes 104 = .ok (.iload_n 3, 1) := by decide +kernel
theorem dX9_escapes_105 : decode cX9_escapes 105 = .ok (.invokevirtual 194, 3) := by decide +kernel
theorem dX9_escapes_108 : decode cX9_escapes 108 = .ok (.aload_n 0, 1) := by decide +kernel
theorem dX9_escapes_109 : decode cX9_escapes 109 = .ok (.getfield 50, 3) := by decide +kernel
theorem dX9_escapes_112 : decode cX9_escapes 112 = .ok (.iload_n 3, 1) := by decide +kernel
theorem dX9_escapes_113 : decode cX9_escapes 113 = .ok (.iaload, 1) := by decide +kernel
theorem dX9_escapes_114 : decode cX9_escapes 114 = .ok (.invokevirtual 150, 3) := by decide +kernel
theorem dX9_escapes_117 : decode cX9_escapes 117 = .ok (.ishl, 1) := by decide +kernel
theorem dX9_escapes_118 : decode cX9_escapes 118 = .ok (.goto 4, 3) := by decide +kernel
theorem dX9_escapes_121 : decode cX9_escapes 121 = .ok (.iconst 0, 1) := by decide +kernel
theorem dX9_escapes_122 : decode cX9_escapes 122 = .ok (.ior, 1) := by decide +kernel
theorem dX9_escapes_123 : decode cX9_escapes 123 = .ok (.istore_n 2, 1) := by decide +kernel
theorem dX9_escapes_124 : decode cX9_escapes 124 = .ok (.iinc 3 1, 3) := by decide +kernel
theorem dX9_escapes_127 : decode cX9_escapes 127 = .ok (.goto (-123), 3) := by decide +kernel
theorem dX9_escapes_130 : decode cX9_escapes 130 = .ok (.iload_n 2, 1) := by decide +kernel
theorem dX9_escapes_131 : decode cX9_escapes 131 = .ok (.ireturn, 1) := by decide +kernel
set_option maxRecDepth 20000 in
theorem ggX9_isPlain_X9_isFolded : GoodIn wsX9_isPlain wsX9_isFolded := goodIn_r _ [6, 1, 7, 8, 9, 10, 5, 11, 12, 13, 14, 15, 16, 17, 18, 19, 20, 21, 22, 0, 2, 3, 4, 23, 24, 25, 26, 27, 28, 29, 30, 31, 32, 33, 34, 35, 36, 37, 38, 39, 40, 41, 42, 43, 44, 45, 46, 47, 48, 49, 50, 51, 52, 53, 54, 55, 56, 57, 58, 59, 60, 61, 62, 63, 64, 65, 66, 67, 68, 69, 70, 71, 72, 73, 74, 75, 76, 77, 78, 79, 80, 81, 82] (by decide +kernel) (by decide +kernel)
set_option maxRecDepth 20000 in
theorem gX9_isPlain_X9_isFolded : GoodIn wsX9_isPlain (wsV RX9 209 RX9 yX9_isFolded wsX9_isFolded) := goodIn_app (goodIn_of _ (by decide +kernel)) ggX9_isPlain_X9_isFolded
theorem dX9_isPlain_0 : decode cX9_isPlain 0 = .ok (.aload_n 0, 1) := by decide +kernel
theorem dX9_isPlain_1 : decode cX9_isPlain 1 = .ok (.getfield 47, 3) := by decide +kernel
theorem dX9_isPlain_4 : decode cX9_isPlain 4 = .ok (.iload_n 1, 1) := by decide +kernel
theorem dX9_isPlain_5 : decode cX9_isPlain 5 = .ok (.iaload, 1) := by decide +kernel
theorem dX9_isPlain_6 : decode cX9_isPlain 6 = .ok (.ifCond .eq 11, 3) := by decide +kernel
theorem dX9_isPlain_9 : decode cX9_isPlain 9 = .ok (.aload_n 0, 1) := by decide +kernel
theorem dX9_isPlain_10 : decode cX9_isPlain 10 = .ok (.iload_n 1, 1) := by decide +kernel
theorem dX9_isPlain_11 : decode cX9_isPlain 11 = .ok (.invokevirtual 209, 3) := by decide +kernel
theorem dX9_isPlain_14 : decode cX9_isPlain 14 = .ok (.ifCond .eq 7, 3) := by decide +kernel
theorem dX9_isPlain_17 : decode cX9_isPlain 17 = .ok (.iconst 1, 1) := by decide +kernel
theorem dX9_isPlain_18 : decode cX9_isPlain 18 = .ok (.goto 4, 3) := by decide +kernel
theorem dX9_isPlain_21 : decode cX9_isPlain 21 = .ok (.iconst 0, 1) := by decide +kernel
theorem dX9_isPlain_22 : decode cX9_isPlain 22 = .ok (.ireturn, 1) := by decide +kernel
set_option maxRecDepth 20000 in
theorem ggX9_isFolded_X9_isIn : GoodIn wsX9_isFolded wsX9_isIn := goodIn_r _ [7] (by decide +kernel) (by decide +kernel)
set_option maxRecDepth 20000 in
theorem gX9_isFolded_X9_isIn : GoodIn wsX9_isFolded (va_wsS RX9 117 yX9_isIn wsX9_isIn) := goodIn_app (goodIn_of _ (by decide +kernel)) ggX9_isFolded_X9_isIn
set_option maxRecDepth 20000 in
theorem ggX9_isFolded_X9_isPlain : GoodIn wsX9_isFolded wsX9_isPlain := goodIn_r _ [19, 1, 20, 21, 22, 6, 0, 2, 3, 4, 5, 7, 8, 9, 10, 11, 12, 13, 14, 15, 16, 17, 18, 23, 24, 25, 26, 27, 28, 29, 30, 31, 32, 33, 34, 35, 36, 37, 38, 39, 40, 41, 42, 43, 44, 45, 46, 47, 48, 49, 50, 51, 52, 53, 54, 55, 56, 57, 58, 59, 60, 61, 62, 63, 64, 65, 66, 67, 68, 69, 70, 71, 72, 73, 74, 75, 76, 77, 78, 79, 80, 81, 82] (by decide +kernel) (by decide +kernel)
set_option maxRecDepth 20000 in
theorem gX9_isFolded_X9_isPlain : GoodIn wsX9_isFolded (wsV RX9 212 RX9 yX9_isPlain wsX9_isPlain) := goodIn_app (goodIn_of _ (by decide +kernel)) ggX9_isFolded_X9_isPlain
set_option maxRecDepth 20000 in
theorem ggX9_isFolded_X9_plain : GoodIn wsX9_isFolded wsX9_plain := goodIn_r _ [14, 1, 15, 2, 3, 11, 12, 13, 6, 16, 17, 18, 23, 24, 25, 26, 27, 28, 29, 30, 31, 32, 33, 34, 35, 36, 37, 38, 39, 40, 41, 42, 43, 44, 45, 46, 47, 48, 49, 50, 51, 52, 53, 54, 55, 56, 57, 58, 59, 60, 61, 62, 63, 64, 65, 66, 67, 68, 69, 70, 71, 72, 73, 74, 75, 76, 77, 78, 79, 80, 81, 82] (by decide +kernel) (by decide +kernel)
set_option maxRecDepth 20000 in
theorem gX9_isFolded_X9_plain : GoodIn wsX9_isFolded (wsV RX9 215 RX9 yX9_plain wsX9_plain) := goodIn_app (goodIn_of _ (by decide +kernel)) ggX9_isFolded_X9_plain
theorem dX9_isFolded_0 : decode cX9_isFolded 0 = .ok (.aload_n 0, 1) := by decide +kernel
theorem dX9_isFolded_1 : decode cX9_isFolded 1 = .ok (.getfield 47, 3) := by decide +kernel
theorem dX9_isFolded_4 : decode cX9_isFolded 4 = .ok (.iload_n 1, 1) := by decide +kernel
theorem dX9_isFolded_5 : decode cX9_isFolded 5 = .ok (.iaload, 1) := by decide +kernel
theorem dX9_isFolded_6 : decode cX9_isFolded 6 = .ok (.iconst 3, 1) := by decide +kernel
theorem dX9_isFolded_7 : decode cX9_isFolded 7 = .ok (.bipush 7, 2) := by decide +kernel
theorem dX9_isFolded_9 : decode cX9_isFolded 9 = .ok (.invokestatic 117, 3) := by decide +kernel
theorem dX9_isFolded_12 : decode cX9_isFolded 12 = .ok (.ifCond .eq 57, 3) := by decide +kernel
theorem dX9_isFolded_15 : decode cX9_isFolded 15 = .ok (.aload_n 0, 1) := by decide +kernel
theorem dX9_isFolded_16 : decode cX9_isFolded 16 = .ok (.aload_n 0, 1) := by decide +kernel
theorem dX9_isFolded_17 : decode cX9_isFolded 17 = .ok (.getfield 53, 3) := by decide +kernel
theorem dX9_isFolded_20 : decode cX9_isFolded 20 = .ok (.iload_n 1, 1) := by decide +kernel
theorem dX9_isFolded_21 : decode cX9_isFolded 21 = .ok (.iaload, 1) := by decide +kernel
theorem dX9_isFolded_22 : decode cX9_isFolded 22 = .ok (.invokevirtual 212, 3) := by decide +kernel
theorem dX9_isFolded_25 : decode cX9_isFolded 25 = .ok (.ifCond .eq 44, 3) := by decide +kernel
theorem dX9_isFolded_28 : decode cX9_isFolded 28 = .ok (.aload_n 0, 1) := by decide +kernel
theorem dX9_isFolded_29 : decode cX9_isFolded 29 = .ok (.aload_n 0, 1) := by decide +kernel
theorem dX9_isFolded_30 : decode cX9_isFolded 30 = .ok (.getfield 56, 3) := by decide +kernel
theorem dX9_isFolded_33 : decode cX9_isFolded 33 = .ok (.iload_n 1, 1) := by decide +kernel
theorem dX9_isFolded_34 : decode cX9_isFolded 34 = .ok (.iaload, 1) := by decide +kernel
theorem dX9_isFolded_35 : decode cX9_isFolded 35 = .ok (.invokevirtual 212, 3) := by decide +kernel
theorem dX9_isFolded_38 : decode cX9_isFolded 38 = .ok (.ifCond .eq 31, 3) := by decide +kernel
theorem dX9_isFolded_41 : decode cX9_isFolded 41 = .ok (.aload_n 0, 1) := by decide +kernel
theorem dX9_isFolded_42 : decode cX9_isFolded 42 = .ok (.getfield 47, 3) := by decide +kernel
theorem dX9_isFolded_45 : decode cX9_isFolded 45 = .ok (.iload_n 1, 1) := by decide +kernel
theorem dX9_isFolded_46 : decode cX9_isFolded 46 = .ok (.iaload, 1) := by decide +kernel
theorem dX9_isFolded_47 : decode cX9_isFolded 47 = .ok (.bipush 6, 2) := by decide +kernel
theorem dX9_isFolded_49 : decode cX9_isFolded 49 = .ok (.if_icmp .ne 16, 3) := by decide +kernel
theorem dX9_isFolded_52 : decode cX9_isFolded 52 = .ok (.aload_n 0, 1) := by decide +kernel
theorem dX9_isFolded_53 : decode cX9_isFolded 53 = .ok (.aload_n 0, 1) := by decide +kernel
theorem dX9_isFolded_54 : decode cX9_isFolded 54 = .ok (.getfield 56, 3) := by decide +kernel
theorem dX9_isFolded_57 : decode cX9_isFolded 57 = .ok (.iload_n 1, 1) := by decide +kernel
theorem dX9_isFolded_58 : decode cX9_isFolded 58 = .ok (.iaload, 1) := by decide +kernel
theorem dX9_isFolded_59 : decode cX9_isFolded 59 = .ok (.invokevirtual 215, 3) := by decide +kernel
theorem dX9_isFolded_62 : decode cX9_isFolded 62 = .ok (.ifCond .eq 7, 3) := by decide +kernel
theorem dX9_isFolded_65 : decode cX9_isFolded 65 = .ok (.iconst 1, 1) := by decide +kernel
theorem dX9_isFolded_66 : decode cX9_isFolded 66 = .ok (.goto 4, 3) := by decide +kernel
theorem dX9_isFolded_69 : decode cX9_isFolded 69 = .ok (.iconst 0, 1) := by decide +kernel
theorem dX9_isFolded_70 : decode cX9_isFolded 70 = .ok (.ireturn, 1) := by decide +kernel
set_option maxRecDepth 20000 in
theorem ggX9_plain_X9_plain : GoodIn wsX9_plain wsX9_plain := goodIn_r _ [0, 1, 2, 3, 4, 5, 6, 7, 8, 9, 10, 11, 12, 13, 14, 15, 16, 17, 18, 19, 20, 21, 22, 23, 24, 25, 26, 27, 28, 29, 30, 31, 32, 33, 34, 35, 36, 37, 38, 39, 40, 41, 42, 43, 44, 45, 46, 47, 48, 49, 50, 51, 52, 53, 54, 55, 56, 57, 58, 59, 60, 61, 62, 63, 64, 65, 66, 67, 68, 69, 70, 71] (by decide +kernel) (by decide +kernel)
set_option maxRecDepth 20000 in
theorem gX9_plain_X9_plain : GoodIn wsX9_plain (wsV RX9 215 RX9 yX9_plain wsX9_plain) := goodIn_app (goodIn_of _ (by decide +kernel)) ggX9_plain_X9_plain
set_option maxRecDepth 20000 in
theorem ggX9_plain_X9_reckon : GoodIn wsX9_plain wsX9_reckon := goodIn_r _ [11] (by decide +kernel) (by decide +kernel)
set_option maxRecDepth 20000 in
theorem gX9_plain_X9_reckon : GoodIn wsX9_plain (va_wsS RX9 218 yX9_reckon wsX9_reckon) := goodIn_app (goodIn_of _ (by decide +kernel)) ggX9_plain_X9_reckon
theorem dX9_plain_0 : decode cX9_plain 0 = .ok (.aload_n 0, 1) := by decide +kernel
theorem dX9_plain_1 : decode cX9_plain 1 = .ok (.getfield 47, 3) := by decide +kernel
theorem dX9_plain_4 : decode cX9_plain 4 = .ok (.iload_n 1, 1) := by decide +kernel
theorem dX9_plain_5 : decode cX9_plain 5 = .ok (.iaload, 1) := by decide +kernel
theorem dX9_plain_6 : decode cX9_plain 6 = .ok (.ifCond .ne 12, 3) := by decide +kernel
theorem dX9_plain_9 : decode cX9_plain 9 = .ok (.aload_n 0, 1) := by decide +kernel
theorem dX9_plain_10 : decode cX9_plain 10 = .ok (.getfield 50, 3) := by decide +kernel
theorem dX9_plain_13 : decode cX9_plain 13 = .ok (.iload_n 1, 1) := by decide +kernel
theorem dX9_plain_14 : decode cX9_plain 14 = .ok (.iaload, 1) := by decide +kernel
theorem dX9_plain_15 : decode cX9_plain 15 = .ok (.goto 32, 3) := by decide +kernel
theorem dX9_plain_18 : decode cX9_plain 18 = .ok (.aload_n 0, 1) := by decide +kernel
theorem dX9_plain_19 : decode cX9_plain 19 = .ok (.getfield 47, 3) := by decide +kernel
theorem dX9_plain_22 : decode cX9_plain 22 = .ok (.iload_n 1, 1) := by decide +kernel
theorem dX9_plain_23 : decode cX9_plain 23 = .ok (.iaload, 1) := by decide +kernel
theorem dX9_plain_24 : decode cX9_plain 24 = .ok (.aload_n 0, 1) := by decide +kernel
theorem dX9_plain_25 : decode cX9_plain 25 = .ok (.aload_n 0, 1) := by decide +kernel
theorem dX9_plain_26 : decode cX9_plain 26 = .ok (.getfield 53, 3) := by decide +kernel
theorem dX9_plain_29 : decode cX9_plain 29 = .ok (.iload_n 1, 1) := by decide +kernel
theorem dX9_plain_30 : decode cX9_plain 30 = .ok (.iaload, 1) := by decide +kernel
theorem dX9_plain_31 : decode cX9_plain 31 = .ok (.invokevirtual 215, 3) := by decide +kernel
theorem dX9_plain_34 : decode cX9_plain 34 = .ok (.aload_n 0, 1) := by decide +kernel
theorem dX9_plain_35 : decode cX9_plain 35 = .ok (.aload_n 0, 1) := by decide +kernel
theorem dX9_plain_36 : decode cX9_plain 36 = .ok (.getfield 56, 3) := by decide +kernel
theorem dX9_plain_39 : decode cX9_plain 39 = .ok (.iload_n 1, 1) := by decide +kernel
theorem dX9_plain_40 : decode cX9_plain 40 = .ok (.iaload, 1) := by decide +kernel
theorem dX9_plain_41 : decode cX9_plain 41 = .ok (.invokevirtual 215, 3) := by decide +kernel
theorem dX9_plain_44 : decode cX9_plain 44 = .ok (.invokestatic 218, 3) := by decide +kernel
theorem dX9_plain_47 : decode cX9_plain 47 = .ok (.ireturn, 1) := by decide +kernel
theorem dX9_reckon_0 : decode cX9_reckon 0 = .ok (.iload_n 0, 1) := by decide +kernel
theorem dX9_reckon_1 : decode cX9_reckon 1 = .ok (.tableswitch 47 3 6 #[31, 35, 39, 43], 31) := by decide +kernel
theorem dX9_reckon_32 : decode cX9_reckon 32 = .ok (.iload_n 1, 1) := by decide +kernel
theorem dX9_reckon_33 : decode cX9_reckon 33 = .ok (.iload_n 2, 1) := by decide +kernel
theorem dX9_reckon_34 : decode cX9_reckon 34 = .ok (.iadd, 1) := by decide +kernel
theorem dX9_reckon_35 : decode cX9_reckon 35 = .ok (.ireturn, 1) := by decide +kernel
theorem dX9_reckon_36 : decode cX9_reckon 36 = .ok (.iload_n 1, 1) := by decide +kernel
theorem dX9_reckon_37 : decode cX9_reckon 37 = .ok (.iload_n 2, 1) := by decide +kernel
theorem dX9_reckon_38 : decode cX9_reckon 38 = .ok (.isub, 1) := by decide +kernel
theorem dX9_reckon_39 : decode cX9_reckon 39 = .ok (.ireturn, 1) := by decide +kernel
theorem dX9_reckon_40 : decode cX9_reckon 40 = .ok (.iload_n 1, 1) := by decide +kernel
theorem dX9_reckon_41 : decode cX9_reckon 41 = .ok (.iload_n 2, 1) := by decide +kernel
theorem dX9_reckon_42 : decode cX9_reckon 42 = .ok (.imul, 1) := by decide +kernel
theorem dX9_reckon_43 : decode cX9_reckon 43 = .ok (.ireturn, 1) := by decide +kernel
theorem dX9_reckon_44 : decode cX9_reckon 44 = .ok (.iload_n 1, 1) := by decide +kernel
theorem dX9_reckon_45 : decode cX9_reckon 45 = .ok (.iload_n 2, 1) := by decide +kernel
theorem dX9_reckon_46 : decode cX9_reckon 46 = .ok (.idiv, 1) := by decide +kernel
theorem dX9_reckon_47 : decode cX9_reckon 47 = .ok (.ireturn, 1) := by decide +kernel
theorem dX9_reckon_48 : decode cX9_reckon 48 = .ok (.iload_n 1, 1) := by decide +kernel
theorem dX9_reckon_49 : decode cX9_reckon 49 = .ok (.iload_n 2, 1) := by decide +kernel
theorem dX9_reckon_50 : decode cX9_reckon 50 = .ok (.if_icmp .ge 7, 3) := by decide +kernel
theorem dX9_reckon_53 : decode cX9_reckon 53 = .ok (.iconst 1, 1) := by decide +kernel
theorem dX9_reckon_54 : decode cX9_reckon 54 = .ok (.goto 4, 3) := by decide +kernel
theorem dX9_reckon_57 : decode cX9_reckon 57 = .ok (.iconst 0, 1) := by decide +kernel
theorem dX9_reckon_58 : decode cX9_reckon 58 = .ok (.ireturn, 1) := by decide +kernel
set_option maxRecDepth 20000 in
theorem ggX9_isTail_X9_in : GoodIn wsX9_isTail wsX9_in := goodIn_r _ [8, 9, 10, 57, 58, 59, 60, 61, 62, 63, 64, 65, 66, 67, 68, 69, 70, 71, 72, 73, 74, 75, 76, 77, 78, 79, 80, 81, 82, 83, 84, 85, 86, 87, 88, 89, 90, 91, 92, 93, 94, 95, 96, 97, 98, 99, 100, 101, 102, 103, 104, 105, 106, 107, 108, 109, 110, 111, 112, 113, 114, 115, 116] (by decide +kernel) (by decide +kernel)
set_option maxRecDepth 20000 in
theorem gX9_isTail_X9_in : GoodIn wsX9_isTail (wsV RX9 194 RX9 yX9_in wsX9_in) := goodIn_app (goodIn_of _ (by decide +kernel)) ggX9_isTail_X9_in
set_option maxRecDepth 20000 in
theorem ggX9_isTail_X9_whatIs : GoodIn wsX9_isTail wsX9_whatIs := goodIn_r _ [14, 15, 16, 17, 18, 7, 19, 20, 57, 58, 59, 60, 61, 62, 63, 64, 65, 66, 67, 68, 69, 70, 71, 72, 73, 74, 75, 76, 77, 78, 79, 80, 81, 82, 83, 84, 85, 86, 87, 88, 89, 90, 91, 92, 93, 94, 95, 96, 97, 98, 99, 100, 101, 102, 103, 104, 105, 106, 107, 108, 109, 110, 111, 112, 113, 114, 115, 116] (by decide +kernel) (by decide +kernel)
set_option maxRecDepth 20000 in
theorem gX9_isTail_X9_whatIs : GoodIn wsX9_isTail (wsV RX9 153 RX9 yX9_whatIs wsX9_whatIs) := goodIn_app (goodIn_of _ (by decide +kernel)) ggX9_isTail_X9_whatIs
set_option maxRecDepth 20000 in
theorem ggX9_isTail_X9_sizeIs : GoodIn wsX9_isTail wsX9_sizeIs := goodIn_r _ [24, 25, 16, 17, 18, 7, 19, 15, 20, 57, 58, 59, 60, 61, 62, 63, 64, 65, 66, 67, 68, 69, 70, 71, 72, 73, 74, 75, 76, 77, 78, 79, 80, 81, 82, 83, 84, 85, 86, 87, 88, 89, 90, 91, 92, 93, 94, 95, 96, 97, 98, 99, 100, 101, 102, 103, 104, 105, 106, 107, 108, 109, 110, 111, 112, 113, 114, 115, 116] (by decide +kernel) (by decide +kernel)
set_option maxRecDepth 20000 in
theorem gX9_isTail_X9_sizeIs : GoodIn wsX9_isTail (wsV RX9 156 RX9 yX9_sizeIs wsX9_sizeIs) := goodIn_app (goodIn_of _ (by decide +kernel)) ggX9_isTail_X9_sizeIs
set_option maxRecDepth 20000 in
theorem ggX9_isTail_X9_isInside : GoodIn wsX9_isTail wsX9_isInside := goodIn_r _ [29, 20, 57, 58, 59, 60, 61, 62, 63, 64, 65, 66, 67, 68, 69, 70, 71, 72, 73, 74, 75, 76, 77, 78, 79, 80, 81, 82, 83, 84, 85, 86, 87, 88, 89, 90, 91, 92, 93, 94, 95, 96, 97, 98, 99, 100, 101, 102, 103, 104, 105, 106, 107, 108, 109, 110, 111, 112, 113, 114, 115, 116] (by decide +kernel) (by decide +kernel)
set_option maxRecDepth 20000 in
theorem gX9_isTail_X9_isInside : GoodIn wsX9_isTail (wsV RX9 203 RX9 yX9_isInside wsX9_isInside) := goodIn_app (goodIn_of _ (by decide +kernel)) ggX9_isTail_X9_isInside
set_option maxRecDepth 20000 in
theorem ggX9_isTail_X9_areValues : GoodIn wsX9_isTail wsX9_areValues := goodIn_r _ [33, 34, 35, 57, 58, 59, 60, 61, 62, 63, 64, 65, 66, 67, 68, 69, 70, 71, 72, 73, 74, 75, 76, 77, 78, 79, 80, 81, 82, 83, 84, 85, 86, 87, 88, 89, 90, 91, 92, 93, 94, 95, 96, 97, 98, 99, 100, 101, 102, 103, 104, 105, 106, 107, 108, 109, 110, 111, 112, 113, 114, 115, 116] (by decide +kernel) (by decide +kernel)
set_option maxRecDepth 20000 in
theorem gX9_isTail_X9_areValues : GoodIn wsX9_isTail (wsV RX9 221 RX9 yX9_areValues wsX9_areValues) := goodIn_app (goodIn_of _ (by decide +kernel)) ggX9_isTail_X9_areValues
set_option maxRecDepth 20000 in
theorem ggX9_isTail_X9_escapes : GoodIn wsX9_isTail wsX9_escapes := goodIn_r _ [39, 40, 1, 3, 41, 42, 7, 43, 4, 5, 6, 8, 9, 10, 26, 27, 28, 29, 20, 16, 17, 18, 19, 15, 44, 45, 46, 47, 48, 49, 50, 51, 52, 53, 54, 55, 56, 11, 12, 13, 14, 21, 22, 23, 24, 25, 57, 58, 59, 60, 61, 62, 63, 64, 65, 66, 67, 68, 69, 70, 71, 72, 73, 74, 75, 76, 77, 78, 79, 80, 81, 82, 83, 84, 85, 86, 87, 88, 89, 90, 91, 92, 93, 94, 95, 96, 97, 98, 99, 100, 101, 102, 103, 104, 105, 106, 107, 108, 109, 110, 111, 112, 113, 114, 115, 116] (by decide +kernel) (by decide +kernel)
set_option maxRecDepth 20000 in
theorem gX9_isTail_X9_escapes : GoodIn wsX9_isTail (wsV RX9 224 RX9 yX9_escapes wsX9_escapes) := goodIn_app (goodIn_of _ (by decide +kernel)) ggX9_isTail_X9_escapes
theorem dX9_isTail_0 : decode cX9_isTail 0 = .ok (.aload_n 0, 1) := by decide +kernel
theorem dX9_isTail_1 : decode cX9_isTail 1 = .ok (.iload_n 1, 1) := by decide +kernel
theorem dX9_isTail_2 : decode cX9_isTail 2 = .ok (.invokevirtual 194, 3) := by decide +kernel
theorem dX9_isTail_5 : decode cX9_isTail 5 = .ok (.istore_n 2, 1) := by decide +kernel
theorem dX9_isTail_6 : decode cX9_isTail 6 = .ok (.aload_n 0, 1) := by decide +kernel
theorem dX9_isTail_7 : decode cX9_isTail 7 = .ok (.getfield 47, 3) := by decide +kernel
theorem dX9_isTail_10 : decode cX9_isTail 10 = .ok (.iload_n 1, 1) := by decide +kernel
theorem dX9_isTail_11 : decode cX9_isTail 11 = .ok (.iaload, 1) := by decide +kernel
theorem dX9_isTail_12 : decode cX9_isTail 12 = .ok (.bipush 18, 2) := by decide +kernel
theorem dX9_isTail_14 : decode cX9_isTail 14 = .ok (.if_icmp .ne 49, 3) := by decide +kernel
theorem dX9_isTail_17 : decode cX9_isTail 17 = .ok (.iload_n 2, 1) := by decide +kernel
theorem dX9_isTail_18 : decode cX9_isTail 18 = .ok (.iconst (-1), 1) := by decide +kernel
theorem dX9_isTail_19 : decode cX9_isTail 19 = .ok (.if_icmp .eq 44, 3) := by decide +kernel
theorem dX9_isTail_22 : decode cX9_isTail 22 = .ok (.iload_n 2, 1) := by decide +kernel
theorem dX9_isTail_23 : decode cX9_isTail 23 = .ok (.ifCond .eq 40, 3) := by decide +kernel
theorem dX9_isTail_26 : decode cX9_isTail 26 = .ok (.aload_n 0, 1) := by decide +kernel
theorem dX9_isTail_27 : decode cX9_isTail 27 = .ok (.getfield 47, 3) := by decide +kernel
theorem dX9_isTail_30 : decode cX9_isTail 30 = .ok (.aload_n 0, 1) := by decide +kernel
theorem dX9_isTail_31 : decode cX9_isTail 31 = .ok (.getfield 53, 3) := by decide +kernel
theorem dX9_isTail_34 : decode cX9_isTail 34 = .ok (.iload_n 1, 1) := by decide +kernel
theorem dX9_isTail_35 : decode cX9_isTail 35 = .ok (.iaload, 1) := by decide +kernel
theorem dX9_isTail_36 : decode cX9_isTail 36 = .ok (.iaload, 1) := by decide +kernel
theorem dX9_isTail_37 : decode cX9_isTail 37 = .ok (.bipush 8, 2) := by decide +kernel
theorem dX9_isTail_39 : decode cX9_isTail 39 = .ok (.if_icmp .ne 24, 3) := by decide +kernel
theorem dX9_isTail_42 : decode cX9_isTail 42 = .ok (.aload_n 0, 1) := by decide +kernel
theorem dX9_isTail_43 : decode cX9_isTail 43 = .ok (.iload_n 2, 1) := by decide +kernel
theorem dX9_isTail_44 : decode cX9_isTail 44 = .ok (.aload_n 0, 1) := by decide +kernel
theorem dX9_isTail_45 : decode cX9_isTail 45 = .ok (.getfield 50, 3) := by decide +kernel
theorem dX9_isTail_48 : decode cX9_isTail 48 = .ok (.aload_n 0, 1) := by decide +kernel
theorem dX9_isTail_49 : decode cX9_isTail 49 = .ok (.getfield 53, 3) := by decide +kernel
theorem dX9_isTail_52 : decode cX9_isTail 52 = .ok (.iload_n 1, 1) := by decide +kernel
theorem dX9_isTail_53 : decode cX9_isTail 53 = .ok (.iaload, 1) := by decide +kernel
theorem dX9_isTail_54 : decode cX9_isTail 54 = .ok (.iaload, 1) := by decide +kernel
theorem dX9_isTail_55 : decode cX9_isTail 55 = .ok (.invokevirtual 153, 3) := by decide +kernel
theorem dX9_isTail_58 : decode cX9_isTail 58 = .ok (.bipush 10, 2) := by decide +kernel
theorem dX9_isTail_60 : decode cX9_isTail 60 = .ok (.if_icmp .eq 5, 3) := by decide +kernel
theorem dX9_isTail_63 : decode cX9_isTail 63 = .ok (.iconst 0, 1) := by decide +kernel
theorem dX9_isTail_64 : decode cX9_isTail 64 = .ok (.ireturn, 1) := by decide +kernel
theorem dX9_isTail_65 : decode cX9_isTail 65 = .ok (.aload_n 0, 1) := by decide +kernel
theorem dX9_isTail_66 : decode cX9_isTail 66 = .ok (.iload_n 2, 1) := by decide +kernel
theorem dX9_isTail_67 : decode cX9_isTail 67 = .ok (.aload_n 0, 1) := by decide +kernel
theorem dX9_isTail_68 : decode cX9_isTail 68 = .ok (.getfield 50, 3) := by decide +kernel
theorem dX9_isTail_71 : decode cX9_isTail 71 = .ok (.aload_n 0, 1) := by decide +kernel
theorem dX9_isTail_72 : decode cX9_isTail 72 = .ok (.getfield 53, 3) := by decide +kernel
theorem dX9_isTail_75 : decode cX9_isTail 75 = .ok (.iload_n 1, 1) := by decide +kernel
theorem dX9_isTail_76 : decode cX9_isTail 76 = .ok (.iaload, 1) := by decide +kernel
theorem dX9_isTail_77 : decode cX9_isTail 77 = .ok (.iaload, 1) := by decide +kernel
theorem dX9_isTail_78 : decode cX9_isTail 78 = .ok (.invokevirtual 156, 3) := by decide +kernel
theorem dX9_isTail_81 : decode cX9_isTail 81 = .ok (.istore_n 3, 1) := by decide +kernel
theorem dX9_isTail_82 : decode cX9_isTail 82 = .ok (.aload_n 0, 1) := by decide +kernel
theorem dX9_isTail_83 : decode cX9_isTail 83 = .ok (.iload_n 3, 1) := by decide +kernel
theorem dX9_isTail_84 : decode cX9_isTail 84 = .ok (.iload_n 2, 1) := by decide +kernel
theorem dX9_isTail_85 : decode cX9_isTail 85 = .ok (.invokevirtual 203, 3) := by decide +kernel
theorem dX9_isTail_88 : decode cX9_isTail 88 = .ok (.ifCond .ne 23, 3) := by decide +kernel
theorem dX9_isTail_91 : decode cX9_isTail 91 = .ok (.aload_n 0, 1) := by decide +kernel
theorem dX9_isTail_92 : decode cX9_isTail 92 = .ok (.iload_n 3, 1) := by decide +kernel
theorem dX9_isTail_93 : decode cX9_isTail 93 = .ok (.invokevirtual 221, 3) := by decide +kernel
theorem dX9_isTail_96 : decode cX9_isTail 96 = .ok (.ifCond .eq 15, 3) := by decide +kernel
theorem dX9_isTail_99 : decode cX9_isTail 99 = .ok (.aload_n 0, 1) := by decide +kernel
theorem dX9_isTail_100 : decode cX9_isTail 100 = .ok (.iload_n 2, 1) := by decide +kernel
theorem dX9_isTail_101 : decode cX9_isTail 101 = .ok (.invokevirtual 224, 3) := by decide +kernel
theorem dX9_isTail_104 : decode cX9_isTail 104 = .ok (.ifCond .ne 7, 3) := by decide +kernel
theorem dX9_isTail_107 : decode cX9_isTail 107 = .ok (.iconst 1, 1) := by decide +kernel
theorem dX9_isTail_108 : decode cX9_isTail 108 = .ok (.goto 4, 3) := by decide +kernel
theorem dX9_isTail_111 : decode cX9_isTail 111 = .ok (.iconst 0, 1) := by decide +kernel
theorem dX9_isTail_112 : decode cX9_isTail 112 = .ok (.ireturn, 1) := by decide +kernel
theorem dX9_areValues_0 : decode cX9_areValues 0 = .ok (.iconst 0, 1) := by decide +kernel
theorem dX9_areValues_1 : decode cX9_areValues 1 = .ok (.istore_n 2, 1) := by decide +kernel
theorem dX9_areValues_2 : decode cX9_areValues 2 = .ok (.iload_n 2, 1) := by decide +kernel
theorem dX9_areValues_3 : decode cX9_areValues 3 = .ok (.aload_n 0, 1) := by decide +kernel
theorem dX9_areValues_4 : decode cX9_areValues 4 = .ok (.getfield 20, 3) := by decide +kernel
theorem dX9_areValues_7 : decode cX9_areValues 7 = .ok (.iload_n 1, 1) := by decide +kernel
theorem dX9_areValues_8 : decode cX9_areValues 8 = .ok (.iaload, 1) := by decide +kernel
theorem dX9_areValues_9 : decode cX9_areValues 9 = .ok (.if_icmp .ge 25, 3) := by decide +kernel
theorem dX9_areValues_12 : decode cX9_areValues 12 = .ok (.aload_n 0, 1) := by decide +kernel
theorem dX9_areValues_13 : decode cX9_areValues 13 = .ok (.getfield 41, 3) := by decide +kernel
theorem dX9_areValues_16 : decode cX9_areValues 16 = .ok (.iload_n 1, 1) := by decide +kernel
theorem dX9_areValues_17 : decode cX9_areValues 17 = .ok (.bipush 10, 2) := by decide +kernel
theorem dX9_areValues_19 : decode cX9_areValues 19 = .ok (.imul, 1) := by decide +kernel
theorem dX9_areValues_20 : decode cX9_areValues 20 = .ok (.iload_n 2, 1) := by decide +kernel
theorem dX9_areValues_21 : decode cX9_areValues 21 = .ok (.iadd, 1) := by decide +kernel
theorem dX9_areValues_22 : decode cX9_areValues 22 = .ok (.iaload, 1) := by decide +kernel
theorem dX9_areValues_23 : decode cX9_areValues 23 = .ok (.ifCond .eq 5, 3) := by decide +kernel
theorem dX9_areValues_26 : decode cX9_areValues 26 = .ok (.iconst 0, 1) := by decide +kernel
theorem dX9_areValues_27 : decode cX9_areValues 27 = .ok (.ireturn, 1) := by decide +kernel
theorem dX9_areValues_28 : decode cX9_areValues 28 = .ok (.iinc 2 1, 3) := by decide +kernel
theorem dX9_areValues_31 : decode cX9_areValues 31 = .ok (.goto (-29), 3) := by decide +kernel
theorem dX9_areValues_34 : decode cX9_areValues 34 = .ok (.iconst 1, 1) := by decide +kernel
theorem dX9_areValues_35 : decode cX9_areValues 35 = .ok (.ireturn, 1) := by decide +kernel
set_option maxRecDepth 20000 in
theorem ggX9_ofProcedureNow_X9_escapes : GoodIn wsX9_ofProcedureNow wsX9_escapes := goodIn_r _ [11, 12, 13, 14, 15, 16, 10, 17, 18, 19, 20, 21, 22, 23, 24, 25, 26, 27, 1, 28, 29, 30, 31, 32, 33, 34, 35, 36, 37, 38, 39, 40, 41, 42, 43, 44, 45, 46, 47, 48, 49, 50, 51, 52, 53, 54, 209, 210, 211, 212, 213, 214, 215, 216, 217, 218, 219, 220, 221, 222, 223, 224, 225, 226, 227, 228, 229, 230, 231, 232, 233, 234, 235, 236, 237, 238, 239, 240, 241, 242, 243, 244, 245, 246, 247, 248, 249, 250, 251, 252, 253, 254, 255, 256, 257, 258, 259, 260, 261, 262, 263, 264, 265, 266, 267, 268] (by decide +kernel) (by decide +kernel)
set_option maxRecDepth 20000 in
theorem gX9_ofProcedureNow_X9_escapes : GoodIn wsX9_ofProcedureNow (wsV RX9 224 RX9 yX9_escapes wsX9_escapes) := goodIn_app (goodIn_of _ (by decide +kernel)) ggX9_ofProcedureNow_X9_escapes
set_option maxRecDepth 20000 in
theorem ggX9_ofProcedureNow_X9_isHandedOn : GoodIn wsX9_ofProcedureNow wsX9_isHandedOn := goodIn_r _ [45, 12, 13, 14, 18, 19, 20, 10, 21, 22, 23, 46, 47, 48, 49, 32, 28, 29, 30, 31, 1, 50, 51, 52, 53, 54, 209, 210, 211, 212, 213, 214, 215, 216, 217, 218, 219, 220, 221, 222, 223, 224, 225, 226, 227, 228, 229, 230, 231, 232, 233, 234, 235, 236, 237, 238, 239, 240, 241, 242, 243, 244, 245, 246, 247, 248, 249, 250, 251, 252, 253, 254, 255, 256, 257, 258, 259, 260, 261, 262, 263, 264, 265, 266, 267, 268] (by decide +kernel) (by decide +kernel)
set_option maxRecDepth 20000 in
theorem gX9_ofProcedureNow_X9_isHandedOn : GoodIn wsX9_ofProcedureNow (wsV RX9 197 RX9 yX9_isHandedOn wsX9_isHandedOn) := goodIn_app (goodIn_of _ (by decide +kernel)) ggX9_ofProcedureNow_X9_isHandedOn
set_option maxRecDepth 20000 in
theorem ggX9_ofProcedureNow_X9_faults : GoodIn wsX9_ofProcedureNow wsX9_faults := goodIn_r _ [58, 59, 60, 61, 10, 62, 63, 64, 5, 65, 66, 67, 68, 13, 14, 18, 19, 20, 21, 22, 23, 69, 70, 71, 72, 73, 74, 75, 76, 77, 78, 79, 80, 1, 81, 82, 83, 84, 12, 15, 16, 17, 46, 47, 48, 49, 32, 28, 29, 30, 31, 85, 86, 87, 88, 89, 90, 91, 50, 51, 52, 53, 54, 92, 93, 94, 95, 3, 96, 97, 98, 99, 100, 101, 102, 103, 104, 105, 106, 107, 108, 109, 110, 111, 112, 113, 114, 115, 116, 117, 118, 119, 120, 121, 122, 123, 124, 125, 126, 127, 128, 129, 130, 131, 132, 133, 209, 210, 211, 212, 213, 214, 215, 216, 217, 218, 219, 220, 221, 222, 223, 224, 225, 226, 227, 228, 229, 230, 231, 232, 233, 234, 235, 236, 237, 238, 239, 240, 241, 242, 243, 244, 245, 246, 247, 248, 249, 250, 251, 252, 253, 254, 255, 256, 257, 258, 259, 260, 261, 262, 263, 264, 265, 266, 267, 268] (by decide +kernel) (by decide +kernel)
set_option maxRecDepth 20000 in
theorem gX9_ofProcedureNow_X9_faults : GoodIn wsX9_ofProcedureNow (wsV RX9 227 RX9 yX9_faults wsX9_faults) := goodIn_app (goodIn_of _ (by decide +kernel)) ggX9_ofProcedureNow_X9_faults
set_option maxRecDepth 20000 in
theorem ggX9_ofProcedureNow_X9_length : GoodIn wsX9_ofProcedureNow wsX9_length := goodIn_r _ [137, 138, 139, 140, 141, 10, 142, 143, 144, 5, 145, 146, 147, 148, 13, 14, 1, 149, 150, 151, 152, 153, 63, 154, 155, 156, 157, 46, 47, 48, 49, 32, 28, 29, 30, 31, 50, 51, 52, 53, 54, 158, 159, 160, 161, 162, 163, 164, 165, 33, 34, 35, 36, 37, 166, 167, 168, 169, 170, 171, 172, 173, 174, 175, 69, 70, 71, 72, 73, 74, 75, 76, 22, 77, 78, 79, 80, 81, 82, 83, 84, 12, 18, 19, 20, 21, 23, 176, 177, 178, 179, 104, 180, 105, 110, 111, 112, 113, 96, 181, 182, 183, 184, 121, 122, 123, 131, 132, 133, 185, 186, 187, 188, 189, 190, 191, 192, 193, 194, 195, 196, 197, 198, 199, 200, 201, 202, 203, 124, 125, 126, 127, 128, 129, 130, 204, 205, 206, 207, 24, 25, 26, 27, 92, 93, 94, 95, 3, 7, 8, 9, 11, 15, 16, 17, 38, 39, 40, 41, 42, 43, 44, 45, 208, 209, 210, 211, 212, 213, 214, 215, 216, 217, 218, 219, 220, 221, 222, 223, 224, 225, 226, 227, 228, 229, 230, 231, 232, 233, 234, 235, 236, 237, 238, 239, 240, 241, 242, 243, 244, 245, 246, 247, 248, 249, 250, 251, 252, 253, 254, 255, 256, 257, 258, 259, 260, 261, 262, 263, 264, 265, 266, 267, 268] (by decide +kernel) (by decide +kernel)
set_option maxRecDepth 20000 in
theorem gX9_ofProcedureNow_X9_length : GoodIn wsX9_ofProcedureNow (wsV RX9 231 RX9 yX9_length wsX9_length) := goodIn_app (goodIn_of _ (by decide +kernel)) ggX9_ofProcedureNow_X9_length
theorem dX9_ofProcedureNow_0 : decode cX9_ofProcedureNow 0 = .ok (.iload_n 2, 1) := by decide +kernel
theorem dX9_ofProcedureNow_1 : decode cX9_ofProcedureNow 1 = .ok (.tableswitch 98 0 6 #[43, 50, 57, 64, 71, 77, 91], 43) := by decide +kernel
theorem dX9_ofProcedureNow_44 : decode cX9_ofProcedureNow 44 = .ok (.aload_n 0, 1) := by decide +kernel
theorem dX9_ofProcedureNow_45 : decode cX9_ofProcedureNow 45 = .ok (.getfield 13, 3) := by decide +kernel
theorem dX9_ofProcedureNow_48 : decode cX9_ofProcedureNow 48 = .ok (.iload_n 1, 1) := by decide +kernel
theorem dX9_ofProcedureNow_49 : decode cX9_ofProcedureNow 49 = .ok (.iaload, 1) := by decide +kernel
theorem dX9_ofProcedureNow_50 : decode cX9_ofProcedureNow 50 = .ok (.ireturn, 1) := by decide +kernel
theorem dX9_ofProcedureNow_51 : decode cX9_ofProcedureNow 51 = .ok (.aload_n 0, 1) := by decide +kernel
theorem dX9_ofProcedureNow_52 : decode cX9_ofProcedureNow 52 = .ok (.getfield 17, 3) := by decide +kernel
theorem dX9_ofProcedureNow_55 : decode cX9_ofProcedureNow 55 = .ok (.iload_n 1, 1) := by decide +kernel
theorem dX9_ofProcedureNow_56 : decode cX9_ofProcedureNow 56 = .ok (.iaload, 1) := by decide +kernel
theorem dX9_ofProcedureNow_57 : decode cX9_ofProcedureNow 57 = .ok (.ireturn, 1) := by decide +kernel
theorem dX9_ofProcedureNow_58 : decode cX9_ofProcedureNow 58 = .ok (.aload_n 0, 1) := by decide +kernel
theorem dX9_ofProcedureNow_59 : decode cX9_ofProcedureNow 59 = .ok (.getfield 20, 3) := by decide +kernel
theorem dX9_ofProcedureNow_62 : decode cX9_ofProcedureNow 62 = .ok (.iload_n 1, 1) := by decide +kernel
theorem dX9_ofProcedureNow_63 : decode cX9_ofProcedureNow 63 = .ok (.iaload, 1) := by decide +kernel
theorem dX9_ofProcedureNow_64 : decode cX9_ofProcedureNow 64 = .ok (.ireturn, 1) := by decide +kernel
theorem dX9_ofProcedureNow_65 : decode cX9_ofProcedureNow 65 = .ok (.aload_n 0, 1) := by decide +kernel
theorem dX9_ofProcedureNow_66 : decode cX9_ofProcedureNow 66 = .ok (.getfield 23, 3) := by decide +kernel
theorem dX9_ofProcedureNow_69 : decode cX9_ofProcedureNow 69 = .ok (.iload_n 1, 1) := by decide +kernel
theorem dX9_ofProcedureNow_70 : decode cX9_ofProcedureNow 70 = .ok (.iaload, 1) := by decide +kernel
theorem dX9_ofProcedureNow_71 : decode cX9_ofProcedureNow 71 = .ok (.ireturn, 1) := by decide +kernel
theorem dX9_ofProcedureNow_72 : decode cX9_ofProcedureNow 72 = .ok (.aload_n 0, 1) := by decide +kernel
theorem dX9_ofProcedureNow_73 : decode cX9_ofProcedureNow 73 = .ok (.iload_n 1, 1) := by decide +kernel
theorem dX9_ofProcedureNow_74 : decode cX9_ofProcedureNow 74 = .ok (.invokevirtual 224, 3) := by decide +kernel
theorem dX9_ofProcedureNow_77 : decode cX9_ofProcedureNow 77 = .ok (.ireturn, 1) := by decide +kernel
theorem dX9_ofProcedureNow_78 : decode cX9_ofProcedureNow 78 = .ok (.aload_n 0, 1) := by decide +kernel
theorem dX9_ofProcedureNow_79 : decode cX9_ofProcedureNow 79 = .ok (.iload_n 1, 1) := by decide +kernel
theorem dX9_ofProcedureNow_80 : decode cX9_ofProcedureNow 80 = .ok (.invokevirtual 197, 3) := by decide +kernel
theorem dX9_ofProcedureNow_83 : decode cX9_ofProcedureNow 83 = .ok (.ifCond .eq 7, 3) := by decide +kernel
theorem dX9_ofProcedureNow_86 : decode cX9_ofProcedureNow 86 = .ok (.iconst 1, 1) := by decide +kernel
theorem dX9_ofProcedureNow_87 : decode cX9_ofProcedureNow 87 = .ok (.goto 4, 3) := by decide +kernel
theorem dX9_ofProcedureNow_90 : decode cX9_ofProcedureNow 90 = .ok (.iconst 0, 1) := by decide +kernel
theorem dX9_ofProcedureNow_91 : decode cX9_ofProcedureNow 91 = .ok (.ireturn, 1) := by decide +kernel
theorem dX9_ofProcedureNow_92 : decode cX9_ofProcedureNow 92 = .ok (.aload_n 0, 1) := by decide +kernel
theorem dX9_ofProcedureNow_93 : decode cX9_ofProcedureNow 93 = .ok (.getfield 29, 3) := by decide +kernel
theorem dX9_ofProcedureNow_96 : decode cX9_ofProcedureNow 96 = .ok (.iload_n 1, 1) := by decide +kernel
theorem dX9_ofProcedureNow_97 : decode cX9_ofProcedureNow 97 = .ok (.iaload, 1) := by decide +kernel
theorem dX9_ofProcedureNow_98 : decode cX9_ofProcedureNow 98 = .ok (.ireturn, 1) := by decide +kernel
theorem dX9_ofProcedureNow_99 : decode cX9_ofProcedureNow 99 = .ok (.aload_n 0, 1) := by decide +kernel
theorem dX9_ofProcedureNow_100 : decode cX9_ofProcedureNow 100 = .ok (.invokevirtual 227, 3) := by decide +kernel
theorem dX9_ofProcedureNow_103 : decode cX9_ofProcedureNow 103 = .ok (.ifCond .le 7, 3) := by decide +kernel
theorem dX9_ofProcedureNow_106 : decode cX9_ofProcedureNow 106 = .ok (.iconst 0, 1) := by decide +kernel
theorem dX9_ofProcedureNow_107 : decode cX9_ofProcedureNow 107 = .ok (.goto 12, 3) := by decide +kernel
theorem dX9_ofProcedureNow_110 : decode cX9_ofProcedureNow 110 = .ok (.aload_n 0, 1) := by decide +kernel
theorem dX9_ofProcedureNow_111 : decode cX9_ofProcedureNow 111 = .ok (.iload_n 1, 1) := by decide +kernel
theorem dX9_ofProcedureNow_112 : decode cX9_ofProcedureNow 112 = .ok (.aload_n 0, 1) := by decide +kernel
theorem dX9_ofProcedureNow_113 : decode cX9_ofProcedureNow 113 = .ok (.getfield 65, 3) := by decide +kernel
theorem dX9_ofProcedureNow_116 : decode cX9_ofProcedureNow 116 = .ok (.invokevirtual 231, 3) := by decide +kernel
theorem dX9_ofProcedureNow_119 : decode cX9_ofProcedureNow 119 = .ok (.ireturn, 1) := by decide +kernel
set_option maxRecDepth 20000 in
theorem ggX9_ofProcedure_X9_isProcedure : GoodIn wsX9_ofProcedure wsX9_isProcedure := goodIn_r _ [6, 7, 8, 9, 5, 10, 222, 223, 224, 225, 226, 227, 228, 229, 230, 231, 232, 233, 234, 235, 236, 237, 238, 239, 240, 241, 242, 243, 244, 245, 246, 247, 248, 249, 250, 251, 252, 253, 254, 255, 256, 257, 258, 259, 260, 261, 262, 263, 264, 265, 266, 267, 268, 269, 270, 271, 272, 273, 274, 275, 276, 277, 278, 279, 280, 281] (by decide +kernel) (by decide +kernel)
set_option maxRecDepth 20000 in
theorem gX9_ofProcedure_X9_isProcedure : GoodIn wsX9_ofProcedure (wsV RX9 124 RX9 yX9_isProcedure wsX9_isProcedure) := goodIn_app (goodIn_of _ (by decide +kernel)) ggX9_ofProcedure_X9_isProcedure
set_option maxRecDepth 20000 in
theorem ggX9_ofProcedure_X9_no : GoodIn wsX9_ofProcedure wsX9_no := goodIn_r _ [14, 1, 222, 223, 224, 225, 226, 227, 228, 229, 230, 231, 232, 233, 234, 235, 236, 237, 238, 239, 240, 241, 242, 243, 244, 245, 246, 247, 248, 249, 250, 251, 252, 253, 254, 255, 256, 257, 258, 259, 260, 261, 262, 263, 264, 265, 266, 267, 268, 269, 270, 271, 272, 273, 274, 275, 276, 277, 278, 279, 280, 281] (by decide +kernel) (by decide +kernel)
set_option maxRecDepth 20000 in
theorem gX9_ofProcedure_X9_no : GoodIn wsX9_ofProcedure (wsV RX9 128 RX9 yX9_no wsX9_no) := goodIn_app (goodIn_of _ (by decide +kernel)) ggX9_ofProcedure_X9_no
set_option maxRecDepth 20000 in
theorem ggX9_ofProcedure_X9_isIn : GoodIn wsX9_ofProcedure wsX9_isIn := goodIn_r _ [10] (by decide +kernel) (by decide +kernel)
set_option maxRecDepth 20000 in
theorem gX9_ofProcedure_X9_isIn : GoodIn wsX9_ofProcedure (va_wsS RX9 117 yX9_isIn wsX9_isIn) := goodIn_app (goodIn_of _ (by decide +kernel)) ggX9_ofProcedure_X9_isIn
set_option maxRecDepth 20000 in
theorem ggX9_ofProcedure_X9_ofProcedureNow : GoodIn wsX9_ofProcedure wsX9_ofProcedureNow := goodIn_r _ [18, 19, 20, 21, 22, 23, 24, 25, 26, 27, 5, 28, 29, 30, 31, 32, 33, 34, 35, 36, 37, 38, 39, 40, 41, 42, 43, 44, 45, 46, 47, 48, 49, 50, 51, 52, 53, 54, 55, 56, 57, 58, 59, 60, 61, 62, 63, 64, 65, 66, 67, 68, 69, 70, 71, 72, 73, 74, 75, 76, 77, 78, 79, 80, 7, 81, 82, 83, 84, 85, 86, 87, 88, 89, 90, 91, 92, 93, 94, 95, 96, 97, 98, 99, 100, 101, 102, 103, 104, 105, 106, 107, 108, 109, 110, 111, 112, 113, 114, 115, 116, 117, 118, 119, 120, 121, 122, 123, 124, 125, 126, 127, 128, 129, 130, 131, 132, 133, 134, 135, 136, 8, 9, 10, 137, 138, 139, 140, 141, 142, 143, 144, 145, 146, 147, 148, 149, 150, 151, 152, 153, 154, 155, 156, 157, 158, 159, 160, 161, 162, 163, 164, 165, 166, 167, 168, 169, 170, 171, 172, 173, 174, 175, 176, 177, 178, 179, 180, 181, 182, 183, 184, 185, 186, 187, 188, 189, 190, 191, 192, 193, 194, 195, 196, 197, 198, 199, 200, 201, 202, 203, 204, 205, 206, 207, 208, 209, 210, 211, 212, 213, 214, 215, 216, 217, 218, 219, 220, 221, 222, 223, 224, 225, 226, 227, 228, 229, 230, 231, 232, 233, 234, 235, 236, 237, 238, 239, 240, 241, 242, 243, 244, 245, 246, 247, 248, 249, 250, 251, 252, 253, 254, 255, 256, 257, 258, 259, 260, 261, 262, 263, 264, 265, 266, 267, 268, 269, 270, 271, 272, 273, 274, 275, 276, 277, 278, 279, 280, 281] (by decide +kernel) (by decide +kernel)
set_option maxRecDepth 20000 in
theorem gX9_ofProcedure_X9_ofProcedureNow : GoodIn wsX9_ofProcedure (wsV RX9 234 RX9 yX9_ofProcedureNow wsX9_ofProcedureNow) := goodIn_app (goodIn_of _ (by decide +kernel)) ggX9_ofProcedure_X9_ofProcedureNow
theorem dX9_ofProcedure_0 : decode cX9_ofProcedure 0 = .ok (.aload_n 0, 1) := by decide +kernel
theorem dX9_ofProcedure_1 : decode cX9_ofProcedure 1 = .ok (.iconst 0, 1) := by decide +kernel
theorem dX9_ofProcedure_2 : decode cX9_ofProcedure 2 = .ok (.putfield 114, 3) := by decide +kernel
theorem dX9_ofProcedure_5 : decode cX9_ofProcedure 5 = .ok (.aload_n 0, 1) := by decide +kernel
theorem dX9_ofProcedure_6 : decode cX9_ofProcedure 6 = .ok (.iload_n 1, 1) := by decide +kernel
theorem dX9_ofProcedure_7 : decode cX9_ofProcedure 7 = .ok (.invokevirtual 124, 3) := by decide +kernel
theorem dX9_ofProcedure_10 : decode cX9_ofProcedure 10 = .ok (.ifCond .ne 9, 3) := by decide +kernel
theorem dX9_ofProcedure_13 : decode cX9_ofProcedure 13 = .ok (.aload_n 0, 1) := by decide +kernel
theorem dX9_ofProcedure_14 : decode cX9_ofProcedure 14 = .ok (.iconst 1, 1) := by decide +kernel
theorem dX9_ofProcedure_15 : decode cX9_ofProcedure 15 = .ok (.invokevirtual 128, 3) := by decide +kernel
theorem dX9_ofProcedure_18 : decode cX9_ofProcedure 18 = .ok (.ireturn, 1) := by decide +kernel
theorem dX9_ofProcedure_19 : decode cX9_ofProcedure 19 = .ok (.iload_n 2, 1) := by decide +kernel
theorem dX9_ofProcedure_20 : decode cX9_ofProcedure 20 = .ok (.iconst 0, 1) := by decide +kernel
theorem dX9_ofProcedure_21 : decode cX9_ofProcedure 21 = .ok (.bipush 7, 2) := by decide +kernel
theorem dX9_ofProcedure_23 : decode cX9_ofProcedure 23 = .ok (.invokestatic 117, 3) := by decide +kernel
theorem dX9_ofProcedure_26 : decode cX9_ofProcedure 26 = .ok (.ifCond .eq 12, 3) := by decide +kernel
theorem dX9_ofProcedure_29 : decode cX9_ofProcedure 29 = .ok (.aload_n 0, 1) := by decide +kernel
theorem dX9_ofProcedure_30 : decode cX9_ofProcedure 30 = .ok (.iload_n 1, 1) := by decide +kernel
theorem dX9_ofProcedure_31 : decode cX9_ofProcedure 31 = .ok (.iload_n 2, 1) := by decide +kernel
theorem dX9_ofProcedure_32 : decode cX9_ofProcedure 32 = .ok (.invokevirtual 234, 3) := by decide +kernel
theorem dX9_ofProcedure_35 : decode cX9_ofProcedure 35 = .ok (.goto 8, 3) := by decide +kernel
theorem dX9_ofProcedure_38 : decode cX9_ofProcedure 38 = .ok (.aload_n 0, 1) := by decide +kernel
theorem dX9_ofProcedure_39 : decode cX9_ofProcedure 39 = .ok (.iconst 2, 1) := by decide +kernel
theorem dX9_ofProcedure_40 : decode cX9_ofProcedure 40 = .ok (.invokevirtual 128, 3) := by decide +kernel
theorem dX9_ofProcedure_43 : decode cX9_ofProcedure 43 = .ok (.ireturn, 1) := by decide +kernel
set_option maxRecDepth 20000 in
theorem ggX9_ofNodeNow_X9_in : GoodIn wsX9_ofNodeNow wsX9_in := goodIn_r _ [9, 10, 11, 84, 85, 86, 87, 88, 89, 90, 91, 92, 93, 94, 95, 96, 97, 98, 99, 100, 101, 102, 103, 104, 105, 106, 107, 108, 109, 110, 111, 112, 113, 114, 115, 116, 117, 118, 119, 120, 121, 122, 123, 124, 125, 126, 127, 128, 129, 130, 131, 132, 133, 134, 135, 136, 137, 138, 139, 140, 141, 142, 143] (by decide +kernel) (by decide +kernel)
set_option maxRecDepth 20000 in
theorem gX9_ofNodeNow_X9_in : GoodIn wsX9_ofNodeNow (wsV RX9 194 RX9 yX9_in wsX9_in) := goodIn_app (goodIn_of _ (by decide +kernel)) ggX9_ofNodeNow_X9_in
set_option maxRecDepth 20000 in
theorem ggX9_ofNodeNow_X9_isFolded : GoodIn wsX9_ofNodeNow wsX9_isFolded := goodIn_r _ [15, 1, 3, 4, 16, 17, 8, 18, 19, 20, 21, 22, 23, 24, 25, 2, 26, 27, 28, 29, 12, 13, 14, 84, 85, 86, 87, 88, 89, 90, 91, 92, 93, 94, 95, 96, 97, 98, 99, 100, 101, 102, 103, 104, 105, 106, 107, 108, 109, 110, 111, 112, 113, 114, 115, 116, 117, 118, 119, 120, 121, 122, 123, 124, 125, 126, 127, 128, 129, 130, 131, 132, 133, 134, 135, 136, 137, 138, 139, 140, 141, 142, 143] (by decide +kernel) (by decide +kernel)
set_option maxRecDepth 20000 in
theorem gX9_ofNodeNow_X9_isFolded : GoodIn wsX9_ofNodeNow (wsV RX9 209 RX9 yX9_isFolded wsX9_isFolded) := goodIn_app (goodIn_of _ (by decide +kernel)) ggX9_ofNodeNow_X9_isFolded
set_option maxRecDepth 20000 in
theorem ggX9_ofNodeNow_X9_isTail : GoodIn wsX9_ofNodeNow wsX9_isTail := goodIn_r _ [33, 1, 3, 2, 5, 6, 7, 8, 9, 10, 11, 34, 35, 36, 37, 38, 39, 40, 41, 42, 43, 44, 45, 46, 47, 48, 49, 50, 51, 52, 53, 54, 55, 56, 57, 58, 59, 60, 61, 62, 63, 64, 65, 66, 67, 68, 69, 70, 71, 72, 73, 74, 75, 76, 77, 78, 79, 84, 85, 86, 87, 88, 89, 90, 91, 92, 93, 94, 95, 96, 97, 98, 99, 100, 101, 102, 103, 104, 105, 106, 107, 108, 109, 110, 111, 112, 113, 114, 115, 116, 117, 118, 119, 120, 121, 122, 123, 124, 125, 126, 127, 128, 129, 130, 131, 132, 133, 134, 135, 136, 137, 138, 139, 140, 141, 142, 143] (by decide +kernel) (by decide +kernel)
set_option maxRecDepth 20000 in
theorem gX9_ofNodeNow_X9_isTail : GoodIn wsX9_ofNodeNow (wsV RX9 237 RX9 yX9_isTail wsX9_isTail) := goodIn_app (goodIn_of _ (by decide +kernel)) ggX9_ofNodeNow_X9_isTail
set_option maxRecDepth 20000 in
theorem ggX9_ofNodeNow_X9_hasName : GoodIn wsX9_ofNodeNow wsX9_hasName := goodIn_r _ [66] (by decide +kernel) (by decide +kernel)
set_option maxRecDepth 20000 in
theorem gX9_ofNodeNow_X9_hasName : GoodIn wsX9_ofNodeNow (va_wsS RX9 200 yX9_hasName wsX9_hasName) := goodIn_app (goodIn_of _ (by decide +kernel)) ggX9_ofNodeNow_X9_hasName
set_option maxRecDepth 20000 in
theorem ggX9_ofNodeNow_X9_declarer : GoodIn wsX9_ofNodeNow wsX9_declarer := goodIn_r _ [42, 38, 43, 84, 85, 86, 87, 88, 89, 90, 91, 92, 93, 94, 95, 96, 97, 98, 99, 100, 101, 102, 103, 104, 105, 106, 107, 108, 109, 110, 111, 112, 113, 114, 115, 116, 117, 118, 119, 120, 121, 122, 123, 124, 125, 126, 127, 128, 129, 130, 131, 132, 133, 134, 135, 136, 137, 138, 139, 140, 141, 142, 143] (by decide +kernel) (by decide +kernel)
set_option maxRecDepth 20000 in
theorem gX9_ofNodeNow_X9_declarer : GoodIn wsX9_ofNodeNow (wsV RX9 143 RX9 yX9_declarer wsX9_declarer) := goodIn_app (goodIn_of _ (by decide +kernel)) ggX9_ofNodeNow_X9_declarer
set_option maxRecDepth 20000 in
theorem ggX9_ofNodeNow_X9_hops : GoodIn wsX9_ofNodeNow wsX9_hops := goodIn_r _ [83, 38, 43, 84, 85, 86, 87, 88, 89, 90, 91, 92, 93, 94, 95, 96, 97, 98, 99, 100, 101, 102, 103, 104, 105, 106, 107, 108, 109, 110, 111, 112, 113, 114, 115, 116, 117, 118, 119, 120, 121, 122, 123, 124, 125, 126, 127, 128, 129, 130, 131, 132, 133, 134, 135, 136, 137, 138, 139, 140, 141, 142, 143] (by decide +kernel) (by decide +kernel)
set_option maxRecDepth 20000 in
theorem gX9_ofNodeNow_X9_hops : GoodIn wsX9_ofNodeNow (wsV RX9 147 RX9 yX9_hops wsX9_hops) := goodIn_app (goodIn_of _ (by decide +kernel)) ggX9_ofNodeNow_X9_hops
theorem dX9_ofNodeNow_0 : decode cX9_ofNodeNow 0 = .ok (.aload_n 0, 1) := by decide +kernel
theorem dX9_ofNodeNow_1 : decode cX9_ofNodeNow 1 = .ok (.iload_n 1, 1) := by decide +kernel
theorem dX9_ofNodeNow_2 : decode cX9_ofNodeNow 2 = .ok (.invokevirtual 194, 3) := by decide +kernel
theorem dX9_ofNodeNow_5 : decode cX9_ofNodeNow 5 = .ok (.istore_n 3, 1) := by decide +kernel
theorem dX9_ofNodeNow_6 : decode cX9_ofNodeNow 6 = .ok (.iload_n 2, 1) := by decide +kernel
theorem dX9_ofNodeNow_7 : decode cX9_ofNodeNow 7 = .ok (.tableswitch 99 0 6 #[41, 48, 55, 62, 69, 71, 85], 41) := by decide +kernel
theorem dX9_ofNodeNow_48 : decode cX9_ofNodeNow 48 = .ok (.aload_n 0, 1) := by decide +kernel
theorem dX9_ofNodeNow_49 : decode cX9_ofNodeNow 49 = .ok (.getfield 47, 3) := by decide +kernel
theorem dX9_ofNodeNow_52 : decode cX9_ofNodeNow 52 = .ok (.iload_n 1, 1) := by decide +kernel
theorem dX9_ofNodeNow_53 : decode cX9_ofNodeNow 53 = .ok (.iaload, 1) := by decide +kernel
theorem dX9_ofNodeNow_54 : decode cX9_ofNodeNow 54 = .ok (.ireturn, 1) := by decide +kernel
theorem dX9_ofNodeNow_55 : decode cX9_ofNodeNow 55 = .ok (.aload_n 0, 1) := by decide +kernel
theorem dX9_ofNodeNow_56 : decode cX9_ofNodeNow 56 = .ok (.getfield 50, 3) := by decide +kernel
theorem dX9_ofNodeNow_59 : decode cX9_ofNodeNow 59 = .ok (.iload_n 1, 1) := by decide +kernel
theorem dX9_ofNodeNow_60 : decode cX9_ofNodeNow 60 = .ok (.iaload, 1) := by decide +kernel
theorem dX9_ofNodeNow_61 : decode cX9_ofNodeNow 61 = .ok (.ireturn, 1) := by decide +kernel
theorem dX9_ofNodeNow_62 : decode cX9_ofNodeNow 62 = .ok (.aload_n 0, 1) := by decide +kernel
theorem dX9_ofNodeNow_63 : decode cX9_ofNodeNow 63 = .ok (.getfield 53, 3) := by decide +kernel
theorem dX9_ofNodeNow_66 : decode cX9_ofNodeNow 66 = .ok (.iload_n 1, 1) := by decide +kernel
theorem dX9_ofNodeNow_67 : decode cX9_ofNodeNow 67 = .ok (.iaload, 1) := by decide +kernel
theorem dX9_ofNodeNow_68 : decode cX9_ofNodeNow 68 = .ok (.ireturn, 1) := by decide +kernel
theorem dX9_ofNodeNow_69 : decode cX9_ofNodeNow 69 = .ok (.aload_n 0, 1) := by decide +kernel
theorem dX9_ofNodeNow_70 : decode cX9_ofNodeNow 70 = .ok (.getfield 56, 3) := by decide +kernel
theorem dX9_ofNodeNow_73 : decode cX9_ofNodeNow 73 = .ok (.iload_n 1, 1) := by decide +kernel
theorem dX9_ofNodeNow_74 : decode cX9_ofNodeNow 74 = .ok (.iaload, 1) := by decide +kernel
theorem dX9_ofNodeNow_75 : decode cX9_ofNodeNow 75 = .ok (.ireturn, 1) := by decide +kernel
theorem dX9_ofNodeNow_76 : decode cX9_ofNodeNow 76 = .ok (.iload_n 3, 1) := by decide +kernel
theorem dX9_ofNodeNow_77 : decode cX9_ofNodeNow 77 = .ok (.ireturn, 1) := by decide +kernel
theorem dX9_ofNodeNow_78 : decode cX9_ofNodeNow 78 = .ok (.aload_n 0, 1) := by decide +kernel
theorem dX9_ofNodeNow_79 : decode cX9_ofNodeNow 79 = .ok (.iload_n 1, 1) := by decide +kernel
theorem dX9_ofNodeNow_80 : decode cX9_ofNodeNow 80 = .ok (.invokevirtual 209, 3) := by decide +kernel
theorem dX9_ofNodeNow_83 : decode cX9_ofNodeNow 83 = .ok (.ifCond .eq 7, 3) := by decide +kernel
theorem dX9_ofNodeNow_86 : decode cX9_ofNodeNow 86 = .ok (.iconst 1, 1) := by decide +kernel
theorem dX9_ofNodeNow_87 : decode cX9_ofNodeNow 87 = .ok (.goto 4, 3) := by decide +kernel
theorem dX9_ofNodeNow_90 : decode cX9_ofNodeNow 90 = .ok (.iconst 0, 1) := by decide +kernel
theorem dX9_ofNodeNow_91 : decode cX9_ofNodeNow 91 = .ok (.ireturn, 1) := by decide +kernel
theorem dX9_ofNodeNow_92 : decode cX9_ofNodeNow 92 = .ok (.aload_n 0, 1) := by decide +kernel
theorem dX9_ofNodeNow_93 : decode cX9_ofNodeNow 93 = .ok (.iload_n 1, 1) := by decide +kernel
theorem dX9_ofNodeNow_94 : decode cX9_ofNodeNow 94 = .ok (.invokevirtual 237, 3) := by decide +kernel
theorem dX9_ofNodeNow_97 : decode cX9_ofNodeNow 97 = .ok (.ifCond .eq 7, 3) := by decide +kernel
theorem dX9_ofNodeNow_100 : decode cX9_ofNodeNow 100 = .ok (.iconst 1, 1) := by decide +kernel
theorem dX9_ofNodeNow_101 : decode cX9_ofNodeNow 101 = .ok (.goto 4, 3) := by decide +kernel
theorem dX9_ofNodeNow_104 : decode cX9_ofNodeNow 104 = .ok (.iconst 0, 1) := by decide +kernel
theorem dX9_ofNodeNow_105 : decode cX9_ofNodeNow 105 = .ok (.ireturn, 1) := by decide +kernel
theorem dX9_ofNodeNow_106 : decode cX9_ofNodeNow 106 = .ok (.iload_n 3, 1) := by decide +kernel
theorem dX9_ofNodeNow_107 : decode cX9_ofNodeNow 107 = .ok (.iconst (-1), 1) := by decide +kernel
theorem dX9_ofNodeNow_108 : decode cX9_ofNodeNow 108 = .ok (.if_icmp .eq 30, 3) := by decide +kernel
theorem dX9_ofNodeNow_111 : decode cX9_ofNodeNow 111 = .ok (.aload_n 0, 1) := by decide +kernel
theorem dX9_ofNodeNow_112 : decode cX9_ofNodeNow 112 = .ok (.getfield 47, 3) := by decide +kernel
theorem dX9_ofNodeNow_115 : decode cX9_ofNodeNow 115 = .ok (.iload_n 1, 1) := by decide +kernel
theorem dX9_ofNodeNow_116 : decode cX9_ofNodeNow 116 = .ok (.iaload, 1) := by decide +kernel
theorem dX9_ofNodeNow_117 : decode cX9_ofNodeNow 117 = .ok (.invokestatic 200, 3) := by decide +kernel
theorem dX9_ofNodeNow_120 : decode cX9_ofNodeNow 120 = .ok (.ifCond .eq 18, 3) := by decide +kernel
theorem dX9_ofNodeNow_123 : decode cX9_ofNodeNow 123 = .ok (.aload_n 0, 1) := by decide +kernel
theorem dX9_ofNodeNow_124 : decode cX9_ofNodeNow 124 = .ok (.iload_n 3, 1) := by decide +kernel
theorem dX9_ofNodeNow_125 : decode cX9_ofNodeNow 125 = .ok (.aload_n 0, 1) := by decide +kernel
theorem dX9_ofNodeNow_126 : decode cX9_ofNodeNow 126 = .ok (.getfield 50, 3) := by decide +kernel
theorem dX9_ofNodeNow_129 : decode cX9_ofNodeNow 129 = .ok (.iload_n 1, 1) := by decide +kernel
theorem dX9_ofNodeNow_130 : decode cX9_ofNodeNow 130 = .ok (.iaload, 1) := by decide +kernel
theorem dX9_ofNodeNow_131 : decode cX9_ofNodeNow 131 = .ok (.invokevirtual 143, 3) := by decide +kernel
theorem dX9_ofNodeNow_134 : decode cX9_ofNodeNow 134 = .ok (.iconst (-1), 1) := by decide +kernel
theorem dX9_ofNodeNow_135 : decode cX9_ofNodeNow 135 = .ok (.if_icmp .ne 7, 3) := by decide +kernel
theorem dX9_ofNodeNow_138 : decode cX9_ofNodeNow 138 = .ok (.iconst (-1), 1) := by decide +kernel
theorem dX9_ofNodeNow_139 : decode cX9_ofNodeNow 139 = .ok (.goto 14, 3) := by decide +kernel
theorem dX9_ofNodeNow_142 : decode cX9_ofNodeNow 142 = .ok (.aload_n 0, 1) := by decide +kernel
theorem dX9_ofNodeNow_143 : decode cX9_ofNodeNow 143 = .ok (.iload_n 3, 1) := by decide +kernel
theorem dX9_ofNodeNow_144 : decode cX9_ofNodeNow 144 = .ok (.aload_n 0, 1) := by decide +kernel
theorem dX9_ofNodeNow_145 : decode cX9_ofNodeNow 145 = .ok (.getfield 50, 3) := by decide +kernel
theorem dX9_ofNodeNow_148 : decode cX9_ofNodeNow 148 = .ok (.iload_n 1, 1) := by decide +kernel
theorem dX9_ofNodeNow_149 : decode cX9_ofNodeNow 149 = .ok (.iaload, 1) := by decide +kernel
theorem dX9_ofNodeNow_150 : decode cX9_ofNodeNow 150 = .ok (.invokevirtual 147, 3) := by decide +kernel
theorem dX9_ofNodeNow_153 : decode cX9_ofNodeNow 153 = .ok (.ireturn, 1) := by decide +kernel
set_option maxRecDepth 20000 in
theorem ggX9_ofNode_X9_isNode : GoodIn wsX9_ofNode wsX9_isNode := goodIn_r _ [6, 7, 8, 9, 5, 10, 97, 98, 99, 100, 101, 102, 103, 104, 105, 106, 107, 108, 109, 110, 111, 112, 113, 114, 115, 116, 117, 118, 119, 120, 121, 122, 123, 124, 125, 126, 127, 128, 129, 130, 131, 132, 133, 134, 135, 136, 137, 138, 139, 140, 141, 142, 143, 144, 145, 146, 147, 148, 149, 150, 151, 152, 153, 154, 155, 156] (by decide +kernel) (by decide +kernel)
set_option maxRecDepth 20000 in
theorem gX9_ofNode_X9_isNode : GoodIn wsX9_ofNode (wsV RX9 159 RX9 yX9_isNode wsX9_isNode) := goodIn_app (goodIn_of _ (by decide +kernel)) ggX9_ofNode_X9_isNode
set_option maxRecDepth 20000 in
theorem ggX9_ofNode_X9_no : GoodIn wsX9_ofNode wsX9_no := goodIn_r _ [14, 1, 97, 98, 99, 100, 101, 102, 103, 104, 105, 106, 107, 108, 109, 110, 111, 112, 113, 114, 115, 116, 117, 118, 119, 120, 121, 122, 123, 124, 125, 126, 127, 128, 129, 130, 131, 132, 133, 134, 135, 136, 137, 138, 139, 140, 141, 142, 143, 144, 145, 146, 147, 148, 149, 150, 151, 152, 153, 154, 155, 156] (by decide +kernel) (by decide +kernel)
set_option maxRecDepth 20000 in
theorem gX9_ofNode_X9_no : GoodIn wsX9_ofNode (wsV RX9 128 RX9 yX9_no wsX9_no) := goodIn_app (goodIn_of _ (by decide +kernel)) ggX9_ofNode_X9_no
set_option maxRecDepth 20000 in
theorem ggX9_ofNode_X9_isIn : GoodIn wsX9_ofNode wsX9_isIn := goodIn_r _ [10] (by decide +kernel) (by decide +kernel)
set_option maxRecDepth 20000 in
theorem gX9_ofNode_X9_isIn : GoodIn wsX9_ofNode (va_wsS RX9 117 yX9_isIn wsX9_isIn) := goodIn_app (goodIn_of _ (by decide +kernel)) ggX9_ofNode_X9_isIn
set_option maxRecDepth 20000 in
theorem ggX9_ofNode_X9_ofNodeNow : GoodIn wsX9_ofNode wsX9_ofNodeNow := goodIn_r _ [18, 19, 20, 21, 22, 23, 24, 25, 5, 26, 27, 28, 29, 30, 31, 32, 8, 9, 10, 33, 34, 35, 36, 37, 38, 39, 40, 41, 42, 43, 44, 45, 46, 47, 48, 49, 50, 51, 52, 53, 54, 55, 56, 57, 58, 59, 60, 61, 62, 63, 64, 65, 66, 67, 68, 69, 70, 71, 72, 73, 74, 75, 76, 7, 77, 78, 79, 80, 81, 82, 83, 84, 85, 86, 87, 88, 89, 90, 91, 92, 93, 94, 95, 96, 97, 98, 99, 100, 101, 102, 103, 104, 105, 106, 107, 108, 109, 110, 111, 112, 113, 114, 115, 116, 117, 118, 119, 120, 121, 122, 123, 124, 125, 126, 127, 128, 129, 130, 131, 132, 133, 134, 135, 136, 137, 138, 139, 140, 141, 142, 143, 144, 145, 146, 147, 148, 149, 150, 151, 152, 153, 154, 155, 156] (by decide +kernel) (by decide +kernel)
set_option maxRecDepth 20000 in
theorem gX9_ofNode_X9_ofNodeNow : GoodIn wsX9_ofNode (wsV RX9 240 RX9 yX9_ofNodeNow wsX9_ofNodeNow) := goodIn_app (goodIn_of _ (by decide +kernel)) ggX9_ofNode_X9_ofNodeNow
theorem dX9_ofNode_0 : decode cX9_ofNode 0 = .ok (.aload_n 0, 1) := by decide +kernel
theorem dX9_ofNode_1 : decode cX9_ofNode 1 = .ok (.iconst 0, 1) := by decide +kernel
theorem dX9_ofNode_2 : decode cX9_ofNode 2 = .ok (.putfield 114, 3) := by decide +kernel
theorem dX9_ofNode_5 : decode cX9_ofNode 5 = .ok (.aload_n 0, 1) := by decide +kernel
theorem dX9_ofNode_6 : decode cX9_ofNode 6 = .ok (.iload_n 1, 1) := by decide +kernel
theorem dX9_ofNode_7 : decode cX9_ofNode 7 = .ok (.invokevirtual 159, 3) := by decide +kernel
theorem dX9_ofNode_10 : decode cX9_ofNode 10 = .ok (.ifCond .ne 9, 3) := by decide +kernel
theorem dX9_ofNode_13 : decode cX9_ofNode 13 = .ok (.aload_n 0, 1) := by decide +kernel
theorem dX9_ofNode_14 : decode cX9_ofNode 14 = .ok (.iconst 1, 1) := by decide +kernel
theorem dX9_ofNode_15 : decode cX9_ofNode 15 = .ok (.invokevirtual 128, 3) := by decide +kernel
theorem dX9_ofNode_18 : decode cX9_ofNode 18 = .ok (.ireturn, 1) := by decide +kernel
theorem dX9_ofNode_19 : decode cX9_ofNode 19 = .ok (.iload_n 2, 1) := by decide +kernel
theorem dX9_ofNode_20 : decode cX9_ofNode 20 = .ok (.iconst 0, 1) := by decide +kernel
theorem dX9_ofNode_21 : decode cX9_ofNode 21 = .ok (.bipush 7, 2) := by decide +kernel
theorem dX9_ofNode_23 : decode cX9_ofNode 23 = .ok (.invokestatic 117, 3) := by decide +kernel
theorem dX9_ofNode_26 : decode cX9_ofNode 26 = .ok (.ifCond .eq 12, 3) := by decide +kernel
theorem dX9_ofNode_29 : decode cX9_ofNode 29 = .ok (.aload_n 0, 1) := by decide +kernel
theorem dX9_ofNode_30 : decode cX9_ofNode 30 = .ok (.iload_n 1, 1) := by decide +kernel
theorem dX9_ofNode_31 : decode cX9_ofNode 31 = .ok (.iload_n 2, 1) := by decide +kernel
theorem dX9_ofNode_32 : decode cX9_ofNode 32 = .ok (.invokevirtual 240, 3) := by decide +kernel
theorem dX9_ofNode_35 : decode cX9_ofNode 35 = .ok (.goto 8, 3) := by decide +kernel
theorem dX9_ofNode_38 : decode cX9_ofNode 38 = .ok (.aload_n 0, 1) := by decide +kernel
theorem dX9_ofNode_39 : decode cX9_ofNode 39 = .ok (.iconst 2, 1) := by decide +kernel
theorem dX9_ofNode_40 : decode cX9_ofNode 40 = .ok (.invokevirtual 128, 3) := by decide +kernel
theorem dX9_ofNode_43 : decode cX9_ofNode 43 = .ok (.ireturn, 1) := by decide +kernel
set_option maxRecDepth 20000 in
theorem ggX9_isLoopAround_X9_loopAround : GoodIn wsX9_isLoopAround wsX9_loopAround := goodIn_r _ [5, 6, 7, 8, 9, 10, 11, 12, 13, 14, 15, 16, 17, 18, 19, 20, 21, 22, 23, 24, 25, 26, 27, 28, 29, 30, 31, 32, 33, 34, 35, 36, 37, 38, 39, 40, 41, 42, 43, 44, 45, 46, 47, 48, 49, 50, 51, 52, 53, 54, 55, 56, 57, 58, 59, 60, 61, 62, 63, 64, 65, 66, 67, 68] (by decide +kernel) (by decide +kernel)
set_option maxRecDepth 20000 in
theorem gX9_isLoopAround_X9_loopAround : GoodIn wsX9_isLoopAround (wsV RX9 243 RX9 yX9_loopAround wsX9_loopAround) := goodIn_app (goodIn_of _ (by decide +kernel)) ggX9_isLoopAround_X9_loopAround
theorem dX9_isLoopAround_0 : decode cX9_isLoopAround 0 = .ok (.aload_n 0, 1) := by decide +kernel
theorem dX9_isLoopAround_1 : decode cX9_isLoopAround 1 = .ok (.iload_n 1, 1) := by decide +kernel
theorem dX9_isLoopAround_2 : decode cX9_isLoopAround 2 = .ok (.iload_n 2, 1) := by decide +kernel
theorem dX9_isLoopAround_3 : decode cX9_isLoopAround 3 = .ok (.invokevirtual 243, 3) := by decide +kernel
theorem dX9_isLoopAround_6 : decode cX9_isLoopAround 6 = .ok (.iconst (-1), 1) := by decide +kernel
theorem dX9_isLoopAround_7 : decode cX9_isLoopAround 7 = .ok (.if_icmp .eq 7, 3) := by decide +kernel
theorem dX9_isLoopAround_10 : decode cX9_isLoopAround 10 = .ok (.iconst 1, 1) := by decide +kernel
theorem dX9_isLoopAround_11 : decode cX9_isLoopAround 11 = .ok (.goto 4, 3) := by decide +kernel
theorem dX9_isLoopAround_14 : decode cX9_isLoopAround 14 = .ok (.iconst 0, 1) := by decide +kernel
theorem dX9_isLoopAround_15 : decode cX9_isLoopAround 15 = .ok (.ireturn, 1) := by decide +kernel
theorem dX9_loopAround_0 : decode cX9_loopAround 0 = .ok (.aload_n 0, 1) := by decide +kernel
theorem dX9_loopAround_1 : decode cX9_loopAround 1 = .ok (.getfield 59, 3) := by decide +kernel
theorem dX9_loopAround_4 : decode cX9_loopAround 4 = .ok (.iload_n 1, 1) := by decide +kernel
theorem dX9_loopAround_5 : decode cX9_loopAround 5 = .ok (.iaload, 1) := by decide +kernel
theorem dX9_loopAround_6 : decode cX9_loopAround 6 = .ok (.istore_n 3, 1) := by decide +kernel
theorem dX9_loopAround_7 : decode cX9_loopAround 7 = .ok (.iload_n 3, 1) := by decide +kernel
theorem dX9_loopAround_8 : decode cX9_loopAround 8 = .ok (.iconst (-1), 1) := by decide +kernel
theorem dX9_loopAround_9 : decode cX9_loopAround 9 = .ok (.if_icmp .eq 34, 3) := by decide +kernel
theorem dX9_loopAround_12 : decode cX9_loopAround 12 = .ok (.aload_n 0, 1) := by decide +kernel
theorem dX9_loopAround_13 : decode cX9_loopAround 13 = .ok (.getfield 47, 3) := by decide +kernel
theorem dX9_loopAround_16 : decode cX9_loopAround 16 = .ok (.iload_n 3, 1) := by decide +kernel
theorem dX9_loopAround_17 : decode cX9_loopAround 17 = .ok (.iaload, 1) := by decide +kernel
theorem dX9_loopAround_18 : decode cX9_loopAround 18 = .ok (.bipush 16, 2) := by decide +kernel
theorem dX9_loopAround_20 : decode cX9_loopAround 20 = .ok (.if_icmp .ne 13, 3) := by decide +kernel
theorem dX9_loopAround_23 : decode cX9_loopAround 23 = .ok (.aload_n 0, 1) := by decide +kernel
theorem dX9_loopAround_24 : decode cX9_loopAround 24 = .ok (.getfield 50, 3) := by decide +kernel
theorem dX9_loopAround_27 : decode cX9_loopAround 27 = .ok (.iload_n 3, 1) := by decide +kernel
theorem dX9_loopAround_28 : decode cX9_loopAround 28 = .ok (.iaload, 1) := by decide +kernel
theorem dX9_loopAround_29 : decode cX9_loopAround 29 = .ok (.iload_n 2, 1) := by decide +kernel
theorem dX9_loopAround_30 : decode cX9_loopAround 30 = .ok (.if_icmp .eq 13, 3) := by decide +kernel
theorem dX9_loopAround_33 : decode cX9_loopAround 33 = .ok (.aload_n 0, 1) := by decide +kernel
theorem dX9_loopAround_34 : decode cX9_loopAround 34 = .ok (.getfield 59, 3) := by decide +kernel
theorem dX9_loopAround_37 : decode cX9_loopAround 37 = .ok (.iload_n 3, 1) := by decide +kernel
theorem dX9_loopAround_38 : decode cX9_loopAround 38 = .ok (.iaload, 1) := by decide +kernel
theorem dX9_loopAround_39 : decode cX9_loopAround 39 = .ok (.istore_n 3, 1) := by decide +kernel
theorem dX9_loopAround_40 : decode cX9_loopAround 40 = .ok (.goto (-33), 3) := by decide +kernel
theorem dX9_loopAround_43 : decode cX9_loopAround 43 = .ok (.iload_n 3, 1) := by decide +kernel
theorem dX9_loopAround_44 : decode cX9_loopAround 44 = .ok (.ireturn, 1) := by decide +kernel
set_option maxRecDepth 20000 in
theorem ggX9_hasLoop_X9_in : GoodIn wsX9_hasLoop wsX9_in := goodIn_r _ [8, 9, 10, 11, 12, 13, 14, 15, 16, 17, 18, 19, 20, 21, 22, 23, 24, 25, 26, 27, 28, 29, 30, 31, 32, 33, 34, 35, 36, 37, 38, 39, 40, 41, 42, 43, 44, 45, 46, 47, 48, 49, 50, 51, 52, 53, 54, 55, 56, 57, 58, 59, 60, 61, 62, 63, 64, 65, 66, 67, 68, 69, 70] (by decide +kernel) (by decide +kernel)
set_option maxRecDepth 20000 in
theorem gX9_hasLoop_X9_in : GoodIn wsX9_hasLoop (wsV RX9 194 RX9 yX9_in wsX9_in) := goodIn_app (goodIn_of _ (by decide +kernel)) ggX9_hasLoop_X9_in
theorem dX9_hasLoop_0 : decode cX9_hasLoop 0 = .ok (.iconst 0, 1) := by decide +kernel
theorem dX9_hasLoop_1 : decode cX9_hasLoop 1 = .ok (.istore_n 3, 1) := by decide +kernel
theorem dX9_hasLoop_2 : decode cX9_hasLoop 2 = .ok (.iload_n 3, 1) := by decide +kernel
theorem dX9_hasLoop_3 : decode cX9_hasLoop 3 = .ok (.aload_n 0, 1) := by decide +kernel
theorem dX9_hasLoop_4 : decode cX9_hasLoop 4 = .ok (.getfield 121, 3) := by decide +kernel
theorem dX9_hasLoop_7 : decode cX9_hasLoop 7 = .ok (.if_icmp .ge 41, 3) := by decide +kernel
theorem dX9_hasLoop_10 : decode cX9_hasLoop 10 = .ok (.aload_n 0, 1) := by decide +kernel
theorem dX9_hasLoop_11 : decode cX9_hasLoop 11 = .ok (.getfield 47, 3) := by decide +kernel
theorem dX9_hasLoop_14 : decode cX9_hasLoop 14 = .ok (.iload_n 3, 1) := by decide +kernel
theorem dX9_hasLoop_15 : decode cX9_hasLoop 15 = .ok (.iaload, 1) := by decide +kernel
theorem dX9_hasLoop_16 : decode cX9_hasLoop 16 = .ok (.bipush 16, 2) := by decide +kernel
theorem dX9_hasLoop_18 : decode cX9_hasLoop 18 = .ok (.if_icmp .ne 24, 3) := by decide +kernel
theorem dX9_hasLoop_21 : decode cX9_hasLoop 21 = .ok (.aload_n 0, 1) := by decide +kernel
theorem dX9_hasLoop_22 : decode cX9_hasLoop 22 = .ok (.getfield 50, 3) := by decide +kernel
theorem dX9_hasLoop_25 : decode cX9_hasLoop 25 = .ok (.iload_n 3, 1) := by decide +kernel
theorem dX9_hasLoop_26 : decode cX9_hasLoop 26 = .ok (.iaload, 1) := by decide +kernel
theorem dX9_hasLoop_27 : decode cX9_hasLoop 27 = .ok (.iload_n 2, 1) := by decide +kernel
theorem dX9_hasLoop_28 : decode cX9_hasLoop 28 = .ok (.if_icmp .ne 14, 3) := by decide +kernel
theorem dX9_hasLoop_31 : decode cX9_hasLoop 31 = .ok (.aload_n 0, 1) := by decide +kernel
theorem dX9_hasLoop_32 : decode cX9_hasLoop 32 = .ok (.iload_n 3, 1) := by decide +kernel
theorem dX9_hasLoop_33 : decode cX9_hasLoop 33 = .ok (.invokevirtual 194, 3) := by decide +kernel
theorem dX9_hasLoop_36 : decode cX9_hasLoop 36 = .ok (.iload_n 1, 1) := by decide +kernel
theorem dX9_hasLoop_37 : decode cX9_hasLoop 37 = .ok (.if_icmp .ne 5, 3) := by decide +kernel
theorem dX9_hasLoop_40 : decode cX9_hasLoop 40 = .ok (.iconst 1, 1) := by decide +kernel
theorem dX9_hasLoop_41 : decode cX9_hasLoop 41 = .ok (.ireturn, 1) := by decide +kernel
theorem dX9_hasLoop_42 : decode cX9_hasLoop 42 = .ok (.iinc 3 1, 3) := by decide +kernel
theorem dX9_hasLoop_45 : decode cX9_hasLoop 45 = .ok (.goto (-43), 3) := by decide +kernel
theorem dX9_hasLoop_48 : decode cX9_hasLoop 48 = .ok (.iconst 0, 1) := by decide +kernel
theorem dX9_hasLoop_49 : decode cX9_hasLoop 49 = .ok (.ireturn, 1) := by decide +kernel
set_option maxRecDepth 20000 in
theorem ggX9_loopOutside_X9_hasLoop : GoodIn wsX9_loopOutside wsX9_hasLoop := goodIn_r _ [6, 7, 8, 9, 10, 11, 12, 5, 13, 14, 15, 16, 17, 18, 19, 20, 21, 22, 23, 24, 25, 26, 27, 28, 29, 30, 31, 32, 33, 34, 35, 36, 37, 38, 39, 40, 41, 42, 43, 44, 45, 46, 47, 48, 49, 50, 51, 52, 53, 54, 55, 56, 57, 58, 59, 60, 61, 62, 63, 64, 65, 66, 67, 68, 69, 70, 71, 72, 73, 74, 75] (by decide +kernel) (by decide +kernel)
set_option maxRecDepth 20000 in
theorem gX9_loopOutside_X9_hasLoop : GoodIn wsX9_loopOutside (wsV RX9 246 RX9 yX9_hasLoop wsX9_hasLoop) := goodIn_app (goodIn_of _ (by decide +kernel)) ggX9_loopOutside_X9_hasLoop
theorem dX9_loopOutside_0 : decode cX9_loopOutside 0 = .ok (.aload_n 0, 1) := by decide +kernel
theorem dX9_loopOutside_1 : decode cX9_loopOutside 1 = .ok (.getfield 13, 3) := by decide +kernel
theorem dX9_loopOutside_4 : decode cX9_loopOutside 4 = .ok (.iload_n 1, 1) := by decide +kernel
theorem dX9_loopOutside_5 : decode cX9_loopOutside 5 = .ok (.iaload, 1) := by decide +kernel
theorem dX9_loopOutside_6 : decode cX9_loopOutside 6 = .ok (.istore_n 3, 1) := by decide +kernel
theorem dX9_loopOutside_7 : decode cX9_loopOutside 7 = .ok (.iload_n 3, 1) := by decide +kernel
theorem dX9_loopOutside_8 : decode cX9_loopOutside 8 = .ok (.iconst (-1), 1) := by decide +kernel
theorem dX9_loopOutside_9 : decode cX9_loopOutside 9 = .ok (.if_icmp .eq 22, 3) := by decide +kernel
theorem dX9_loopOutside_12 : decode cX9_loopOutside 12 = .ok (.aload_n 0, 1) := by decide +kernel
theorem dX9_loopOutside_13 : decode cX9_loopOutside 13 = .ok (.iload_n 3, 1) := by decide +kernel
theorem dX9_loopOutside_14 : decode cX9_loopOutside 14 = .ok (.iload_n 2, 1) := by decide +kernel
theorem dX9_loopOutside_15 : decode cX9_loopOutside 15 = .ok (.invokevirtual 246, 3) := by decide +kernel
theorem dX9_loopOutside_18 : decode cX9_loopOutside 18 = .ok (.ifCond .ne 13, 3) := by decide +kernel
theorem dX9_loopOutside_21 : decode cX9_loopOutside 21 = .ok (.aload_n 0, 1) := by decide +kernel
theorem dX9_loopOutside_22 : decode cX9_loopOutside 22 = .ok (.getfield 13, 3) := by decide +kernel
theorem dX9_loopOutside_25 : decode cX9_loopOutside 25 = .ok (.iload_n 3, 1) := by decide +kernel
theorem dX9_loopOutside_26 : decode cX9_loopOutside 26 = .ok (.iaload, 1) := by decide +kernel
theorem dX9_loopOutside_27 : decode cX9_loopOutside 27 = .ok (.istore_n 3, 1) := by decide +kernel
theorem dX9_loopOutside_28 : decode cX9_loopOutside 28 = .ok (.goto (-21), 3) := by decide +kernel
theorem dX9_loopOutside_31 : decode cX9_loopOutside 31 = .ok (.iload_n 3, 1) := by decide +kernel
theorem dX9_loopOutside_32 : decode cX9_loopOutside 32 = .ok (.ireturn, 1) := by decide +kernel
theorem dX9_isArray_0 : decode cX9_isArray 0 = .ok (.iload_n 0, 1) := by decide +kernel
theorem dX9_isArray_1 : decode cX9_isArray 1 = .ok (.bipush 7, 2) := by decide +kernel
theorem dX9_isArray_3 : decode cX9_isArray 3 = .ok (.if_icmp .eq 13, 3) := by decide +kernel
theorem dX9_isArray_6 : decode cX9_isArray 6 = .ok (.iload_n 0, 1) := by decide +kernel
theorem dX9_isArray_7 : decode cX9_isArray 7 = .ok (.iconst 3, 1) := by decide +kernel
theorem dX9_isArray_8 : decode cX9_isArray 8 = .ok (.if_icmp .eq 8, 3) := by decide +kernel
theorem dX9_isArray_11 : decode cX9_isArray 11 = .ok (.iload_n 0, 1) := by decide +kernel
theorem dX9_isArray_12 : decode cX9_isArray 12 = .ok (.iconst 4, 1) := by decide +kernel
theorem dX9_isArray_13 : decode cX9_isArray 13 = .ok (.if_icmp .ne 7, 3) := by decide +kernel
theorem dX9_isArray_16 : decode cX9_isArray 16 = .ok (.iconst 1, 1) := by decide +kernel
theorem dX9_isArray_17 : decode cX9_isArray 17 = .ok (.goto 4, 3) := by decide +kernel
theorem dX9_isArray_20 : decode cX9_isArray 20 = .ok (.iconst 0, 1) := by decide +kernel
theorem dX9_isArray_21 : decode cX9_isArray 21 = .ok (.ireturn, 1) := by decide +kernel
theorem dX9_canBeSet_0 : decode cX9_canBeSet 0 = .ok (.iload_n 0, 1) := by decide +kernel
theorem dX9_canBeSet_1 : decode cX9_canBeSet 1 = .ok (.bipush 6, 2) := by decide +kernel
theorem dX9_canBeSet_3 : decode cX9_canBeSet 3 = .ok (.if_icmp .eq 12, 3) := by decide +kernel
theorem dX9_canBeSet_6 : decode cX9_canBeSet 6 = .ok (.iload_n 0, 1) := by decide +kernel
theorem dX9_canBeSet_7 : decode cX9_canBeSet 7 = .ok (.ifCond .eq 8, 3) := by decide +kernel
theorem dX9_canBeSet_10 : decode cX9_canBeSet 10 = .ok (.iload_n 0, 1) := by decide +kernel
theorem dX9_canBeSet_11 : decode cX9_canBeSet 11 = .ok (.iconst 1, 1) := by decide +kernel
theorem dX9_canBeSet_12 : decode cX9_canBeSet 12 = .ok (.if_icmp .ne 7, 3) := by decide +kernel
theorem dX9_canBeSet_15 : decode cX9_canBeSet 15 = .ok (.iconst 1, 1) := by decide +kernel
theorem dX9_canBeSet_16 : decode cX9_canBeSet 16 = .ok (.goto 4, 3) := by decide +kernel
theorem dX9_canBeSet_19 : decode cX9_canBeSet 19 = .ok (.iconst 0, 1) := by decide +kernel
theorem dX9_canBeSet_20 : decode cX9_canBeSet 20 = .ok (.ireturn, 1) := by decide +kernel
set_option maxRecDepth 20000 in
theorem ggX9_nameFault_X9_canBeSet : GoodIn wsX9_nameFault wsX9_canBeSet := goodIn_r _ [4] (by decide +kernel) (by decide +kernel)
set_option maxRecDepth 20000 in
theorem gX9_nameFault_X9_canBeSet : GoodIn wsX9_nameFault (va_wsS RX9 249 yX9_canBeSet wsX9_canBeSet) := goodIn_app (goodIn_of _ (by decide +kernel)) ggX9_nameFault_X9_canBeSet
set_option maxRecDepth 20000 in
theorem ggX9_nameFault_X9_sizeIs : GoodIn wsX9_nameFault wsX9_sizeIs := goodIn_r _ [8, 9, 10, 11, 12, 3, 13, 14, 15, 25, 26, 27, 28, 29, 30, 31, 32, 33, 34, 35, 36, 37, 38, 39, 40, 41, 42, 43, 44, 45, 46, 47, 48, 49, 50, 51, 52, 53, 54, 55, 56, 57, 58, 59, 60, 61, 62, 63, 64, 65, 66, 67, 68, 69, 70, 71, 72, 73, 74, 75, 76, 77, 78, 79, 80, 81, 82, 83, 84] (by decide +kernel) (by decide +kernel)
set_option maxRecDepth 20000 in
theorem gX9_nameFault_X9_sizeIs : GoodIn wsX9_nameFault (wsV RX9 156 RX9 yX9_sizeIs wsX9_sizeIs) := goodIn_app (goodIn_of _ (by decide +kernel)) ggX9_nameFault_X9_sizeIs
set_option maxRecDepth 20000 in
theorem ggX9_nameFault_X9_areValues : GoodIn wsX9_nameFault wsX9_areValues := goodIn_r _ [19, 20, 21, 25, 26, 27, 28, 29, 30, 31, 32, 33, 34, 35, 36, 37, 38, 39, 40, 41, 42, 43, 44, 45, 46, 47, 48, 49, 50, 51, 52, 53, 54, 55, 56, 57, 58, 59, 60, 61, 62, 63, 64, 65, 66, 67, 68, 69, 70, 71, 72, 73, 74, 75, 76, 77, 78, 79, 80, 81, 82, 83, 84] (by decide +kernel) (by decide +kernel)
set_option maxRecDepth 20000 in
theorem gX9_nameFault_X9_areValues : GoodIn wsX9_nameFault (wsV RX9 221 RX9 yX9_areValues wsX9_areValues) := goodIn_app (goodIn_of _ (by decide +kernel)) ggX9_nameFault_X9_areValues
set_option maxRecDepth 20000 in
theorem ggX9_nameFault_X9_isArray : GoodIn wsX9_nameFault wsX9_isArray := goodIn_r _ [24] (by decide +kernel) (by decide +kernel)
set_option maxRecDepth 20000 in
theorem gX9_nameFault_X9_isArray : GoodIn wsX9_nameFault (va_wsS RX9 252 yX9_isArray wsX9_isArray) := goodIn_app (goodIn_of _ (by decide +kernel)) ggX9_nameFault_X9_isArray
theorem dX9_nameFault_0 : decode cX9_nameFault 0 = .ok (.iload_n 1, 1) := by decide +kernel
theorem dX9_nameFault_1 : decode cX9_nameFault 1 = .ok (.lookupswitch 185 #[(1, 51), (8, 79), (10, 106), (13, 147), (21, 169)], 51) := by decide +kernel
theorem dX9_nameFault_52 : decode cX9_nameFault 52 = .ok (.iload_n 2, 1) := by decide +kernel
theorem dX9_nameFault_53 : decode cX9_nameFault 53 = .ok (.invokestatic 249, 3) := by decide +kernel
theorem dX9_nameFault_56 : decode cX9_nameFault 56 = .ok (.ifCond .ne 14, 3) := by decide +kernel
theorem dX9_nameFault_59 : decode cX9_nameFault 59 = .ok (.iload_n 2, 1) := by decide +kernel
theorem dX9_nameFault_60 : decode cX9_nameFault 60 = .ok (.bipush 9, 2) := by decide +kernel
theorem dX9_nameFault_62 : decode cX9_nameFault 62 = .ok (.if_icmp .eq 8, 3) := by decide +kernel
theorem dX9_nameFault_65 : decode cX9_nameFault 65 = .ok (.iload_n 2, 1) := by decide +kernel
theorem dX9_nameFault_66 : decode cX9_nameFault 66 = .ok (.iconst 2, 1) := by decide +kernel
theorem dX9_nameFault_67 : decode cX9_nameFault 67 = .ok (.if_icmp .ne 7, 3) := by decide +kernel
theorem dX9_nameFault_70 : decode cX9_nameFault 70 = .ok (.iconst 1, 1) := by decide +kernel
theorem dX9_nameFault_71 : decode cX9_nameFault 71 = .ok (.goto 4, 3) := by decide +kernel
theorem dX9_nameFault_74 : decode cX9_nameFault 74 = .ok (.iconst 0, 1) := by decide +kernel
theorem dX9_nameFault_75 : decode cX9_nameFault 75 = .ok (.istore 5, 2) := by decide +kernel
theorem dX9_nameFault_77 : decode cX9_nameFault 77 = .ok (.goto 115, 3) := by decide +kernel
theorem dX9_nameFault_80 : decode cX9_nameFault 80 = .ok (.iload_n 2, 1) := by decide +kernel
theorem dX9_nameFault_81 : decode cX9_nameFault 81 = .ok (.bipush 10, 2) := by decide +kernel
theorem dX9_nameFault_83 : decode cX9_nameFault 83 = .ok (.if_icmp .eq 14, 3) := by decide +kernel
theorem dX9_nameFault_86 : decode cX9_nameFault 86 = .ok (.iload_n 2, 1) := by decide +kernel
theorem dX9_nameFault_87 : decode cX9_nameFault 87 = .ok (.iconst 5, 1) := by decide +kernel
theorem dX9_nameFault_88 : decode cX9_nameFault 88 = .ok (.if_icmp .eq 9, 3) := by decide +kernel
theorem dX9_nameFault_91 : decode cX9_nameFault 91 = .ok (.iload_n 2, 1) := by decide +kernel
theorem dX9_nameFault_92 : decode cX9_nameFault 92 = .ok (.bipush 8, 2) := by decide +kernel
theorem dX9_nameFault_94 : decode cX9_nameFault 94 = .ok (.if_icmp .ne 7, 3) := by decide +kernel
theorem dX9_nameFault_97 : decode cX9_nameFault 97 = .ok (.iconst 1, 1) := by decide +kernel
theorem dX9_nameFault_98 : decode cX9_nameFault 98 = .ok (.goto 4, 3) := by decide +kernel
theorem dX9_nameFault_101 : decode cX9_nameFault 101 = .ok (.iconst 0, 1) := by decide +kernel
theorem dX9_nameFault_102 : decode cX9_nameFault 102 = .ok (.istore 5, 2) := by decide +kernel
theorem dX9_nameFault_104 : decode cX9_nameFault 104 = .ok (.goto 88, 3) := by decide +kernel
theorem dX9_nameFault_107 : decode cX9_nameFault 107 = .ok (.iload_n 2, 1) := by decide +kernel
theorem dX9_nameFault_108 : decode cX9_nameFault 108 = .ok (.iconst 5, 1) := by decide +kernel
theorem dX9_nameFault_109 : decode cX9_nameFault 109 = .ok (.if_icmp .eq 29, 3) := by decide +kernel
theorem dX9_nameFault_112 : decode cX9_nameFault 112 = .ok (.iload_n 2, 1) := by decide +kernel
theorem dX9_nameFault_113 : decode cX9_nameFault 113 = .ok (.bipush 8, 2) := by decide +kernel
theorem dX9_nameFault_115 : decode cX9_nameFault 115 = .ok (.if_icmp .eq 23, 3) := by decide +kernel
theorem dX9_nameFault_118 : decode cX9_nameFault 118 = .ok (.iload_n 2, 1) := by decide +kernel
theorem dX9_nameFault_119 : decode cX9_nameFault 119 = .ok (.bipush 10, 2) := by decide +kernel
theorem dX9_nameFault_121 : decode cX9_nameFault 121 = .ok (.if_icmp .ne 21, 3) := by decide +kernel
theorem dX9_nameFault_124 : decode cX9_nameFault 124 = .ok (.aload_n 0, 1) := by decide +kernel
theorem dX9_nameFault_125 : decode cX9_nameFault 125 = .ok (.aload_n 0, 1) := by decide +kernel
theorem dX9_nameFault_126 : decode cX9_nameFault 126 = .ok (.iload_n 3, 1) := by decide +kernel
theorem dX9_nameFault_127 : decode cX9_nameFault 127 = .ok (.iload 4, 2) := by decide +kernel
theorem dX9_nameFault_129 : decode cX9_nameFault 129 = .ok (.invokevirtual 156, 3) := by decide +kernel
theorem dX9_nameFault_132 : decode cX9_nameFault 132 = .ok (.invokevirtual 221, 3) := by decide +kernel
theorem dX9_nameFault_135 : decode cX9_nameFault 135 = .ok (.ifCond .eq 7, 3) := by decide +kernel
theorem dX9_nameFault_138 : decode cX9_nameFault 138 = .ok (.iconst 1, 1) := by decide +kernel
theorem dX9_nameFault_139 : decode cX9_nameFault 139 = .ok (.goto 4, 3) := by decide +kernel
theorem dX9_nameFault_142 : decode cX9_nameFault 142 = .ok (.iconst 0, 1) := by decide +kernel
theorem dX9_nameFault_143 : decode cX9_nameFault 143 = .ok (.istore 5, 2) := by decide +kernel
theorem dX9_nameFault_145 : decode cX9_nameFault 145 = .ok (.goto 47, 3) := by decide +kernel
theorem dX9_nameFault_148 : decode cX9_nameFault 148 = .ok (.iload_n 2, 1) := by decide +kernel
theorem dX9_nameFault_149 : decode cX9_nameFault 149 = .ok (.bipush 9, 2) := by decide +kernel
theorem dX9_nameFault_151 : decode cX9_nameFault 151 = .ok (.if_icmp .eq 8, 3) := by decide +kernel
theorem dX9_nameFault_154 : decode cX9_nameFault 154 = .ok (.iload_n 2, 1) := by decide +kernel
theorem dX9_nameFault_155 : decode cX9_nameFault 155 = .ok (.iconst 2, 1) := by decide +kernel
theorem dX9_nameFault_156 : decode cX9_nameFault 156 = .ok (.if_icmp .ne 5, 3) := by decide +kernel
theorem dX9_nameFault_159 : decode cX9_nameFault 159 = .ok (.iconst 3, 1) := by decide +kernel
theorem dX9_nameFault_160 : decode cX9_nameFault 160 = .ok (.ireturn, 1) := by decide +kernel
theorem dX9_nameFault_161 : decode cX9_nameFault 161 = .ok (.iload_n 2, 1) := by decide +kernel
theorem dX9_nameFault_162 : decode cX9_nameFault 162 = .ok (.invokestatic 249, 3) := by decide +kernel
theorem dX9_nameFault_165 : decode cX9_nameFault 165 = .ok (.istore 5, 2) := by decide +kernel
theorem dX9_nameFault_167 : decode cX9_nameFault 167 = .ok (.goto 25, 3) := by decide +kernel
theorem dX9_nameFault_170 : decode cX9_nameFault 170 = .ok (.iload_n 2, 1) := by decide +kernel
theorem dX9_nameFault_171 : decode cX9_nameFault 171 = .ok (.bipush 8, 2) := by decide +kernel
theorem dX9_nameFault_173 : decode cX9_nameFault 173 = .ok (.if_icmp .ne 7, 3) := by decide +kernel
theorem dX9_nameFault_176 : decode cX9_nameFault 176 = .ok (.iconst 1, 1) := by decide +kernel
theorem dX9_nameFault_177 : decode cX9_nameFault 177 = .ok (.goto 4, 3) := by decide +kernel
theorem dX9_nameFault_180 : decode cX9_nameFault 180 = .ok (.iconst 0, 1) := by decide +kernel
theorem dX9_nameFault_181 : decode cX9_nameFault 181 = .ok (.istore 5, 2) := by decide +kernel
theorem dX9_nameFault_183 : decode cX9_nameFault 183 = .ok (.goto 9, 3) := by decide +kernel
theorem dX9_nameFault_186 : decode cX9_nameFault 186 = .ok (.iload_n 2, 1) := by decide +kernel
theorem dX9_nameFault_187 : decode cX9_nameFault 187 = .ok (.invokestatic 252, 3) := by decide +kernel
theorem dX9_nameFault_190 : decode cX9_nameFault 190 = .ok (.istore 5, 2) := by decide +kernel
theorem dX9_nameFault_192 : decode cX9_nameFault 192 = .ok (.iload 5, 2) := by decide +kernel
theorem dX9_nameFault_194 : decode cX9_nameFault 194 = .ok (.ifCond .eq 7, 3) := by decide +kernel
theorem dX9_nameFault_197 : decode cX9_nameFault 197 = .ok (.iconst 0, 1) := by decide +kernel
theorem dX9_nameFault_198 : decode cX9_nameFault 198 = .ok (.goto 4, 3) := by decide +kernel
theorem dX9_nameFault_201 : decode cX9_nameFault 201 = .ok (.iconst 2, 1) := by decide +kernel
theorem dX9_nameFault_202 : decode cX9_nameFault 202 = .ok (.ireturn, 1) := by decide +kernel
theorem dX9_count_0 : decode cX9_count 0 = .ok (.iconst 0, 1) := by decide +kernel
theorem dX9_count_1 : decode cX9_count 1 = .ok (.istore_n 2, 1) := by decide +kernel
theorem dX9_count_2 : decode cX9_count 2 = .ok (.aload_n 0, 1) := by decide +kernel
theorem dX9_count_3 : decode cX9_count 3 = .ok (.getfield 53, 3) := by decide +kernel
theorem dX9_count_6 : decode cX9_count 6 = .ok (.iload_n 1, 1) := by decide +kernel
theorem dX9_count_7 : decode cX9_count 7 = .ok (.iaload, 1) := by decide +kernel
theorem dX9_count_8 : decode cX9_count 8 = .ok (.istore_n 3, 1) := by decide +kernel
theorem dX9_count_9 : decode cX9_count 9 = .ok (.iload_n 3, 1) := by decide +kernel
theorem dX9_count_10 : decode cX9_count 10 = .ok (.iconst (-1), 1) := by decide +kernel
theorem dX9_count_11 : decode cX9_count 11 = .ok (.if_icmp .eq 16, 3) := by decide +kernel
theorem dX9_count_14 : decode cX9_count 14 = .ok (.iinc 2 1, 3) := by decide +kernel
theorem dX9_count_17 : decode cX9_count 17 = .ok (.aload_n 0, 1) := by decide +kernel
theorem dX9_count_18 : decode cX9_count 18 = .ok (.getfield 56, 3) := by decide +kernel
theorem dX9_count_21 : decode cX9_count 21 = .ok (.iload_n 3, 1) := by decide +kernel
theorem dX9_count_22 : decode cX9_count 22 = .ok (.iaload, 1) := by decide +kernel
theorem dX9_count_23 : decode cX9_count 23 = .ok (.istore_n 3, 1) := by decide +kernel
theorem dX9_count_24 : decode cX9_count 24 = .ok (.goto (-15), 3) := by decide +kernel
theorem dX9_count_27 : decode cX9_count 27 = .ok (.iload_n 2, 1) := by decide +kernel
theorem dX9_count_28 : decode cX9_count 28 = .ok (.ireturn, 1) := by decide +kernel
set_option maxRecDepth 20000 in
theorem ggX9_modeOf_X9_in : GoodIn wsX9_modeOf wsX9_in := goodIn_r _ [7, 8, 9, 25, 26, 27, 28, 29, 30, 31, 32, 33, 34, 35, 36, 37, 38, 39, 40, 41, 42, 43, 44, 45, 46, 47, 48, 49, 50, 51, 52, 53, 54, 55, 56, 57, 58, 59, 60, 61, 62, 63, 64, 65, 66, 67, 68, 69, 70, 71, 72, 73, 74, 75, 76, 77, 78, 79, 80, 81, 82, 83, 84] (by decide +kernel) (by decide +kernel)
set_option maxRecDepth 20000 in
theorem gX9_modeOf_X9_in : GoodIn wsX9_modeOf (wsV RX9 194 RX9 yX9_in wsX9_in) := goodIn_app (goodIn_of _ (by decide +kernel)) ggX9_modeOf_X9_in
set_option maxRecDepth 20000 in
theorem ggX9_modeOf_X9_whatIs : GoodIn wsX9_modeOf wsX9_whatIs := goodIn_r _ [13, 14, 15, 16, 17, 6, 18, 19, 25, 26, 27, 28, 29, 30, 31, 32, 33, 34, 35, 36, 37, 38, 39, 40, 41, 42, 43, 44, 45, 46, 47, 48, 49, 50, 51, 52, 53, 54, 55, 56, 57, 58, 59, 60, 61, 62, 63, 64, 65, 66, 67, 68, 69, 70, 71, 72, 73, 74, 75, 76, 77, 78, 79, 80, 81, 82, 83, 84] (by decide +kernel) (by decide +kernel)
set_option maxRecDepth 20000 in
theorem gX9_modeOf_X9_whatIs : GoodIn wsX9_modeOf (wsV RX9 153 RX9 yX9_whatIs wsX9_whatIs) := goodIn_app (goodIn_of _ (by decide +kernel)) ggX9_modeOf_X9_whatIs
set_option maxRecDepth 20000 in
theorem ggX9_modeOf_X9_sizeIs : GoodIn wsX9_modeOf wsX9_sizeIs := goodIn_r _ [23, 24, 15, 16, 17, 6, 18, 14, 19, 25, 26, 27, 28, 29, 30, 31, 32, 33, 34, 35, 36, 37, 38, 39, 40, 41, 42, 43, 44, 45, 46, 47, 48, 49, 50, 51, 52, 53, 54, 55, 56, 57, 58, 59, 60, 61, 62, 63, 64, 65, 66, 67, 68, 69, 70, 71, 72, 73, 74, 75, 76, 77, 78, 79, 80, 81, 82, 83, 84] (by decide +kernel) (by decide +kernel)
set_option maxRecDepth 20000 in
theorem gX9_modeOf_X9_sizeIs : GoodIn wsX9_modeOf (wsV RX9 156 RX9 yX9_sizeIs wsX9_sizeIs) := goodIn_app (goodIn_of _ (by decide +kernel)) ggX9_modeOf_X9_sizeIs
theorem dX9_modeOf_0 : decode cX9_modeOf 0 = .ok (.aload_n 0, 1) := by decide +kernel
theorem dX9_modeOf_1 : decode cX9_modeOf 1 = .ok (.iload_n 1, 1) := by decide +kernel
theorem dX9_modeOf_2 : decode cX9_modeOf 2 = .ok (.invokevirtual 194, 3) := by decide +kernel
theorem dX9_modeOf_5 : decode cX9_modeOf 5 = .ok (.istore_n 3, 1) := by decide +kernel
theorem dX9_modeOf_6 : decode cX9_modeOf 6 = .ok (.aload_n 0, 1) := by decide +kernel
theorem dX9_modeOf_7 : decode cX9_modeOf 7 = .ok (.iload_n 3, 1) := by decide +kernel
theorem dX9_modeOf_8 : decode cX9_modeOf 8 = .ok (.aload_n 0, 1) := by decide +kernel
theorem dX9_modeOf_9 : decode cX9_modeOf 9 = .ok (.getfield 50, 3) := by decide +kernel
theorem dX9_modeOf_12 : decode cX9_modeOf 12 = .ok (.iload_n 1, 1) := by decide +kernel
theorem dX9_modeOf_13 : decode cX9_modeOf 13 = .ok (.iaload, 1) := by decide +kernel
theorem dX9_modeOf_14 : decode cX9_modeOf 14 = .ok (.invokevirtual 153, 3) := by decide +kernel
theorem dX9_modeOf_17 : decode cX9_modeOf 17 = .ok (.bipush 10, 2) := by decide +kernel
theorem dX9_modeOf_19 : decode cX9_modeOf 19 = .ok (.if_icmp .ne 27, 3) := by decide +kernel
theorem dX9_modeOf_22 : decode cX9_modeOf 22 = .ok (.aload_n 0, 1) := by decide +kernel
theorem dX9_modeOf_23 : decode cX9_modeOf 23 = .ok (.getfield 41, 3) := by decide +kernel
theorem dX9_modeOf_26 : decode cX9_modeOf 26 = .ok (.aload_n 0, 1) := by decide +kernel
theorem dX9_modeOf_27 : decode cX9_modeOf 27 = .ok (.iload_n 3, 1) := by decide +kernel
theorem dX9_modeOf_28 : decode cX9_modeOf 28 = .ok (.aload_n 0, 1) := by decide +kernel
theorem dX9_modeOf_29 : decode cX9_modeOf 29 = .ok (.getfield 50, 3) := by decide +kernel
theorem dX9_modeOf_32 : decode cX9_modeOf 32 = .ok (.iload_n 1, 1) := by decide +kernel
theorem dX9_modeOf_33 : decode cX9_modeOf 33 = .ok (.iaload, 1) := by decide +kernel
theorem dX9_modeOf_34 : decode cX9_modeOf 34 = .ok (.invokevirtual 156, 3) := by decide +kernel
theorem dX9_modeOf_37 : decode cX9_modeOf 37 = .ok (.bipush 10, 2) := by decide +kernel
theorem dX9_modeOf_39 : decode cX9_modeOf 39 = .ok (.imul, 1) := by decide +kernel
theorem dX9_modeOf_40 : decode cX9_modeOf 40 = .ok (.iload_n 2, 1) := by decide +kernel
theorem dX9_modeOf_41 : decode cX9_modeOf 41 = .ok (.iadd, 1) := by decide +kernel
theorem dX9_modeOf_42 : decode cX9_modeOf 42 = .ok (.iaload, 1) := by decide +kernel
theorem dX9_modeOf_43 : decode cX9_modeOf 43 = .ok (.goto 4, 3) := by decide +kernel
theorem dX9_modeOf_46 : decode cX9_modeOf 46 = .ok (.iconst 0, 1) := by decide +kernel
theorem dX9_modeOf_47 : decode cX9_modeOf 47 = .ok (.ireturn, 1) := by decide +kernel
set_option maxRecDepth 20000 in
theorem ggX9_suits_X9_whatIs : GoodIn wsX9_suits wsX9_whatIs := goodIn_r _ [7, 8, 9, 10, 11, 6, 12, 13, 23, 24, 25, 26, 27, 28, 29, 30, 31, 32, 33, 34, 35, 36, 37, 38, 39, 40, 41, 42, 43, 44, 45, 46, 47, 48, 49, 50, 51, 52, 53, 54, 55, 56, 57, 58, 59, 60, 61, 62, 63, 64, 65, 66, 67, 68, 69, 70, 71, 72, 73, 74, 75, 76, 77, 78, 79, 80, 81, 82] (by decide +kernel) (by decide +kernel)
set_option maxRecDepth 20000 in
theorem gX9_suits_X9_whatIs : GoodIn wsX9_suits (wsV RX9 153 RX9 yX9_whatIs wsX9_whatIs) := goodIn_app (goodIn_of _ (by decide +kernel)) ggX9_suits_X9_whatIs
set_option maxRecDepth 20000 in
theorem ggX9_suits_X9_canBeSet : GoodIn wsX9_suits wsX9_canBeSet := goodIn_r _ [16] (by decide +kernel) (by decide +kernel)
set_option maxRecDepth 20000 in
theorem gX9_suits_X9_canBeSet : GoodIn wsX9_suits (va_wsS RX9 249 yX9_canBeSet wsX9_canBeSet) := goodIn_app (goodIn_of _ (by decide +kernel)) ggX9_suits_X9_canBeSet
set_option maxRecDepth 20000 in
theorem ggX9_suits_X9_isExpression : GoodIn wsX9_suits wsX9_isExpression := goodIn_r _ [19, 20, 21, 6, 22] (by decide +kernel) (by decide +kernel)
set_option maxRecDepth 20000 in
theorem gX9_suits_X9_isExpression : GoodIn wsX9_suits (va_wsS RX9 165 yX9_isExpression wsX9_isExpression) := goodIn_app (goodIn_of _ (by decide +kernel)) ggX9_suits_X9_isExpression
theorem dX9_suits_0 : decode cX9_suits 0 = .ok (.iload_n 2, 1) := by decide +kernel
theorem dX9_suits_1 : decode cX9_suits 1 = .ok (.tableswitch 112 1 5 #[35, 112, 78, 78, 95], 35) := by decide +kernel
theorem dX9_suits_36 : decode cX9_suits 36 = .ok (.aload_n 0, 1) := by decide +kernel
theorem dX9_suits_37 : decode cX9_suits 37 = .ok (.getfield 47, 3) := by decide +kernel
theorem dX9_suits_40 : decode cX9_suits 40 = .ok (.iload_n 3, 1) := by decide +kernel
theorem dX9_suits_41 : decode cX9_suits 41 = .ok (.iaload, 1) := by decide +kernel
theorem dX9_suits_42 : decode cX9_suits 42 = .ok (.iconst 2, 1) := by decide +kernel
theorem dX9_suits_43 : decode cX9_suits 43 = .ok (.if_icmp .eq 30, 3) := by decide +kernel
theorem dX9_suits_46 : decode cX9_suits 46 = .ok (.aload_n 0, 1) := by decide +kernel
theorem dX9_suits_47 : decode cX9_suits 47 = .ok (.getfield 47, 3) := by decide +kernel
theorem dX9_suits_50 : decode cX9_suits 50 = .ok (.iload_n 3, 1) := by decide +kernel
theorem dX9_suits_51 : decode cX9_suits 51 = .ok (.iaload, 1) := by decide +kernel
theorem dX9_suits_52 : decode cX9_suits 52 = .ok (.iconst 1, 1) := by decide +kernel
theorem dX9_suits_53 : decode cX9_suits 53 = .ok (.if_icmp .ne 24, 3) := by decide +kernel
theorem dX9_suits_56 : decode cX9_suits 56 = .ok (.aload_n 0, 1) := by decide +kernel
theorem dX9_suits_57 : decode cX9_suits 57 = .ok (.iload_n 1, 1) := by decide +kernel
theorem dX9_suits_58 : decode cX9_suits 58 = .ok (.aload_n 0, 1) := by decide +kernel
theorem dX9_suits_59 : decode cX9_suits 59 = .ok (.getfield 50, 3) := by decide +kernel
theorem dX9_suits_62 : decode cX9_suits 62 = .ok (.iload_n 3, 1) := by decide +kernel
theorem dX9_suits_63 : decode cX9_suits 63 = .ok (.iaload, 1) := by decide +kernel
theorem dX9_suits_64 : decode cX9_suits 64 = .ok (.invokevirtual 153, 3) := by decide +kernel
theorem dX9_suits_67 : decode cX9_suits 67 = .ok (.invokestatic 249, 3) := by decide +kernel
theorem dX9_suits_70 : decode cX9_suits 70 = .ok (.ifCond .eq 7, 3) := by decide +kernel
theorem dX9_suits_73 : decode cX9_suits 73 = .ok (.iconst 1, 1) := by decide +kernel
theorem dX9_suits_74 : decode cX9_suits 74 = .ok (.goto 4, 3) := by decide +kernel
theorem dX9_suits_77 : decode cX9_suits 77 = .ok (.iconst 0, 1) := by decide +kernel
theorem dX9_suits_78 : decode cX9_suits 78 = .ok (.ireturn, 1) := by decide +kernel
theorem dX9_suits_79 : decode cX9_suits 79 = .ok (.aload_n 0, 1) := by decide +kernel
theorem dX9_suits_80 : decode cX9_suits 80 = .ok (.getfield 47, 3) := by decide +kernel
theorem dX9_suits_83 : decode cX9_suits 83 = .ok (.iload_n 3, 1) := by decide +kernel
theorem dX9_suits_84 : decode cX9_suits 84 = .ok (.iaload, 1) := by decide +kernel
theorem dX9_suits_85 : decode cX9_suits 85 = .ok (.bipush 11, 2) := by decide +kernel
theorem dX9_suits_87 : decode cX9_suits 87 = .ok (.if_icmp .ne 7, 3) := by decide +kernel
theorem dX9_suits_90 : decode cX9_suits 90 = .ok (.iconst 1, 1) := by decide +kernel
theorem dX9_suits_91 : decode cX9_suits 91 = .ok (.goto 4, 3) := by decide +kernel
theorem dX9_suits_94 : decode cX9_suits 94 = .ok (.iconst 0, 1) := by decide +kernel
theorem dX9_suits_95 : decode cX9_suits 95 = .ok (.ireturn, 1) := by decide +kernel
theorem dX9_suits_96 : decode cX9_suits 96 = .ok (.aload_n 0, 1) := by decide +kernel
theorem dX9_suits_97 : decode cX9_suits 97 = .ok (.getfield 47, 3) := by decide +kernel
theorem dX9_suits_100 : decode cX9_suits 100 = .ok (.iload_n 3, 1) := by decide +kernel
theorem dX9_suits_101 : decode cX9_suits 101 = .ok (.iaload, 1) := by decide +kernel
theorem dX9_suits_102 : decode cX9_suits 102 = .ok (.bipush 10, 2) := by decide +kernel
theorem dX9_suits_104 : decode cX9_suits 104 = .ok (.if_icmp .ne 7, 3) := by decide +kernel
theorem dX9_suits_107 : decode cX9_suits 107 = .ok (.iconst 1, 1) := by decide +kernel
theorem dX9_suits_108 : decode cX9_suits 108 = .ok (.goto 4, 3) := by decide +kernel
theorem dX9_suits_111 : decode cX9_suits 111 = .ok (.iconst 0, 1) := by decide +kernel
theorem dX9_suits_112 : decode cX9_suits 112 = .ok (.ireturn, 1) := by decide +kernel
theorem dX9_suits_113 : decode cX9_suits 113 = .ok (.aload_n 0, 1) := by decide +kernel
theorem dX9_suits_114 : decode cX9_suits 114 = .ok (.getfield 47, 3) := by decide +kernel
theorem dX9_suits_117 : decode cX9_suits 117 = .ok (.iload_n 3, 1) := by decide +kernel
theorem dX9_suits_118 : decode cX9_suits 118 = .ok (.iaload, 1) := by decide +kernel
theorem dX9_suits_119 : decode cX9_suits 119 = .ok (.invokestatic 165, 3) := by decide +kernel
theorem dX9_suits_122 : decode cX9_suits 122 = .ok (.ireturn, 1) := by decide +kernel
set_option maxRecDepth 20000 in
theorem ggX9_callFault_X9_whatIs : GoodIn wsX9_callFault wsX9_whatIs := goodIn_r _ [9, 10, 11, 12, 13, 8, 14, 15, 50, 51, 52, 53, 54, 55, 56, 57, 58, 59, 60, 61, 62, 63, 64, 65, 66, 67, 68, 69, 70, 71, 72, 73, 74, 75, 76, 77, 78, 79, 80, 81, 82, 83, 84, 85, 86, 87, 88, 89, 90, 91, 92, 93, 94, 95, 96, 97, 98, 99, 100, 101, 102, 103, 104, 105, 106, 107, 108, 109] (by decide +kernel) (by decide +kernel)
set_option maxRecDepth 20000 in
theorem gX9_callFault_X9_whatIs : GoodIn wsX9_callFault (wsV RX9 153 RX9 yX9_whatIs wsX9_whatIs) := goodIn_app (goodIn_of _ (by decide +kernel)) ggX9_callFault_X9_whatIs
set_option maxRecDepth 20000 in
theorem ggX9_callFault_X9_count : GoodIn wsX9_callFault wsX9_count := goodIn_r _ [19, 3, 4, 50, 51, 52, 53, 54, 55, 56, 57, 58, 59, 60, 61, 62, 63, 64, 65, 66, 67, 68, 69, 70, 71, 72, 73, 74, 75, 76, 77, 78, 79, 80, 81, 82, 83, 84, 85, 86, 87, 88, 89, 90, 91, 92, 93, 94, 95, 96, 97, 98, 99, 100, 101, 102, 103, 104, 105, 106, 107, 108, 109] (by decide +kernel) (by decide +kernel)
set_option maxRecDepth 20000 in
theorem gX9_callFault_X9_count : GoodIn wsX9_callFault (wsV RX9 255 RX9 yX9_count wsX9_count) := goodIn_app (goodIn_of _ (by decide +kernel)) ggX9_callFault_X9_count
set_option maxRecDepth 20000 in
theorem ggX9_callFault_X9_sizeIs : GoodIn wsX9_callFault wsX9_sizeIs := goodIn_r _ [23, 24, 11, 12, 13, 8, 14, 10, 15, 50, 51, 52, 53, 54, 55, 56, 57, 58, 59, 60, 61, 62, 63, 64, 65, 66, 67, 68, 69, 70, 71, 72, 73, 74, 75, 76, 77, 78, 79, 80, 81, 82, 83, 84, 85, 86, 87, 88, 89, 90, 91, 92, 93, 94, 95, 96, 97, 98, 99, 100, 101, 102, 103, 104, 105, 106, 107, 108, 109] (by decide +kernel) (by decide +kernel)
set_option maxRecDepth 20000 in
theorem gX9_callFault_X9_sizeIs : GoodIn wsX9_callFault (wsV RX9 156 RX9 yX9_sizeIs wsX9_sizeIs) := goodIn_app (goodIn_of _ (by decide +kernel)) ggX9_callFault_X9_sizeIs
set_option maxRecDepth 20000 in
theorem ggX9_callFault_X9_modeOf : GoodIn wsX9_callFault wsX9_modeOf := goodIn_r _ [28, 1, 29, 30, 31, 32, 8, 33, 34, 35, 5, 6, 7, 9, 10, 11, 12, 13, 14, 15, 20, 21, 22, 23, 24, 50, 51, 52, 53, 54, 55, 56, 57, 58, 59, 60, 61, 62, 63, 64, 65, 66, 67, 68, 69, 70, 71, 72, 73, 74, 75, 76, 77, 78, 79, 80, 81, 82, 83, 84, 85, 86, 87, 88, 89, 90, 91, 92, 93, 94, 95, 96, 97, 98, 99, 100, 101, 102, 103, 104, 105, 106, 107, 108, 109] (by decide +kernel) (by decide +kernel)
set_option maxRecDepth 20000 in
theorem gX9_callFault_X9_modeOf : GoodIn wsX9_callFault (wsV RX9 258 RX9 yX9_modeOf wsX9_modeOf) := goodIn_app (goodIn_of _ (by decide +kernel)) ggX9_callFault_X9_modeOf
set_option maxRecDepth 20000 in
theorem ggX9_callFault_X9_suits : GoodIn wsX9_callFault wsX9_suits := goodIn_r _ [39, 40, 1, 5, 6, 7, 8, 9, 10, 11, 12, 13, 14, 15, 41, 42, 43, 44, 45, 46, 47, 48, 49, 50, 51, 52, 53, 54, 55, 56, 57, 58, 59, 60, 61, 62, 63, 64, 65, 66, 67, 68, 69, 70, 71, 72, 73, 74, 75, 76, 77, 78, 79, 80, 81, 82, 83, 84, 85, 86, 87, 88, 89, 90, 91, 92, 93, 94, 95, 96, 97, 98, 99, 100, 101, 102, 103, 104, 105, 106, 107, 108, 109] (by decide +kernel) (by decide +kernel)
set_option maxRecDepth 20000 in
theorem gX9_callFault_X9_suits : GoodIn wsX9_callFault (wsV RX9 261 RX9 yX9_suits wsX9_suits) := goodIn_app (goodIn_of _ (by decide +kernel)) ggX9_callFault_X9_suits
theorem dX9_callFault_0 : decode cX9_callFault 0 = .ok (.aload_n 0, 1) := by decide +kernel
theorem dX9_callFault_1 : decode cX9_callFault 1 = .ok (.iload_n 2, 1) := by decide +kernel
theorem dX9_callFault_2 : decode cX9_callFault 2 = .ok (.aload_n 0, 1) := by decide +kernel
theorem dX9_callFault_3 : decode cX9_callFault 3 = .ok (.getfield 50, 3) := by decide +kernel
theorem dX9_callFault_6 : decode cX9_callFault 6 = .ok (.iload_n 1, 1) := by decide +kernel
theorem dX9_callFault_7 : decode cX9_callFault 7 = .ok (.iaload, 1) := by decide +kernel
theorem dX9_callFault_8 : decode cX9_callFault 8 = .ok (.invokevirtual 153, 3) := by decide +kernel
theorem dX9_callFault_11 : decode cX9_callFault 11 = .ok (.bipush 10, 2) := by decide +kernel
theorem dX9_callFault_13 : decode cX9_callFault 13 = .ok (.if_icmp .ne 7, 3) := by decide +kernel
theorem dX9_callFault_16 : decode cX9_callFault 16 = .ok (.iconst 1, 1) := by decide +kernel
theorem dX9_callFault_17 : decode cX9_callFault 17 = .ok (.goto 4, 3) := by decide +kernel
theorem dX9_callFault_20 : decode cX9_callFault 20 = .ok (.iconst 0, 1) := by decide +kernel
theorem dX9_callFault_21 : decode cX9_callFault 21 = .ok (.istore_n 3, 1) := by decide +kernel
theorem dX9_callFault_22 : decode cX9_callFault 22 = .ok (.iload_n 3, 1) := by decide +kernel
theorem dX9_callFault_23 : decode cX9_callFault 23 = .ok (.ifCond .eq 29, 3) := by decide +kernel
theorem dX9_callFault_26 : decode cX9_callFault 26 = .ok (.aload_n 0, 1) := by decide +kernel
theorem dX9_callFault_27 : decode cX9_callFault 27 = .ok (.iload_n 1, 1) := by decide +kernel
theorem dX9_callFault_28 : decode cX9_callFault 28 = .ok (.invokevirtual 255, 3) := by decide +kernel
theorem dX9_callFault_31 : decode cX9_callFault 31 = .ok (.aload_n 0, 1) := by decide +kernel
theorem dX9_callFault_32 : decode cX9_callFault 32 = .ok (.getfield 20, 3) := by decide +kernel
theorem dX9_callFault_35 : decode cX9_callFault 35 = .ok (.aload_n 0, 1) := by decide +kernel
theorem dX9_callFault_36 : decode cX9_callFault 36 = .ok (.iload_n 2, 1) := by decide +kernel
theorem dX9_callFault_37 : decode cX9_callFault 37 = .ok (.aload_n 0, 1) := by decide +kernel
theorem dX9_callFault_38 : decode cX9_callFault 38 = .ok (.getfield 50, 3) := by decide +kernel
theorem dX9_callFault_41 : decode cX9_callFault 41 = .ok (.iload_n 1, 1) := by decide +kernel
theorem dX9_callFault_42 : decode cX9_callFault 42 = .ok (.iaload, 1) := by decide +kernel
theorem dX9_callFault_43 : decode cX9_callFault 43 = .ok (.invokevirtual 156, 3) := by decide +kernel
theorem dX9_callFault_46 : decode cX9_callFault 46 = .ok (.iaload, 1) := by decide +kernel
theorem dX9_callFault_47 : decode cX9_callFault 47 = .ok (.if_icmp .eq 5, 3) := by decide +kernel
theorem dX9_callFault_50 : decode cX9_callFault 50 = .ok (.iconst 4, 1) := by decide +kernel
theorem dX9_callFault_51 : decode cX9_callFault 51 = .ok (.ireturn, 1) := by decide +kernel
theorem dX9_callFault_52 : decode cX9_callFault 52 = .ok (.iconst 0, 1) := by decide +kernel
theorem dX9_callFault_53 : decode cX9_callFault 53 = .ok (.istore 4, 2) := by decide +kernel
theorem dX9_callFault_55 : decode cX9_callFault 55 = .ok (.aload_n 0, 1) := by decide +kernel
theorem dX9_callFault_56 : decode cX9_callFault 56 = .ok (.getfield 53, 3) := by decide +kernel
theorem dX9_callFault_59 : decode cX9_callFault 59 = .ok (.iload_n 1, 1) := by decide +kernel
theorem dX9_callFault_60 : decode cX9_callFault 60 = .ok (.iaload, 1) := by decide +kernel
theorem dX9_callFault_61 : decode cX9_callFault 61 = .ok (.istore 5, 2) := by decide +kernel
theorem dX9_callFault_63 : decode cX9_callFault 63 = .ok (.iload 5, 2) := by decide +kernel
theorem dX9_callFault_65 : decode cX9_callFault 65 = .ok (.iconst (-1), 1) := by decide +kernel
theorem dX9_callFault_66 : decode cX9_callFault 66 = .ok (.if_icmp .eq 42, 3) := by decide +kernel
theorem dX9_callFault_69 : decode cX9_callFault 69 = .ok (.aload_n 0, 1) := by decide +kernel
theorem dX9_callFault_70 : decode cX9_callFault 70 = .ok (.iload_n 2, 1) := by decide +kernel
theorem dX9_callFault_71 : decode cX9_callFault 71 = .ok (.aload_n 0, 1) := by decide +kernel
theorem dX9_callFault_72 : decode cX9_callFault 72 = .ok (.iload_n 1, 1) := by decide +kernel
theorem dX9_callFault_73 : decode cX9_callFault 73 = .ok (.iload 4, 2) := by decide +kernel
theorem dX9_callFault_75 : decode cX9_callFault 75 = .ok (.iinc 4 1, 3) := by decide +kernel
theorem dX9_callFault_78 : decode cX9_callFault 78 = .ok (.invokevirtual 258, 3) := by decide +kernel
theorem dX9_callFault_81 : decode cX9_callFault 81 = .ok (.aload_n 0, 1) := by decide +kernel
theorem dX9_callFault_82 : decode cX9_callFault 82 = .ok (.getfield 53, 3) := by decide +kernel
theorem dX9_callFault_85 : decode cX9_callFault 85 = .ok (.iload 5, 2) := by decide +kernel
theorem dX9_callFault_87 : decode cX9_callFault 87 = .ok (.iaload, 1) := by decide +kernel
theorem dX9_callFault_88 : decode cX9_callFault 88 = .ok (.invokevirtual 261, 3) := by decide +kernel
theorem dX9_callFault_91 : decode cX9_callFault 91 = .ok (.ifCond .ne 5, 3) := by decide +kernel
theorem dX9_callFault_94 : decode cX9_callFault 94 = .ok (.iconst 5, 1) := by decide +kernel
theorem dX9_callFault_95 : decode cX9_callFault 95 = .ok (.ireturn, 1) := by decide +kernel
theorem dX9_callFault_96 : decode cX9_callFault 96 = .ok (.aload_n 0, 1) := by decide +kernel
theorem dX9_callFault_97 : decode cX9_callFault 97 = .ok (.getfield 56, 3) := by decide +kernel
theorem dX9_callFault_100 : decode cX9_callFault 100 = .ok (.iload 5, 2) := by decide +kernel
theorem dX9_callFault_102 : decode cX9_callFault 102 = .ok (.iaload, 1) := by decide +kernel
theorem dX9_callFault_103 : decode cX9_callFault 103 = .ok (.istore 5, 2) := by decide +kernel
theorem dX9_callFault_105 : decode cX9_callFault 105 = .ok (.goto (-42), 3) := by decide +kernel
theorem dX9_callFault_108 : decode cX9_callFault 108 = .ok (.iconst 0, 1) := by decide +kernel
theorem dX9_callFault_109 : decode cX9_callFault 109 = .ok (.ireturn, 1) := by decide +kernel
set_option maxRecDepth 20000 in
theorem ggX9_faultOf_X9_in : GoodIn wsX9_faultOf wsX9_in := goodIn_r _ [7, 8, 9, 85, 86, 87, 88, 89, 90, 91, 92, 93, 94, 95, 96, 97, 98, 99, 100, 101, 102, 103, 104, 105, 106, 107, 108, 109, 110, 111, 112, 113, 114, 115, 116, 117, 118, 119, 120, 121, 122, 123, 124, 125, 126, 127, 128, 129, 130, 131, 132, 133, 134, 135, 136, 137, 138, 139, 140, 141, 142, 143, 144] (by decide +kernel) (by decide +kernel)
set_option maxRecDepth 20000 in
theorem gX9_faultOf_X9_in : GoodIn wsX9_faultOf (wsV RX9 194 RX9 yX9_in wsX9_in) := goodIn_app (goodIn_of _ (by decide +kernel)) ggX9_faultOf_X9_in
set_option maxRecDepth 20000 in
theorem ggX9_faultOf_X9_isLoopAround : GoodIn wsX9_faultOf wsX9_isLoopAround := goodIn_r _ [13, 14, 15, 16, 6, 17, 8, 1, 2, 85, 86, 87, 88, 89, 90, 91, 92, 93, 94, 95, 96, 97, 98, 99, 100, 101, 102, 103, 104, 105, 106, 107, 108, 109, 110, 111, 112, 113, 114, 115, 116, 117, 118, 119, 120, 121, 122, 123, 124, 125, 126, 127, 128, 129, 130, 131, 132, 133, 134, 135, 136, 137, 138, 139, 140, 141, 142, 143, 144] (by decide +kernel) (by decide +kernel)
set_option maxRecDepth 20000 in
theorem gX9_faultOf_X9_isLoopAround : GoodIn wsX9_faultOf (wsV RX9 264 RX9 yX9_isLoopAround wsX9_isLoopAround) := goodIn_app (goodIn_of _ (by decide +kernel)) ggX9_faultOf_X9_isLoopAround
set_option maxRecDepth 20000 in
theorem ggX9_faultOf_X9_loopOutside : GoodIn wsX9_faultOf wsX9_loopOutside := goodIn_r _ [21, 22, 23, 24, 25, 6, 26, 27, 1, 2, 3, 4, 5, 7, 8, 9, 85, 86, 87, 88, 89, 90, 91, 92, 93, 94, 95, 96, 97, 98, 99, 100, 101, 102, 103, 104, 105, 106, 107, 108, 109, 110, 111, 112, 113, 114, 115, 116, 117, 118, 119, 120, 121, 122, 123, 124, 125, 126, 127, 128, 129, 130, 131, 132, 133, 134, 135, 136, 137, 138, 139, 140, 141, 142, 143, 144] (by decide +kernel) (by decide +kernel)
set_option maxRecDepth 20000 in
theorem gX9_faultOf_X9_loopOutside : GoodIn wsX9_faultOf (wsV RX9 267 RX9 yX9_loopOutside wsX9_loopOutside) := goodIn_app (goodIn_of _ (by decide +kernel)) ggX9_faultOf_X9_loopOutside
set_option maxRecDepth 20000 in
theorem ggX9_faultOf_X9_hasName : GoodIn wsX9_faultOf wsX9_hasName := goodIn_r _ [30] (by decide +kernel) (by decide +kernel)
set_option maxRecDepth 20000 in
theorem gX9_faultOf_X9_hasName : GoodIn wsX9_faultOf (va_wsS RX9 200 yX9_hasName wsX9_hasName) := goodIn_app (goodIn_of _ (by decide +kernel)) ggX9_faultOf_X9_hasName
set_option maxRecDepth 20000 in
theorem ggX9_faultOf_X9_whatIs : GoodIn wsX9_faultOf wsX9_whatIs := goodIn_r _ [34, 35, 36, 37, 38, 6, 39, 22, 85, 86, 87, 88, 89, 90, 91, 92, 93, 94, 95, 96, 97, 98, 99, 100, 101, 102, 103, 104, 105, 106, 107, 108, 109, 110, 111, 112, 113, 114, 115, 116, 117, 118, 119, 120, 121, 122, 123, 124, 125, 126, 127, 128, 129, 130, 131, 132, 133, 134, 135, 136, 137, 138, 139, 140, 141, 142, 143, 144] (by decide +kernel) (by decide +kernel)
set_option maxRecDepth 20000 in
theorem gX9_faultOf_X9_whatIs : GoodIn wsX9_faultOf (wsV RX9 153 RX9 yX9_whatIs wsX9_whatIs) := goodIn_app (goodIn_of _ (by decide +kernel)) ggX9_faultOf_X9_whatIs
set_option maxRecDepth 20000 in
theorem ggX9_faultOf_X9_nameFault : GoodIn wsX9_faultOf wsX9_nameFault := goodIn_r _ [43, 44, 45, 6, 46, 47, 48, 49, 50, 51, 36, 37, 38, 39, 35, 22, 52, 53, 54, 55, 56, 57, 58, 59, 60, 85, 86, 87, 88, 89, 90, 91, 92, 93, 94, 95, 96, 97, 98, 99, 100, 101, 102, 103, 104, 105, 106, 107, 108, 109, 110, 111, 112, 113, 114, 115, 116, 117, 118, 119, 120, 121, 122, 123, 124, 125, 126, 127, 128, 129, 130, 131, 132, 133, 134, 135, 136, 137, 138, 139, 140, 141, 142, 143, 144] (by decide +kernel) (by decide +kernel)
set_option maxRecDepth 20000 in
theorem gX9_faultOf_X9_nameFault : GoodIn wsX9_faultOf (wsV RX9 270 RX9 yX9_nameFault wsX9_nameFault) := goodIn_app (goodIn_of _ (by decide +kernel)) ggX9_faultOf_X9_nameFault
set_option maxRecDepth 20000 in
theorem ggX9_faultOf_X9_callFault : GoodIn wsX9_faultOf wsX9_callFault := goodIn_r _ [64, 2, 56, 65, 66, 31, 32, 33, 6, 34, 35, 36, 37, 38, 39, 22, 67, 68, 69, 70, 47, 48, 49, 50, 51, 71, 72, 73, 74, 57, 3, 4, 5, 7, 8, 9, 75, 76, 77, 78, 1, 44, 45, 46, 79, 80, 81, 82, 83, 84, 85, 86, 87, 88, 89, 90, 91, 92, 93, 94, 95, 96, 97, 98, 99, 100, 101, 102, 103, 104, 105, 106, 107, 108, 109, 110, 111, 112, 113, 114, 115, 116, 117, 118, 119, 120, 121, 122, 123, 124, 125, 126, 127, 128, 129, 130, 131, 132, 133, 134, 135, 136, 137, 138, 139, 140, 141, 142, 143, 144] (by decide +kernel) (by decide +kernel)
set_option maxRecDepth 20000 in
theorem gX9_faultOf_X9_callFault : GoodIn wsX9_faultOf (wsV RX9 274 RX9 yX9_callFault wsX9_callFault) := goodIn_app (goodIn_of _ (by decide +kernel)) ggX9_faultOf_X9_callFault
theorem dX9_faultOf_0 : decode cX9_faultOf 0 = .ok (.aload_n 0, 1) := by decide +kernel
theorem dX9_faultOf_1 : decode cX9_faultOf 1 = .ok (.iload_n 1, 1) := by decide +kernel
theorem dX9_faultOf_2 : decode cX9_faultOf 2 = .ok (.invokevirtual 194, 3) := by decide +kernel
theorem dX9_faultOf_5 : decode cX9_faultOf 5 = .ok (.istore_n 2, 1) := by decide +kernel
theorem dX9_faultOf_6 : decode cX9_faultOf 6 = .ok (.aload_n 0, 1) := by decide +kernel
theorem dX9_faultOf_7 : decode cX9_faultOf 7 = .ok (.getfield 47, 3) := by decide +kernel
theorem dX9_faultOf_10 : decode cX9_faultOf 10 = .ok (.iload_n 1, 1) := by decide +kernel
theorem dX9_faultOf_11 : decode cX9_faultOf 11 = .ok (.iaload, 1) := by decide +kernel
theorem dX9_faultOf_12 : decode cX9_faultOf 12 = .ok (.bipush 17, 2) := by decide +kernel
theorem dX9_faultOf_14 : decode cX9_faultOf 14 = .ok (.if_icmp .ne 39, 3) := by decide +kernel
theorem dX9_faultOf_17 : decode cX9_faultOf 17 = .ok (.aload_n 0, 1) := by decide +kernel
theorem dX9_faultOf_18 : decode cX9_faultOf 18 = .ok (.iload_n 1, 1) := by decide +kernel
theorem dX9_faultOf_19 : decode cX9_faultOf 19 = .ok (.aload_n 0, 1) := by decide +kernel
theorem dX9_faultOf_20 : decode cX9_faultOf 20 = .ok (.getfield 50, 3) := by decide +kernel
theorem dX9_faultOf_23 : decode cX9_faultOf 23 = .ok (.iload_n 1, 1) := by decide +kernel
theorem dX9_faultOf_24 : decode cX9_faultOf 24 = .ok (.iaload, 1) := by decide +kernel
theorem dX9_faultOf_25 : decode cX9_faultOf 25 = .ok (.invokevirtual 264, 3) := by decide +kernel
theorem dX9_faultOf_28 : decode cX9_faultOf 28 = .ok (.ifCond .ne 18, 3) := by decide +kernel
theorem dX9_faultOf_31 : decode cX9_faultOf 31 = .ok (.aload_n 0, 1) := by decide +kernel
theorem dX9_faultOf_32 : decode cX9_faultOf 32 = .ok (.iload_n 2, 1) := by decide +kernel
theorem dX9_faultOf_33 : decode cX9_faultOf 33 = .ok (.aload_n 0, 1) := by decide +kernel
theorem dX9_faultOf_34 : decode cX9_faultOf 34 = .ok (.getfield 50, 3) := by decide +kernel
theorem dX9_faultOf_37 : decode cX9_faultOf 37 = .ok (.iload_n 1, 1) := by decide +kernel
theorem dX9_faultOf_38 : decode cX9_faultOf 38 = .ok (.iaload, 1) := by decide +kernel
theorem dX9_faultOf_39 : decode cX9_faultOf 39 = .ok (.invokevirtual 267, 3) := by decide +kernel
theorem dX9_faultOf_42 : decode cX9_faultOf 42 = .ok (.iconst (-1), 1) := by decide +kernel
theorem dX9_faultOf_43 : decode cX9_faultOf 43 = .ok (.if_icmp .eq 7, 3) := by decide +kernel
theorem dX9_faultOf_46 : decode cX9_faultOf 46 = .ok (.iconst 0, 1) := by decide +kernel
theorem dX9_faultOf_47 : decode cX9_faultOf 47 = .ok (.goto 5, 3) := by decide +kernel
theorem dX9_faultOf_50 : decode cX9_faultOf 50 = .ok (.bipush 6, 2) := by decide +kernel
theorem dX9_faultOf_52 : decode cX9_faultOf 52 = .ok (.ireturn, 1) := by decide +kernel
theorem dX9_faultOf_53 : decode cX9_faultOf 53 = .ok (.aload_n 0, 1) := by decide +kernel
theorem dX9_faultOf_54 : decode cX9_faultOf 54 = .ok (.getfield 47, 3) := by decide +kernel
theorem dX9_faultOf_57 : decode cX9_faultOf 57 = .ok (.iload_n 1, 1) := by decide +kernel
theorem dX9_faultOf_58 : decode cX9_faultOf 58 = .ok (.iaload, 1) := by decide +kernel
theorem dX9_faultOf_59 : decode cX9_faultOf 59 = .ok (.invokestatic 200, 3) := by decide +kernel
theorem dX9_faultOf_62 : decode cX9_faultOf 62 = .ok (.ifCond .ne 5, 3) := by decide +kernel
theorem dX9_faultOf_65 : decode cX9_faultOf 65 = .ok (.iconst 0, 1) := by decide +kernel
theorem dX9_faultOf_66 : decode cX9_faultOf 66 = .ok (.ireturn, 1) := by decide +kernel
theorem dX9_faultOf_67 : decode cX9_faultOf 67 = .ok (.aload_n 0, 1) := by decide +kernel
theorem dX9_faultOf_68 : decode cX9_faultOf 68 = .ok (.iload_n 2, 1) := by decide +kernel
theorem dX9_faultOf_69 : decode cX9_faultOf 69 = .ok (.aload_n 0, 1) := by decide +kernel
theorem dX9_faultOf_70 : decode cX9_faultOf 70 = .ok (.getfield 50, 3) := by decide +kernel
theorem dX9_faultOf_73 : decode cX9_faultOf 73 = .ok (.iload_n 1, 1) := by decide +kernel
theorem dX9_faultOf_74 : decode cX9_faultOf 74 = .ok (.iaload, 1) := by decide +kernel
theorem dX9_faultOf_75 : decode cX9_faultOf 75 = .ok (.invokevirtual 153, 3) := by decide +kernel
theorem dX9_faultOf_78 : decode cX9_faultOf 78 = .ok (.istore_n 3, 1) := by decide +kernel
theorem dX9_faultOf_79 : decode cX9_faultOf 79 = .ok (.iload_n 3, 1) := by decide +kernel
theorem dX9_faultOf_80 : decode cX9_faultOf 80 = .ok (.iconst (-1), 1) := by decide +kernel
theorem dX9_faultOf_81 : decode cX9_faultOf 81 = .ok (.if_icmp .ne 5, 3) := by decide +kernel
theorem dX9_faultOf_84 : decode cX9_faultOf 84 = .ok (.iconst 1, 1) := by decide +kernel
theorem dX9_faultOf_85 : decode cX9_faultOf 85 = .ok (.ireturn, 1) := by decide +kernel
theorem dX9_faultOf_86 : decode cX9_faultOf 86 = .ok (.aload_n 0, 1) := by decide +kernel
theorem dX9_faultOf_87 : decode cX9_faultOf 87 = .ok (.aload_n 0, 1) := by decide +kernel
theorem dX9_faultOf_88 : decode cX9_faultOf 88 = .ok (.getfield 47, 3) := by decide +kernel
theorem dX9_faultOf_91 : decode cX9_faultOf 91 = .ok (.iload_n 1, 1) := by decide +kernel
theorem dX9_faultOf_92 : decode cX9_faultOf 92 = .ok (.iaload, 1) := by decide +kernel
theorem dX9_faultOf_93 : decode cX9_faultOf 93 = .ok (.iload_n 3, 1) := by decide +kernel
theorem dX9_faultOf_94 : decode cX9_faultOf 94 = .ok (.iload_n 2, 1) := by decide +kernel
theorem dX9_faultOf_95 : decode cX9_faultOf 95 = .ok (.aload_n 0, 1) := by decide +kernel
theorem dX9_faultOf_96 : decode cX9_faultOf 96 = .ok (.getfield 50, 3) := by decide +kernel
theorem dX9_faultOf_99 : decode cX9_faultOf 99 = .ok (.iload_n 1, 1) := by decide +kernel
theorem dX9_faultOf_100 : decode cX9_faultOf 100 = .ok (.iaload, 1) := by decide +kernel
theorem dX9_faultOf_101 : decode cX9_faultOf 101 = .ok (.invokevirtual 270, 3) := by decide +kernel
theorem dX9_faultOf_104 : decode cX9_faultOf 104 = .ok (.istore 4, 2) := by decide +kernel
theorem dX9_faultOf_106 : decode cX9_faultOf 106 = .ok (.iload 4, 2) := by decide +kernel
theorem dX9_faultOf_108 : decode cX9_faultOf 108 = .ok (.ifCond .gt 14, 3) := by decide +kernel
theorem dX9_faultOf_111 : decode cX9_faultOf 111 = .ok (.aload_n 0, 1) := by decide +kernel
theorem dX9_faultOf_112 : decode cX9_faultOf 112 = .ok (.getfield 47, 3) := by decide +kernel
theorem dX9_faultOf_115 : decode cX9_faultOf 115 = .ok (.iload_n 1, 1) := by decide +kernel
theorem dX9_faultOf_116 : decode cX9_faultOf 116 = .ok (.iaload, 1) := by decide +kernel
theorem dX9_faultOf_117 : decode cX9_faultOf 117 = .ok (.bipush 8, 2) := by decide +kernel
theorem dX9_faultOf_119 : decode cX9_faultOf 119 = .ok (.if_icmp .eq 8, 3) := by decide +kernel
theorem dX9_faultOf_122 : decode cX9_faultOf 122 = .ok (.iload 4, 2) := by decide +kernel
theorem dX9_faultOf_124 : decode cX9_faultOf 124 = .ok (.goto 9, 3) := by decide +kernel
theorem dX9_faultOf_127 : decode cX9_faultOf 127 = .ok (.aload_n 0, 1) := by decide +kernel
theorem dX9_faultOf_128 : decode cX9_faultOf 128 = .ok (.iload_n 1, 1) := by decide +kernel
theorem dX9_faultOf_129 : decode cX9_faultOf 129 = .ok (.iload_n 2, 1) := by decide +kernel
theorem dX9_faultOf_130 : decode cX9_faultOf 130 = .ok (.invokevirtual 274, 3) := by decide +kernel
theorem dX9_faultOf_133 : decode cX9_faultOf 133 = .ok (.ireturn, 1) := by decide +kernel
set_option maxRecDepth 20000 in
theorem ggX9_lookFor_X9_faultOf : GoodIn wsX9_lookFor wsX9_faultOf := goodIn_r _ [8, 9, 10, 11, 12, 13, 7, 14, 15, 16, 17, 18, 19, 20, 21, 22, 23, 24, 25, 26, 27, 28, 29, 30, 31, 32, 33, 34, 35, 36, 37, 38, 39, 40, 41, 42, 43, 44, 45, 46, 47, 48, 49, 50, 51, 52, 53, 54, 55, 56, 57, 58, 59, 60, 61, 62, 63, 64, 65, 66, 67, 68, 69, 70, 71, 72, 73, 74, 75, 76, 77, 78, 79, 80, 81, 82, 83, 84, 85, 86, 87, 88, 89, 90, 91, 102, 103, 104, 105, 106, 107, 108, 109, 110, 111, 112, 113, 114, 115, 116, 117, 118, 119, 120, 121, 122, 123, 124, 125, 126, 127, 128, 129, 130, 131, 132, 133, 134, 135, 136, 137, 138, 139, 140, 141, 142, 143, 144, 145, 146, 147, 148, 149, 150, 151, 152, 153, 154, 155, 156, 157, 158, 159, 160, 161] (by decide +kernel) (by decide +kernel)
set_option maxRecDepth 20000 in
theorem gX9_lookFor_X9_faultOf : GoodIn wsX9_lookFor (wsV RX9 277 RX9 yX9_faultOf wsX9_faultOf) := goodIn_app (goodIn_of _ (by decide +kernel)) ggX9_lookFor_X9_faultOf
set_option maxRecDepth 20000 in
theorem ggX9_lookFor_X9_part : GoodIn wsX9_lookFor wsX9_part := goodIn_r _ [95, 9, 10, 72, 73, 96, 97, 7, 98, 99, 100, 101, 102, 103, 104, 105, 106, 107, 108, 109, 110, 111, 112, 113, 114, 115, 116, 117, 118, 119, 120, 121, 122, 123, 124, 125, 126, 127, 128, 129, 130, 131, 132, 133, 134, 135, 136, 137, 138, 139, 140, 141, 142, 143, 144, 145, 146, 147, 148, 149, 150, 151, 152, 153, 154, 155, 156, 157, 158, 159, 160, 161] (by decide +kernel) (by decide +kernel)
set_option maxRecDepth 20000 in
theorem gX9_lookFor_X9_part : GoodIn wsX9_lookFor (wsV RX9 191 RX9 yX9_part wsX9_part) := goodIn_app (goodIn_of _ (by decide +kernel)) ggX9_lookFor_X9_part
theorem dX9_lookFor_0 : decode cX9_lookFor 0 = .ok (.iconst 0, 1) := by decide +kernel
theorem dX9_lookFor_1 : decode cX9_lookFor 1 = .ok (.istore_n 3, 1) := by decide +kernel
theorem dX9_lookFor_2 : decode cX9_lookFor 2 = .ok (.bipush 111, 2) := by decide +kernel
theorem dX9_lookFor_4 : decode cX9_lookFor 4 = .ok (.newarray .int, 2) := by decide +kernel
theorem dX9_lookFor_6 : decode cX9_lookFor 6 = .ok (.astore 4, 2) := by decide +kernel
theorem dX9_lookFor_8 : decode cX9_lookFor 8 = .ok (.iconst 0, 1) := by decide +kernel
theorem dX9_lookFor_9 : decode cX9_lookFor 9 = .ok (.istore 5, 2) := by decide +kernel
theorem dX9_lookFor_11 : decode cX9_lookFor 11 = .ok (.iload 5, 2) := by decide +kernel
theorem dX9_lookFor_13 : decode cX9_lookFor 13 = .ok (.aload_n 0, 1) := by decide +kernel
theorem dX9_lookFor_14 : decode cX9_lookFor 14 = .ok (.getfield 7, 3) := by decide +kernel
theorem dX9_lookFor_17 : decode cX9_lookFor 17 = .ok (.if_icmp .ge 183, 3) := by decide +kernel
theorem dX9_lookFor_20 : decode cX9_lookFor 20 = .ok (.aload_n 0, 1) := by decide +kernel
theorem dX9_lookFor_21 : decode cX9_lookFor 21 = .ok (.getfield 29, 3) := by decide +kernel
theorem dX9_lookFor_24 : decode cX9_lookFor 24 = .ok (.iload 5, 2) := by decide +kernel
theorem dX9_lookFor_26 : decode cX9_lookFor 26 = .ok (.iaload, 1) := by decide +kernel
theorem dX9_lookFor_27 : decode cX9_lookFor 27 = .ok (.iconst (-1), 1) := by decide +kernel
theorem dX9_lookFor_28 : decode cX9_lookFor 28 = .ok (.if_icmp .ne 35, 3) := by decide +kernel
theorem dX9_lookFor_31 : decode cX9_lookFor 31 = .ok (.iload_n 3, 1) := by decide +kernel
theorem dX9_lookFor_32 : decode cX9_lookFor 32 = .ok (.iload_n 1, 1) := by decide +kernel
theorem dX9_lookFor_33 : decode cX9_lookFor 33 = .ok (.if_icmp .ne 24, 3) := by decide +kernel
theorem dX9_lookFor_36 : decode cX9_lookFor 36 = .ok (.iload_n 2, 1) := by decide +kernel
theorem dX9_lookFor_37 : decode cX9_lookFor 37 = .ok (.ifCond .ne 8, 3) := by decide +kernel
theorem dX9_lookFor_40 : decode cX9_lookFor 40 = .ok (.bipush 10, 2) := by decide +kernel
theorem dX9_lookFor_42 : decode cX9_lookFor 42 = .ok (.goto 14, 3) := by decide +kernel
theorem dX9_lookFor_45 : decode cX9_lookFor 45 = .ok (.iload_n 2, 1) := by decide +kernel
theorem dX9_lookFor_46 : decode cX9_lookFor 46 = .ok (.iconst 1, 1) := by decide +kernel
theorem dX9_lookFor_47 : decode cX9_lookFor 47 = .ok (.if_icmp .ne 8, 3) := by decide +kernel
theorem dX9_lookFor_50 : decode cX9_lookFor 50 = .ok (.iload 5, 2) := by decide +kernel
theorem dX9_lookFor_52 : decode cX9_lookFor 52 = .ok (.goto 4, 3) := by decide +kernel
theorem dX9_lookFor_55 : decode cX9_lookFor 55 = .ok (.iconst (-1), 1) := by decide +kernel
theorem dX9_lookFor_56 : decode cX9_lookFor 56 = .ok (.ireturn, 1) := by decide +kernel
theorem dX9_lookFor_57 : decode cX9_lookFor 57 = .ok (.iinc 3 1, 3) := by decide +kernel
theorem dX9_lookFor_60 : decode cX9_lookFor 60 = .ok (.goto 134, 3) := by decide +kernel
theorem dX9_lookFor_63 : decode cX9_lookFor 63 = .ok (.iconst 0, 1) := by decide +kernel
theorem dX9_lookFor_64 : decode cX9_lookFor 64 = .ok (.istore 6, 2) := by decide +kernel
theorem dX9_lookFor_66 : decode cX9_lookFor 66 = .ok (.aload 4, 2) := by decide +kernel
theorem dX9_lookFor_68 : decode cX9_lookFor 68 = .ok (.iload 6, 2) := by decide +kernel
theorem dX9_lookFor_70 : decode cX9_lookFor 70 = .ok (.iinc 6 1, 3) := by decide +kernel
theorem dX9_lookFor_73 : decode cX9_lookFor 73 = .ok (.aload_n 0, 1) := by decide +kernel
theorem dX9_lookFor_74 : decode cX9_lookFor 74 = .ok (.getfield 29, 3) := by decide +kernel
theorem dX9_lookFor_77 : decode cX9_lookFor 77 = .ok (.iload 5, 2) := by decide +kernel
theorem dX9_lookFor_79 : decode cX9_lookFor 79 = .ok (.iaload, 1) := by decide +kernel
theorem dX9_lookFor_80 : decode cX9_lookFor 80 = .ok (.iastore, 1) := by decide +kernel
theorem dX9_lookFor_81 : decode cX9_lookFor 81 = .ok (.iload 6, 2) := by decide +kernel
theorem dX9_lookFor_83 : decode cX9_lookFor 83 = .ok (.ifCond .le 111, 3) := by decide +kernel
theorem dX9_lookFor_86 : decode cX9_lookFor 86 = .ok (.aload 4, 2) := by decide +kernel
theorem dX9_lookFor_88 : decode cX9_lookFor 88 = .ok (.iinc 6 (-1), 3) := by decide +kernel
theorem dX9_lookFor_91 : decode cX9_lookFor 91 = .ok (.iload 6, 2) := by decide +kernel
theorem dX9_lookFor_93 : decode cX9_lookFor 93 = .ok (.iaload, 1) := by decide +kernel
theorem dX9_lookFor_94 : decode cX9_lookFor 94 = .ok (.istore 7, 2) := by decide +kernel
theorem dX9_lookFor_96 : decode cX9_lookFor 96 = .ok (.aload_n 0, 1) := by decide +kernel
theorem dX9_lookFor_97 : decode cX9_lookFor 97 = .ok (.iload 7, 2) := by decide +kernel
theorem dX9_lookFor_99 : decode cX9_lookFor 99 = .ok (.invokevirtual 277, 3) := by decide +kernel
theorem dX9_lookFor_102 : decode cX9_lookFor 102 = .ok (.istore 8, 2) := by decide +kernel
theorem dX9_lookFor_104 : decode cX9_lookFor 104 = .ok (.iload 8, 2) := by decide +kernel
theorem dX9_lookFor_106 : decode cX9_lookFor 106 = .ok (.ifCond .le 30, 3) := by decide +kernel
theorem dX9_lookFor_109 : decode cX9_lookFor 109 = .ok (.iload_n 3, 1) := by decide +kernel
theorem dX9_lookFor_110 : decode cX9_lookFor 110 = .ok (.iload_n 1, 1) := by decide +kernel
theorem dX9_lookFor_111 : decode cX9_lookFor 111 = .ok (.if_icmp .ne 25, 3) := by decide +kernel
theorem dX9_lookFor_114 : decode cX9_lookFor 114 = .ok (.iload_n 2, 1) := by decide +kernel
theorem dX9_lookFor_115 : decode cX9_lookFor 115 = .ok (.ifCond .ne 8, 3) := by decide +kernel
theorem dX9_lookFor_118 : decode cX9_lookFor 118 = .ok (.iload 8, 2) := by decide +kernel
theorem dX9_lookFor_120 : decode cX9_lookFor 120 = .ok (.goto 15, 3) := by decide +kernel
theorem dX9_lookFor_123 : decode cX9_lookFor 123 = .ok (.iload_n 2, 1) := by decide +kernel
theorem dX9_lookFor_124 : decode cX9_lookFor 124 = .ok (.iconst 1, 1) := by decide +kernel
theorem dX9_lookFor_125 : decode cX9_lookFor 125 = .ok (.if_icmp .ne 8, 3) := by decide +kernel
theorem dX9_lookFor_128 : decode cX9_lookFor 128 = .ok (.iload 5, 2) := by decide +kernel
theorem dX9_lookFor_130 : decode cX9_lookFor 130 = .ok (.goto 5, 3) := by decide +kernel
theorem dX9_lookFor_133 : decode cX9_lookFor 133 = .ok (.iload 7, 2) := by decide +kernel
theorem dX9_lookFor_135 : decode cX9_lookFor 135 = .ok (.ireturn, 1) := by decide +kernel
theorem dX9_lookFor_136 : decode cX9_lookFor 136 = .ok (.iload_n 3, 1) := by decide +kernel
theorem dX9_lookFor_137 : decode cX9_lookFor 137 = .ok (.iload 8, 2) := by decide +kernel
theorem dX9_lookFor_139 : decode cX9_lookFor 139 = .ok (.ifCond .le 7, 3) := by decide +kernel
theorem dX9_lookFor_142 : decode cX9_lookFor 142 = .ok (.iconst 1, 1) := by decide +kernel
theorem dX9_lookFor_143 : decode cX9_lookFor 143 = .ok (.goto 4, 3) := by decide +kernel
theorem dX9_lookFor_146 : decode cX9_lookFor 146 = .ok (.iconst 0, 1) := by decide +kernel
theorem dX9_lookFor_147 : decode cX9_lookFor 147 = .ok (.iadd, 1) := by decide +kernel
theorem dX9_lookFor_148 : decode cX9_lookFor 148 = .ok (.istore_n 3, 1) := by decide +kernel
theorem dX9_lookFor_149 : decode cX9_lookFor 149 = .ok (.iconst 2, 1) := by decide +kernel
theorem dX9_lookFor_150 : decode cX9_lookFor 150 = .ok (.istore 9, 2) := by decide +kernel
theorem dX9_lookFor_152 : decode cX9_lookFor 152 = .ok (.iload 9, 2) := by decide +kernel
theorem dX9_lookFor_154 : decode cX9_lookFor 154 = .ok (.ifCond .lt 37, 3) := by decide +kernel
theorem dX9_lookFor_157 : decode cX9_lookFor 157 = .ok (.aload_n 0, 1) := by decide +kernel
theorem dX9_lookFor_158 : decode cX9_lookFor 158 = .ok (.iload 7, 2) := by decide +kernel
theorem dX9_lookFor_160 : decode cX9_lookFor 160 = .ok (.iload 9, 2) := by decide +kernel
theorem dX9_lookFor_162 : decode cX9_lookFor 162 = .ok (.invokevirtual 191, 3) := by decide +kernel
theorem dX9_lookFor_165 : decode cX9_lookFor 165 = .ok (.iconst (-1), 1) := by decide +kernel
theorem dX9_lookFor_166 : decode cX9_lookFor 166 = .ok (.if_icmp .eq 19, 3) := by decide +kernel
theorem dX9_lookFor_169 : decode cX9_lookFor 169 = .ok (.aload 4, 2) := by decide +kernel
theorem dX9_lookFor_171 : decode cX9_lookFor 171 = .ok (.iload 6, 2) := by decide +kernel
theorem dX9_lookFor_173 : decode cX9_lookFor 173 = .ok (.iinc 6 1, 3) := by decide +kernel
theorem dX9_lookFor_176 : decode cX9_lookFor 176 = .ok (.aload_n 0, 1) := by decide +kernel
theorem dX9_lookFor_177 : decode cX9_lookFor 177 = .ok (.iload 7, 2) := by decide +kernel
theorem dX9_lookFor_179 : decode cX9_lookFor 179 = .ok (.iload 9, 2) := by decide +kernel
theorem dX9_lookFor_181 : decode cX9_lookFor 181 = .ok (.invokevirtual 191, 3) := by decide +kernel
theorem dX9_lookFor_184 : decode cX9_lookFor 184 = .ok (.iastore, 1) := by decide +kernel
theorem dX9_lookFor_185 : decode cX9_lookFor 185 = .ok (.iinc 9 (-1), 3) := by decide +kernel
theorem dX9_lookFor_188 : decode cX9_lookFor 188 = .ok (.goto (-36), 3) := by decide +kernel
theorem dX9_lookFor_191 : decode cX9_lookFor 191 = .ok (.goto (-110), 3) := by decide +kernel
theorem dX9_lookFor_194 : decode cX9_lookFor 194 = .ok (.iinc 5 1, 3) := by decide +kernel
theorem dX9_lookFor_197 : decode cX9_lookFor 197 = .ok (.goto (-186), 3) := by decide +kernel
theorem dX9_lookFor_200 : decode cX9_lookFor 200 = .ok (.iload_n 3, 1) := by decide +kernel
theorem dX9_lookFor_201 : decode cX9_lookFor 201 = .ok (.ireturn, 1) := by decide +kernel
set_option maxRecDepth 20000 in
theorem ggX9_faults_X9_lookFor : GoodIn wsX9_faults wsX9_lookFor := goodIn_r _ [5, 6, 7, 8, 9, 10, 11, 4, 12, 13, 14, 15, 16, 17, 18, 19, 20, 21, 22, 23, 24, 25, 26, 27, 28, 29, 30, 31, 32, 33, 34, 35, 36, 37, 38, 39, 40, 41, 42, 43, 44, 45, 46, 47, 48, 49, 50, 51, 52, 53, 54, 55, 56, 57, 58, 59, 60, 61, 62, 63, 64, 65, 66, 67, 68, 69, 70, 71, 72, 73, 74, 75, 76, 77, 78, 79, 80, 81, 82, 83, 84, 85, 86, 87, 88, 89, 90, 91, 92, 93, 94, 95, 96, 97, 98, 99, 100, 101, 102, 103, 104, 105, 106, 107, 108, 109, 110, 111, 112, 113, 114, 115, 116, 117, 118, 119, 120, 121, 122, 123, 124, 125, 126, 127, 128, 129, 130, 131, 132, 133, 134, 135, 136, 137, 138, 139, 140, 141, 142, 143, 144, 145, 146, 147, 148, 149, 150, 151, 152, 153, 154, 155, 156, 157, 158, 159, 160, 161, 162, 163, 164, 165] (by decide +kernel) (by decide +kernel)
set_option maxRecDepth 20000 in
theorem gX9_faults_X9_lookFor : GoodIn wsX9_faults (wsV RX9 280 RX9 yX9_lookFor wsX9_lookFor) := goodIn_app (goodIn_of _ (by decide +kernel)) ggX9_faults_X9_lookFor
theorem dX9_faults_0 : decode cX9_faults 0 = .ok (.aload_n 0, 1) := by decide +kernel
theorem dX9_faults_1 : decode cX9_faults 1 = .ok (.iconst (-1), 1) := by decide +kernel
theorem dX9_faults_2 : decode cX9_faults 2 = .ok (.iconst 0, 1) := by decide +kernel
theorem dX9_faults_3 : decode cX9_faults 3 = .ok (.invokevirtual 280, 3) := by decide +kernel
theorem dX9_faults_6 : decode cX9_faults 6 = .ok (.ireturn, 1) := by decide +kernel
set_option maxRecDepth 20000 in
theorem ggX9_fault_X9_faults : GoodIn wsX9_fault wsX9_faults := goodIn_r _ [6, 7, 8, 9, 5, 10, 11, 12, 13, 14, 15, 16, 17, 18, 19, 20, 21, 22, 23, 24, 25, 26, 27, 28, 29, 30, 31, 32, 33, 34, 35, 36, 37, 38, 39, 40, 41, 42, 43, 44, 45, 46, 47, 48, 49, 50, 51, 52, 53, 54, 55, 56, 57, 58, 59, 60, 61, 62, 63, 64, 65, 66, 67, 68, 69, 70, 71, 72, 73, 74, 75, 76, 77, 78, 79, 80, 81, 82, 83, 84, 85, 86, 87, 88, 89, 90, 91, 92, 93, 94, 95, 96, 97, 98, 99, 100, 101, 102, 103, 104, 105, 106, 107, 108, 109, 110, 115, 116, 117, 118, 119, 120, 121, 122, 123, 124, 125, 126, 127, 128, 129, 130, 131, 132, 133, 134, 135, 136, 137, 138, 139, 140, 141, 142, 143, 144, 145, 146, 147, 148, 149, 150, 151, 152, 153, 154, 155, 156, 157, 158, 159, 160, 161, 162, 163, 164, 165, 166, 167, 168, 169, 170, 171, 172, 173, 174] (by decide +kernel) (by decide +kernel)
set_option maxRecDepth 20000 in
theorem gX9_fault_X9_faults : GoodIn wsX9_fault (wsV RX9 227 RX9 yX9_faults wsX9_faults) := goodIn_app (goodIn_of _ (by decide +kernel)) ggX9_fault_X9_faults
set_option maxRecDepth 20000 in
theorem ggX9_fault_X9_isIn : GoodIn wsX9_fault wsX9_isIn := goodIn_r _ [100] (by decide +kernel) (by decide +kernel)
set_option maxRecDepth 20000 in
theorem gX9_fault_X9_isIn : GoodIn wsX9_fault (va_wsS RX9 117 yX9_isIn wsX9_isIn) := goodIn_app (goodIn_of _ (by decide +kernel)) ggX9_fault_X9_isIn
set_option maxRecDepth 20000 in
theorem ggX9_fault_X9_no : GoodIn wsX9_fault wsX9_no := goodIn_r _ [114, 1, 115, 116, 117, 118, 119, 120, 121, 122, 123, 124, 125, 126, 127, 128, 129, 130, 131, 132, 133, 134, 135, 136, 137, 138, 139, 140, 141, 142, 143, 144, 145, 146, 147, 148, 149, 150, 151, 152, 153, 154, 155, 156, 157, 158, 159, 160, 161, 162, 163, 164, 165, 166, 167, 168, 169, 170, 171, 172, 173, 174] (by decide +kernel) (by decide +kernel)
set_option maxRecDepth 20000 in
theorem gX9_fault_X9_no : GoodIn wsX9_fault (wsV RX9 128 RX9 yX9_no wsX9_no) := goodIn_app (goodIn_of _ (by decide +kernel)) ggX9_fault_X9_no
set_option maxRecDepth 20000 in
theorem ggX9_fault_X9_lookFor : GoodIn wsX9_fault wsX9_lookFor := goodIn_r _ [10, 11, 12, 13, 14, 15, 16, 5, 17, 18, 19, 20, 21, 22, 23, 24, 25, 26, 27, 28, 29, 30, 31, 32, 33, 34, 35, 36, 37, 38, 39, 40, 41, 42, 43, 44, 45, 46, 47, 48, 49, 50, 51, 52, 53, 54, 55, 56, 57, 58, 59, 60, 61, 62, 63, 64, 65, 66, 67, 68, 69, 70, 71, 72, 73, 74, 75, 76, 77, 78, 79, 80, 81, 82, 83, 84, 85, 86, 87, 88, 89, 90, 91, 92, 93, 94, 95, 96, 97, 98, 99, 100, 101, 102, 103, 104, 105, 106, 107, 108, 109, 110, 115, 116, 117, 118, 119, 120, 121, 122, 123, 124, 125, 126, 127, 128, 129, 130, 131, 132, 133, 134, 135, 136, 137, 138, 139, 140, 141, 142, 143, 144, 145, 146, 147, 148, 149, 150, 151, 152, 153, 154, 155, 156, 157, 158, 159, 160, 161, 162, 163, 164, 165, 166, 167, 168, 169, 170, 171, 172, 173, 174] (by decide +kernel) (by decide +kernel)
set_option maxRecDepth 20000 in
theorem gX9_fault_X9_lookFor : GoodIn wsX9_fault (wsV RX9 280 RX9 yX9_lookFor wsX9_lookFor) := goodIn_app (goodIn_of _ (by decide +kernel)) ggX9_fault_X9_lookFor
theorem dX9_fault_0 : decode cX9_fault 0 = .ok (.aload_n 0, 1) := by decide +kernel
theorem dX9_fault_1 : decode cX9_fault 1 = .ok (.iconst 0, 1) := by decide +kernel
theorem dX9_fault_2 : decode cX9_fault 2 = .ok (.putfield 114, 3) := by decide +kernel
theorem dX9_fault_5 : decode cX9_fault 5 = .ok (.iload_n 1, 1) := by decide +kernel
theorem dX9_fault_6 : decode cX9_fault 6 = .ok (.iconst 0, 1) := by decide +kernel
theorem dX9_fault_7 : decode cX9_fault 7 = .ok (.aload_n 0, 1) := by decide +kernel
theorem dX9_fault_8 : decode cX9_fault 8 = .ok (.invokevirtual 227, 3) := by decide +kernel
theorem dX9_fault_11 : decode cX9_fault 11 = .ok (.iconst 1, 1) := by decide +kernel
theorem dX9_fault_12 : decode cX9_fault 12 = .ok (.isub, 1) := by decide +kernel
theorem dX9_fault_13 : decode cX9_fault 13 = .ok (.invokestatic 117, 3) := by decide +kernel
theorem dX9_fault_16 : decode cX9_fault 16 = .ok (.ifCond .ne 9, 3) := by decide +kernel
theorem dX9_fault_19 : decode cX9_fault 19 = .ok (.aload_n 0, 1) := by decide +kernel
theorem dX9_fault_20 : decode cX9_fault 20 = .ok (.iconst 1, 1) := by decide +kernel
theorem dX9_fault_21 : decode cX9_fault 21 = .ok (.invokevirtual 128, 3) := by decide +kernel
theorem dX9_fault_24 : decode cX9_fault 24 = .ok (.ireturn, 1) := by decide +kernel
theorem dX9_fault_25 : decode cX9_fault 25 = .ok (.iload_n 2, 1) := by decide +kernel
theorem dX9_fault_26 : decode cX9_fault 26 = .ok (.iconst 0, 1) := by decide +kernel
theorem dX9_fault_27 : decode cX9_fault 27 = .ok (.iconst 2, 1) := by decide +kernel
theorem dX9_fault_28 : decode cX9_fault 28 = .ok (.invokestatic 117, 3) := by decide +kernel
theorem dX9_fault_31 : decode cX9_fault 31 = .ok (.ifCond .eq 12, 3) := by decide +kernel
theorem dX9_fault_34 : decode cX9_fault 34 = .ok (.aload_n 0, 1) := by decide +kernel
theorem dX9_fault_35 : decode cX9_fault 35 = .ok (.iload_n 1, 1) := by decide +kernel
theorem dX9_fault_36 : decode cX9_fault 36 = .ok (.iload_n 2, 1) := by decide +kernel
theorem dX9_fault_37 : decode cX9_fault 37 = .ok (.invokevirtual 280, 3) := by decide +kernel
theorem dX9_fault_40 : decode cX9_fault 40 = .ok (.goto 8, 3) := by decide +kernel
theorem dX9_fault_43 : decode cX9_fault 43 = .ok (.aload_n 0, 1) := by decide +kernel
theorem dX9_fault_44 : decode cX9_fault 44 = .ok (.iconst 2, 1) := by decide +kernel
theorem dX9_fault_45 : decode cX9_fault 45 = .ok (.invokevirtual 128, 3) := by decide +kernel
theorem dX9_fault_48 : decode cX9_fault 48 = .ok (.ireturn, 1) := by decide +kernel
theorem dX9_emit_0 : decode cX9_emit 0 = .ok (.iconst 3, 1) := by decide +kernel
theorem dX9_emit_1 : decode cX9_emit 1 = .ok (.aload_n 0, 1) := by decide +kernel
theorem dX9_emit_2 : decode cX9_emit 2 = .ok (.getfield 283, 3) := by decide +kernel
theorem dX9_emit_5 : decode cX9_emit 5 = .ok (.imul, 1) := by decide +kernel
theorem dX9_emit_6 : decode cX9_emit 6 = .ok (.iconst 3, 1) := by decide +kernel
theorem dX9_emit_7 : decode cX9_emit 7 = .ok (.iadd, 1) := by decide +kernel
theorem dX9_emit_8 : decode cX9_emit 8 = .ok (.aload_n 0, 1) := by decide +kernel
theorem dX9_emit_9 : decode cX9_emit 9 = .ok (.getfield 80, 3) := by decide +kernel
theorem dX9_emit_12 : decode cX9_emit 12 = .ok (.arraylength, 1) := by decide +kernel
theorem dX9_emit_13 : decode cX9_emit 13 = .ok (.if_icmp .le 39, 3) := by decide +kernel
theorem dX9_emit_16 : decode cX9_emit 16 = .ok (.iconst 2, 1) := by decide +kernel
theorem dX9_emit_17 : decode cX9_emit 17 = .ok (.aload_n 0, 1) := by decide +kernel
theorem dX9_emit_18 : decode cX9_emit 18 = .ok (.getfield 80, 3) := by decide +kernel
theorem dX9_emit_21 : decode cX9_emit 21 = .ok (.arraylength, 1) := by decide +kernel
theorem dX9_emit_22 : decode cX9_emit 22 = .ok (.imul, 1) := by decide +kernel
theorem dX9_emit_23 : decode cX9_emit 23 = .ok (.bipush 96, 2) := by decide +kernel
theorem dX9_emit_25 : decode cX9_emit 25 = .ok (.iadd, 1) := by decide +kernel
theorem dX9_emit_26 : decode cX9_emit 26 = .ok (.newarray .int, 2) := by decide +kernel
theorem dX9_emit_28 : decode cX9_emit 28 = .ok (.astore 4, 2) := by decide +kernel
theorem dX9_emit_30 : decode cX9_emit 30 = .ok (.aload_n 0, 1) := by decide +kernel
theorem dX9_emit_31 : decode cX9_emit 31 = .ok (.getfield 80, 3) := by decide +kernel
theorem dX9_emit_34 : decode cX9_emit 34 = .ok (.iconst 0, 1) := by decide +kernel
theorem dX9_emit_35 : decode cX9_emit 35 = .ok (.aload 4, 2) := by decide +kernel
theorem dX9_emit_37 : decode cX9_emit 37 = .ok (.iconst 0, 1) := by decide +kernel
theorem dX9_emit_38 : decode cX9_emit 38 = .ok (.aload_n 0, 1) := by decide +kernel
theorem dX9_emit_39 : decode cX9_emit 39 = .ok (.getfield 80, 3) := by decide +kernel
theorem dX9_emit_42 : decode cX9_emit 42 = .ok (.arraylength, 1) := by decide +kernel
theorem dX9_emit_43 : decode cX9_emit 43 = .ok (.invokestatic 286, 3) := by decide +kernel
theorem dX9_emit_46 : decode cX9_emit 46 = .ok (.aload_n 0, 1) := by decide +kernel
theorem dX9_emit_47 : decode cX9_emit 47 = .ok (.aload 4, 2) := by decide +kernel
theorem dX9_emit_49 : decode cX9_emit 49 = .ok (.putfield 80, 3) := by decide +kernel
theorem dX9_emit_52 : decode cX9_emit 52 = .ok (.aload_n 0, 1) := by decide +kernel
theorem dX9_emit_53 : decode cX9_emit 53 = .ok (.getfield 80, 3) := by decide +kernel
theorem dX9_emit_56 : decode cX9_emit 56 = .ok (.iconst 3, 1) := by decide +kernel
theorem dX9_emit_57 : decode cX9_emit 57 = .ok (.aload_n 0, 1) := by decide +kernel
theorem dX9_emit_58 : decode cX9_emit 58 = .ok (.getfield 283, 3) := by decide +kernel
theorem dX9_emit_61 : decode cX9_emit 61 = .ok (.imul, 1) := by decide +kernel
theorem dX9_emit_62 : decode cX9_emit 62 = .ok (.iload_n 1, 1) := by decide +kernel
theorem dX9_emit_63 : decode cX9_emit 63 = .ok (.iastore, 1) := by decide +kernel
theorem dX9_emit_64 : decode cX9_emit 64 = .ok (.aload_n 0, 1) := by decide +kernel
theorem dX9_emit_65 : decode cX9_emit 65 = .ok (.getfield 80, 3) := by decide +kernel
theorem dX9_emit_68 : decode cX9_emit 68 = .ok (.iconst 3, 1) := by decide +kernel
theorem dX9_emit_69 : decode cX9_emit 69 = .ok (.aload_n 0, 1) := by decide +kernel
theorem dX9_emit_70 : decode cX9_emit 70 = .ok (.getfield 283, 3) := by decide +kernel
theorem dX9_emit_73 : decode cX9_emit 73 = .ok (.imul, 1) := by decide +kernel
theorem dX9_emit_74 : decode cX9_emit 74 = .ok (.iconst 1, 1) := by decide +kernel
theorem dX9_emit_75 : decode cX9_emit 75 = .ok (.iadd, 1) := by decide +kernel
theorem dX9_emit_76 : decode cX9_emit 76 = .ok (.iload_n 2, 1) := by decide +kernel
theorem dX9_emit_77 : decode cX9_emit 77 = .ok (.iastore, 1) := by decide +kernel
theorem dX9_emit_78 : decode cX9_emit 78 = .ok (.aload_n 0, 1) := by decide +kernel
theorem dX9_emit_79 : decode cX9_emit 79 = .ok (.getfield 80, 3) := by decide +kernel
theorem dX9_emit_82 : decode cX9_emit 82 = .ok (.iconst 3, 1) := by decide +kernel
theorem dX9_emit_83 : decode cX9_emit 83 = .ok (.aload_n 0, 1) := by decide +kernel
theorem dX9_emit_84 : decode cX9_emit 84 = .ok (.getfield 283, 3) := by decide +kernel
theorem dX9_emit_87 : decode cX9_emit 87 = .ok (.imul, 1) := by decide +kernel
theorem dX9_emit_88 : decode cX9_emit 88 = .ok (.iconst 2, 1) := by decide +kernel
theorem dX9_emit_89 : decode cX9_emit 89 = .ok (.iadd, 1) := by decide +kernel
theorem dX9_emit_90 : decode cX9_emit 90 = .ok (.iload_n 3, 1) := by decide +kernel
theorem dX9_emit_91 : decode cX9_emit 91 = .ok (.iastore, 1) := by decide +kernel
theorem dX9_emit_92 : decode cX9_emit 92 = .ok (.aload_n 0, 1) := by decide +kernel
theorem dX9_emit_93 : decode cX9_emit 93 = .ok (.dup, 1) := by decide +kernel
theorem dX9_emit_94 : decode cX9_emit 94 = .ok (.getfield 283, 3) := by decide +kernel
theorem dX9_emit_97 : decode cX9_emit 97 = .ok (.iconst 1, 1) := by decide +kernel
theorem dX9_emit_98 : decode cX9_emit 98 = .ok (.iadd, 1) := by decide +kernel
theorem dX9_emit_99 : decode cX9_emit 99 = .ok (.putfield 283, 3) := by decide +kernel
theorem dX9_emit_102 : decode cX9_emit 102 = .ok (.return_, 1) := by decide +kernel
set_option maxRecDepth 20000 in
theorem ggX9_named_X9_hops : GoodIn wsX9_named wsX9_hops := goodIn_r _ [5, 6, 7, 28, 29, 30, 31, 32, 33, 34, 35, 36, 37, 38, 39, 40, 41, 42, 43, 44, 45, 46, 47, 48, 49, 50, 51, 52, 53, 54, 55, 56, 57, 58, 59, 60, 61, 62, 63, 64, 65, 66, 67, 68, 69, 70, 71, 72, 73, 74, 75, 76, 77, 78, 79, 80, 81, 82, 83, 84, 85, 86, 87] (by decide +kernel) (by decide +kernel)
set_option maxRecDepth 20000 in
theorem gX9_named_X9_hops : GoodIn wsX9_named (wsV RX9 147 RX9 yX9_hops wsX9_hops) := goodIn_app (goodIn_of _ (by decide +kernel)) ggX9_named_X9_hops
set_option maxRecDepth 20000 in
theorem ggX9_named_X9_placeIs : GoodIn wsX9_named wsX9_placeIs := goodIn_r _ [11, 12, 13, 14, 15, 4, 16, 6, 7, 28, 29, 30, 31, 32, 33, 34, 35, 36, 37, 38, 39, 40, 41, 42, 43, 44, 45, 46, 47, 48, 49, 50, 51, 52, 53, 54, 55, 56, 57, 58, 59, 60, 61, 62, 63, 64, 65, 66, 67, 68, 69, 70, 71, 72, 73, 74, 75, 76, 77, 78, 79, 80, 81, 82, 83, 84, 85, 86, 87] (by decide +kernel) (by decide +kernel)
set_option maxRecDepth 20000 in
theorem gX9_named_X9_placeIs : GoodIn wsX9_named (wsV RX9 150 RX9 yX9_placeIs wsX9_placeIs) := goodIn_app (goodIn_of _ (by decide +kernel)) ggX9_named_X9_placeIs
set_option maxRecDepth 20000 in
theorem ggX9_named_X9_emit : GoodIn wsX9_named wsX9_emit := goodIn_r _ [20, 21, 22, 23, 24, 25, 26, 27, 28, 29, 30, 31, 32, 33, 34, 35, 36, 37, 38, 39, 40, 41, 42, 43, 44, 45, 46, 47, 48, 49, 50, 51, 52, 53, 54, 55, 56, 57, 58, 59, 60, 61, 62, 63, 64, 65, 66, 67, 68, 69, 70, 71, 72, 73, 74, 75, 76, 77, 78, 79, 80, 81, 82, 83, 84, 85, 86, 87] (by decide +kernel) (by decide +kernel)
set_option maxRecDepth 20000 in
theorem gX9_named_X9_emit : GoodIn wsX9_named (wsV RX9 292 RX9 yX9_emit wsX9_emit) := goodIn_app (goodIn_of _ (by decide +kernel)) ggX9_named_X9_emit
theorem dX9_named_0 : decode cX9_named 0 = .ok (.aload_n 0, 1) := by decide +kernel
theorem dX9_named_1 : decode cX9_named 1 = .ok (.iload_n 1, 1) := by decide +kernel
theorem dX9_named_2 : decode cX9_named 2 = .ok (.aload_n 0, 1) := by decide +kernel
theorem dX9_named_3 : decode cX9_named 3 = .ok (.iload_n 2, 1) := by decide +kernel
theorem dX9_named_4 : decode cX9_named 4 = .ok (.iload_n 3, 1) := by decide +kernel
theorem dX9_named_5 : decode cX9_named 5 = .ok (.invokevirtual 147, 3) := by decide +kernel
theorem dX9_named_8 : decode cX9_named 8 = .ok (.aload_n 0, 1) := by decide +kernel
theorem dX9_named_9 : decode cX9_named 9 = .ok (.iload_n 2, 1) := by decide +kernel
theorem dX9_named_10 : decode cX9_named 10 = .ok (.iload_n 3, 1) := by decide +kernel
theorem dX9_named_11 : decode cX9_named 11 = .ok (.invokevirtual 150, 3) := by decide +kernel
theorem dX9_named_14 : decode cX9_named 14 = .ok (.invokevirtual 292, 3) := by decide +kernel
theorem dX9_named_17 : decode cX9_named 17 = .ok (.return_, 1) := by decide +kernel
set_option maxRecDepth 20000 in
theorem ggX9_routine_X9_hops : GoodIn wsX9_routine wsX9_hops := goodIn_r _ [5, 6, 7, 28, 29, 30, 31, 32, 33, 34, 35, 36, 37, 38, 39, 40, 41, 42, 43, 44, 45, 46, 47, 48, 49, 50, 51, 52, 53, 54, 55, 56, 57, 58, 59, 60, 61, 62, 63, 64, 65, 66, 67, 68, 69, 70, 71, 72, 73, 74, 75, 76, 77, 78, 79, 80, 81, 82, 83, 84, 85, 86, 87] (by decide +kernel) (by decide +kernel)
set_option maxRecDepth 20000 in
theorem gX9_routine_X9_hops : GoodIn wsX9_routine (wsV RX9 147 RX9 yX9_hops wsX9_hops) := goodIn_app (goodIn_of _ (by decide +kernel)) ggX9_routine_X9_hops
set_option maxRecDepth 20000 in
theorem ggX9_routine_X9_sizeIs : GoodIn wsX9_routine wsX9_sizeIs := goodIn_r _ [11, 12, 13, 14, 15, 4, 16, 6, 7, 28, 29, 30, 31, 32, 33, 34, 35, 36, 37, 38, 39, 40, 41, 42, 43, 44, 45, 46, 47, 48, 49, 50, 51, 52, 53, 54, 55, 56, 57, 58, 59, 60, 61, 62, 63, 64, 65, 66, 67, 68, 69, 70, 71, 72, 73, 74, 75, 76, 77, 78, 79, 80, 81, 82, 83, 84, 85, 86, 87] (by decide +kernel) (by decide +kernel)
set_option maxRecDepth 20000 in
theorem gX9_routine_X9_sizeIs : GoodIn wsX9_routine (wsV RX9 156 RX9 yX9_sizeIs wsX9_sizeIs) := goodIn_app (goodIn_of _ (by decide +kernel)) ggX9_routine_X9_sizeIs
set_option maxRecDepth 20000 in
theorem ggX9_routine_X9_emit : GoodIn wsX9_routine wsX9_emit := goodIn_r _ [20, 21, 22, 23, 24, 25, 26, 27, 28, 29, 30, 31, 32, 33, 34, 35, 36, 37, 38, 39, 40, 41, 42, 43, 44, 45, 46, 47, 48, 49, 50, 51, 52, 53, 54, 55, 56, 57, 58, 59, 60, 61, 62, 63, 64, 65, 66, 67, 68, 69, 70, 71, 72, 73, 74, 75, 76, 77, 78, 79, 80, 81, 82, 83, 84, 85, 86, 87] (by decide +kernel) (by decide +kernel)
set_option maxRecDepth 20000 in
theorem gX9_routine_X9_emit : GoodIn wsX9_routine (wsV RX9 292 RX9 yX9_emit wsX9_emit) := goodIn_app (goodIn_of _ (by decide +kernel)) ggX9_routine_X9_emit
theorem dX9_routine_0 : decode cX9_routine 0 = .ok (.aload_n 0, 1) := by decide +kernel
theorem dX9_routine_1 : decode cX9_routine 1 = .ok (.iload_n 1, 1) := by decide +kernel
theorem dX9_routine_2 : decode cX9_routine 2 = .ok (.aload_n 0, 1) := by decide +kernel
theorem dX9_routine_3 : decode cX9_routine 3 = .ok (.iload_n 2, 1) := by decide +kernel
theorem dX9_routine_4 : decode cX9_routine 4 = .ok (.iload_n 3, 1) := by decide +kernel
theorem dX9_routine_5 : decode cX9_routine 5 = .ok (.invokevirtual 147, 3) := by decide +kernel
theorem dX9_routine_8 : decode cX9_routine 8 = .ok (.aload_n 0, 1) := by decide +kernel
theorem dX9_routine_9 : decode cX9_routine 9 = .ok (.iload_n 2, 1) := by decide +kernel
theorem dX9_routine_10 : decode cX9_routine 10 = .ok (.iload_n 3, 1) := by decide +kernel
theorem dX9_routine_11 : decode cX9_routine 11 = .ok (.invokevirtual 156, 3) := by decide +kernel
theorem dX9_routine_14 : decode cX9_routine 14 = .ok (.invokevirtual 292, 3) := by decide +kernel
theorem dX9_routine_17 : decode cX9_routine 17 = .ok (.return_, 1) := by decide +kernel
set_option maxRecDepth 20000 in
theorem ggX9_write_X9_emit : GoodIn wsX9_write wsX9_emit := goodIn_r _ [10, 2, 11, 12, 13, 14, 15, 16, 158, 159, 160, 161, 162, 163, 164, 165, 166, 167, 168, 169, 170, 171, 172, 173, 174, 175, 176, 177, 178, 179, 180, 181, 182, 183, 184, 185, 186, 187, 188, 189, 190, 191, 192, 193, 194, 195, 196, 197, 198, 199, 200, 201, 202, 203, 204, 205, 206, 207, 208, 209, 210, 211, 212, 213, 214, 215, 216, 217] (by decide +kernel) (by decide +kernel)
set_option maxRecDepth 20000 in
theorem gX9_write_X9_emit : GoodIn wsX9_write (wsV RX9 292 RX9 yX9_emit wsX9_emit) := goodIn_app (goodIn_of _ (by decide +kernel)) ggX9_write_X9_emit
set_option maxRecDepth 20000 in
theorem ggX9_write_X9_whatIs : GoodIn wsX9_write wsX9_whatIs := goodIn_r _ [20, 21, 22, 23, 24, 9, 25, 5, 158, 159, 160, 161, 162, 163, 164, 165, 166, 167, 168, 169, 170, 171, 172, 173, 174, 175, 176, 177, 178, 179, 180, 181, 182, 183, 184, 185, 186, 187, 188, 189, 190, 191, 192, 193, 194, 195, 196, 197, 198, 199, 200, 201, 202, 203, 204, 205, 206, 207, 208, 209, 210, 211, 212, 213, 214, 215, 216, 217] (by decide +kernel) (by decide +kernel)
set_option maxRecDepth 20000 in
theorem gX9_write_X9_whatIs : GoodIn wsX9_write (wsV RX9 153 RX9 yX9_whatIs wsX9_whatIs) := goodIn_app (goodIn_of _ (by decide +kernel)) ggX9_write_X9_whatIs
set_option maxRecDepth 20000 in
theorem ggX9_write_X9_sizeIs : GoodIn wsX9_write wsX9_sizeIs := goodIn_r _ [29, 30, 22, 23, 24, 9, 25, 21, 5, 158, 159, 160, 161, 162, 163, 164, 165, 166, 167, 168, 169, 170, 171, 172, 173, 174, 175, 176, 177, 178, 179, 180, 181, 182, 183, 184, 185, 186, 187, 188, 189, 190, 191, 192, 193, 194, 195, 196, 197, 198, 199, 200, 201, 202, 203, 204, 205, 206, 207, 208, 209, 210, 211, 212, 213, 214, 215, 216, 217] (by decide +kernel) (by decide +kernel)
set_option maxRecDepth 20000 in
theorem gX9_write_X9_sizeIs : GoodIn wsX9_write (wsV RX9 156 RX9 yX9_sizeIs wsX9_sizeIs) := goodIn_app (goodIn_of _ (by decide +kernel)) ggX9_write_X9_sizeIs
set_option maxRecDepth 20000 in
theorem ggX9_write_X9_named : GoodIn wsX9_write wsX9_named := goodIn_r _ [34, 35, 36, 37, 9, 38, 21, 5, 39, 40, 41, 42, 43, 22, 23, 24, 25, 6, 7, 8, 10, 2, 11, 12, 13, 14, 15, 16, 158, 159, 160, 161, 162, 163, 164, 165, 166, 167, 168, 169, 170, 171, 172, 173, 174, 175, 176, 177, 178, 179, 180, 181, 182, 183, 184, 185, 186, 187, 188, 189, 190, 191, 192, 193, 194, 195, 196, 197, 198, 199, 200, 201, 202, 203, 204, 205, 206, 207, 208, 209, 210, 211, 212, 213, 214, 215, 216, 217] (by decide +kernel) (by decide +kernel)
set_option maxRecDepth 20000 in
theorem gX9_write_X9_named : GoodIn wsX9_write (wsV RX9 296 RX9 yX9_named wsX9_named) := goodIn_app (goodIn_of _ (by decide +kernel)) ggX9_write_X9_named
set_option maxRecDepth 20000 in
theorem ggX9_write_X9_writeCall : GoodIn wsX9_write wsX9_writeCall := goodIn_r _ [85, 81, 86, 4, 87, 88, 89, 9, 90, 91, 72, 73, 74, 75, 62, 76, 17, 18, 19, 20, 21, 22, 23, 24, 25, 5, 26, 27, 28, 29, 30, 92, 93, 94, 47, 48, 49, 50, 35, 36, 37, 38, 6, 7, 8, 10, 2, 11, 12, 13, 14, 15, 16, 31, 32, 33, 34, 39, 40, 41, 42, 43, 0, 1, 3, 44, 45, 46, 51, 52, 53, 54, 55, 56, 57, 58, 59, 60, 61, 63, 64, 65, 66, 67, 68, 69, 70, 71, 77, 78, 79, 80, 82, 83, 84, 95, 96, 97, 98, 99, 100, 101, 102, 103, 104, 105, 106, 107, 108, 109, 110, 111, 112, 113, 114, 115, 116, 117, 118, 119, 120, 121, 122, 123, 124, 125, 126, 127, 128, 129, 130, 131, 132, 133, 134, 135, 136, 137, 138, 139, 140, 141, 142, 143, 144, 145, 146, 147, 148, 149, 150, 151, 152, 153, 154, 155, 156, 157, 158, 159, 160, 161, 162, 163, 164, 165, 166, 167, 168, 169, 170, 171, 172, 173, 174, 175, 176, 177, 178, 179, 180, 181, 182, 183, 184, 185, 186, 187, 188, 189, 190, 191, 192, 193, 194, 195, 196, 197, 198, 199, 200, 201, 202, 203, 204, 205, 206, 207, 208, 209, 210, 211, 212, 213, 214, 215, 216, 217] (by decide +kernel) (by decide +kernel)
set_option maxRecDepth 20000 in
theorem gX9_write_X9_writeCall : GoodIn wsX9_write (wsV RX9 298 RX9 yX9_writeCall wsX9_writeCall) := goodIn_app (goodIn_of _ (by decide +kernel)) ggX9_write_X9_writeCall
set_option maxRecDepth 20000 in
theorem ggX9_write_X9_routine : GoodIn wsX9_write wsX9_routine := goodIn_r _ [50, 35, 36, 37, 9, 38, 21, 5, 26, 27, 28, 29, 30, 22, 23, 24, 25, 6, 7, 8, 10, 2, 11, 12, 13, 14, 15, 16, 158, 159, 160, 161, 162, 163, 164, 165, 166, 167, 168, 169, 170, 171, 172, 173, 174, 175, 176, 177, 178, 179, 180, 181, 182, 183, 184, 185, 186, 187, 188, 189, 190, 191, 192, 193, 194, 195, 196, 197, 198, 199, 200, 201, 202, 203, 204, 205, 206, 207, 208, 209, 210, 211, 212, 213, 214, 215, 216, 217] (by decide +kernel) (by decide +kernel)
set_option maxRecDepth 20000 in
theorem gX9_write_X9_routine : GoodIn wsX9_write (wsV RX9 302 RX9 yX9_routine wsX9_routine) := goodIn_app (goodIn_of _ (by decide +kernel)) ggX9_write_X9_routine
set_option maxRecDepth 20000 in
theorem ggX9_write_X9_writeTurn : GoodIn wsX9_write wsX9_writeTurn := goodIn_r _ [157, 3, 4, 2, 81, 86, 11, 6, 7, 8, 9, 10, 12, 13, 14, 15, 16, 82, 83, 84, 0, 1, 5, 17, 18, 19, 20, 21, 22, 23, 24, 25, 26, 27, 28, 29, 30, 31, 32, 33, 34, 35, 36, 37, 38, 39, 40, 41, 42, 43, 44, 45, 46, 47, 48, 49, 50, 51, 52, 53, 54, 55, 56, 57, 58, 59, 60, 61, 62, 63, 64, 65, 66, 67, 68, 69, 70, 71, 72, 73, 74, 75, 76, 77, 78, 79, 80, 85, 87, 88, 89, 90, 91, 92, 93, 94, 95, 96, 97, 98, 99, 100, 101, 102, 103, 104, 105, 106, 107, 108, 109, 110, 111, 112, 113, 114, 115, 116, 117, 118, 119, 120, 121, 122, 123, 124, 125, 126, 127, 128, 129, 130, 131, 132, 133, 134, 135, 136, 137, 138, 139, 140, 141, 142, 143, 144, 145, 146, 147, 148, 149, 150, 151, 152, 153, 154, 155, 156, 158, 159, 160, 161, 162, 163, 164, 165, 166, 167, 168, 169, 170, 171, 172, 173, 174, 175, 176, 177, 178, 179, 180, 181, 182, 183, 184, 185, 186, 187, 188, 189, 190, 191, 192, 193, 194, 195, 196, 197, 198, 199, 200, 201, 202, 203, 204, 205, 206, 207, 208, 209, 210, 211, 212, 213, 214, 215, 216, 217] (by decide +kernel) (by decide +kernel)
set_option maxRecDepth 20000 in
theorem gX9_write_X9_writeTurn : GoodIn wsX9_write (wsV RX9 305 RX9 yX9_writeTurn wsX9_writeTurn) := goodIn_app (goodIn_of _ (by decide +kernel)) ggX9_write_X9_writeTurn
set_option maxRecDepth 20000 in
theorem ggX9_write_X9_isLoopAround : GoodIn wsX9_write wsX9_isLoopAround := goodIn_r _ [57, 58, 59, 60, 9, 61, 62, 3, 4, 158, 159, 160, 161, 162, 163, 164, 165, 166, 167, 168, 169, 170, 171, 172, 173, 174, 175, 176, 177, 178, 179, 180, 181, 182, 183, 184, 185, 186, 187, 188, 189, 190, 191, 192, 193, 194, 195, 196, 197, 198, 199, 200, 201, 202, 203, 204, 205, 206, 207, 208, 209, 210, 211, 212, 213, 214, 215, 216, 217] (by decide +kernel) (by decide +kernel)
set_option maxRecDepth 20000 in
theorem gX9_write_X9_isLoopAround : GoodIn wsX9_write (wsV RX9 264 RX9 yX9_isLoopAround wsX9_isLoopAround) := goodIn_app (goodIn_of _ (by decide +kernel)) ggX9_write_X9_isLoopAround
set_option maxRecDepth 20000 in
theorem ggX9_write_X9_loopOutside : GoodIn wsX9_write wsX9_loopOutside := goodIn_r _ [66, 5, 67, 68, 69, 9, 70, 71, 3, 4, 72, 73, 74, 75, 62, 76, 158, 159, 160, 161, 162, 163, 164, 165, 166, 167, 168, 169, 170, 171, 172, 173, 174, 175, 176, 177, 178, 179, 180, 181, 182, 183, 184, 185, 186, 187, 188, 189, 190, 191, 192, 193, 194, 195, 196, 197, 198, 199, 200, 201, 202, 203, 204, 205, 206, 207, 208, 209, 210, 211, 212, 213, 214, 215, 216, 217] (by decide +kernel) (by decide +kernel)
set_option maxRecDepth 20000 in
theorem gX9_write_X9_loopOutside : GoodIn wsX9_write (wsV RX9 267 RX9 yX9_loopOutside wsX9_loopOutside) := goodIn_app (goodIn_of _ (by decide +kernel)) ggX9_write_X9_loopOutside
set_option maxRecDepth 20000 in
theorem ggX9_write_X9_writeSimple : GoodIn wsX9_write wsX9_writeSimple := goodIn_r _ [95, 3, 96, 1, 81, 2, 86, 4, 97, 98, 9, 99, 100, 101, 102, 103, 104, 105, 106, 107, 108, 109, 110, 111, 112, 113, 114, 115, 116, 117, 118, 119, 120, 121, 122, 123, 124, 125, 126, 127, 128, 6, 7, 8, 10, 11, 12, 13, 14, 15, 16, 129, 130, 131, 132, 72, 73, 74, 75, 62, 76, 17, 18, 19, 20, 21, 22, 23, 24, 25, 5, 26, 27, 28, 29, 30, 133, 134, 135, 136, 137, 138, 139, 140, 141, 91, 142, 143, 144, 145, 71, 146, 147, 148, 39, 40, 41, 42, 43, 149, 150, 151, 152, 153, 154, 155, 156, 44, 45, 46, 82, 83, 84, 31, 32, 33, 34, 35, 36, 37, 38, 0, 47, 48, 49, 50, 51, 52, 53, 54, 55, 56, 57, 58, 59, 60, 61, 63, 64, 65, 66, 67, 68, 69, 70, 77, 78, 79, 80, 85, 87, 88, 89, 90, 92, 93, 94, 157, 158, 159, 160, 161, 162, 163, 164, 165, 166, 167, 168, 169, 170, 171, 172, 173, 174, 175, 176, 177, 178, 179, 180, 181, 182, 183, 184, 185, 186, 187, 188, 189, 190, 191, 192, 193, 194, 195, 196, 197, 198, 199, 200, 201, 202, 203, 204, 205, 206, 207, 208, 209, 210, 211, 212, 213, 214, 215, 216, 217] (by decide +kernel) (by decide +kernel)
set_option maxRecDepth 20000 in
theorem gX9_write_X9_writeSimple : GoodIn wsX9_write (wsV RX9 309 RX9 yX9_writeSimple wsX9_writeSimple) := goodIn_app (goodIn_of _ (by decide +kernel)) ggX9_write_X9_writeSimple
theorem dX9_write_0 : decode cX9_write 0 = .ok (.iload_n 1, 1) := by decide +kernel
theorem dX9_write_1 : decode cX9_write 1 = .ok (.iconst (-1), 1) := by decide +kernel
theorem dX9_write_2 : decode cX9_write 2 = .ok (.if_icmp .ne 4, 3) := by decide +kernel
theorem dX9_write_5 : decode cX9_write 5 = .ok (.return_, 1) := by decide +kernel
theorem dX9_write_6 : decode cX9_write 6 = .ok (.aload_n 0, 1) := by decide +kernel
theorem dX9_write_7 : decode cX9_write 7 = .ok (.getfield 83, 3) := by decide +kernel
theorem dX9_write_10 : decode cX9_write 10 = .ok (.iload_n 1, 1) := by decide +kernel
theorem dX9_write_11 : decode cX9_write 11 = .ok (.aload_n 0, 1) := by decide +kernel
theorem dX9_write_12 : decode cX9_write 12 = .ok (.getfield 283, 3) := by decide +kernel
theorem dX9_write_15 : decode cX9_write 15 = .ok (.iastore, 1) := by decide +kernel
theorem dX9_write_16 : decode cX9_write 16 = .ok (.aload_n 0, 1) := by decide +kernel
theorem dX9_write_17 : decode cX9_write 17 = .ok (.getfield 47, 3) := by decide +kernel
theorem dX9_write_20 : decode cX9_write 20 = .ok (.iload_n 1, 1) := by decide +kernel
theorem dX9_write_21 : decode cX9_write 21 = .ok (.iaload, 1) := by decide +kernel
theorem dX9_write_22 : decode cX9_write 22 = .ok (.tableswitch 296 0 17 #[86, 101, 296, 296, 296, 296, 296, 296, 152, 296, 162, 296, 296, 296, 296, 209, 209, 218], 86) := by decide +kernel
theorem dX9_write_108 : decode cX9_write 108 = .ok (.aload_n 0, 1) := by decide +kernel
theorem dX9_write_109 : decode cX9_write 109 = .ok (.iconst 1, 1) := by decide +kernel
theorem dX9_write_110 : decode cX9_write 110 = .ok (.aload_n 0, 1) := by decide +kernel
theorem dX9_write_111 : decode cX9_write 111 = .ok (.getfield 50, 3) := by decide +kernel
theorem dX9_write_114 : decode cX9_write 114 = .ok (.iload_n 1, 1) := by decide +kernel
theorem dX9_write_115 : decode cX9_write 115 = .ok (.iaload, 1) := by decide +kernel
theorem dX9_write_116 : decode cX9_write 116 = .ok (.iconst 0, 1) := by decide +kernel
theorem dX9_write_117 : decode cX9_write 117 = .ok (.invokevirtual 292, 3) := by decide +kernel
theorem dX9_write_120 : decode cX9_write 120 = .ok (.goto 204, 3) := by decide +kernel
theorem dX9_write_123 : decode cX9_write 123 = .ok (.aload_n 0, 1) := by decide +kernel
theorem dX9_write_124 : decode cX9_write 124 = .ok (.iload_n 2, 1) := by decide +kernel
theorem dX9_write_125 : decode cX9_write 125 = .ok (.aload_n 0, 1) := by decide +kernel
theorem dX9_write_126 : decode cX9_write 126 = .ok (.getfield 50, 3) := by decide +kernel
theorem dX9_write_129 : decode cX9_write 129 = .ok (.iload_n 1, 1) := by decide +kernel
theorem dX9_write_130 : decode cX9_write 130 = .ok (.iaload, 1) := by decide +kernel
theorem dX9_write_131 : decode cX9_write 131 = .ok (.invokevirtual 153, 3) := by decide +kernel
theorem dX9_write_134 : decode cX9_write 134 = .ok (.bipush 9, 2) := by decide +kernel
theorem dX9_write_136 : decode cX9_write 136 = .ok (.if_icmp .ne 23, 3) := by decide +kernel
theorem dX9_write_139 : decode cX9_write 139 = .ok (.aload_n 0, 1) := by decide +kernel
theorem dX9_write_140 : decode cX9_write 140 = .ok (.iconst 1, 1) := by decide +kernel
theorem dX9_write_141 : decode cX9_write 141 = .ok (.aload_n 0, 1) := by decide +kernel
theorem dX9_write_142 : decode cX9_write 142 = .ok (.iload_n 2, 1) := by decide +kernel
theorem dX9_write_143 : decode cX9_write 143 = .ok (.aload_n 0, 1) := by decide +kernel
theorem dX9_write_144 : decode cX9_write 144 = .ok (.getfield 50, 3) := by decide +kernel
theorem dX9_write_147 : decode cX9_write 147 = .ok (.iload_n 1, 1) := by decide +kernel
theorem dX9_write_148 : decode cX9_write 148 = .ok (.iaload, 1) := by decide +kernel
theorem dX9_write_149 : decode cX9_write 149 = .ok (.invokevirtual 156, 3) := by decide +kernel
theorem dX9_write_152 : decode cX9_write 152 = .ok (.iconst 0, 1) := by decide +kernel
theorem dX9_write_153 : decode cX9_write 153 = .ok (.invokevirtual 292, 3) := by decide +kernel
theorem dX9_write_156 : decode cX9_write 156 = .ok (.goto 168, 3) := by decide +kernel
theorem dX9_write_159 : decode cX9_write 159 = .ok (.aload_n 0, 1) := by decide +kernel
theorem dX9_write_160 : decode cX9_write 160 = .ok (.iconst 2, 1) := by decide +kernel
theorem dX9_write_161 : decode cX9_write 161 = .ok (.iload_n 2, 1) := by decide +kernel
theorem dX9_write_162 : decode cX9_write 162 = .ok (.aload_n 0, 1) := by decide +kernel
theorem dX9_write_163 : decode cX9_write 163 = .ok (.getfield 50, 3) := by decide +kernel
theorem dX9_write_166 : decode cX9_write 166 = .ok (.iload_n 1, 1) := by decide +kernel
theorem dX9_write_167 : decode cX9_write 167 = .ok (.iaload, 1) := by decide +kernel
theorem dX9_write_168 : decode cX9_write 168 = .ok (.invokevirtual 296, 3) := by decide +kernel
theorem dX9_write_171 : decode cX9_write 171 = .ok (.goto 153, 3) := by decide +kernel
theorem dX9_write_174 : decode cX9_write 174 = .ok (.aload_n 0, 1) := by decide +kernel
theorem dX9_write_175 : decode cX9_write 175 = .ok (.iload_n 1, 1) := by decide +kernel
theorem dX9_write_176 : decode cX9_write 176 = .ok (.iload_n 2, 1) := by decide +kernel
theorem dX9_write_177 : decode cX9_write 177 = .ok (.iconst 0, 1) := by decide +kernel
theorem dX9_write_178 : decode cX9_write 178 = .ok (.invokevirtual 298, 3) := by decide +kernel
theorem dX9_write_181 : decode cX9_write 181 = .ok (.goto 143, 3) := by decide +kernel
theorem dX9_write_184 : decode cX9_write 184 = .ok (.aload_n 0, 1) := by decide +kernel
theorem dX9_write_185 : decode cX9_write 185 = .ok (.iload_n 2, 1) := by decide +kernel
theorem dX9_write_186 : decode cX9_write 186 = .ok (.aload_n 0, 1) := by decide +kernel
theorem dX9_write_187 : decode cX9_write 187 = .ok (.getfield 50, 3) := by decide +kernel
theorem dX9_write_190 : decode cX9_write 190 = .ok (.iload_n 1, 1) := by decide +kernel
theorem dX9_write_191 : decode cX9_write 191 = .ok (.iaload, 1) := by decide +kernel
theorem dX9_write_192 : decode cX9_write 192 = .ok (.invokevirtual 153, 3) := by decide +kernel
theorem dX9_write_195 : decode cX9_write 195 = .ok (.bipush 10, 2) := by decide +kernel
theorem dX9_write_197 : decode cX9_write 197 = .ok (.if_icmp .ne 19, 3) := by decide +kernel
theorem dX9_write_200 : decode cX9_write 200 = .ok (.aload_n 0, 1) := by decide +kernel
theorem dX9_write_201 : decode cX9_write 201 = .ok (.bipush 18, 2) := by decide +kernel
theorem dX9_write_203 : decode cX9_write 203 = .ok (.iload_n 2, 1) := by decide +kernel
theorem dX9_write_204 : decode cX9_write 204 = .ok (.aload_n 0, 1) := by decide +kernel
theorem dX9_write_205 : decode cX9_write 205 = .ok (.getfield 50, 3) := by decide +kernel
theorem dX9_write_208 : decode cX9_write 208 = .ok (.iload_n 1, 1) := by decide +kernel
theorem dX9_write_209 : decode cX9_write 209 = .ok (.iaload, 1) := by decide +kernel
theorem dX9_write_210 : decode cX9_write 210 = .ok (.invokevirtual 302, 3) := by decide +kernel
theorem dX9_write_213 : decode cX9_write 213 = .ok (.goto 111, 3) := by decide +kernel
theorem dX9_write_216 : decode cX9_write 216 = .ok (.aload_n 0, 1) := by decide +kernel
theorem dX9_write_217 : decode cX9_write 217 = .ok (.iconst 2, 1) := by decide +kernel
theorem dX9_write_218 : decode cX9_write 218 = .ok (.iload_n 2, 1) := by decide +kernel
theorem dX9_write_219 : decode cX9_write 219 = .ok (.aload_n 0, 1) := by decide +kernel
theorem dX9_write_220 : decode cX9_write 220 = .ok (.getfield 50, 3) := by decide +kernel
theorem dX9_write_223 : decode cX9_write 223 = .ok (.iload_n 1, 1) := by decide +kernel
theorem dX9_write_224 : decode cX9_write 224 = .ok (.iaload, 1) := by decide +kernel
theorem dX9_write_225 : decode cX9_write 225 = .ok (.invokevirtual 296, 3) := by decide +kernel
theorem dX9_write_228 : decode cX9_write 228 = .ok (.goto 96, 3) := by decide +kernel
theorem dX9_write_231 : decode cX9_write 231 = .ok (.aload_n 0, 1) := by decide +kernel
theorem dX9_write_232 : decode cX9_write 232 = .ok (.iload_n 1, 1) := by decide +kernel
theorem dX9_write_233 : decode cX9_write 233 = .ok (.iload_n 2, 1) := by decide +kernel
theorem dX9_write_234 : decode cX9_write 234 = .ok (.invokevirtual 305, 3) := by decide +kernel
theorem dX9_write_237 : decode cX9_write 237 = .ok (.goto 87, 3) := by decide +kernel
theorem dX9_write_240 : decode cX9_write 240 = .ok (.aload_n 0, 1) := by decide +kernel
theorem dX9_write_241 : decode cX9_write 241 = .ok (.iload_n 1, 1) := by decide +kernel
theorem dX9_write_242 : decode cX9_write 242 = .ok (.aload_n 0, 1) := by decide +kernel
theorem dX9_write_243 : decode cX9_write 243 = .ok (.getfield 50, 3) := by decide +kernel
theorem dX9_write_246 : decode cX9_write 246 = .ok (.iload_n 1, 1) := by decide +kernel
theorem dX9_write_247 : decode cX9_write 247 = .ok (.iaload, 1) := by decide +kernel
theorem dX9_write_248 : decode cX9_write 248 = .ok (.invokevirtual 264, 3) := by decide +kernel
theorem dX9_write_251 : decode cX9_write 251 = .ok (.istore_n 3, 1) := by decide +kernel
theorem dX9_write_252 : decode cX9_write 252 = .ok (.iload_n 3, 1) := by decide +kernel
theorem dX9_write_253 : decode cX9_write 253 = .ok (.ifCond .eq 7, 3) := by decide +kernel
theorem dX9_write_256 : decode cX9_write 256 = .ok (.iload_n 2, 1) := by decide +kernel
theorem dX9_write_257 : decode cX9_write 257 = .ok (.goto 14, 3) := by decide +kernel
theorem dX9_write_260 : decode cX9_write 260 = .ok (.aload_n 0, 1) := by decide +kernel
theorem dX9_write_261 : decode cX9_write 261 = .ok (.iload_n 2, 1) := by decide +kernel
theorem dX9_write_262 : decode cX9_write 262 = .ok (.aload_n 0, 1) := by decide +kernel
theorem dX9_write_263 : decode cX9_write 263 = .ok (.getfield 50, 3) := by decide +kernel
theorem dX9_write_266 : decode cX9_write 266 = .ok (.iload_n 1, 1) := by decide +kernel
theorem dX9_write_267 : decode cX9_write 267 = .ok (.iaload, 1) := by decide +kernel
theorem dX9_write_268 : decode cX9_write 268 = .ok (.invokevirtual 267, 3) := by decide +kernel
theorem dX9_write_271 : decode cX9_write 271 = .ok (.istore 4, 2) := by decide +kernel
theorem dX9_write_273 : decode cX9_write 273 = .ok (.iconst 0, 1) := by decide +kernel
theorem dX9_write_274 : decode cX9_write 274 = .ok (.istore 5, 2) := by decide +kernel
theorem dX9_write_276 : decode cX9_write 276 = .ok (.iload_n 2, 1) := by decide +kernel
theorem dX9_write_277 : decode cX9_write 277 = .ok (.istore 6, 2) := by decide +kernel
theorem dX9_write_279 : decode cX9_write 279 = .ok (.iload 6, 2) := by decide +kernel
theorem dX9_write_281 : decode cX9_write 281 = .ok (.iload 4, 2) := by decide +kernel
theorem dX9_write_283 : decode cX9_write 283 = .ok (.if_icmp .eq 18, 3) := by decide +kernel
theorem dX9_write_286 : decode cX9_write 286 = .ok (.iinc 5 1, 3) := by decide +kernel
theorem dX9_write_289 : decode cX9_write 289 = .ok (.aload_n 0, 1) := by decide +kernel
theorem dX9_write_290 : decode cX9_write 290 = .ok (.getfield 13, 3) := by decide +kernel
theorem dX9_write_293 : decode cX9_write 293 = .ok (.iload 6, 2) := by decide +kernel
theorem dX9_write_295 : decode cX9_write 295 = .ok (.iaload, 1) := by decide +kernel
theorem dX9_write_296 : decode cX9_write 296 = .ok (.istore 6, 2) := by decide +kernel
theorem dX9_write_298 : decode cX9_write 298 = .ok (.goto (-19), 3) := by decide +kernel
theorem dX9_write_301 : decode cX9_write 301 = .ok (.aload_n 0, 1) := by decide +kernel
theorem dX9_write_302 : decode cX9_write 302 = .ok (.bipush 25, 2) := by decide +kernel
theorem dX9_write_304 : decode cX9_write 304 = .ok (.iload 5, 2) := by decide +kernel
theorem dX9_write_306 : decode cX9_write 306 = .ok (.aload_n 0, 1) := by decide +kernel
theorem dX9_write_307 : decode cX9_write 307 = .ok (.getfield 50, 3) := by decide +kernel
theorem dX9_write_310 : decode cX9_write 310 = .ok (.iload_n 1, 1) := by decide +kernel
theorem dX9_write_311 : decode cX9_write 311 = .ok (.iaload, 1) := by decide +kernel
theorem dX9_write_312 : decode cX9_write 312 = .ok (.invokevirtual 292, 3) := by decide +kernel
theorem dX9_write_315 : decode cX9_write 315 = .ok (.goto 9, 3) := by decide +kernel
theorem dX9_write_318 : decode cX9_write 318 = .ok (.aload_n 0, 1) := by decide +kernel
theorem dX9_write_319 : decode cX9_write 319 = .ok (.iload_n 1, 1) := by decide +kernel
theorem dX9_write_320 : decode cX9_write 320 = .ok (.iload_n 2, 1) := by decide +kernel
theorem dX9_write_321 : decode cX9_write 321 = .ok (.invokevirtual 309, 3) := by decide +kernel
theorem dX9_write_324 : decode cX9_write 324 = .ok (.return_, 1) := by decide +kernel
set_option maxRecDepth 20000 in
theorem ggX9_beginWith_X9_part : GoodIn wsX9_beginWith wsX9_part := goodIn_r _ [7, 8, 9, 10, 11, 12, 13, 6, 14, 15, 16, 17, 21, 22, 23, 24, 25, 26, 27, 28, 29, 30, 31, 32, 33, 34, 35, 36, 37, 38, 39, 40, 41, 42, 43, 44, 45, 46, 47, 48, 49, 50, 51, 52, 53, 54, 55, 56, 57, 58, 59, 60, 61, 62, 63, 64, 65, 66, 67, 68, 69, 70, 71, 72, 73, 74, 75, 76, 77, 78, 79, 80] (by decide +kernel) (by decide +kernel)
set_option maxRecDepth 20000 in
theorem gX9_beginWith_X9_part : GoodIn wsX9_beginWith (wsV RX9 191 RX9 yX9_part wsX9_part) := goodIn_app (goodIn_of _ (by decide +kernel)) ggX9_beginWith_X9_part
set_option maxRecDepth 20000 in
theorem ggX9_beginWith_X9_beginWith : GoodIn wsX9_beginWith wsX9_beginWith := goodIn_r _ [0, 1, 2, 3, 4, 5, 6, 7, 8, 9, 10, 11, 12, 13, 14, 15, 16, 17, 18, 19, 20, 21, 22, 23, 24, 25, 26, 27, 28, 29, 30, 31, 32, 33, 34, 35, 36, 37, 38, 39, 40, 41, 42, 43, 44, 45, 46, 47, 48, 49, 50, 51, 52, 53, 54, 55, 56, 57, 58, 59, 60, 61, 62, 63, 64, 65, 66, 67, 68, 69, 70, 71, 72, 73, 74, 75, 76, 77, 78, 79, 80] (by decide +kernel) (by decide +kernel)
set_option maxRecDepth 20000 in
theorem gX9_beginWith_X9_beginWith : GoodIn wsX9_beginWith (wsV RX9 312 RX9 yX9_beginWith wsX9_beginWith) := goodIn_app (goodIn_of _ (by decide +kernel)) ggX9_beginWith_X9_beginWith
theorem dX9_beginWith_0 : decode cX9_beginWith 0 = .ok (.aload_n 0, 1) := by decide +kernel
theorem dX9_beginWith_1 : decode cX9_beginWith 1 = .ok (.getfield 83, 3) := by decide +kernel
theorem dX9_beginWith_4 : decode cX9_beginWith 4 = .ok (.iload_n 1, 1) := by decide +kernel
theorem dX9_beginWith_5 : decode cX9_beginWith 5 = .ok (.aload_n 0, 1) := by decide +kernel
theorem dX9_beginWith_6 : decode cX9_beginWith 6 = .ok (.getfield 283, 3) := by decide +kernel
theorem dX9_beginWith_9 : decode cX9_beginWith 9 = .ok (.iastore, 1) := by decide +kernel
theorem dX9_beginWith_10 : decode cX9_beginWith 10 = .ok (.iconst 1, 1) := by decide +kernel
theorem dX9_beginWith_11 : decode cX9_beginWith 11 = .ok (.istore_n 2, 1) := by decide +kernel
theorem dX9_beginWith_12 : decode cX9_beginWith 12 = .ok (.iload_n 2, 1) := by decide +kernel
theorem dX9_beginWith_13 : decode cX9_beginWith 13 = .ok (.iconst 3, 1) := by decide +kernel
theorem dX9_beginWith_14 : decode cX9_beginWith 14 = .ok (.if_icmp .ge 29, 3) := by decide +kernel
theorem dX9_beginWith_17 : decode cX9_beginWith 17 = .ok (.aload_n 0, 1) := by decide +kernel
theorem dX9_beginWith_18 : decode cX9_beginWith 18 = .ok (.iload_n 1, 1) := by decide +kernel
theorem dX9_beginWith_19 : decode cX9_beginWith 19 = .ok (.iload_n 2, 1) := by decide +kernel
theorem dX9_beginWith_20 : decode cX9_beginWith 20 = .ok (.invokevirtual 191, 3) := by decide +kernel
theorem dX9_beginWith_23 : decode cX9_beginWith 23 = .ok (.iconst (-1), 1) := by decide +kernel
theorem dX9_beginWith_24 : decode cX9_beginWith 24 = .ok (.if_icmp .eq 13, 3) := by decide +kernel
theorem dX9_beginWith_27 : decode cX9_beginWith 27 = .ok (.aload_n 0, 1) := by decide +kernel
theorem dX9_beginWith_28 : decode cX9_beginWith 28 = .ok (.aload_n 0, 1) := by decide +kernel
theorem dX9_beginWith_29 : decode cX9_beginWith 29 = .ok (.iload_n 1, 1) := by decide +kernel
theorem dX9_beginWith_30 : decode cX9_beginWith 30 = .ok (.iload_n 2, 1) := by decide +kernel
theorem dX9_beginWith_31 : decode cX9_beginWith 31 = .ok (.invokevirtual 191, 3) := by decide +kernel
theorem dX9_beginWith_34 : decode cX9_beginWith 34 = .ok (.invokevirtual 312, 3) := by decide +kernel
theorem dX9_beginWith_37 : decode cX9_beginWith 37 = .ok (.iinc 2 1, 3) := by decide +kernel
theorem dX9_beginWith_40 : decode cX9_beginWith 40 = .ok (.goto (-28), 3) := by decide +kernel
theorem dX9_beginWith_43 : decode cX9_beginWith 43 = .ok (.return_, 1) := by decide +kernel
set_option maxRecDepth 20000 in
theorem ggX9_writeSimple_X9_isIn : GoodIn wsX9_writeSimple wsX9_isIn := goodIn_r _ [11] (by decide +kernel) (by decide +kernel)
set_option maxRecDepth 20000 in
theorem gX9_writeSimple_X9_isIn : GoodIn wsX9_writeSimple (va_wsS RX9 117 yX9_isIn wsX9_isIn) := goodIn_app (goodIn_of _ (by decide +kernel)) ggX9_writeSimple_X9_isIn
set_option maxRecDepth 20000 in
theorem ggX9_writeSimple_X9_has : GoodIn wsX9_writeSimple wsX9_has := goodIn_r _ [14] (by decide +kernel) (by decide +kernel)
set_option maxRecDepth 20000 in
theorem gX9_writeSimple_X9_has : GoodIn wsX9_writeSimple (va_wsS RX9 183 yX9_has wsX9_has) := goodIn_app (goodIn_of _ (by decide +kernel)) ggX9_writeSimple_X9_has
set_option maxRecDepth 20000 in
theorem ggX9_writeSimple_X9_isFolded : GoodIn wsX9_writeSimple wsX9_isFolded := goodIn_r _ [18, 1, 4, 6, 8, 9, 10, 11, 19, 20, 21, 22, 23, 24, 25, 7, 26, 27, 28, 29, 15, 16, 17, 158, 159, 160, 161, 162, 163, 164, 165, 166, 167, 168, 169, 170, 171, 172, 173, 174, 175, 176, 177, 178, 179, 180, 181, 182, 183, 184, 185, 186, 187, 188, 189, 190, 191, 192, 193, 194, 195, 196, 197, 198, 199, 200, 201, 202, 203, 204, 205, 206, 207, 208, 209, 210, 211, 212, 213, 214, 215, 216, 217] (by decide +kernel) (by decide +kernel)
set_option maxRecDepth 20000 in
theorem gX9_writeSimple_X9_isFolded : GoodIn wsX9_writeSimple (wsV RX9 209 RX9 yX9_isFolded wsX9_isFolded) := goodIn_app (goodIn_of _ (by decide +kernel)) ggX9_writeSimple_X9_isFolded
set_option maxRecDepth 20000 in
theorem ggX9_writeSimple_X9_beginWith : GoodIn wsX9_writeSimple wsX9_beginWith := goodIn_r _ [33, 3, 5, 34, 35, 36, 10, 37, 1, 7, 4, 6, 38, 39, 40, 12, 13, 14, 30, 31, 32, 158, 159, 160, 161, 162, 163, 164, 165, 166, 167, 168, 169, 170, 171, 172, 173, 174, 175, 176, 177, 178, 179, 180, 181, 182, 183, 184, 185, 186, 187, 188, 189, 190, 191, 192, 193, 194, 195, 196, 197, 198, 199, 200, 201, 202, 203, 204, 205, 206, 207, 208, 209, 210, 211, 212, 213, 214, 215, 216, 217] (by decide +kernel) (by decide +kernel)
set_option maxRecDepth 20000 in
theorem gX9_writeSimple_X9_beginWith : GoodIn wsX9_writeSimple (wsV RX9 312 RX9 yX9_beginWith wsX9_beginWith) := goodIn_app (goodIn_of _ (by decide +kernel)) ggX9_writeSimple_X9_beginWith
set_option maxRecDepth 20000 in
theorem ggX9_writeSimple_X9_plain : GoodIn wsX9_writeSimple wsX9_plain := goodIn_r _ [25, 1, 7, 4, 6, 22, 23, 24, 10, 26, 27, 28, 158, 159, 160, 161, 162, 163, 164, 165, 166, 167, 168, 169, 170, 171, 172, 173, 174, 175, 176, 177, 178, 179, 180, 181, 182, 183, 184, 185, 186, 187, 188, 189, 190, 191, 192, 193, 194, 195, 196, 197, 198, 199, 200, 201, 202, 203, 204, 205, 206, 207, 208, 209, 210, 211, 212, 213, 214, 215, 216, 217] (by decide +kernel) (by decide +kernel)
set_option maxRecDepth 20000 in
theorem gX9_writeSimple_X9_plain : GoodIn wsX9_writeSimple (wsV RX9 215 RX9 yX9_plain wsX9_plain) := goodIn_app (goodIn_of _ (by decide +kernel)) ggX9_writeSimple_X9_plain
set_option maxRecDepth 20000 in
theorem ggX9_writeSimple_X9_emit : GoodIn wsX9_writeSimple wsX9_emit := goodIn_r _ [44, 5, 45, 46, 47, 48, 49, 50, 158, 159, 160, 161, 162, 163, 164, 165, 166, 167, 168, 169, 170, 171, 172, 173, 174, 175, 176, 177, 178, 179, 180, 181, 182, 183, 184, 185, 186, 187, 188, 189, 190, 191, 192, 193, 194, 195, 196, 197, 198, 199, 200, 201, 202, 203, 204, 205, 206, 207, 208, 209, 210, 211, 212, 213, 214, 215, 216, 217] (by decide +kernel) (by decide +kernel)
set_option maxRecDepth 20000 in
theorem gX9_writeSimple_X9_emit : GoodIn wsX9_writeSimple (wsV RX9 292 RX9 yX9_emit wsX9_emit) := goodIn_app (goodIn_of _ (by decide +kernel)) ggX9_writeSimple_X9_emit
set_option maxRecDepth 20000 in
theorem ggX9_writeSimple_X9_isTail : GoodIn wsX9_writeSimple wsX9_isTail := goodIn_r _ [54, 1, 4, 7, 55, 56, 57, 10, 58, 59, 60, 61, 62, 63, 64, 65, 66, 67, 68, 69, 70, 71, 72, 73, 74, 75, 76, 77, 78, 79, 80, 81, 82, 83, 84, 85, 86, 87, 88, 89, 90, 91, 92, 93, 94, 95, 96, 97, 98, 99, 100, 101, 102, 103, 104, 105, 106, 158, 159, 160, 161, 162, 163, 164, 165, 166, 167, 168, 169, 170, 171, 172, 173, 174, 175, 176, 177, 178, 179, 180, 181, 182, 183, 184, 185, 186, 187, 188, 189, 190, 191, 192, 193, 194, 195, 196, 197, 198, 199, 200, 201, 202, 203, 204, 205, 206, 207, 208, 209, 210, 211, 212, 213, 214, 215, 216, 217] (by decide +kernel) (by decide +kernel)
set_option maxRecDepth 20000 in
theorem gX9_writeSimple_X9_isTail : GoodIn wsX9_writeSimple (wsV RX9 237 RX9 yX9_isTail wsX9_isTail) := goodIn_app (goodIn_of _ (by decide +kernel)) ggX9_writeSimple_X9_isTail
set_option maxRecDepth 20000 in
theorem ggX9_writeSimple_X9_writeCall : GoodIn wsX9_writeSimple wsX9_writeCall := goodIn_r _ [149, 4, 6, 7, 150, 151, 152, 10, 153, 85, 55, 56, 57, 58, 59, 60, 61, 62, 63, 64, 65, 66, 67, 68, 69, 70, 71, 72, 73, 74, 75, 154, 155, 156, 122, 123, 124, 125, 117, 118, 119, 120, 41, 42, 43, 44, 5, 45, 46, 47, 48, 49, 50, 113, 114, 115, 116, 94, 95, 96, 97, 98, 121, 3, 1, 107, 108, 109, 126, 127, 128, 129, 130, 131, 132, 133, 134, 135, 136, 137, 138, 139, 140, 141, 142, 143, 144, 90, 145, 146, 147, 148, 110, 111, 112, 0, 2, 8, 9, 11, 12, 13, 14, 15, 16, 17, 18, 19, 20, 21, 22, 23, 24, 25, 26, 27, 28, 29, 30, 31, 32, 33, 34, 35, 36, 37, 38, 39, 40, 51, 52, 53, 54, 76, 77, 78, 79, 80, 81, 82, 83, 84, 86, 87, 88, 89, 91, 92, 93, 99, 100, 101, 102, 103, 104, 105, 106, 157, 158, 159, 160, 161, 162, 163, 164, 165, 166, 167, 168, 169, 170, 171, 172, 173, 174, 175, 176, 177, 178, 179, 180, 181, 182, 183, 184, 185, 186, 187, 188, 189, 190, 191, 192, 193, 194, 195, 196, 197, 198, 199, 200, 201, 202, 203, 204, 205, 206, 207, 208, 209, 210, 211, 212, 213, 214, 215, 216, 217] (by decide +kernel) (by decide +kernel)
set_option maxRecDepth 20000 in
theorem gX9_writeSimple_X9_writeCall : GoodIn wsX9_writeSimple (wsV RX9 298 RX9 yX9_writeCall wsX9_writeCall) := goodIn_app (goodIn_of _ (by decide +kernel)) ggX9_writeSimple_X9_writeCall
set_option maxRecDepth 20000 in
theorem ggX9_writeSimple_X9_write : GoodIn wsX9_writeSimple wsX9_write := goodIn_r _ [121, 3, 5, 1, 7, 70, 41, 42, 43, 10, 44, 45, 46, 47, 48, 49, 50, 61, 62, 63, 64, 65, 66, 67, 68, 69, 71, 72, 73, 74, 75, 113, 114, 115, 116, 117, 118, 119, 120, 94, 95, 96, 97, 98, 107, 108, 109, 122, 123, 124, 125, 126, 127, 128, 129, 130, 131, 132, 133, 134, 135, 136, 59, 137, 138, 139, 140, 141, 142, 143, 144, 90, 55, 56, 57, 58, 60, 145, 146, 147, 148, 4, 110, 111, 112, 149, 6, 150, 151, 152, 153, 85, 154, 155, 156, 0, 2, 8, 9, 11, 12, 13, 14, 15, 16, 17, 18, 19, 20, 21, 22, 23, 24, 25, 26, 27, 28, 29, 30, 31, 32, 33, 34, 35, 36, 37, 38, 39, 40, 51, 52, 53, 54, 76, 77, 78, 79, 80, 81, 82, 83, 84, 86, 87, 88, 89, 91, 92, 93, 99, 100, 101, 102, 103, 104, 105, 106, 157, 158, 159, 160, 161, 162, 163, 164, 165, 166, 167, 168, 169, 170, 171, 172, 173, 174, 175, 176, 177, 178, 179, 180, 181, 182, 183, 184, 185, 186, 187, 188, 189, 190, 191, 192, 193, 194, 195, 196, 197, 198, 199, 200, 201, 202, 203, 204, 205, 206, 207, 208, 209, 210, 211, 212, 213, 214, 215, 216, 217] (by decide +kernel) (by decide +kernel)
set_option maxRecDepth 20000 in
theorem gX9_writeSimple_X9_write : GoodIn wsX9_writeSimple (wsV RX9 319 RX9 yX9_write wsX9_write) := goodIn_app (goodIn_of _ (by decide +kernel)) ggX9_writeSimple_X9_write
set_option maxRecDepth 20000 in
theorem ggX9_writeSimple_X9_named : GoodIn wsX9_writeSimple wsX9_named := goodIn_r _ [116, 117, 118, 119, 10, 120, 65, 70, 94, 95, 96, 97, 98, 66, 67, 68, 69, 41, 42, 43, 44, 5, 45, 46, 47, 48, 49, 50, 158, 159, 160, 161, 162, 163, 164, 165, 166, 167, 168, 169, 170, 171, 172, 173, 174, 175, 176, 177, 178, 179, 180, 181, 182, 183, 184, 185, 186, 187, 188, 189, 190, 191, 192, 193, 194, 195, 196, 197, 198, 199, 200, 201, 202, 203, 204, 205, 206, 207, 208, 209, 210, 211, 212, 213, 214, 215, 216, 217] (by decide +kernel) (by decide +kernel)
set_option maxRecDepth 20000 in
theorem gX9_writeSimple_X9_named : GoodIn wsX9_writeSimple (wsV RX9 296 RX9 yX9_named wsX9_named) := goodIn_app (goodIn_of _ (by decide +kernel)) ggX9_writeSimple_X9_named
theorem dX9_writeSimple_0 : decode cX9_writeSimple 0 = .ok (.aload_n 0, 1) := by decide +kernel
theorem dX9_writeSimple_1 : decode cX9_writeSimple 1 = .ok (.getfield 47, 3) := by decide +kernel
theorem dX9_writeSimple_4 : decode cX9_writeSimple 4 = .ok (.iload_n 1, 1) := by decide +kernel
theorem dX9_writeSimple_5 : decode cX9_writeSimple 5 = .ok (.iaload, 1) := by decide +kernel
theorem dX9_writeSimple_6 : decode cX9_writeSimple 6 = .ok (.iconst 3, 1) := by decide +kernel
theorem dX9_writeSimple_7 : decode cX9_writeSimple 7 = .ok (.bipush 7, 2) := by decide +kernel
theorem dX9_writeSimple_9 : decode cX9_writeSimple 9 = .ok (.invokestatic 117, 3) := by decide +kernel
theorem dX9_writeSimple_12 : decode cX9_writeSimple 12 = .ok (.istore_n 3, 1) := by decide +kernel
theorem dX9_writeSimple_13 : decode cX9_writeSimple 13 = .ok (.iload_n 3, 1) := by decide +kernel
theorem dX9_writeSimple_14 : decode cX9_writeSimple 14 = .ok (.ifCond .eq 39, 3) := by decide +kernel
theorem dX9_writeSimple_17 : decode cX9_writeSimple 17 = .ok (.aload_n 0, 1) := by decide +kernel
theorem dX9_writeSimple_18 : decode cX9_writeSimple 18 = .ok (.getfield 316, 3) := by decide +kernel
theorem dX9_writeSimple_21 : decode cX9_writeSimple 21 = .ok (.iconst 0, 1) := by decide +kernel
theorem dX9_writeSimple_22 : decode cX9_writeSimple 22 = .ok (.invokestatic 183, 3) := by decide +kernel
theorem dX9_writeSimple_25 : decode cX9_writeSimple 25 = .ok (.ifCond .eq 28, 3) := by decide +kernel
theorem dX9_writeSimple_28 : decode cX9_writeSimple 28 = .ok (.aload_n 0, 1) := by decide +kernel
theorem dX9_writeSimple_29 : decode cX9_writeSimple 29 = .ok (.iload_n 1, 1) := by decide +kernel
theorem dX9_writeSimple_30 : decode cX9_writeSimple 30 = .ok (.invokevirtual 209, 3) := by decide +kernel
theorem dX9_writeSimple_33 : decode cX9_writeSimple 33 = .ok (.ifCond .eq 20, 3) := by decide +kernel
theorem dX9_writeSimple_36 : decode cX9_writeSimple 36 = .ok (.aload_n 0, 1) := by decide +kernel
theorem dX9_writeSimple_37 : decode cX9_writeSimple 37 = .ok (.iload_n 1, 1) := by decide +kernel
theorem dX9_writeSimple_38 : decode cX9_writeSimple 38 = .ok (.invokevirtual 312, 3) := by decide +kernel
theorem dX9_writeSimple_41 : decode cX9_writeSimple 41 = .ok (.aload_n 0, 1) := by decide +kernel
theorem dX9_writeSimple_42 : decode cX9_writeSimple 42 = .ok (.iconst 1, 1) := by decide +kernel
theorem dX9_writeSimple_43 : decode cX9_writeSimple 43 = .ok (.aload_n 0, 1) := by decide +kernel
theorem dX9_writeSimple_44 : decode cX9_writeSimple 44 = .ok (.iload_n 1, 1) := by decide +kernel
theorem dX9_writeSimple_45 : decode cX9_writeSimple 45 = .ok (.invokevirtual 215, 3) := by decide +kernel
theorem dX9_writeSimple_48 : decode cX9_writeSimple 48 = .ok (.iconst 0, 1) := by decide +kernel
theorem dX9_writeSimple_49 : decode cX9_writeSimple 49 = .ok (.invokevirtual 292, 3) := by decide +kernel
theorem dX9_writeSimple_52 : decode cX9_writeSimple 52 = .ok (.return_, 1) := by decide +kernel
theorem dX9_writeSimple_53 : decode cX9_writeSimple 53 = .ok (.aload_n 0, 1) := by decide +kernel
theorem dX9_writeSimple_54 : decode cX9_writeSimple 54 = .ok (.getfield 47, 3) := by decide +kernel
theorem dX9_writeSimple_57 : decode cX9_writeSimple 57 = .ok (.iload_n 1, 1) := by decide +kernel
theorem dX9_writeSimple_58 : decode cX9_writeSimple 58 = .ok (.iaload, 1) := by decide +kernel
theorem dX9_writeSimple_59 : decode cX9_writeSimple 59 = .ok (.bipush 18, 2) := by decide +kernel
theorem dX9_writeSimple_61 : decode cX9_writeSimple 61 = .ok (.if_icmp .ne 50, 3) := by decide +kernel
theorem dX9_writeSimple_64 : decode cX9_writeSimple 64 = .ok (.aload_n 0, 1) := by decide +kernel
theorem dX9_writeSimple_65 : decode cX9_writeSimple 65 = .ok (.getfield 316, 3) := by decide +kernel
theorem dX9_writeSimple_68 : decode cX9_writeSimple 68 = .ok (.iconst 1, 1) := by decide +kernel
theorem dX9_writeSimple_69 : decode cX9_writeSimple 69 = .ok (.invokestatic 183, 3) := by decide +kernel
theorem dX9_writeSimple_72 : decode cX9_writeSimple 72 = .ok (.ifCond .eq 39, 3) := by decide +kernel
theorem dX9_writeSimple_75 : decode cX9_writeSimple 75 = .ok (.aload_n 0, 1) := by decide +kernel
theorem dX9_writeSimple_76 : decode cX9_writeSimple 76 = .ok (.iload_n 1, 1) := by decide +kernel
theorem dX9_writeSimple_77 : decode cX9_writeSimple 77 = .ok (.invokevirtual 237, 3) := by decide +kernel
theorem dX9_writeSimple_80 : decode cX9_writeSimple 80 = .ok (.ifCond .eq 31, 3) := by decide +kernel
theorem dX9_writeSimple_83 : decode cX9_writeSimple 83 = .ok (.aload_n 0, 1) := by decide +kernel
theorem dX9_writeSimple_84 : decode cX9_writeSimple 84 = .ok (.getfield 83, 3) := by decide +kernel
theorem dX9_writeSimple_87 : decode cX9_writeSimple 87 = .ok (.aload_n 0, 1) := by decide +kernel
theorem dX9_writeSimple_88 : decode cX9_writeSimple 88 = .ok (.getfield 53, 3) := by decide +kernel
theorem dX9_writeSimple_91 : decode cX9_writeSimple 91 = .ok (.iload_n 1, 1) := by decide +kernel
theorem dX9_writeSimple_92 : decode cX9_writeSimple 92 = .ok (.iaload, 1) := by decide +kernel
theorem dX9_writeSimple_93 : decode cX9_writeSimple 93 = .ok (.aload_n 0, 1) := by decide +kernel
theorem dX9_writeSimple_94 : decode cX9_writeSimple 94 = .ok (.getfield 283, 3) := by decide +kernel
theorem dX9_writeSimple_97 : decode cX9_writeSimple 97 = .ok (.iastore, 1) := by decide +kernel
theorem dX9_writeSimple_98 : decode cX9_writeSimple 98 = .ok (.aload_n 0, 1) := by decide +kernel
theorem dX9_writeSimple_99 : decode cX9_writeSimple 99 = .ok (.aload_n 0, 1) := by decide +kernel
theorem dX9_writeSimple_100 : decode cX9_writeSimple 100 = .ok (.getfield 53, 3) := by decide +kernel
theorem dX9_writeSimple_103 : decode cX9_writeSimple 103 = .ok (.iload_n 1, 1) := by decide +kernel
theorem dX9_writeSimple_104 : decode cX9_writeSimple 104 = .ok (.iaload, 1) := by decide +kernel
theorem dX9_writeSimple_105 : decode cX9_writeSimple 105 = .ok (.iload_n 2, 1) := by decide +kernel
theorem dX9_writeSimple_106 : decode cX9_writeSimple 106 = .ok (.iconst 1, 1) := by decide +kernel
theorem dX9_writeSimple_107 : decode cX9_writeSimple 107 = .ok (.invokevirtual 298, 3) := by decide +kernel
theorem dX9_writeSimple_110 : decode cX9_writeSimple 110 = .ok (.return_, 1) := by decide +kernel
theorem dX9_writeSimple_111 : decode cX9_writeSimple 111 = .ok (.aload_n 0, 1) := by decide +kernel
theorem dX9_writeSimple_112 : decode cX9_writeSimple 112 = .ok (.aload_n 0, 1) := by decide +kernel
theorem dX9_writeSimple_113 : decode cX9_writeSimple 113 = .ok (.getfield 53, 3) := by decide +kernel
theorem dX9_writeSimple_116 : decode cX9_writeSimple 116 = .ok (.iload_n 1, 1) := by decide +kernel
theorem dX9_writeSimple_117 : decode cX9_writeSimple 117 = .ok (.iaload, 1) := by decide +kernel
theorem dX9_writeSimple_118 : decode cX9_writeSimple 118 = .ok (.iload_n 2, 1) := by decide +kernel
theorem dX9_writeSimple_119 : decode cX9_writeSimple 119 = .ok (.invokevirtual 319, 3) := by decide +kernel
theorem dX9_writeSimple_122 : decode cX9_writeSimple 122 = .ok (.iload_n 3, 1) := by decide +kernel
theorem dX9_writeSimple_123 : decode cX9_writeSimple 123 = .ok (.ifCond .ne 25, 3) := by decide +kernel
theorem dX9_writeSimple_126 : decode cX9_writeSimple 126 = .ok (.aload_n 0, 1) := by decide +kernel
theorem dX9_writeSimple_127 : decode cX9_writeSimple 127 = .ok (.getfield 47, 3) := by decide +kernel
theorem dX9_writeSimple_130 : decode cX9_writeSimple 130 = .ok (.iload_n 1, 1) := by decide +kernel
theorem dX9_writeSimple_131 : decode cX9_writeSimple 131 = .ok (.iaload, 1) := by decide +kernel
theorem dX9_writeSimple_132 : decode cX9_writeSimple 132 = .ok (.bipush 12, 2) := by decide +kernel
theorem dX9_writeSimple_134 : decode cX9_writeSimple 134 = .ok (.if_icmp .eq 14, 3) := by decide +kernel
theorem dX9_writeSimple_137 : decode cX9_writeSimple 137 = .ok (.aload_n 0, 1) := by decide +kernel
theorem dX9_writeSimple_138 : decode cX9_writeSimple 138 = .ok (.getfield 47, 3) := by decide +kernel
theorem dX9_writeSimple_141 : decode cX9_writeSimple 141 = .ok (.iload_n 1, 1) := by decide +kernel
theorem dX9_writeSimple_142 : decode cX9_writeSimple 142 = .ok (.iaload, 1) := by decide +kernel
theorem dX9_writeSimple_143 : decode cX9_writeSimple 143 = .ok (.bipush 14, 2) := by decide +kernel
theorem dX9_writeSimple_145 : decode cX9_writeSimple 145 = .ok (.if_icmp .ne 14, 3) := by decide +kernel
theorem dX9_writeSimple_148 : decode cX9_writeSimple 148 = .ok (.aload_n 0, 1) := by decide +kernel
theorem dX9_writeSimple_149 : decode cX9_writeSimple 149 = .ok (.aload_n 0, 1) := by decide +kernel
theorem dX9_writeSimple_150 : decode cX9_writeSimple 150 = .ok (.getfield 56, 3) := by decide +kernel
theorem dX9_writeSimple_153 : decode cX9_writeSimple 153 = .ok (.iload_n 1, 1) := by decide +kernel
theorem dX9_writeSimple_154 : decode cX9_writeSimple 154 = .ok (.iaload, 1) := by decide +kernel
theorem dX9_writeSimple_155 : decode cX9_writeSimple 155 = .ok (.iload_n 2, 1) := by decide +kernel
theorem dX9_writeSimple_156 : decode cX9_writeSimple 156 = .ok (.invokevirtual 319, 3) := by decide +kernel
theorem dX9_writeSimple_159 : decode cX9_writeSimple 159 = .ok (.aload_n 0, 1) := by decide +kernel
theorem dX9_writeSimple_160 : decode cX9_writeSimple 160 = .ok (.getfield 47, 3) := by decide +kernel
theorem dX9_writeSimple_163 : decode cX9_writeSimple 163 = .ok (.iload_n 1, 1) := by decide +kernel
theorem dX9_writeSimple_164 : decode cX9_writeSimple 164 = .ok (.iaload, 1) := by decide +kernel
theorem dX9_writeSimple_165 : decode cX9_writeSimple 165 = .ok (.tableswitch 178 2 21 #[95, 178, 178, 178, 178, 178, 178, 178, 178, 178, 110, 113, 129, 178, 178, 178, 145, 156, 167, 113], 95) := by decide +kernel
theorem dX9_writeSimple_260 : decode cX9_writeSimple 260 = .ok (.aload_n 0, 1) := by decide +kernel
theorem dX9_writeSimple_261 : decode cX9_writeSimple 261 = .ok (.iconst 3, 1) := by decide +kernel
theorem dX9_writeSimple_262 : decode cX9_writeSimple 262 = .ok (.iload_n 2, 1) := by decide +kernel
theorem dX9_writeSimple_263 : decode cX9_writeSimple 263 = .ok (.aload_n 0, 1) := by decide +kernel
theorem dX9_writeSimple_264 : decode cX9_writeSimple 264 = .ok (.getfield 50, 3) := by decide +kernel
