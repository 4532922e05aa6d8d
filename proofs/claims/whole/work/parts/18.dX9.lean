theorem dX9_argument_78 : decode cX9_argument 78 = .ok (.iload_n 3, 1) := by decide +kernel
theorem dX9_argument_79 : decode cX9_argument 79 = .ok (.iload 6, 2) := by decide +kernel
theorem dX9_argument_81 : decode cX9_argument 81 = .ok (.iconst 1, 1) := by decide +kernel
theorem dX9_argument_82 : decode cX9_argument 82 = .ok (.if_icmp .eq 9, 3) := by decide +kernel
theorem dX9_argument_85 : decode cX9_argument 85 = .ok (.iload 6, 2) := by decide +kernel
theorem dX9_argument_87 : decode cX9_argument 87 = .ok (.iconst 3, 1) := by decide +kernel
theorem dX9_argument_88 : decode cX9_argument 88 = .ok (.if_icmp .ne 7, 3) := by decide +kernel
theorem dX9_argument_91 : decode cX9_argument 91 = .ok (.iconst 1, 1) := by decide +kernel
theorem dX9_argument_92 : decode cX9_argument 92 = .ok (.goto 4, 3) := by decide +kernel
theorem dX9_argument_95 : decode cX9_argument 95 = .ok (.iconst 0, 1) := by decide +kernel
theorem dX9_argument_96 : decode cX9_argument 96 = .ok (.invokevirtual 428, 3) := by decide +kernel
theorem dX9_argument_99 : decode cX9_argument 99 = .ok (.goto 46, 3) := by decide +kernel
theorem dX9_argument_102 : decode cX9_argument 102 = .ok (.iload_n 2, 1) := by decide +kernel
theorem dX9_argument_103 : decode cX9_argument 103 = .ok (.iconst 1, 1) := by decide +kernel
theorem dX9_argument_104 : decode cX9_argument 104 = .ok (.if_icmp .ne 31, 3) := by decide +kernel
theorem dX9_argument_107 : decode cX9_argument 107 = .ok (.aload_n 0, 1) := by decide +kernel
theorem dX9_argument_108 : decode cX9_argument 108 = .ok (.getfield 56, 3) := by decide +kernel
theorem dX9_argument_111 : decode cX9_argument 111 = .ok (.iload_n 1, 1) := by decide +kernel
theorem dX9_argument_112 : decode cX9_argument 112 = .ok (.iaload, 1) := by decide +kernel
theorem dX9_argument_113 : decode cX9_argument 113 = .ok (.iconst (-1), 1) := by decide +kernel
theorem dX9_argument_114 : decode cX9_argument 114 = .ok (.if_icmp .eq 21, 3) := by decide +kernel
theorem dX9_argument_117 : decode cX9_argument 117 = .ok (.aload_n 0, 1) := by decide +kernel
theorem dX9_argument_118 : decode cX9_argument 118 = .ok (.aload_n 0, 1) := by decide +kernel
theorem dX9_argument_119 : decode cX9_argument 119 = .ok (.getfield 56, 3) := by decide +kernel
theorem dX9_argument_122 : decode cX9_argument 122 = .ok (.iload_n 1, 1) := by decide +kernel
theorem dX9_argument_123 : decode cX9_argument 123 = .ok (.iaload, 1) := by decide +kernel
theorem dX9_argument_124 : decode cX9_argument 124 = .ok (.iload_n 3, 1) := by decide +kernel
theorem dX9_argument_125 : decode cX9_argument 125 = .ok (.iload 4, 2) := by decide +kernel
theorem dX9_argument_127 : decode cX9_argument 127 = .ok (.iconst 1, 1) := by decide +kernel
theorem dX9_argument_128 : decode cX9_argument 128 = .ok (.iadd, 1) := by decide +kernel
theorem dX9_argument_129 : decode cX9_argument 129 = .ok (.invokevirtual 428, 3) := by decide +kernel
theorem dX9_argument_132 : decode cX9_argument 132 = .ok (.goto 13, 3) := by decide +kernel
theorem dX9_argument_135 : decode cX9_argument 135 = .ok (.aload_n 0, 1) := by decide +kernel
theorem dX9_argument_136 : decode cX9_argument 136 = .ok (.dup, 1) := by decide +kernel
theorem dX9_argument_137 : decode cX9_argument 137 = .ok (.getfield 358, 3) := by decide +kernel
theorem dX9_argument_140 : decode cX9_argument 140 = .ok (.iconst 1, 1) := by decide +kernel
theorem dX9_argument_141 : decode cX9_argument 141 = .ok (.isub, 1) := by decide +kernel
theorem dX9_argument_142 : decode cX9_argument 142 = .ok (.putfield 358, 3) := by decide +kernel
theorem dX9_argument_145 : decode cX9_argument 145 = .ok (.return_, 1) := by decide +kernel
set_option maxRecDepth 20000 in
theorem ggX9_call_X9_begin : GoodIn wsX9_call wsX9_begin := goodIn_r _ [7, 8, 9, 10, 2, 11, 12, 13, 14, 15, 16, 6, 17, 18, 19, 20, 21, 22, 23, 24, 25, 26, 27, 28, 29, 30, 31, 114, 115, 116, 117, 118, 119, 120, 121, 122, 123, 124, 125, 126, 127, 128, 129, 130, 131, 132, 133, 134, 135, 136, 137, 138, 139, 140, 141, 142, 143, 144, 145, 146, 147, 148, 149, 150, 151, 152, 153, 154, 155, 156, 157, 158, 159, 160, 161, 162, 163, 164, 165, 166, 167, 168, 169, 170, 171, 172, 173] (by decide +kernel) (by decide +kernel)
set_option maxRecDepth 20000 in
theorem gX9_call_X9_begin : GoodIn wsX9_call (wsV RX9 428 RX9 yX9_begin wsX9_begin) := goodIn_app (goodIn_of _ (by decide +kernel)) ggX9_call_X9_begin
set_option maxRecDepth 20000 in
theorem ggX9_call_X9_enter : GoodIn wsX9_call wsX9_enter := goodIn_r _ [35, 36, 37, 38, 39, 12, 40, 11, 41, 2, 42, 13, 10, 43, 44, 45, 46, 47, 6, 48, 49, 50, 51, 52, 53, 54, 55, 56, 57, 58, 59, 60, 61, 62, 63, 64, 65, 66, 67, 68, 69, 70, 71, 14, 15, 16, 17, 18, 19, 72, 73, 74, 75, 76, 77, 78, 79, 80, 1, 81, 82, 83, 84, 85, 86, 87, 88, 89, 90, 91, 92, 93, 23, 24, 25, 26, 94, 20, 21, 22, 27, 28, 29, 30, 31, 95, 96, 97, 98, 99, 100, 101, 102, 103, 104, 105, 3, 4, 5, 7, 8, 9, 114, 115, 116, 117, 118, 119, 120, 121, 122, 123, 124, 125, 126, 127, 128, 129, 130, 131, 132, 133, 134, 135, 136, 137, 138, 139, 140, 141, 142, 143, 144, 145, 146, 147, 148, 149, 150, 151, 152, 153, 154, 155, 156, 157, 158, 159, 160, 161, 162, 163, 164, 165, 166, 167, 168, 169, 170, 171, 172, 173] (by decide +kernel) (by decide +kernel)
set_option maxRecDepth 20000 in
theorem gX9_call_X9_enter : GoodIn wsX9_call (wsV RX9 434 RX9 yX9_enter wsX9_enter) := goodIn_app (goodIn_of _ (by decide +kernel)) ggX9_call_X9_enter
set_option maxRecDepth 20000 in
theorem ggX9_call_X9_cutTo : GoodIn wsX9_call wsX9_cutTo := goodIn_r _ [109, 2, 10, 11, 12, 13, 114, 115, 116, 117, 118, 119, 120, 121, 122, 123, 124, 125, 126, 127, 128, 129, 130, 131, 132, 133, 134, 135, 136, 137, 138, 139, 140, 141, 142, 143, 144, 145, 146, 147, 148, 149, 150, 151, 152, 153, 154, 155, 156, 157, 158, 159, 160, 161, 162, 163, 164, 165, 166, 167, 168, 169, 170, 171, 172, 173] (by decide +kernel) (by decide +kernel)
set_option maxRecDepth 20000 in
theorem gX9_call_X9_cutTo : GoodIn wsX9_call (wsV RX9 437 RX9 yX9_cutTo wsX9_cutTo) := goodIn_app (goodIn_of _ (by decide +kernel)) ggX9_call_X9_cutTo
set_option maxRecDepth 20000 in
theorem ggX9_call_X9_put : GoodIn wsX9_call wsX9_put := goodIn_r _ [113, 43, 11, 20, 21, 6, 22, 23, 24, 25, 26, 27, 28, 29, 30, 31, 114, 115, 116, 117, 118, 119, 120, 121, 122, 123, 124, 125, 126, 127, 128, 129, 130, 131, 132, 133, 134, 135, 136, 137, 138, 139, 140, 141, 142, 143, 144, 145, 146, 147, 148, 149, 150, 151, 152, 153, 154, 155, 156, 157, 158, 159, 160, 161, 162, 163, 164, 165, 166, 167, 168, 169, 170, 171, 172, 173] (by decide +kernel) (by decide +kernel)
set_option maxRecDepth 20000 in
theorem gX9_call_X9_put : GoodIn wsX9_call (wsV RX9 367 RX9 yX9_put wsX9_put) := goodIn_app (goodIn_of _ (by decide +kernel)) ggX9_call_X9_put
theorem dX9_call_0 : decode cX9_call 0 = .ok (.iload_n 2, 1) := by decide +kernel
theorem dX9_call_1 : decode cX9_call 1 = .ok (.ifCond .ne 28, 3) := by decide +kernel
theorem dX9_call_4 : decode cX9_call 4 = .ok (.aload_n 0, 1) := by decide +kernel
theorem dX9_call_5 : decode cX9_call 5 = .ok (.getfield 53, 3) := by decide +kernel
theorem dX9_call_8 : decode cX9_call 8 = .ok (.iload_n 1, 1) := by decide +kernel
theorem dX9_call_9 : decode cX9_call 9 = .ok (.iaload, 1) := by decide +kernel
theorem dX9_call_10 : decode cX9_call 10 = .ok (.iconst (-1), 1) := by decide +kernel
theorem dX9_call_11 : decode cX9_call 11 = .ok (.if_icmp .eq 58, 3) := by decide +kernel
theorem dX9_call_14 : decode cX9_call 14 = .ok (.aload_n 0, 1) := by decide +kernel
theorem dX9_call_15 : decode cX9_call 15 = .ok (.aload_n 0, 1) := by decide +kernel
theorem dX9_call_16 : decode cX9_call 16 = .ok (.getfield 53, 3) := by decide +kernel
theorem dX9_call_19 : decode cX9_call 19 = .ok (.iload_n 1, 1) := by decide +kernel
theorem dX9_call_20 : decode cX9_call 20 = .ok (.iaload, 1) := by decide +kernel
theorem dX9_call_21 : decode cX9_call 21 = .ok (.iload_n 3, 1) := by decide +kernel
theorem dX9_call_22 : decode cX9_call 22 = .ok (.iconst 0, 1) := by decide +kernel
theorem dX9_call_23 : decode cX9_call 23 = .ok (.invokevirtual 428, 3) := by decide +kernel
theorem dX9_call_26 : decode cX9_call 26 = .ok (.goto 43, 3) := by decide +kernel
theorem dX9_call_29 : decode cX9_call 29 = .ok (.iload_n 2, 1) := by decide +kernel
theorem dX9_call_30 : decode cX9_call 30 = .ok (.iconst 1, 1) := by decide +kernel
theorem dX9_call_31 : decode cX9_call 31 = .ok (.if_icmp .ne 23, 3) := by decide +kernel
theorem dX9_call_34 : decode cX9_call 34 = .ok (.aload_n 0, 1) := by decide +kernel
theorem dX9_call_35 : decode cX9_call 35 = .ok (.iload_n 1, 1) := by decide +kernel
theorem dX9_call_36 : decode cX9_call 36 = .ok (.iload_n 3, 1) := by decide +kernel
theorem dX9_call_37 : decode cX9_call 37 = .ok (.iload 4, 2) := by decide +kernel
theorem dX9_call_39 : decode cX9_call 39 = .ok (.iconst 1, 1) := by decide +kernel
theorem dX9_call_40 : decode cX9_call 40 = .ok (.if_icmp .ne 7, 3) := by decide +kernel
theorem dX9_call_43 : decode cX9_call 43 = .ok (.iconst 1, 1) := by decide +kernel
theorem dX9_call_44 : decode cX9_call 44 = .ok (.goto 4, 3) := by decide +kernel
theorem dX9_call_47 : decode cX9_call 47 = .ok (.iconst 0, 1) := by decide +kernel
theorem dX9_call_48 : decode cX9_call 48 = .ok (.invokevirtual 434, 3) := by decide +kernel
theorem dX9_call_51 : decode cX9_call 51 = .ok (.goto 18, 3) := by decide +kernel
theorem dX9_call_54 : decode cX9_call 54 = .ok (.aload_n 0, 1) := by decide +kernel
theorem dX9_call_55 : decode cX9_call 55 = .ok (.aload_n 0, 1) := by decide +kernel
theorem dX9_call_56 : decode cX9_call 56 = .ok (.getfield 358, 3) := by decide +kernel
theorem dX9_call_59 : decode cX9_call 59 = .ok (.iconst 1, 1) := by decide +kernel
theorem dX9_call_60 : decode cX9_call 60 = .ok (.isub, 1) := by decide +kernel
theorem dX9_call_61 : decode cX9_call 61 = .ok (.invokevirtual 437, 3) := by decide +kernel
theorem dX9_call_64 : decode cX9_call 64 = .ok (.aload_n 0, 1) := by decide +kernel
theorem dX9_call_65 : decode cX9_call 65 = .ok (.iconst 0, 1) := by decide +kernel
theorem dX9_call_66 : decode cX9_call 66 = .ok (.invokevirtual 367, 3) := by decide +kernel
theorem dX9_call_69 : decode cX9_call 69 = .ok (.return_, 1) := by decide +kernel
set_option maxRecDepth 20000 in
theorem ggX9_enter_X9_whatIs : GoodIn wsX9_enter wsX9_whatIs := goodIn_r _ [19, 20, 21, 22, 23, 18, 24, 25, 102, 103, 104, 105, 106, 107, 108, 109, 110, 111, 112, 113, 114, 115, 116, 117, 118, 119, 120, 121, 122, 123, 124, 125, 126, 127, 128, 129, 130, 131, 132, 133, 134, 135, 136, 137, 138, 139, 140, 141, 142, 143, 144, 145, 146, 147, 148, 149, 150, 151, 152, 153, 154, 155, 156, 157, 158, 159, 160, 161] (by decide +kernel) (by decide +kernel)
set_option maxRecDepth 20000 in
theorem gX9_enter_X9_whatIs : GoodIn wsX9_enter (wsV RX9 153 RX9 yX9_whatIs wsX9_whatIs) := goodIn_app (goodIn_of _ (by decide +kernel)) ggX9_enter_X9_whatIs
set_option maxRecDepth 20000 in
theorem ggX9_enter_X9_slot : GoodIn wsX9_enter wsX9_slot := goodIn_r _ [29, 8, 1, 2, 30, 31, 32, 18, 33, 34, 35, 36, 37, 20, 25, 38, 39, 40, 41, 42, 21, 22, 23, 24, 102, 103, 104, 105, 106, 107, 108, 109, 110, 111, 112, 113, 114, 115, 116, 117, 118, 119, 120, 121, 122, 123, 124, 125, 126, 127, 128, 129, 130, 131, 132, 133, 134, 135, 136, 137, 138, 139, 140, 141, 142, 143, 144, 145, 146, 147, 148, 149, 150, 151, 152, 153, 154, 155, 156, 157, 158, 159, 160, 161] (by decide +kernel) (by decide +kernel)
set_option maxRecDepth 20000 in
theorem gX9_enter_X9_slot : GoodIn wsX9_enter (wsV RX9 416 RX9 yX9_slot wsX9_slot) := goodIn_app (goodIn_of _ (by decide +kernel)) ggX9_enter_X9_slot
set_option maxRecDepth 20000 in
theorem ggX9_enter_X9_stop : GoodIn wsX9_enter wsX9_stop := goodIn_r _ [46, 47, 48, 102, 103, 104, 105, 106, 107, 108, 109, 110, 111, 112, 113, 114, 115, 116, 117, 118, 119, 120, 121, 122, 123, 124, 125, 126, 127, 128, 129, 130, 131, 132, 133, 134, 135, 136, 137, 138, 139, 140, 141, 142, 143, 144, 145, 146, 147, 148, 149, 150, 151, 152, 153, 154, 155, 156, 157, 158, 159, 160, 161] (by decide +kernel) (by decide +kernel)
set_option maxRecDepth 20000 in
theorem gX9_enter_X9_stop : GoodIn wsX9_enter (wsV RX9 355 RX9 yX9_stop wsX9_stop) := goodIn_app (goodIn_of _ (by decide +kernel)) ggX9_enter_X9_stop
set_option maxRecDepth 20000 in
theorem ggX9_enter_X9_sizeIs : GoodIn wsX9_enter wsX9_sizeIs := goodIn_r _ [52, 53, 21, 22, 23, 18, 24, 20, 25, 102, 103, 104, 105, 106, 107, 108, 109, 110, 111, 112, 113, 114, 115, 116, 117, 118, 119, 120, 121, 122, 123, 124, 125, 126, 127, 128, 129, 130, 131, 132, 133, 134, 135, 136, 137, 138, 139, 140, 141, 142, 143, 144, 145, 146, 147, 148, 149, 150, 151, 152, 153, 154, 155, 156, 157, 158, 159, 160, 161] (by decide +kernel) (by decide +kernel)
set_option maxRecDepth 20000 in
theorem gX9_enter_X9_sizeIs : GoodIn wsX9_enter (wsV RX9 156 RX9 yX9_sizeIs wsX9_sizeIs) := goodIn_app (goodIn_of _ (by decide +kernel)) ggX9_enter_X9_sizeIs
set_option maxRecDepth 20000 in
theorem ggX9_enter_X9_count : GoodIn wsX9_enter wsX9_count := goodIn_r _ [57, 58, 59, 102, 103, 104, 105, 106, 107, 108, 109, 110, 111, 112, 113, 114, 115, 116, 117, 118, 119, 120, 121, 122, 123, 124, 125, 126, 127, 128, 129, 130, 131, 132, 133, 134, 135, 136, 137, 138, 139, 140, 141, 142, 143, 144, 145, 146, 147, 148, 149, 150, 151, 152, 153, 154, 155, 156, 157, 158, 159, 160, 161] (by decide +kernel) (by decide +kernel)
set_option maxRecDepth 20000 in
theorem gX9_enter_X9_count : GoodIn wsX9_enter (wsV RX9 255 RX9 yX9_count wsX9_count) := goodIn_app (goodIn_of _ (by decide +kernel)) ggX9_enter_X9_count
set_option maxRecDepth 20000 in
theorem ggX9_enter_X9_frameOf : GoodIn wsX9_enter wsX9_frameOf := goodIn_r _ [33, 1, 2, 8, 34, 35, 36, 18, 37, 20, 25, 102, 103, 104, 105, 106, 107, 108, 109, 110, 111, 112, 113, 114, 115, 116, 117, 118, 119, 120, 121, 122, 123, 124, 125, 126, 127, 128, 129, 130, 131, 132, 133, 134, 135, 136, 137, 138, 139, 140, 141, 142, 143, 144, 145, 146, 147, 148, 149, 150, 151, 152, 153, 154, 155, 156, 157, 158, 159, 160, 161] (by decide +kernel) (by decide +kernel)
set_option maxRecDepth 20000 in
theorem gX9_enter_X9_frameOf : GoodIn wsX9_enter (wsV RX9 382 RX9 yX9_frameOf wsX9_frameOf) := goodIn_app (goodIn_of _ (by decide +kernel)) ggX9_enter_X9_frameOf
set_option maxRecDepth 20000 in
theorem ggX9_enter_X9_newFrame : GoodIn wsX9_enter wsX9_newFrame := goodIn_r _ [63, 8, 64, 65, 66, 3, 67, 68, 69, 70, 71, 5, 72, 73, 74, 75, 76, 11, 77, 78, 18, 79, 80, 81, 82, 83, 84, 85, 86, 87, 88, 89, 90, 91, 92, 93, 94, 95, 102, 103, 104, 105, 106, 107, 108, 109, 110, 111, 112, 113, 114, 115, 116, 117, 118, 119, 120, 121, 122, 123, 124, 125, 126, 127, 128, 129, 130, 131, 132, 133, 134, 135, 136, 137, 138, 139, 140, 141, 142, 143, 144, 145, 146, 147, 148, 149, 150, 151, 152, 153, 154, 155, 156, 157, 158, 159, 160, 161] (by decide +kernel) (by decide +kernel)
set_option maxRecDepth 20000 in
theorem gX9_enter_X9_newFrame : GoodIn wsX9_enter (wsV RX9 447 RX9 yX9_newFrame wsX9_newFrame) := goodIn_app (goodIn_of _ (by decide +kernel)) ggX9_enter_X9_newFrame
set_option maxRecDepth 20000 in
theorem ggX9_enter_X9_begin : GoodIn wsX9_enter wsX9_begin := goodIn_r _ [99, 100, 101, 12, 9, 7, 5, 11, 43, 44, 45, 18, 46, 47, 48, 77, 78, 79, 72, 73, 74, 75, 80, 81, 82, 83, 84, 102, 103, 104, 105, 106, 107, 108, 109, 110, 111, 112, 113, 114, 115, 116, 117, 118, 119, 120, 121, 122, 123, 124, 125, 126, 127, 128, 129, 130, 131, 132, 133, 134, 135, 136, 137, 138, 139, 140, 141, 142, 143, 144, 145, 146, 147, 148, 149, 150, 151, 152, 153, 154, 155, 156, 157, 158, 159, 160, 161] (by decide +kernel) (by decide +kernel)
set_option maxRecDepth 20000 in
theorem gX9_enter_X9_begin : GoodIn wsX9_enter (wsV RX9 428 RX9 yX9_begin wsX9_begin) := goodIn_app (goodIn_of _ (by decide +kernel)) ggX9_enter_X9_begin
theorem dX9_enter_0 : decode cX9_enter 0 = .ok (.aload_n 0, 1) := by decide +kernel
theorem dX9_enter_1 : decode cX9_enter 1 = .ok (.aload_n 0, 1) := by decide +kernel
theorem dX9_enter_2 : decode cX9_enter 2 = .ok (.getfield 104, 3) := by decide +kernel
theorem dX9_enter_5 : decode cX9_enter 5 = .ok (.iload_n 1, 1) := by decide +kernel
theorem dX9_enter_6 : decode cX9_enter 6 = .ok (.iaload, 1) := by decide +kernel
theorem dX9_enter_7 : decode cX9_enter 7 = .ok (.aload_n 0, 1) := by decide +kernel
theorem dX9_enter_8 : decode cX9_enter 8 = .ok (.getfield 50, 3) := by decide +kernel
theorem dX9_enter_11 : decode cX9_enter 11 = .ok (.iload_n 1, 1) := by decide +kernel
theorem dX9_enter_12 : decode cX9_enter 12 = .ok (.iaload, 1) := by decide +kernel
theorem dX9_enter_13 : decode cX9_enter 13 = .ok (.invokevirtual 153, 3) := by decide +kernel
theorem dX9_enter_16 : decode cX9_enter 16 = .ok (.bipush 10, 2) := by decide +kernel
theorem dX9_enter_18 : decode cX9_enter 18 = .ok (.if_icmp .ne 7, 3) := by decide +kernel
theorem dX9_enter_21 : decode cX9_enter 21 = .ok (.iconst 1, 1) := by decide +kernel
theorem dX9_enter_22 : decode cX9_enter 22 = .ok (.goto 4, 3) := by decide +kernel
theorem dX9_enter_25 : decode cX9_enter 25 = .ok (.iconst 0, 1) := by decide +kernel
theorem dX9_enter_26 : decode cX9_enter 26 = .ok (.istore 4, 2) := by decide +kernel
theorem dX9_enter_28 : decode cX9_enter 28 = .ok (.iload 4, 2) := by decide +kernel
theorem dX9_enter_30 : decode cX9_enter 30 = .ok (.ifCond .eq 7, 3) := by decide +kernel
theorem dX9_enter_33 : decode cX9_enter 33 = .ok (.iconst (-1), 1) := by decide +kernel
theorem dX9_enter_34 : decode cX9_enter 34 = .ok (.goto 14, 3) := by decide +kernel
theorem dX9_enter_37 : decode cX9_enter 37 = .ok (.aload_n 0, 1) := by decide +kernel
theorem dX9_enter_38 : decode cX9_enter 38 = .ok (.getfield 92, 3) := by decide +kernel
theorem dX9_enter_41 : decode cX9_enter 41 = .ok (.aload_n 0, 1) := by decide +kernel
theorem dX9_enter_42 : decode cX9_enter 42 = .ok (.iload_n 1, 1) := by decide +kernel
theorem dX9_enter_43 : decode cX9_enter 43 = .ok (.iload_n 2, 1) := by decide +kernel
theorem dX9_enter_44 : decode cX9_enter 44 = .ok (.invokevirtual 416, 3) := by decide +kernel
theorem dX9_enter_47 : decode cX9_enter 47 = .ok (.iaload, 1) := by decide +kernel
theorem dX9_enter_48 : decode cX9_enter 48 = .ok (.istore 5, 2) := by decide +kernel
theorem dX9_enter_50 : decode cX9_enter 50 = .ok (.iload 4, 2) := by decide +kernel
theorem dX9_enter_52 : decode cX9_enter 52 = .ok (.ifCond .ne 16, 3) := by decide +kernel
theorem dX9_enter_55 : decode cX9_enter 55 = .ok (.iload 5, 2) := by decide +kernel
theorem dX9_enter_57 : decode cX9_enter 57 = .ok (.iconst (-1), 1) := by decide +kernel
theorem dX9_enter_58 : decode cX9_enter 58 = .ok (.if_icmp .ne 10, 3) := by decide +kernel
theorem dX9_enter_61 : decode cX9_enter 61 = .ok (.aload_n 0, 1) := by decide +kernel
theorem dX9_enter_62 : decode cX9_enter 62 = .ok (.iconst 3, 1) := by decide +kernel
theorem dX9_enter_63 : decode cX9_enter 63 = .ok (.iload_n 1, 1) := by decide +kernel
theorem dX9_enter_64 : decode cX9_enter 64 = .ok (.invokevirtual 355, 3) := by decide +kernel
theorem dX9_enter_67 : decode cX9_enter 67 = .ok (.return_, 1) := by decide +kernel
theorem dX9_enter_68 : decode cX9_enter 68 = .ok (.iload 4, 2) := by decide +kernel
theorem dX9_enter_70 : decode cX9_enter 70 = .ok (.ifCond .eq 22, 3) := by decide +kernel
theorem dX9_enter_73 : decode cX9_enter 73 = .ok (.aload_n 0, 1) := by decide +kernel
theorem dX9_enter_74 : decode cX9_enter 74 = .ok (.aload_n 0, 1) := by decide +kernel
theorem dX9_enter_75 : decode cX9_enter 75 = .ok (.getfield 104, 3) := by decide +kernel
theorem dX9_enter_78 : decode cX9_enter 78 = .ok (.iload_n 1, 1) := by decide +kernel
theorem dX9_enter_79 : decode cX9_enter 79 = .ok (.iaload, 1) := by decide +kernel
theorem dX9_enter_80 : decode cX9_enter 80 = .ok (.aload_n 0, 1) := by decide +kernel
theorem dX9_enter_81 : decode cX9_enter 81 = .ok (.getfield 50, 3) := by decide +kernel
theorem dX9_enter_84 : decode cX9_enter 84 = .ok (.iload_n 1, 1) := by decide +kernel
theorem dX9_enter_85 : decode cX9_enter 85 = .ok (.iaload, 1) := by decide +kernel
theorem dX9_enter_86 : decode cX9_enter 86 = .ok (.invokevirtual 156, 3) := by decide +kernel
theorem dX9_enter_89 : decode cX9_enter 89 = .ok (.goto 8, 3) := by decide +kernel
theorem dX9_enter_92 : decode cX9_enter 92 = .ok (.iload 5, 2) := by decide +kernel
theorem dX9_enter_94 : decode cX9_enter 94 = .ok (.bipush 16, 2) := by decide +kernel
theorem dX9_enter_96 : decode cX9_enter 96 = .ok (.irem, 1) := by decide +kernel
theorem dX9_enter_97 : decode cX9_enter 97 = .ok (.istore 6, 2) := by decide +kernel
theorem dX9_enter_99 : decode cX9_enter 99 = .ok (.aload_n 0, 1) := by decide +kernel
theorem dX9_enter_100 : decode cX9_enter 100 = .ok (.iload_n 1, 1) := by decide +kernel
theorem dX9_enter_101 : decode cX9_enter 101 = .ok (.invokevirtual 255, 3) := by decide +kernel
theorem dX9_enter_104 : decode cX9_enter 104 = .ok (.istore 7, 2) := by decide +kernel
theorem dX9_enter_106 : decode cX9_enter 106 = .ok (.iload 7, 2) := by decide +kernel
theorem dX9_enter_108 : decode cX9_enter 108 = .ok (.aload_n 0, 1) := by decide +kernel
theorem dX9_enter_109 : decode cX9_enter 109 = .ok (.getfield 20, 3) := by decide +kernel
theorem dX9_enter_112 : decode cX9_enter 112 = .ok (.iload 6, 2) := by decide +kernel
theorem dX9_enter_114 : decode cX9_enter 114 = .ok (.iaload, 1) := by decide +kernel
theorem dX9_enter_115 : decode cX9_enter 115 = .ok (.if_icmp .eq 10, 3) := by decide +kernel
theorem dX9_enter_118 : decode cX9_enter 118 = .ok (.aload_n 0, 1) := by decide +kernel
theorem dX9_enter_119 : decode cX9_enter 119 = .ok (.iconst 4, 1) := by decide +kernel
theorem dX9_enter_120 : decode cX9_enter 120 = .ok (.iload_n 1, 1) := by decide +kernel
theorem dX9_enter_121 : decode cX9_enter 121 = .ok (.invokevirtual 355, 3) := by decide +kernel
theorem dX9_enter_124 : decode cX9_enter 124 = .ok (.return_, 1) := by decide +kernel
theorem dX9_enter_125 : decode cX9_enter 125 = .ok (.aload_n 0, 1) := by decide +kernel
theorem dX9_enter_126 : decode cX9_enter 126 = .ok (.getfield 361, 3) := by decide +kernel
theorem dX9_enter_129 : decode cX9_enter 129 = .ok (.aload_n 0, 1) := by decide +kernel
theorem dX9_enter_130 : decode cX9_enter 130 = .ok (.getfield 440, 3) := by decide +kernel
theorem dX9_enter_133 : decode cX9_enter 133 = .ok (.if_icmp .ne 11, 3) := by decide +kernel
theorem dX9_enter_136 : decode cX9_enter 136 = .ok (.aload_n 0, 1) := by decide +kernel
theorem dX9_enter_137 : decode cX9_enter 137 = .ok (.bipush 7, 2) := by decide +kernel
theorem dX9_enter_139 : decode cX9_enter 139 = .ok (.iload_n 1, 1) := by decide +kernel
theorem dX9_enter_140 : decode cX9_enter 140 = .ok (.invokevirtual 355, 3) := by decide +kernel
theorem dX9_enter_143 : decode cX9_enter 143 = .ok (.return_, 1) := by decide +kernel
theorem dX9_enter_144 : decode cX9_enter 144 = .ok (.iload 4, 2) := by decide +kernel
theorem dX9_enter_146 : decode cX9_enter 146 = .ok (.ifCond .eq 12, 3) := by decide +kernel
theorem dX9_enter_149 : decode cX9_enter 149 = .ok (.aload_n 0, 1) := by decide +kernel
theorem dX9_enter_150 : decode cX9_enter 150 = .ok (.iload_n 1, 1) := by decide +kernel
theorem dX9_enter_151 : decode cX9_enter 151 = .ok (.iload_n 2, 1) := by decide +kernel
theorem dX9_enter_152 : decode cX9_enter 152 = .ok (.invokevirtual 382, 3) := by decide +kernel
theorem dX9_enter_155 : decode cX9_enter 155 = .ok (.goto 8, 3) := by decide +kernel
theorem dX9_enter_158 : decode cX9_enter 158 = .ok (.iload 5, 2) := by decide +kernel
theorem dX9_enter_160 : decode cX9_enter 160 = .ok (.bipush 16, 2) := by decide +kernel
theorem dX9_enter_162 : decode cX9_enter 162 = .ok (.idiv, 1) := by decide +kernel
theorem dX9_enter_163 : decode cX9_enter 163 = .ok (.istore 8, 2) := by decide +kernel
theorem dX9_enter_165 : decode cX9_enter 165 = .ok (.aload_n 0, 1) := by decide +kernel
theorem dX9_enter_166 : decode cX9_enter 166 = .ok (.dup, 1) := by decide +kernel
theorem dX9_enter_167 : decode cX9_enter 167 = .ok (.getfield 342, 3) := by decide +kernel
theorem dX9_enter_170 : decode cX9_enter 170 = .ok (.iload 7, 2) := by decide +kernel
theorem dX9_enter_172 : decode cX9_enter 172 = .ok (.isub, 1) := by decide +kernel
theorem dX9_enter_173 : decode cX9_enter 173 = .ok (.putfield 342, 3) := by decide +kernel
theorem dX9_enter_176 : decode cX9_enter 176 = .ok (.aload_n 0, 1) := by decide +kernel
theorem dX9_enter_177 : decode cX9_enter 177 = .ok (.getfield 342, 3) := by decide +kernel
theorem dX9_enter_180 : decode cX9_enter 180 = .ok (.istore 9, 2) := by decide +kernel
theorem dX9_enter_182 : decode cX9_enter 182 = .ok (.iload_n 3, 1) := by decide +kernel
theorem dX9_enter_183 : decode cX9_enter 183 = .ok (.ifCond .eq 16, 3) := by decide +kernel
theorem dX9_enter_186 : decode cX9_enter 186 = .ok (.aload_n 0, 1) := by decide +kernel
theorem dX9_enter_187 : decode cX9_enter 187 = .ok (.getfield 95, 3) := by decide +kernel
theorem dX9_enter_190 : decode cX9_enter 190 = .ok (.iconst 3, 1) := by decide +kernel
theorem dX9_enter_191 : decode cX9_enter 191 = .ok (.iload_n 2, 1) := by decide +kernel
theorem dX9_enter_192 : decode cX9_enter 192 = .ok (.imul, 1) := by decide +kernel
theorem dX9_enter_193 : decode cX9_enter 193 = .ok (.iconst 2, 1) := by decide +kernel
theorem dX9_enter_194 : decode cX9_enter 194 = .ok (.iadd, 1) := by decide +kernel
theorem dX9_enter_195 : decode cX9_enter 195 = .ok (.iaload, 1) := by decide +kernel
theorem dX9_enter_196 : decode cX9_enter 196 = .ok (.goto 9, 3) := by decide +kernel
theorem dX9_enter_199 : decode cX9_enter 199 = .ok (.aload_n 0, 1) := by decide +kernel
theorem dX9_enter_200 : decode cX9_enter 200 = .ok (.getfield 358, 3) := by decide +kernel
theorem dX9_enter_203 : decode cX9_enter 203 = .ok (.iconst 1, 1) := by decide +kernel
theorem dX9_enter_204 : decode cX9_enter 204 = .ok (.isub, 1) := by decide +kernel
theorem dX9_enter_205 : decode cX9_enter 205 = .ok (.istore 10, 2) := by decide +kernel
theorem dX9_enter_207 : decode cX9_enter 207 = .ok (.aload_n 0, 1) := by decide +kernel
theorem dX9_enter_208 : decode cX9_enter 208 = .ok (.getfield 361, 3) := by decide +kernel
theorem dX9_enter_211 : decode cX9_enter 211 = .ok (.iconst 1, 1) := by decide +kernel
theorem dX9_enter_212 : decode cX9_enter 212 = .ok (.iadd, 1) := by decide +kernel
theorem dX9_enter_213 : decode cX9_enter 213 = .ok (.istore 11, 2) := by decide +kernel
theorem dX9_enter_215 : decode cX9_enter 215 = .ok (.iload_n 3, 1) := by decide +kernel
theorem dX9_enter_216 : decode cX9_enter 216 = .ok (.ifCond .eq 17, 3) := by decide +kernel
theorem dX9_enter_219 : decode cX9_enter 219 = .ok (.aload_n 0, 1) := by decide +kernel
theorem dX9_enter_220 : decode cX9_enter 220 = .ok (.getfield 443, 3) := by decide +kernel
theorem dX9_enter_223 : decode cX9_enter 223 = .ok (.ifCond .eq 10, 3) := by decide +kernel
theorem dX9_enter_226 : decode cX9_enter 226 = .ok (.aload_n 0, 1) := by decide +kernel
theorem dX9_enter_227 : decode cX9_enter 227 = .ok (.getfield 364, 3) := by decide +kernel
theorem dX9_enter_230 : decode cX9_enter 230 = .ok (.goto 9, 3) := by decide +kernel
theorem dX9_enter_233 : decode cX9_enter 233 = .ok (.aload_n 0, 1) := by decide +kernel
theorem dX9_enter_234 : decode cX9_enter 234 = .ok (.getfield 364, 3) := by decide +kernel
theorem dX9_enter_237 : decode cX9_enter 237 = .ok (.iconst 1, 1) := by decide +kernel
theorem dX9_enter_238 : decode cX9_enter 238 = .ok (.iadd, 1) := by decide +kernel
theorem dX9_enter_239 : decode cX9_enter 239 = .ok (.istore 12, 2) := by decide +kernel
theorem dX9_enter_241 : decode cX9_enter 241 = .ok (.iload_n 3, 1) := by decide +kernel
theorem dX9_enter_242 : decode cX9_enter 242 = .ok (.ifCond .eq 27, 3) := by decide +kernel
theorem dX9_enter_245 : decode cX9_enter 245 = .ok (.aload_n 0, 1) := by decide +kernel
theorem dX9_enter_246 : decode cX9_enter 246 = .ok (.iload 10, 2) := by decide +kernel
theorem dX9_enter_248 : decode cX9_enter 248 = .ok (.iconst 1, 1) := by decide +kernel
theorem dX9_enter_249 : decode cX9_enter 249 = .ok (.iadd, 1) := by decide +kernel
theorem dX9_enter_250 : decode cX9_enter 250 = .ok (.putfield 358, 3) := by decide +kernel
theorem dX9_enter_253 : decode cX9_enter 253 = .ok (.aload_n 0, 1) := by decide +kernel
theorem dX9_enter_254 : decode cX9_enter 254 = .ok (.aload_n 0, 1) := by decide +kernel
theorem dX9_enter_255 : decode cX9_enter 255 = .ok (.getfield 86, 3) := by decide +kernel
theorem dX9_enter_258 : decode cX9_enter 258 = .ok (.bipush 7, 2) := by decide +kernel
theorem dX9_enter_260 : decode cX9_enter 260 = .ok (.iload 10, 2) := by decide +kernel
theorem dX9_enter_262 : decode cX9_enter 262 = .ok (.imul, 1) := by decide +kernel
theorem dX9_enter_263 : decode cX9_enter 263 = .ok (.iconst 4, 1) := by decide +kernel
theorem dX9_enter_264 : decode cX9_enter 264 = .ok (.iadd, 1) := by decide +kernel
theorem dX9_enter_265 : decode cX9_enter 265 = .ok (.iaload, 1) := by decide +kernel
theorem dX9_enter_266 : decode cX9_enter 266 = .ok (.putfield 342, 3) := by decide +kernel
theorem dX9_enter_269 : decode cX9_enter 269 = .ok (.aload_n 0, 1) := by decide +kernel
theorem dX9_enter_270 : decode cX9_enter 270 = .ok (.iload 11, 2) := by decide +kernel
theorem dX9_enter_272 : decode cX9_enter 272 = .ok (.putfield 361, 3) := by decide +kernel
theorem dX9_enter_275 : decode cX9_enter 275 = .ok (.aload_n 0, 1) := by decide +kernel
theorem dX9_enter_276 : decode cX9_enter 276 = .ok (.iload 12, 2) := by decide +kernel
theorem dX9_enter_278 : decode cX9_enter 278 = .ok (.putfield 364, 3) := by decide +kernel
theorem dX9_enter_281 : decode cX9_enter 281 = .ok (.aload_n 0, 1) := by decide +kernel
theorem dX9_enter_282 : decode cX9_enter 282 = .ok (.iload 6, 2) := by decide +kernel
theorem dX9_enter_284 : decode cX9_enter 284 = .ok (.iload 8, 2) := by decide +kernel
theorem dX9_enter_286 : decode cX9_enter 286 = .ok (.iload 10, 2) := by decide +kernel
theorem dX9_enter_288 : decode cX9_enter 288 = .ok (.invokevirtual 447, 3) := by decide +kernel
theorem dX9_enter_291 : decode cX9_enter 291 = .ok (.istore 13, 2) := by decide +kernel
theorem dX9_enter_293 : decode cX9_enter 293 = .ok (.iconst 0, 1) := by decide +kernel
theorem dX9_enter_294 : decode cX9_enter 294 = .ok (.istore 14, 2) := by decide +kernel
theorem dX9_enter_296 : decode cX9_enter 296 = .ok (.iload 14, 2) := by decide +kernel
theorem dX9_enter_298 : decode cX9_enter 298 = .ok (.iload 7, 2) := by decide +kernel
theorem dX9_enter_300 : decode cX9_enter 300 = .ok (.if_icmp .ge 36, 3) := by decide +kernel
theorem dX9_enter_303 : decode cX9_enter 303 = .ok (.aload_n 0, 1) := by decide +kernel
theorem dX9_enter_304 : decode cX9_enter 304 = .ok (.getfield 92, 3) := by decide +kernel
theorem dX9_enter_307 : decode cX9_enter 307 = .ok (.aload_n 0, 1) := by decide +kernel
theorem dX9_enter_308 : decode cX9_enter 308 = .ok (.getfield 95, 3) := by decide +kernel
theorem dX9_enter_311 : decode cX9_enter 311 = .ok (.iconst 3, 1) := by decide +kernel
theorem dX9_enter_312 : decode cX9_enter 312 = .ok (.iload 13, 2) := by decide +kernel
theorem dX9_enter_314 : decode cX9_enter 314 = .ok (.imul, 1) := by decide +kernel
theorem dX9_enter_315 : decode cX9_enter 315 = .ok (.iaload, 1) := by decide +kernel
theorem dX9_enter_316 : decode cX9_enter 316 = .ok (.iload 14, 2) := by decide +kernel
theorem dX9_enter_318 : decode cX9_enter 318 = .ok (.iadd, 1) := by decide +kernel
theorem dX9_enter_319 : decode cX9_enter 319 = .ok (.aload_n 0, 1) := by decide +kernel
theorem dX9_enter_320 : decode cX9_enter 320 = .ok (.getfield 89, 3) := by decide +kernel
theorem dX9_enter_323 : decode cX9_enter 323 = .ok (.iload 9, 2) := by decide +kernel
theorem dX9_enter_325 : decode cX9_enter 325 = .ok (.iload 14, 2) := by decide +kernel
theorem dX9_enter_327 : decode cX9_enter 327 = .ok (.iadd, 1) := by decide +kernel
theorem dX9_enter_328 : decode cX9_enter 328 = .ok (.iaload, 1) := by decide +kernel
theorem dX9_enter_329 : decode cX9_enter 329 = .ok (.iastore, 1) := by decide +kernel
theorem dX9_enter_330 : decode cX9_enter 330 = .ok (.iinc 14 1, 3) := by decide +kernel
theorem dX9_enter_333 : decode cX9_enter 333 = .ok (.goto (-37), 3) := by decide +kernel
theorem dX9_enter_336 : decode cX9_enter 336 = .ok (.aload_n 0, 1) := by decide +kernel
theorem dX9_enter_337 : decode cX9_enter 337 = .ok (.aload_n 0, 1) := by decide +kernel
theorem dX9_enter_338 : decode cX9_enter 338 = .ok (.getfield 29, 3) := by decide +kernel
theorem dX9_enter_341 : decode cX9_enter 341 = .ok (.iload 6, 2) := by decide +kernel
theorem dX9_enter_343 : decode cX9_enter 343 = .ok (.iaload, 1) := by decide +kernel
theorem dX9_enter_344 : decode cX9_enter 344 = .ok (.iload 13, 2) := by decide +kernel
theorem dX9_enter_346 : decode cX9_enter 346 = .ok (.iconst 0, 1) := by decide +kernel
theorem dX9_enter_347 : decode cX9_enter 347 = .ok (.invokevirtual 428, 3) := by decide +kernel
theorem dX9_enter_350 : decode cX9_enter 350 = .ok (.return_, 1) := by decide +kernel
set_option maxRecDepth 20000 in
theorem ggX9_leave_X9_loopAround : GoodIn wsX9_leave wsX9_loopAround := goodIn_r _ [12, 13, 7, 1, 41, 42, 43, 44, 45, 46, 47, 48, 49, 50, 51, 52, 53, 54, 55, 56, 57, 58, 59, 60, 61, 62, 63, 64, 65, 66, 67, 68, 69, 70, 71, 72, 73, 74, 75, 76, 77, 78, 79, 80, 81, 82, 83, 84, 85, 86, 87, 88, 89, 90, 91, 92, 93, 94, 95, 96, 97, 98, 99, 100] (by decide +kernel) (by decide +kernel)
set_option maxRecDepth 20000 in
theorem gX9_leave_X9_loopAround : GoodIn wsX9_leave (wsV RX9 243 RX9 yX9_loopAround wsX9_loopAround) := goodIn_app (goodIn_of _ (by decide +kernel)) ggX9_leave_X9_loopAround
set_option maxRecDepth 20000 in
theorem ggX9_leave_X9_loopOutside : GoodIn wsX9_leave wsX9_loopOutside := goodIn_r _ [17, 4, 18, 19, 20, 11, 21, 22, 7, 1, 23, 24, 25, 26, 13, 27, 41, 42, 43, 44, 45, 46, 47, 48, 49, 50, 51, 52, 53, 54, 55, 56, 57, 58, 59, 60, 61, 62, 63, 64, 65, 66, 67, 68, 69, 70, 71, 72, 73, 74, 75, 76, 77, 78, 79, 80, 81, 82, 83, 84, 85, 86, 87, 88, 89, 90, 91, 92, 93, 94, 95, 96, 97, 98, 99, 100] (by decide +kernel) (by decide +kernel)
set_option maxRecDepth 20000 in
theorem gX9_leave_X9_loopOutside : GoodIn wsX9_leave (wsV RX9 267 RX9 yX9_loopOutside wsX9_loopOutside) := goodIn_app (goodIn_of _ (by decide +kernel)) ggX9_leave_X9_loopOutside
set_option maxRecDepth 20000 in
theorem ggX9_leave_X9_stop : GoodIn wsX9_leave wsX9_stop := goodIn_r _ [31, 32, 33, 41, 42, 43, 44, 45, 46, 47, 48, 49, 50, 51, 52, 53, 54, 55, 56, 57, 58, 59, 60, 61, 62, 63, 64, 65, 66, 67, 68, 69, 70, 71, 72, 73, 74, 75, 76, 77, 78, 79, 80, 81, 82, 83, 84, 85, 86, 87, 88, 89, 90, 91, 92, 93, 94, 95, 96, 97, 98, 99, 100] (by decide +kernel) (by decide +kernel)
set_option maxRecDepth 20000 in
theorem gX9_leave_X9_stop : GoodIn wsX9_leave (wsV RX9 355 RX9 yX9_stop wsX9_stop) := goodIn_app (goodIn_of _ (by decide +kernel)) ggX9_leave_X9_stop
set_option maxRecDepth 20000 in
theorem ggX9_leave_X9_cutTo : GoodIn wsX9_leave wsX9_cutTo := goodIn_r _ [37, 5, 6, 38, 39, 40, 41, 42, 43, 44, 45, 46, 47, 48, 49, 50, 51, 52, 53, 54, 55, 56, 57, 58, 59, 60, 61, 62, 63, 64, 65, 66, 67, 68, 69, 70, 71, 72, 73, 74, 75, 76, 77, 78, 79, 80, 81, 82, 83, 84, 85, 86, 87, 88, 89, 90, 91, 92, 93, 94, 95, 96, 97, 98, 99, 100] (by decide +kernel) (by decide +kernel)
set_option maxRecDepth 20000 in
theorem gX9_leave_X9_cutTo : GoodIn wsX9_leave (wsV RX9 437 RX9 yX9_cutTo wsX9_cutTo) := goodIn_app (goodIn_of _ (by decide +kernel)) ggX9_leave_X9_cutTo
theorem dX9_leave_0 : decode cX9_leave 0 = .ok (.aload_n 0, 1) := by decide +kernel
theorem dX9_leave_1 : decode cX9_leave 1 = .ok (.iload_n 1, 1) := by decide +kernel
theorem dX9_leave_2 : decode cX9_leave 2 = .ok (.aload_n 0, 1) := by decide +kernel
theorem dX9_leave_3 : decode cX9_leave 3 = .ok (.getfield 50, 3) := by decide +kernel
theorem dX9_leave_6 : decode cX9_leave 6 = .ok (.iload_n 1, 1) := by decide +kernel
theorem dX9_leave_7 : decode cX9_leave 7 = .ok (.iaload, 1) := by decide +kernel
theorem dX9_leave_8 : decode cX9_leave 8 = .ok (.invokevirtual 243, 3) := by decide +kernel
theorem dX9_leave_11 : decode cX9_leave 11 = .ok (.istore_n 3, 1) := by decide +kernel
theorem dX9_leave_12 : decode cX9_leave 12 = .ok (.iload_n 2, 1) := by decide +kernel
theorem dX9_leave_13 : decode cX9_leave 13 = .ok (.istore 4, 2) := by decide +kernel
theorem dX9_leave_15 : decode cX9_leave 15 = .ok (.iload_n 3, 1) := by decide +kernel
theorem dX9_leave_16 : decode cX9_leave 16 = .ok (.iconst (-1), 1) := by decide +kernel
theorem dX9_leave_17 : decode cX9_leave 17 = .ok (.if_icmp .ne 61, 3) := by decide +kernel
theorem dX9_leave_20 : decode cX9_leave 20 = .ok (.aload_n 0, 1) := by decide +kernel
theorem dX9_leave_21 : decode cX9_leave 21 = .ok (.aload_n 0, 1) := by decide +kernel
theorem dX9_leave_22 : decode cX9_leave 22 = .ok (.getfield 104, 3) := by decide +kernel
theorem dX9_leave_25 : decode cX9_leave 25 = .ok (.iload_n 1, 1) := by decide +kernel
theorem dX9_leave_26 : decode cX9_leave 26 = .ok (.iaload, 1) := by decide +kernel
theorem dX9_leave_27 : decode cX9_leave 27 = .ok (.aload_n 0, 1) := by decide +kernel
theorem dX9_leave_28 : decode cX9_leave 28 = .ok (.getfield 50, 3) := by decide +kernel
theorem dX9_leave_31 : decode cX9_leave 31 = .ok (.iload_n 1, 1) := by decide +kernel
theorem dX9_leave_32 : decode cX9_leave 32 = .ok (.iaload, 1) := by decide +kernel
theorem dX9_leave_33 : decode cX9_leave 33 = .ok (.invokevirtual 267, 3) := by decide +kernel
theorem dX9_leave_36 : decode cX9_leave 36 = .ok (.istore 5, 2) := by decide +kernel
theorem dX9_leave_38 : decode cX9_leave 38 = .ok (.aload_n 0, 1) := by decide +kernel
theorem dX9_leave_39 : decode cX9_leave 39 = .ok (.getfield 104, 3) := by decide +kernel
theorem dX9_leave_42 : decode cX9_leave 42 = .ok (.iload_n 1, 1) := by decide +kernel
theorem dX9_leave_43 : decode cX9_leave 43 = .ok (.iaload, 1) := by decide +kernel
theorem dX9_leave_44 : decode cX9_leave 44 = .ok (.istore 6, 2) := by decide +kernel
theorem dX9_leave_46 : decode cX9_leave 46 = .ok (.iload 6, 2) := by decide +kernel
theorem dX9_leave_48 : decode cX9_leave 48 = .ok (.iload 5, 2) := by decide +kernel
theorem dX9_leave_50 : decode cX9_leave 50 = .ok (.if_icmp .eq 28, 3) := by decide +kernel
theorem dX9_leave_53 : decode cX9_leave 53 = .ok (.aload_n 0, 1) := by decide +kernel
theorem dX9_leave_54 : decode cX9_leave 54 = .ok (.getfield 95, 3) := by decide +kernel
theorem dX9_leave_57 : decode cX9_leave 57 = .ok (.iconst 3, 1) := by decide +kernel
theorem dX9_leave_58 : decode cX9_leave 58 = .ok (.iload 4, 2) := by decide +kernel
theorem dX9_leave_60 : decode cX9_leave 60 = .ok (.imul, 1) := by decide +kernel
theorem dX9_leave_61 : decode cX9_leave 61 = .ok (.iconst 1, 1) := by decide +kernel
theorem dX9_leave_62 : decode cX9_leave 62 = .ok (.iadd, 1) := by decide +kernel
theorem dX9_leave_63 : decode cX9_leave 63 = .ok (.iaload, 1) := by decide +kernel
theorem dX9_leave_64 : decode cX9_leave 64 = .ok (.istore 4, 2) := by decide +kernel
theorem dX9_leave_66 : decode cX9_leave 66 = .ok (.aload_n 0, 1) := by decide +kernel
theorem dX9_leave_67 : decode cX9_leave 67 = .ok (.getfield 13, 3) := by decide +kernel
theorem dX9_leave_70 : decode cX9_leave 70 = .ok (.iload 6, 2) := by decide +kernel
theorem dX9_leave_72 : decode cX9_leave 72 = .ok (.iaload, 1) := by decide +kernel
theorem dX9_leave_73 : decode cX9_leave 73 = .ok (.istore 6, 2) := by decide +kernel
theorem dX9_leave_75 : decode cX9_leave 75 = .ok (.goto (-29), 3) := by decide +kernel
theorem dX9_leave_78 : decode cX9_leave 78 = .ok (.aload_n 0, 1) := by decide +kernel
theorem dX9_leave_79 : decode cX9_leave 79 = .ok (.getfield 358, 3) := by decide +kernel
theorem dX9_leave_82 : decode cX9_leave 82 = .ok (.iconst 1, 1) := by decide +kernel
theorem dX9_leave_83 : decode cX9_leave 83 = .ok (.isub, 1) := by decide +kernel
theorem dX9_leave_84 : decode cX9_leave 84 = .ok (.istore 5, 2) := by decide +kernel
theorem dX9_leave_86 : decode cX9_leave 86 = .ok (.iload 5, 2) := by decide +kernel
theorem dX9_leave_88 : decode cX9_leave 88 = .ok (.ifCond .lt 70, 3) := by decide +kernel
theorem dX9_leave_91 : decode cX9_leave 91 = .ok (.aload_n 0, 1) := by decide +kernel
theorem dX9_leave_92 : decode cX9_leave 92 = .ok (.getfield 86, 3) := by decide +kernel
theorem dX9_leave_95 : decode cX9_leave 95 = .ok (.bipush 7, 2) := by decide +kernel
theorem dX9_leave_97 : decode cX9_leave 97 = .ok (.iload 5, 2) := by decide +kernel
theorem dX9_leave_99 : decode cX9_leave 99 = .ok (.imul, 1) := by decide +kernel
theorem dX9_leave_100 : decode cX9_leave 100 = .ok (.iconst 2, 1) := by decide +kernel
theorem dX9_leave_101 : decode cX9_leave 101 = .ok (.iadd, 1) := by decide +kernel
theorem dX9_leave_102 : decode cX9_leave 102 = .ok (.iaload, 1) := by decide +kernel
theorem dX9_leave_103 : decode cX9_leave 103 = .ok (.iload 4, 2) := by decide +kernel
theorem dX9_leave_105 : decode cX9_leave 105 = .ok (.if_icmp .ne 47, 3) := by decide +kernel
theorem dX9_leave_108 : decode cX9_leave 108 = .ok (.aload_n 0, 1) := by decide +kernel
theorem dX9_leave_109 : decode cX9_leave 109 = .ok (.getfield 47, 3) := by decide +kernel
theorem dX9_leave_112 : decode cX9_leave 112 = .ok (.aload_n 0, 1) := by decide +kernel
theorem dX9_leave_113 : decode cX9_leave 113 = .ok (.getfield 86, 3) := by decide +kernel
theorem dX9_leave_116 : decode cX9_leave 116 = .ok (.bipush 7, 2) := by decide +kernel
theorem dX9_leave_118 : decode cX9_leave 118 = .ok (.iload 5, 2) := by decide +kernel
theorem dX9_leave_120 : decode cX9_leave 120 = .ok (.imul, 1) := by decide +kernel
theorem dX9_leave_121 : decode cX9_leave 121 = .ok (.iaload, 1) := by decide +kernel
theorem dX9_leave_122 : decode cX9_leave 122 = .ok (.iaload, 1) := by decide +kernel
theorem dX9_leave_123 : decode cX9_leave 123 = .ok (.bipush 16, 2) := by decide +kernel
theorem dX9_leave_125 : decode cX9_leave 125 = .ok (.if_icmp .ne 27, 3) := by decide +kernel
theorem dX9_leave_128 : decode cX9_leave 128 = .ok (.aload_n 0, 1) := by decide +kernel
theorem dX9_leave_129 : decode cX9_leave 129 = .ok (.getfield 50, 3) := by decide +kernel
theorem dX9_leave_132 : decode cX9_leave 132 = .ok (.aload_n 0, 1) := by decide +kernel
theorem dX9_leave_133 : decode cX9_leave 133 = .ok (.getfield 86, 3) := by decide +kernel
theorem dX9_leave_136 : decode cX9_leave 136 = .ok (.bipush 7, 2) := by decide +kernel
theorem dX9_leave_138 : decode cX9_leave 138 = .ok (.iload 5, 2) := by decide +kernel
theorem dX9_leave_140 : decode cX9_leave 140 = .ok (.imul, 1) := by decide +kernel
theorem dX9_leave_141 : decode cX9_leave 141 = .ok (.iaload, 1) := by decide +kernel
theorem dX9_leave_142 : decode cX9_leave 142 = .ok (.iaload, 1) := by decide +kernel
theorem dX9_leave_143 : decode cX9_leave 143 = .ok (.aload_n 0, 1) := by decide +kernel
theorem dX9_leave_144 : decode cX9_leave 144 = .ok (.getfield 50, 3) := by decide +kernel
theorem dX9_leave_147 : decode cX9_leave 147 = .ok (.iload_n 1, 1) := by decide +kernel
theorem dX9_leave_148 : decode cX9_leave 148 = .ok (.iaload, 1) := by decide +kernel
theorem dX9_leave_149 : decode cX9_leave 149 = .ok (.if_icmp .eq 9, 3) := by decide +kernel
theorem dX9_leave_152 : decode cX9_leave 152 = .ok (.iinc 5 (-1), 3) := by decide +kernel
theorem dX9_leave_155 : decode cX9_leave 155 = .ok (.goto (-69), 3) := by decide +kernel
theorem dX9_leave_158 : decode cX9_leave 158 = .ok (.iload 5, 2) := by decide +kernel
theorem dX9_leave_160 : decode cX9_leave 160 = .ok (.ifCond .ge 12, 3) := by decide +kernel
theorem dX9_leave_163 : decode cX9_leave 163 = .ok (.aload_n 0, 1) := by decide +kernel
theorem dX9_leave_164 : decode cX9_leave 164 = .ok (.iconst 5, 1) := by decide +kernel
theorem dX9_leave_165 : decode cX9_leave 165 = .ok (.iload_n 1, 1) := by decide +kernel
theorem dX9_leave_166 : decode cX9_leave 166 = .ok (.invokevirtual 355, 3) := by decide +kernel
theorem dX9_leave_169 : decode cX9_leave 169 = .ok (.goto 9, 3) := by decide +kernel
theorem dX9_leave_172 : decode cX9_leave 172 = .ok (.aload_n 0, 1) := by decide +kernel
theorem dX9_leave_173 : decode cX9_leave 173 = .ok (.iload 5, 2) := by decide +kernel
theorem dX9_leave_175 : decode cX9_leave 175 = .ok (.invokevirtual 437, 3) := by decide +kernel
theorem dX9_leave_178 : decode cX9_leave 178 = .ok (.return_, 1) := by decide +kernel
set_option maxRecDepth 20000 in
theorem ggX9_state_X9_begin : GoodIn wsX9_state wsX9_begin := goodIn_r _ [15, 16, 17, 18, 10, 8, 19, 20, 21, 22, 23, 14, 24, 9, 25, 26, 27, 28, 29, 30, 31, 32, 33, 34, 35, 36, 37, 103, 104, 105, 106, 107, 108, 109, 110, 111, 112, 113, 114, 115, 116, 117, 118, 119, 120, 121, 122, 123, 124, 125, 126, 127, 128, 129, 130, 131, 132, 133, 134, 135, 136, 137, 138, 139, 140, 141, 142, 143, 144, 145, 146, 147, 148, 149, 150, 151, 152, 153, 154, 155, 156, 157, 158, 159, 160, 161, 162] (by decide +kernel) (by decide +kernel)
set_option maxRecDepth 20000 in
theorem gX9_state_X9_begin : GoodIn wsX9_state (wsV RX9 428 RX9 yX9_begin wsX9_begin) := goodIn_app (goodIn_of _ (by decide +kernel)) ggX9_state_X9_begin
set_option maxRecDepth 20000 in
theorem ggX9_state_X9_slot : GoodIn wsX9_state wsX9_slot := goodIn_r _ [41, 42, 5, 6, 43, 44, 45, 14, 46, 47, 48, 49, 50, 51, 52, 53, 54, 55, 56, 57, 58, 59, 60, 61, 103, 104, 105, 106, 107, 108, 109, 110, 111, 112, 113, 114, 115, 116, 117, 118, 119, 120, 121, 122, 123, 124, 125, 126, 127, 128, 129, 130, 131, 132, 133, 134, 135, 136, 137, 138, 139, 140, 141, 142, 143, 144, 145, 146, 147, 148, 149, 150, 151, 152, 153, 154, 155, 156, 157, 158, 159, 160, 161, 162] (by decide +kernel) (by decide +kernel)
set_option maxRecDepth 20000 in
theorem gX9_state_X9_slot : GoodIn wsX9_state (wsV RX9 416 RX9 yX9_slot wsX9_slot) := goodIn_app (goodIn_of _ (by decide +kernel)) ggX9_state_X9_slot
set_option maxRecDepth 20000 in
theorem ggX9_state_X9_whatIs : GoodIn wsX9_state wsX9_whatIs := goodIn_r _ [65, 51, 58, 59, 60, 14, 61, 52, 103, 104, 105, 106, 107, 108, 109, 110, 111, 112, 113, 114, 115, 116, 117, 118, 119, 120, 121, 122, 123, 124, 125, 126, 127, 128, 129, 130, 131, 132, 133, 134, 135, 136, 137, 138, 139, 140, 141, 142, 143, 144, 145, 146, 147, 148, 149, 150, 151, 152, 153, 154, 155, 156, 157, 158, 159, 160, 161, 162] (by decide +kernel) (by decide +kernel)
set_option maxRecDepth 20000 in
theorem gX9_state_X9_whatIs : GoodIn wsX9_state (wsV RX9 153 RX9 yX9_whatIs wsX9_whatIs) := goodIn_app (goodIn_of _ (by decide +kernel)) ggX9_state_X9_whatIs
set_option maxRecDepth 20000 in
theorem ggX9_state_X9_take : GoodIn wsX9_state wsX9_take := goodIn_r _ [69, 70, 8, 103, 104, 105, 106, 107, 108, 109, 110, 111, 112, 113, 114, 115, 116, 117, 118, 119, 120, 121, 122, 123, 124, 125, 126, 127, 128, 129, 130, 131, 132, 133, 134, 135, 136, 137, 138, 139, 140, 141, 142, 143, 144, 145, 146, 147, 148, 149, 150, 151, 152, 153, 154, 155, 156, 157, 158, 159, 160, 161, 162] (by decide +kernel) (by decide +kernel)
set_option maxRecDepth 20000 in
theorem gX9_state_X9_take : GoodIn wsX9_state (wsV RX9 431 RX9 yX9_take wsX9_take) := goodIn_app (goodIn_of _ (by decide +kernel)) ggX9_state_X9_take
set_option maxRecDepth 20000 in
theorem ggX9_state_X9_store : GoodIn wsX9_state wsX9_store := goodIn_r _ [74, 7, 75, 66, 67, 68, 14, 69, 70, 8, 38, 39, 40, 41, 42, 5, 6, 43, 44, 45, 46, 47, 48, 49, 50, 51, 52, 53, 54, 55, 56, 57, 58, 59, 60, 61, 76, 77, 78, 21, 22, 23, 24, 9, 25, 103, 104, 105, 106, 107, 108, 109, 110, 111, 112, 113, 114, 115, 116, 117, 118, 119, 120, 121, 122, 123, 124, 125, 126, 127, 128, 129, 130, 131, 132, 133, 134, 135, 136, 137, 138, 139, 140, 141, 142, 143, 144, 145, 146, 147, 148, 149, 150, 151, 152, 153, 154, 155, 156, 157, 158, 159, 160, 161, 162] (by decide +kernel) (by decide +kernel)
set_option maxRecDepth 20000 in
theorem gX9_state_X9_store : GoodIn wsX9_state (wsV RX9 450 RX9 yX9_store wsX9_store) := goodIn_app (goodIn_of _ (by decide +kernel)) ggX9_state_X9_store
set_option maxRecDepth 20000 in
theorem ggX9_state_X9_turn : GoodIn wsX9_state wsX9_turn := goodIn_r _ [82, 10, 3, 18, 1, 4, 6, 11, 12, 13, 14, 15, 16, 17, 8, 19, 20, 21, 22, 23, 24, 9, 25, 26, 27, 28, 29, 30, 31, 32, 33, 34, 35, 36, 37, 66, 67, 68, 69, 70, 103, 104, 105, 106, 107, 108, 109, 110, 111, 112, 113, 114, 115, 116, 117, 118, 119, 120, 121, 122, 123, 124, 125, 126, 127, 128, 129, 130, 131, 132, 133, 134, 135, 136, 137, 138, 139, 140, 141, 142, 143, 144, 145, 146, 147, 148, 149, 150, 151, 152, 153, 154, 155, 156, 157, 158, 159, 160, 161, 162] (by decide +kernel) (by decide +kernel)
set_option maxRecDepth 20000 in
theorem gX9_state_X9_turn : GoodIn wsX9_state (wsV RX9 453 RX9 yX9_turn wsX9_turn) := goodIn_app (goodIn_of _ (by decide +kernel)) ggX9_state_X9_turn
set_option maxRecDepth 20000 in
theorem ggX9_state_X9_give : GoodIn wsX9_state wsX9_give := goodIn_r _ [86, 42, 87, 10, 88, 89, 90, 14, 91, 18, 8, 19, 20, 92, 93, 94, 95, 70, 26, 27, 28, 29, 30, 31, 32, 33, 34, 35, 36, 37, 103, 104, 105, 106, 107, 108, 109, 110, 111, 112, 113, 114, 115, 116, 117, 118, 119, 120, 121, 122, 123, 124, 125, 126, 127, 128, 129, 130, 131, 132, 133, 134, 135, 136, 137, 138, 139, 140, 141, 142, 143, 144, 145, 146, 147, 148, 149, 150, 151, 152, 153, 154, 155, 156, 157, 158, 159, 160, 161, 162] (by decide +kernel) (by decide +kernel)
set_option maxRecDepth 20000 in
theorem gX9_state_X9_give : GoodIn wsX9_state (wsV RX9 456 RX9 yX9_give wsX9_give) := goodIn_app (goodIn_of _ (by decide +kernel)) ggX9_state_X9_give
set_option maxRecDepth 20000 in
theorem ggX9_state_X9_print : GoodIn wsX9_state wsX9_print := goodIn_r _ [99, 100, 101, 102, 16, 26, 27, 14, 28, 29, 30, 31, 32, 33, 34, 35, 36, 37, 103, 104, 105, 106, 107, 108, 109, 110, 111, 112, 113, 114, 115, 116, 117, 118, 119, 120, 121, 122, 123, 124, 125, 126, 127, 128, 129, 130, 131, 132, 133, 134, 135, 136, 137, 138, 139, 140, 141, 142, 143, 144, 145, 146, 147, 148, 149, 150, 151, 152, 153, 154, 155, 156, 157, 158, 159, 160, 161, 162] (by decide +kernel) (by decide +kernel)
set_option maxRecDepth 20000 in
theorem gX9_state_X9_print : GoodIn wsX9_state (wsV RX9 459 RX9 yX9_print wsX9_print) := goodIn_app (goodIn_of _ (by decide +kernel)) ggX9_state_X9_print
theorem dX9_state_0 : decode cX9_state 0 = .ok (.iload_n 2, 1) := by decide +kernel
theorem dX9_state_1 : decode cX9_state 1 = .ok (.ifCond .ne 29, 3) := by decide +kernel
theorem dX9_state_4 : decode cX9_state 4 = .ok (.aload_n 0, 1) := by decide +kernel
theorem dX9_state_5 : decode cX9_state 5 = .ok (.aload_n 0, 1) := by decide +kernel
theorem dX9_state_6 : decode cX9_state 6 = .ok (.getfield 53, 3) := by decide +kernel
theorem dX9_state_9 : decode cX9_state 9 = .ok (.iload_n 1, 1) := by decide +kernel
theorem dX9_state_10 : decode cX9_state 10 = .ok (.iaload, 1) := by decide +kernel
theorem dX9_state_11 : decode cX9_state 11 = .ok (.iload_n 3, 1) := by decide +kernel
theorem dX9_state_12 : decode cX9_state 12 = .ok (.aload_n 0, 1) := by decide +kernel
theorem dX9_state_13 : decode cX9_state 13 = .ok (.getfield 110, 3) := by decide +kernel
theorem dX9_state_16 : decode cX9_state 16 = .ok (.iload_n 1, 1) := by decide +kernel
theorem dX9_state_17 : decode cX9_state 17 = .ok (.baload, 1) := by decide +kernel
theorem dX9_state_18 : decode cX9_state 18 = .ok (.ifCond .eq 7, 3) := by decide +kernel
theorem dX9_state_21 : decode cX9_state 21 = .ok (.iconst 1, 1) := by decide +kernel
theorem dX9_state_22 : decode cX9_state 22 = .ok (.goto 4, 3) := by decide +kernel
theorem dX9_state_25 : decode cX9_state 25 = .ok (.iconst 0, 1) := by decide +kernel
theorem dX9_state_26 : decode cX9_state 26 = .ok (.invokevirtual 428, 3) := by decide +kernel
theorem dX9_state_29 : decode cX9_state 29 = .ok (.return_, 1) := by decide +kernel
theorem dX9_state_30 : decode cX9_state 30 = .ok (.iconst 1, 1) := by decide +kernel
theorem dX9_state_31 : decode cX9_state 31 = .ok (.istore 4, 2) := by decide +kernel
theorem dX9_state_33 : decode cX9_state 33 = .ok (.aload_n 0, 1) := by decide +kernel
theorem dX9_state_34 : decode cX9_state 34 = .ok (.getfield 47, 3) := by decide +kernel
theorem dX9_state_37 : decode cX9_state 37 = .ok (.iload_n 1, 1) := by decide +kernel
theorem dX9_state_38 : decode cX9_state 38 = .ok (.iaload, 1) := by decide +kernel
theorem dX9_state_39 : decode cX9_state 39 = .ok (.tableswitch 222 12 21 #[53, 85, 147, 188, 188, 222, 200, 210, 222, 85], 53) := by decide +kernel
theorem dX9_state_92 : decode cX9_state 92 = .ok (.iload_n 2, 1) := by decide +kernel
theorem dX9_state_93 : decode cX9_state 93 = .ok (.iconst 2, 1) := by decide +kernel
theorem dX9_state_94 : decode cX9_state 94 = .ok (.if_icmp .ne 7, 3) := by decide +kernel
theorem dX9_state_97 : decode cX9_state 97 = .ok (.iconst 1, 1) := by decide +kernel
theorem dX9_state_98 : decode cX9_state 98 = .ok (.goto 4, 3) := by decide +kernel
theorem dX9_state_101 : decode cX9_state 101 = .ok (.iconst 0, 1) := by decide +kernel
theorem dX9_state_102 : decode cX9_state 102 = .ok (.istore 4, 2) := by decide +kernel
theorem dX9_state_104 : decode cX9_state 104 = .ok (.iload 4, 2) := by decide +kernel
theorem dX9_state_106 : decode cX9_state 106 = .ok (.ifCond .ne 165, 3) := by decide +kernel
theorem dX9_state_109 : decode cX9_state 109 = .ok (.aload_n 0, 1) := by decide +kernel
theorem dX9_state_110 : decode cX9_state 110 = .ok (.aload_n 0, 1) := by decide +kernel
theorem dX9_state_111 : decode cX9_state 111 = .ok (.getfield 56, 3) := by decide +kernel
theorem dX9_state_114 : decode cX9_state 114 = .ok (.iload_n 1, 1) := by decide +kernel
theorem dX9_state_115 : decode cX9_state 115 = .ok (.iaload, 1) := by decide +kernel
theorem dX9_state_116 : decode cX9_state 116 = .ok (.iload_n 3, 1) := by decide +kernel
theorem dX9_state_117 : decode cX9_state 117 = .ok (.iconst 0, 1) := by decide +kernel
theorem dX9_state_118 : decode cX9_state 118 = .ok (.invokevirtual 428, 3) := by decide +kernel
theorem dX9_state_121 : decode cX9_state 121 = .ok (.goto 150, 3) := by decide +kernel
theorem dX9_state_124 : decode cX9_state 124 = .ok (.aload_n 0, 1) := by decide +kernel
theorem dX9_state_125 : decode cX9_state 125 = .ok (.iload_n 1, 1) := by decide +kernel
theorem dX9_state_126 : decode cX9_state 126 = .ok (.iload_n 3, 1) := by decide +kernel
theorem dX9_state_127 : decode cX9_state 127 = .ok (.invokevirtual 416, 3) := by decide +kernel
theorem dX9_state_130 : decode cX9_state 130 = .ok (.istore 5, 2) := by decide +kernel
theorem dX9_state_132 : decode cX9_state 132 = .ok (.aload_n 0, 1) := by decide +kernel
theorem dX9_state_133 : decode cX9_state 133 = .ok (.getfield 47, 3) := by decide +kernel
theorem dX9_state_136 : decode cX9_state 136 = .ok (.iload_n 1, 1) := by decide +kernel
theorem dX9_state_137 : decode cX9_state 137 = .ok (.iaload, 1) := by decide +kernel
theorem dX9_state_138 : decode cX9_state 138 = .ok (.bipush 13, 2) := by decide +kernel
theorem dX9_state_140 : decode cX9_state 140 = .ok (.if_icmp .ne 32, 3) := by decide +kernel
theorem dX9_state_143 : decode cX9_state 143 = .ok (.aload_n 0, 1) := by decide +kernel
theorem dX9_state_144 : decode cX9_state 144 = .ok (.aload_n 0, 1) := by decide +kernel
theorem dX9_state_145 : decode cX9_state 145 = .ok (.getfield 104, 3) := by decide +kernel
theorem dX9_state_148 : decode cX9_state 148 = .ok (.iload_n 1, 1) := by decide +kernel
theorem dX9_state_149 : decode cX9_state 149 = .ok (.iaload, 1) := by decide +kernel
theorem dX9_state_150 : decode cX9_state 150 = .ok (.aload_n 0, 1) := by decide +kernel
theorem dX9_state_151 : decode cX9_state 151 = .ok (.getfield 50, 3) := by decide +kernel
theorem dX9_state_154 : decode cX9_state 154 = .ok (.iload_n 1, 1) := by decide +kernel
theorem dX9_state_155 : decode cX9_state 155 = .ok (.iaload, 1) := by decide +kernel
theorem dX9_state_156 : decode cX9_state 156 = .ok (.invokevirtual 153, 3) := by decide +kernel
theorem dX9_state_159 : decode cX9_state 159 = .ok (.iconst 1, 1) := by decide +kernel
theorem dX9_state_160 : decode cX9_state 160 = .ok (.if_icmp .ne 12, 3) := by decide +kernel
theorem dX9_state_163 : decode cX9_state 163 = .ok (.aload_n 0, 1) := by decide +kernel
theorem dX9_state_164 : decode cX9_state 164 = .ok (.getfield 92, 3) := by decide +kernel
theorem dX9_state_167 : decode cX9_state 167 = .ok (.iload 5, 2) := by decide +kernel
theorem dX9_state_169 : decode cX9_state 169 = .ok (.iaload, 1) := by decide +kernel
theorem dX9_state_170 : decode cX9_state 170 = .ok (.istore 5, 2) := by decide +kernel
theorem dX9_state_172 : decode cX9_state 172 = .ok (.aload_n 0, 1) := by decide +kernel
theorem dX9_state_173 : decode cX9_state 173 = .ok (.getfield 92, 3) := by decide +kernel
theorem dX9_state_176 : decode cX9_state 176 = .ok (.iload 5, 2) := by decide +kernel
theorem dX9_state_178 : decode cX9_state 178 = .ok (.aload_n 0, 1) := by decide +kernel
theorem dX9_state_179 : decode cX9_state 179 = .ok (.invokevirtual 431, 3) := by decide +kernel
theorem dX9_state_182 : decode cX9_state 182 = .ok (.iastore, 1) := by decide +kernel
theorem dX9_state_183 : decode cX9_state 183 = .ok (.goto 88, 3) := by decide +kernel
theorem dX9_state_186 : decode cX9_state 186 = .ok (.iload_n 2, 1) := by decide +kernel
theorem dX9_state_187 : decode cX9_state 187 = .ok (.iconst 2, 1) := by decide +kernel
theorem dX9_state_188 : decode cX9_state 188 = .ok (.if_icmp .ne 7, 3) := by decide +kernel
theorem dX9_state_191 : decode cX9_state 191 = .ok (.iconst 1, 1) := by decide +kernel
theorem dX9_state_192 : decode cX9_state 192 = .ok (.goto 4, 3) := by decide +kernel
theorem dX9_state_195 : decode cX9_state 195 = .ok (.iconst 0, 1) := by decide +kernel
theorem dX9_state_196 : decode cX9_state 196 = .ok (.istore 4, 2) := by decide +kernel
theorem dX9_state_198 : decode cX9_state 198 = .ok (.iload 4, 2) := by decide +kernel
theorem dX9_state_200 : decode cX9_state 200 = .ok (.ifCond .eq 12, 3) := by decide +kernel
theorem dX9_state_203 : decode cX9_state 203 = .ok (.aload_n 0, 1) := by decide +kernel
theorem dX9_state_204 : decode cX9_state 204 = .ok (.iload_n 1, 1) := by decide +kernel
theorem dX9_state_205 : decode cX9_state 205 = .ok (.iload_n 3, 1) := by decide +kernel
theorem dX9_state_206 : decode cX9_state 206 = .ok (.invokevirtual 450, 3) := by decide +kernel
theorem dX9_state_209 : decode cX9_state 209 = .ok (.goto 62, 3) := by decide +kernel
theorem dX9_state_212 : decode cX9_state 212 = .ok (.aload_n 0, 1) := by decide +kernel
theorem dX9_state_213 : decode cX9_state 213 = .ok (.aload_n 0, 1) := by decide +kernel
theorem dX9_state_214 : decode cX9_state 214 = .ok (.getfield 56, 3) := by decide +kernel
theorem dX9_state_217 : decode cX9_state 217 = .ok (.iload_n 1, 1) := by decide +kernel
theorem dX9_state_218 : decode cX9_state 218 = .ok (.iaload, 1) := by decide +kernel
theorem dX9_state_219 : decode cX9_state 219 = .ok (.iload_n 3, 1) := by decide +kernel
theorem dX9_state_220 : decode cX9_state 220 = .ok (.iconst 0, 1) := by decide +kernel
theorem dX9_state_221 : decode cX9_state 221 = .ok (.invokevirtual 428, 3) := by decide +kernel
theorem dX9_state_224 : decode cX9_state 224 = .ok (.goto 47, 3) := by decide +kernel
theorem dX9_state_227 : decode cX9_state 227 = .ok (.aload_n 0, 1) := by decide +kernel
theorem dX9_state_228 : decode cX9_state 228 = .ok (.iload_n 1, 1) := by decide +kernel
theorem dX9_state_229 : decode cX9_state 229 = .ok (.iload_n 2, 1) := by decide +kernel
theorem dX9_state_230 : decode cX9_state 230 = .ok (.iload_n 3, 1) := by decide +kernel
theorem dX9_state_231 : decode cX9_state 231 = .ok (.invokevirtual 453, 3) := by decide +kernel
theorem dX9_state_234 : decode cX9_state 234 = .ok (.istore 4, 2) := by decide +kernel
theorem dX9_state_236 : decode cX9_state 236 = .ok (.goto 35, 3) := by decide +kernel
theorem dX9_state_239 : decode cX9_state 239 = .ok (.aload_n 0, 1) := by decide +kernel
theorem dX9_state_240 : decode cX9_state 240 = .ok (.iload_n 3, 1) := by decide +kernel
theorem dX9_state_241 : decode cX9_state 241 = .ok (.aload_n 0, 1) := by decide +kernel
theorem dX9_state_242 : decode cX9_state 242 = .ok (.invokevirtual 431, 3) := by decide +kernel
theorem dX9_state_245 : decode cX9_state 245 = .ok (.invokevirtual 456, 3) := by decide +kernel
theorem dX9_state_248 : decode cX9_state 248 = .ok (.return_, 1) := by decide +kernel
theorem dX9_state_249 : decode cX9_state 249 = .ok (.aload_n 0, 1) := by decide +kernel
theorem dX9_state_250 : decode cX9_state 250 = .ok (.iload_n 1, 1) := by decide +kernel
theorem dX9_state_251 : decode cX9_state 251 = .ok (.aload_n 0, 1) := by decide +kernel
theorem dX9_state_252 : decode cX9_state 252 = .ok (.invokevirtual 431, 3) := by decide +kernel
theorem dX9_state_255 : decode cX9_state 255 = .ok (.invokevirtual 459, 3) := by decide +kernel
theorem dX9_state_258 : decode cX9_state 258 = .ok (.goto 13, 3) := by decide +kernel
theorem dX9_state_261 : decode cX9_state 261 = .ok (.aload_n 0, 1) := by decide +kernel
theorem dX9_state_262 : decode cX9_state 262 = .ok (.dup, 1) := by decide +kernel
theorem dX9_state_263 : decode cX9_state 263 = .ok (.getfield 342, 3) := by decide +kernel
theorem dX9_state_266 : decode cX9_state 266 = .ok (.iconst 1, 1) := by decide +kernel
theorem dX9_state_267 : decode cX9_state 267 = .ok (.isub, 1) := by decide +kernel
theorem dX9_state_268 : decode cX9_state 268 = .ok (.putfield 342, 3) := by decide +kernel
theorem dX9_state_271 : decode cX9_state 271 = .ok (.iload 4, 2) := by decide +kernel
theorem dX9_state_273 : decode cX9_state 273 = .ok (.ifCond .eq 20, 3) := by decide +kernel
theorem dX9_state_276 : decode cX9_state 276 = .ok (.aload_n 0, 1) := by decide +kernel
theorem dX9_state_277 : decode cX9_state 277 = .ok (.getfield 336, 3) := by decide +kernel
theorem dX9_state_280 : decode cX9_state 280 = .ok (.ifCond .ne 13, 3) := by decide +kernel
theorem dX9_state_283 : decode cX9_state 283 = .ok (.aload_n 0, 1) := by decide +kernel
theorem dX9_state_284 : decode cX9_state 284 = .ok (.dup, 1) := by decide +kernel
theorem dX9_state_285 : decode cX9_state 285 = .ok (.getfield 358, 3) := by decide +kernel
theorem dX9_state_288 : decode cX9_state 288 = .ok (.iconst 1, 1) := by decide +kernel
theorem dX9_state_289 : decode cX9_state 289 = .ok (.isub, 1) := by decide +kernel
theorem dX9_state_290 : decode cX9_state 290 = .ok (.putfield 358, 3) := by decide +kernel
theorem dX9_state_293 : decode cX9_state 293 = .ok (.return_, 1) := by decide +kernel
set_option maxRecDepth 20000 in
theorem ggX9_store_X9_take : GoodIn wsX9_store wsX9_take := goodIn_r _ [7, 8, 9, 45, 46, 47, 48, 49, 50, 51, 52, 53, 54, 55, 56, 57, 58, 59, 60, 61, 62, 63, 64, 65, 66, 67, 68, 69, 70, 71, 72, 73, 74, 75, 76, 77, 78, 79, 80, 81, 82, 83, 84, 85, 86, 87, 88, 89, 90, 91, 92, 93, 94, 95, 96, 97, 98, 99, 100, 101, 102, 103, 104] (by decide +kernel) (by decide +kernel)
set_option maxRecDepth 20000 in
theorem gX9_store_X9_take : GoodIn wsX9_store (wsV RX9 431 RX9 yX9_take wsX9_take) := goodIn_app (goodIn_of _ (by decide +kernel)) ggX9_store_X9_take
set_option maxRecDepth 20000 in
theorem ggX9_store_X9_slot : GoodIn wsX9_store wsX9_slot := goodIn_r _ [13, 14, 15, 16, 17, 18, 19, 6, 20, 21, 22, 23, 24, 25, 26, 27, 28, 29, 30, 31, 32, 33, 34, 35, 45, 46, 47, 48, 49, 50, 51, 52, 53, 54, 55, 56, 57, 58, 59, 60, 61, 62, 63, 64, 65, 66, 67, 68, 69, 70, 71, 72, 73, 74, 75, 76, 77, 78, 79, 80, 81, 82, 83, 84, 85, 86, 87, 88, 89, 90, 91, 92, 93, 94, 95, 96, 97, 98, 99, 100, 101, 102, 103, 104] (by decide +kernel) (by decide +kernel)
set_option maxRecDepth 20000 in
theorem gX9_store_X9_slot : GoodIn wsX9_store (wsV RX9 416 RX9 yX9_slot wsX9_slot) := goodIn_app (goodIn_of _ (by decide +kernel)) ggX9_store_X9_slot
set_option maxRecDepth 20000 in
theorem ggX9_store_X9_isIn : GoodIn wsX9_store wsX9_isIn := goodIn_r _ [38] (by decide +kernel) (by decide +kernel)
set_option maxRecDepth 20000 in
theorem gX9_store_X9_isIn : GoodIn wsX9_store (va_wsS RX9 117 yX9_isIn wsX9_isIn) := goodIn_app (goodIn_of _ (by decide +kernel)) ggX9_store_X9_isIn
set_option maxRecDepth 20000 in
theorem ggX9_store_X9_stop : GoodIn wsX9_store wsX9_stop := goodIn_r _ [42, 43, 44, 45, 46, 47, 48, 49, 50, 51, 52, 53, 54, 55, 56, 57, 58, 59, 60, 61, 62, 63, 64, 65, 66, 67, 68, 69, 70, 71, 72, 73, 74, 75, 76, 77, 78, 79, 80, 81, 82, 83, 84, 85, 86, 87, 88, 89, 90, 91, 92, 93, 94, 95, 96, 97, 98, 99, 100, 101, 102, 103, 104] (by decide +kernel) (by decide +kernel)
set_option maxRecDepth 20000 in
theorem gX9_store_X9_stop : GoodIn wsX9_store (wsV RX9 355 RX9 yX9_stop wsX9_stop) := goodIn_app (goodIn_of _ (by decide +kernel)) ggX9_store_X9_stop
theorem dX9_store_0 : decode cX9_store 0 = .ok (.aload_n 0, 1) := by decide +kernel
theorem dX9_store_1 : decode cX9_store 1 = .ok (.invokevirtual 431, 3) := by decide +kernel
theorem dX9_store_4 : decode cX9_store 4 = .ok (.istore_n 3, 1) := by decide +kernel
theorem dX9_store_5 : decode cX9_store 5 = .ok (.aload_n 0, 1) := by decide +kernel
theorem dX9_store_6 : decode cX9_store 6 = .ok (.invokevirtual 431, 3) := by decide +kernel
theorem dX9_store_9 : decode cX9_store 9 = .ok (.istore 4, 2) := by decide +kernel
theorem dX9_store_11 : decode cX9_store 11 = .ok (.aload_n 0, 1) := by decide +kernel
theorem dX9_store_12 : decode cX9_store 12 = .ok (.getfield 92, 3) := by decide +kernel
theorem dX9_store_15 : decode cX9_store 15 = .ok (.aload_n 0, 1) := by decide +kernel
theorem dX9_store_16 : decode cX9_store 16 = .ok (.iload_n 1, 1) := by decide +kernel
theorem dX9_store_17 : decode cX9_store 17 = .ok (.iload_n 2, 1) := by decide +kernel
theorem dX9_store_18 : decode cX9_store 18 = .ok (.invokevirtual 416, 3) := by decide +kernel
theorem dX9_store_21 : decode cX9_store 21 = .ok (.iaload, 1) := by decide +kernel
theorem dX9_store_22 : decode cX9_store 22 = .ok (.istore 5, 2) := by decide +kernel
theorem dX9_store_24 : decode cX9_store 24 = .ok (.iload 4, 2) := by decide +kernel
theorem dX9_store_26 : decode cX9_store 26 = .ok (.iconst 0, 1) := by decide +kernel
theorem dX9_store_27 : decode cX9_store 27 = .ok (.aload_n 0, 1) := by decide +kernel
theorem dX9_store_28 : decode cX9_store 28 = .ok (.getfield 98, 3) := by decide +kernel
theorem dX9_store_31 : decode cX9_store 31 = .ok (.iconst 2, 1) := by decide +kernel
theorem dX9_store_32 : decode cX9_store 32 = .ok (.iload 5, 2) := by decide +kernel
theorem dX9_store_34 : decode cX9_store 34 = .ok (.imul, 1) := by decide +kernel
theorem dX9_store_35 : decode cX9_store 35 = .ok (.iconst 1, 1) := by decide +kernel
theorem dX9_store_36 : decode cX9_store 36 = .ok (.iadd, 1) := by decide +kernel
theorem dX9_store_37 : decode cX9_store 37 = .ok (.iaload, 1) := by decide +kernel
theorem dX9_store_38 : decode cX9_store 38 = .ok (.iconst 1, 1) := by decide +kernel
theorem dX9_store_39 : decode cX9_store 39 = .ok (.isub, 1) := by decide +kernel
theorem dX9_store_40 : decode cX9_store 40 = .ok (.invokestatic 117, 3) := by decide +kernel
theorem dX9_store_43 : decode cX9_store 43 = .ok (.ifCond .eq 24, 3) := by decide +kernel
theorem dX9_store_46 : decode cX9_store 46 = .ok (.aload_n 0, 1) := by decide +kernel
theorem dX9_store_47 : decode cX9_store 47 = .ok (.getfield 92, 3) := by decide +kernel
theorem dX9_store_50 : decode cX9_store 50 = .ok (.aload_n 0, 1) := by decide +kernel
theorem dX9_store_51 : decode cX9_store 51 = .ok (.getfield 98, 3) := by decide +kernel
theorem dX9_store_54 : decode cX9_store 54 = .ok (.iconst 2, 1) := by decide +kernel
theorem dX9_store_55 : decode cX9_store 55 = .ok (.iload 5, 2) := by decide +kernel
theorem dX9_store_57 : decode cX9_store 57 = .ok (.imul, 1) := by decide +kernel
theorem dX9_store_58 : decode cX9_store 58 = .ok (.iaload, 1) := by decide +kernel
theorem dX9_store_59 : decode cX9_store 59 = .ok (.iload 4, 2) := by decide +kernel
theorem dX9_store_61 : decode cX9_store 61 = .ok (.iadd, 1) := by decide +kernel
theorem dX9_store_62 : decode cX9_store 62 = .ok (.iload_n 3, 1) := by decide +kernel
theorem dX9_store_63 : decode cX9_store 63 = .ok (.iastore, 1) := by decide +kernel
theorem dX9_store_64 : decode cX9_store 64 = .ok (.goto 9, 3) := by decide +kernel
theorem dX9_store_67 : decode cX9_store 67 = .ok (.aload_n 0, 1) := by decide +kernel
theorem dX9_store_68 : decode cX9_store 68 = .ok (.iconst 2, 1) := by decide +kernel
theorem dX9_store_69 : decode cX9_store 69 = .ok (.iload_n 1, 1) := by decide +kernel
theorem dX9_store_70 : decode cX9_store 70 = .ok (.invokevirtual 355, 3) := by decide +kernel
theorem dX9_store_73 : decode cX9_store 73 = .ok (.return_, 1) := by decide +kernel
set_option maxRecDepth 20000 in
theorem ggX9_turn_X9_begin : GoodIn wsX9_turn wsX9_begin := goodIn_r _ [11, 12, 13, 3, 1, 14, 15, 16, 17, 18, 19, 10, 20, 21, 22, 23, 24, 25, 26, 27, 28, 29, 30, 31, 32, 33, 34, 40, 41, 42, 43, 44, 45, 46, 47, 48, 49, 50, 51, 52, 53, 54, 55, 56, 57, 58, 59, 60, 61, 62, 63, 64, 65, 66, 67, 68, 69, 70, 71, 72, 73, 74, 75, 76, 77, 78, 79, 80, 81, 82, 83, 84, 85, 86, 87, 88, 89, 90, 91, 92, 93, 94, 95, 96, 97, 98, 99] (by decide +kernel) (by decide +kernel)
set_option maxRecDepth 20000 in
theorem gX9_turn_X9_begin : GoodIn wsX9_turn (wsV RX9 428 RX9 yX9_begin wsX9_begin) := goodIn_app (goodIn_of _ (by decide +kernel)) ggX9_turn_X9_begin
set_option maxRecDepth 20000 in
theorem ggX9_turn_X9_take : GoodIn wsX9_turn wsX9_take := goodIn_r _ [38, 39, 14, 40, 41, 42, 43, 44, 45, 46, 47, 48, 49, 50, 51, 52, 53, 54, 55, 56, 57, 58, 59, 60, 61, 62, 63, 64, 65, 66, 67, 68, 69, 70, 71, 72, 73, 74, 75, 76, 77, 78, 79, 80, 81, 82, 83, 84, 85, 86, 87, 88, 89, 90, 91, 92, 93, 94, 95, 96, 97, 98, 99] (by decide +kernel) (by decide +kernel)
set_option maxRecDepth 20000 in
theorem gX9_turn_X9_take : GoodIn wsX9_turn (wsV RX9 431 RX9 yX9_take wsX9_take) := goodIn_app (goodIn_of _ (by decide +kernel)) ggX9_turn_X9_take
theorem dX9_turn_0 : decode cX9_turn 0 = .ok (.bipush 7, 2) := by decide +kernel
theorem dX9_turn_2 : decode cX9_turn 2 = .ok (.aload_n 0, 1) := by decide +kernel
theorem dX9_turn_3 : decode cX9_turn 3 = .ok (.getfield 358, 3) := by decide +kernel
theorem dX9_turn_6 : decode cX9_turn 6 = .ok (.iconst 1, 1) := by decide +kernel
theorem dX9_turn_7 : decode cX9_turn 7 = .ok (.isub, 1) := by decide +kernel
theorem dX9_turn_8 : decode cX9_turn 8 = .ok (.imul, 1) := by decide +kernel
theorem dX9_turn_9 : decode cX9_turn 9 = .ok (.istore 4, 2) := by decide +kernel
theorem dX9_turn_11 : decode cX9_turn 11 = .ok (.iload_n 2, 1) := by decide +kernel
theorem dX9_turn_12 : decode cX9_turn 12 = .ok (.iconst 2, 1) := by decide +kernel
theorem dX9_turn_13 : decode cX9_turn 13 = .ok (.if_icmp .ne 38, 3) := by decide +kernel
theorem dX9_turn_16 : decode cX9_turn 16 = .ok (.aload_n 0, 1) := by decide +kernel
theorem dX9_turn_17 : decode cX9_turn 17 = .ok (.getfield 47, 3) := by decide +kernel
theorem dX9_turn_20 : decode cX9_turn 20 = .ok (.iload_n 1, 1) := by decide +kernel
theorem dX9_turn_21 : decode cX9_turn 21 = .ok (.iaload, 1) := by decide +kernel
theorem dX9_turn_22 : decode cX9_turn 22 = .ok (.bipush 16, 2) := by decide +kernel
theorem dX9_turn_24 : decode cX9_turn 24 = .ok (.if_icmp .ne 27, 3) := by decide +kernel
theorem dX9_turn_27 : decode cX9_turn 27 = .ok (.aload_n 0, 1) := by decide +kernel
theorem dX9_turn_28 : decode cX9_turn 28 = .ok (.getfield 86, 3) := by decide +kernel
theorem dX9_turn_31 : decode cX9_turn 31 = .ok (.iload 4, 2) := by decide +kernel
theorem dX9_turn_33 : decode cX9_turn 33 = .ok (.iconst 1, 1) := by decide +kernel
theorem dX9_turn_34 : decode cX9_turn 34 = .ok (.iadd, 1) := by decide +kernel
theorem dX9_turn_35 : decode cX9_turn 35 = .ok (.iconst 1, 1) := by decide +kernel
theorem dX9_turn_36 : decode cX9_turn 36 = .ok (.iastore, 1) := by decide +kernel
theorem dX9_turn_37 : decode cX9_turn 37 = .ok (.aload_n 0, 1) := by decide +kernel
theorem dX9_turn_38 : decode cX9_turn 38 = .ok (.aload_n 0, 1) := by decide +kernel
theorem dX9_turn_39 : decode cX9_turn 39 = .ok (.getfield 53, 3) := by decide +kernel
theorem dX9_turn_42 : decode cX9_turn 42 = .ok (.iload_n 1, 1) := by decide +kernel
theorem dX9_turn_43 : decode cX9_turn 43 = .ok (.iaload, 1) := by decide +kernel
theorem dX9_turn_44 : decode cX9_turn 44 = .ok (.iload_n 3, 1) := by decide +kernel
theorem dX9_turn_45 : decode cX9_turn 45 = .ok (.iconst 0, 1) := by decide +kernel
theorem dX9_turn_46 : decode cX9_turn 46 = .ok (.invokevirtual 428, 3) := by decide +kernel
theorem dX9_turn_49 : decode cX9_turn 49 = .ok (.iconst 0, 1) := by decide +kernel
theorem dX9_turn_50 : decode cX9_turn 50 = .ok (.ireturn, 1) := by decide +kernel
theorem dX9_turn_51 : decode cX9_turn 51 = .ok (.iload_n 2, 1) := by decide +kernel
theorem dX9_turn_52 : decode cX9_turn 52 = .ok (.iconst 2, 1) := by decide +kernel
theorem dX9_turn_53 : decode cX9_turn 53 = .ok (.if_icmp .ne 5, 3) := by decide +kernel
theorem dX9_turn_56 : decode cX9_turn 56 = .ok (.iconst 1, 1) := by decide +kernel
theorem dX9_turn_57 : decode cX9_turn 57 = .ok (.ireturn, 1) := by decide +kernel
theorem dX9_turn_58 : decode cX9_turn 58 = .ok (.aload_n 0, 1) := by decide +kernel
theorem dX9_turn_59 : decode cX9_turn 59 = .ok (.invokevirtual 431, 3) := by decide +kernel
theorem dX9_turn_62 : decode cX9_turn 62 = .ok (.ifCond .eq 7, 3) := by decide +kernel
theorem dX9_turn_65 : decode cX9_turn 65 = .ok (.iconst 1, 1) := by decide +kernel
theorem dX9_turn_66 : decode cX9_turn 66 = .ok (.goto 4, 3) := by decide +kernel
theorem dX9_turn_69 : decode cX9_turn 69 = .ok (.iconst 0, 1) := by decide +kernel
theorem dX9_turn_70 : decode cX9_turn 70 = .ok (.istore 5, 2) := by decide +kernel
theorem dX9_turn_72 : decode cX9_turn 72 = .ok (.iload 5, 2) := by decide +kernel
theorem dX9_turn_74 : decode cX9_turn 74 = .ok (.ifCond .eq 12, 3) := by decide +kernel
theorem dX9_turn_77 : decode cX9_turn 77 = .ok (.aload_n 0, 1) := by decide +kernel
theorem dX9_turn_78 : decode cX9_turn 78 = .ok (.getfield 56, 3) := by decide +kernel
theorem dX9_turn_81 : decode cX9_turn 81 = .ok (.iload_n 1, 1) := by decide +kernel
theorem dX9_turn_82 : decode cX9_turn 82 = .ok (.iaload, 1) := by decide +kernel
theorem dX9_turn_83 : decode cX9_turn 83 = .ok (.goto 24, 3) := by decide +kernel
theorem dX9_turn_86 : decode cX9_turn 86 = .ok (.aload_n 0, 1) := by decide +kernel
theorem dX9_turn_87 : decode cX9_turn 87 = .ok (.getfield 47, 3) := by decide +kernel
theorem dX9_turn_90 : decode cX9_turn 90 = .ok (.iload_n 1, 1) := by decide +kernel
theorem dX9_turn_91 : decode cX9_turn 91 = .ok (.iaload, 1) := by decide +kernel
theorem dX9_turn_92 : decode cX9_turn 92 = .ok (.bipush 15, 2) := by decide +kernel
theorem dX9_turn_94 : decode cX9_turn 94 = .ok (.if_icmp .ne 12, 3) := by decide +kernel
theorem dX9_turn_97 : decode cX9_turn 97 = .ok (.aload_n 0, 1) := by decide +kernel
theorem dX9_turn_98 : decode cX9_turn 98 = .ok (.getfield 50, 3) := by decide +kernel
theorem dX9_turn_101 : decode cX9_turn 101 = .ok (.iload_n 1, 1) := by decide +kernel
theorem dX9_turn_102 : decode cX9_turn 102 = .ok (.iaload, 1) := by decide +kernel
theorem dX9_turn_103 : decode cX9_turn 103 = .ok (.goto 4, 3) := by decide +kernel
theorem dX9_turn_106 : decode cX9_turn 106 = .ok (.iconst (-1), 1) := by decide +kernel
theorem dX9_turn_107 : decode cX9_turn 107 = .ok (.istore 6, 2) := by decide +kernel
theorem dX9_turn_109 : decode cX9_turn 109 = .ok (.iload 6, 2) := by decide +kernel
theorem dX9_turn_111 : decode cX9_turn 111 = .ok (.iconst (-1), 1) := by decide +kernel
theorem dX9_turn_112 : decode cX9_turn 112 = .ok (.if_icmp .eq 11, 3) := by decide +kernel
theorem dX9_turn_115 : decode cX9_turn 115 = .ok (.aload_n 0, 1) := by decide +kernel
theorem dX9_turn_116 : decode cX9_turn 116 = .ok (.iload 6, 2) := by decide +kernel
theorem dX9_turn_118 : decode cX9_turn 118 = .ok (.iload_n 3, 1) := by decide +kernel
theorem dX9_turn_119 : decode cX9_turn 119 = .ok (.iconst 0, 1) := by decide +kernel
theorem dX9_turn_120 : decode cX9_turn 120 = .ok (.invokevirtual 428, 3) := by decide +kernel
theorem dX9_turn_123 : decode cX9_turn 123 = .ok (.iload 6, 2) := by decide +kernel
theorem dX9_turn_125 : decode cX9_turn 125 = .ok (.iconst (-1), 1) := by decide +kernel
theorem dX9_turn_126 : decode cX9_turn 126 = .ok (.if_icmp .ne 7, 3) := by decide +kernel
theorem dX9_turn_129 : decode cX9_turn 129 = .ok (.iconst 1, 1) := by decide +kernel
theorem dX9_turn_130 : decode cX9_turn 130 = .ok (.goto 4, 3) := by decide +kernel
theorem dX9_turn_133 : decode cX9_turn 133 = .ok (.iconst 0, 1) := by decide +kernel
theorem dX9_turn_134 : decode cX9_turn 134 = .ok (.ireturn, 1) := by decide +kernel
set_option maxRecDepth 20000 in
theorem ggX9_give_X9_cutTo : GoodIn wsX9_give wsX9_cutTo := goodIn_r _ [8, 3, 9, 10, 11, 12, 30, 31, 32, 33, 34, 35, 36, 37, 38, 39, 40, 41, 42, 43, 44, 45, 46, 47, 48, 49, 50, 51, 52, 53, 54, 55, 56, 57, 58, 59, 60, 61, 62, 63, 64, 65, 66, 67, 68, 69, 70, 71, 72, 73, 74, 75, 76, 77, 78, 79, 80, 81, 82, 83, 84, 85, 86, 87, 88, 89] (by decide +kernel) (by decide +kernel)
set_option maxRecDepth 20000 in
theorem gX9_give_X9_cutTo : GoodIn wsX9_give (wsV RX9 437 RX9 yX9_cutTo wsX9_cutTo) := goodIn_app (goodIn_of _ (by decide +kernel)) ggX9_give_X9_cutTo
set_option maxRecDepth 20000 in
theorem ggX9_give_X9_put : GoodIn wsX9_give wsX9_put := goodIn_r _ [16, 17, 10, 18, 19, 7, 20, 21, 22, 23, 24, 25, 26, 27, 28, 29, 30, 31, 32, 33, 34, 35, 36, 37, 38, 39, 40, 41, 42, 43, 44, 45, 46, 47, 48, 49, 50, 51, 52, 53, 54, 55, 56, 57, 58, 59, 60, 61, 62, 63, 64, 65, 66, 67, 68, 69, 70, 71, 72, 73, 74, 75, 76, 77, 78, 79, 80, 81, 82, 83, 84, 85, 86, 87, 88, 89] (by decide +kernel) (by decide +kernel)
set_option maxRecDepth 20000 in
theorem gX9_give_X9_put : GoodIn wsX9_give (wsV RX9 367 RX9 yX9_put wsX9_put) := goodIn_app (goodIn_of _ (by decide +kernel)) ggX9_give_X9_put
theorem dX9_give_0 : decode cX9_give 0 = .ok (.aload_n 0, 1) := by decide +kernel
theorem dX9_give_1 : decode cX9_give 1 = .ok (.getfield 95, 3) := by decide +kernel
theorem dX9_give_4 : decode cX9_give 4 = .ok (.iconst 3, 1) := by decide +kernel
theorem dX9_give_5 : decode cX9_give 5 = .ok (.iload_n 1, 1) := by decide +kernel
theorem dX9_give_6 : decode cX9_give 6 = .ok (.imul, 1) := by decide +kernel
theorem dX9_give_7 : decode cX9_give 7 = .ok (.iconst 2, 1) := by decide +kernel
theorem dX9_give_8 : decode cX9_give 8 = .ok (.iadd, 1) := by decide +kernel
theorem dX9_give_9 : decode cX9_give 9 = .ok (.iaload, 1) := by decide +kernel
theorem dX9_give_10 : decode cX9_give 10 = .ok (.istore_n 3, 1) := by decide +kernel
theorem dX9_give_11 : decode cX9_give 11 = .ok (.iload_n 3, 1) := by decide +kernel
theorem dX9_give_12 : decode cX9_give 12 = .ok (.iconst (-1), 1) := by decide +kernel
theorem dX9_give_13 : decode cX9_give 13 = .ok (.if_icmp .ne 16, 3) := by decide +kernel
theorem dX9_give_16 : decode cX9_give 16 = .ok (.aload_n 0, 1) := by decide +kernel
theorem dX9_give_17 : decode cX9_give 17 = .ok (.iload_n 2, 1) := by decide +kernel
theorem dX9_give_18 : decode cX9_give 18 = .ok (.putfield 462, 3) := by decide +kernel
theorem dX9_give_21 : decode cX9_give 21 = .ok (.aload_n 0, 1) := by decide +kernel
theorem dX9_give_22 : decode cX9_give 22 = .ok (.iconst 0, 1) := by decide +kernel
theorem dX9_give_23 : decode cX9_give 23 = .ok (.putfield 358, 3) := by decide +kernel
theorem dX9_give_26 : decode cX9_give 26 = .ok (.goto 13, 3) := by decide +kernel
theorem dX9_give_29 : decode cX9_give 29 = .ok (.aload_n 0, 1) := by decide +kernel
theorem dX9_give_30 : decode cX9_give 30 = .ok (.iload_n 3, 1) := by decide +kernel
theorem dX9_give_31 : decode cX9_give 31 = .ok (.invokevirtual 437, 3) := by decide +kernel
theorem dX9_give_34 : decode cX9_give 34 = .ok (.aload_n 0, 1) := by decide +kernel
theorem dX9_give_35 : decode cX9_give 35 = .ok (.iload_n 2, 1) := by decide +kernel
theorem dX9_give_36 : decode cX9_give 36 = .ok (.invokevirtual 367, 3) := by decide +kernel
theorem dX9_give_39 : decode cX9_give 39 = .ok (.return_, 1) := by decide +kernel
set_option maxRecDepth 20000 in
theorem ggX9_print_X9_room : GoodIn wsX9_print wsX9_room := goodIn_r _ [8, 9, 10, 11, 12, 13, 14, 15, 16, 17] (by decide +kernel) (by decide +kernel)
set_option maxRecDepth 20000 in
theorem gX9_print_X9_room : GoodIn wsX9_print (va_wsS RX9 345 yX9_room wsX9_room) := goodIn_app (goodIn_of _ (by decide +kernel)) ggX9_print_X9_room
theorem dX9_print_0 : decode cX9_print 0 = .ok (.aload_n 0, 1) := by decide +kernel
theorem dX9_print_1 : decode cX9_print 1 = .ok (.dup, 1) := by decide +kernel
theorem dX9_print_2 : decode cX9_print 2 = .ok (.getfield 465, 3) := by decide +kernel
theorem dX9_print_5 : decode cX9_print 5 = .ok (.iload_n 2, 1) := by decide +kernel
theorem dX9_print_6 : decode cX9_print 6 = .ok (.i2l, 1) := by decide +kernel
theorem dX9_print_7 : decode cX9_print 7 = .ok (.ladd, 1) := by decide +kernel
theorem dX9_print_8 : decode cX9_print 8 = .ok (.putfield 465, 3) := by decide +kernel
theorem dX9_print_11 : decode cX9_print 11 = .ok (.aload_n 0, 1) := by decide +kernel
theorem dX9_print_12 : decode cX9_print 12 = .ok (.getfield 469, 3) := by decide +kernel
theorem dX9_print_15 : decode cX9_print 15 = .ok (.bipush 50, 2) := by decide +kernel
theorem dX9_print_17 : decode cX9_print 17 = .ok (.if_icmp .ge 65, 3) := by decide +kernel
theorem dX9_print_20 : decode cX9_print 20 = .ok (.aload_n 0, 1) := by decide +kernel
theorem dX9_print_21 : decode cX9_print 21 = .ok (.aload_n 0, 1) := by decide +kernel
theorem dX9_print_22 : decode cX9_print 22 = .ok (.getfield 101, 3) := by decide +kernel
theorem dX9_print_25 : decode cX9_print 25 = .ok (.iconst 3, 1) := by decide +kernel
theorem dX9_print_26 : decode cX9_print 26 = .ok (.aload_n 0, 1) := by decide +kernel
theorem dX9_print_27 : decode cX9_print 27 = .ok (.getfield 469, 3) := by decide +kernel
theorem dX9_print_30 : decode cX9_print 30 = .ok (.imul, 1) := by decide +kernel
theorem dX9_print_31 : decode cX9_print 31 = .ok (.iconst 3, 1) := by decide +kernel
theorem dX9_print_32 : decode cX9_print 32 = .ok (.iadd, 1) := by decide +kernel
theorem dX9_print_33 : decode cX9_print 33 = .ok (.invokestatic 345, 3) := by decide +kernel
theorem dX9_print_36 : decode cX9_print 36 = .ok (.putfield 101, 3) := by decide +kernel
theorem dX9_print_39 : decode cX9_print 39 = .ok (.aload_n 0, 1) := by decide +kernel
theorem dX9_print_40 : decode cX9_print 40 = .ok (.getfield 101, 3) := by decide +kernel
theorem dX9_print_43 : decode cX9_print 43 = .ok (.iconst 3, 1) := by decide +kernel
theorem dX9_print_44 : decode cX9_print 44 = .ok (.aload_n 0, 1) := by decide +kernel
theorem dX9_print_45 : decode cX9_print 45 = .ok (.getfield 469, 3) := by decide +kernel
theorem dX9_print_48 : decode cX9_print 48 = .ok (.imul, 1) := by decide +kernel
theorem dX9_print_49 : decode cX9_print 49 = .ok (.iload_n 2, 1) := by decide +kernel
theorem dX9_print_50 : decode cX9_print 50 = .ok (.iastore, 1) := by decide +kernel
theorem dX9_print_51 : decode cX9_print 51 = .ok (.aload_n 0, 1) := by decide +kernel
theorem dX9_print_52 : decode cX9_print 52 = .ok (.getfield 101, 3) := by decide +kernel
theorem dX9_print_55 : decode cX9_print 55 = .ok (.iconst 3, 1) := by decide +kernel
theorem dX9_print_56 : decode cX9_print 56 = .ok (.aload_n 0, 1) := by decide +kernel
theorem dX9_print_57 : decode cX9_print 57 = .ok (.getfield 469, 3) := by decide +kernel
theorem dX9_print_60 : decode cX9_print 60 = .ok (.imul, 1) := by decide +kernel
theorem dX9_print_61 : decode cX9_print 61 = .ok (.iconst 1, 1) := by decide +kernel
theorem dX9_print_62 : decode cX9_print 62 = .ok (.iadd, 1) := by decide +kernel
theorem dX9_print_63 : decode cX9_print 63 = .ok (.aload_n 0, 1) := by decide +kernel
theorem dX9_print_64 : decode cX9_print 64 = .ok (.getfield 349, 3) := by decide +kernel
theorem dX9_print_67 : decode cX9_print 67 = .ok (.iastore, 1) := by decide +kernel
theorem dX9_print_68 : decode cX9_print 68 = .ok (.aload_n 0, 1) := by decide +kernel
theorem dX9_print_69 : decode cX9_print 69 = .ok (.getfield 101, 3) := by decide +kernel
theorem dX9_print_72 : decode cX9_print 72 = .ok (.iconst 3, 1) := by decide +kernel
theorem dX9_print_73 : decode cX9_print 73 = .ok (.aload_n 0, 1) := by decide +kernel
theorem dX9_print_74 : decode cX9_print 74 = .ok (.getfield 469, 3) := by decide +kernel
theorem dX9_print_77 : decode cX9_print 77 = .ok (.imul, 1) := by decide +kernel
theorem dX9_print_78 : decode cX9_print 78 = .ok (.iconst 2, 1) := by decide +kernel
theorem dX9_print_79 : decode cX9_print 79 = .ok (.iadd, 1) := by decide +kernel
theorem dX9_print_80 : decode cX9_print 80 = .ok (.iload_n 1, 1) := by decide +kernel
theorem dX9_print_81 : decode cX9_print 81 = .ok (.iastore, 1) := by decide +kernel
theorem dX9_print_82 : decode cX9_print 82 = .ok (.aload_n 0, 1) := by decide +kernel
theorem dX9_print_83 : decode cX9_print 83 = .ok (.dup, 1) := by decide +kernel
theorem dX9_print_84 : decode cX9_print 84 = .ok (.getfield 469, 3) := by decide +kernel
theorem dX9_print_87 : decode cX9_print 87 = .ok (.iconst 1, 1) := by decide +kernel
theorem dX9_print_88 : decode cX9_print 88 = .ok (.iadd, 1) := by decide +kernel
theorem dX9_print_89 : decode cX9_print 89 = .ok (.putfield 469, 3) := by decide +kernel
theorem dX9_print_92 : decode cX9_print 92 = .ok (.return_, 1) := by decide +kernel
set_option maxRecDepth 20000 in
theorem ggX9_go_X9_has : GoodIn wsX9_go wsX9_has := goodIn_r _ [32] (by decide +kernel) (by decide +kernel)
set_option maxRecDepth 20000 in
theorem gX9_go_X9_has : GoodIn wsX9_go (va_wsS RX9 183 yX9_has wsX9_has) := goodIn_app (goodIn_of _ (by decide +kernel)) ggX9_go_X9_has
set_option maxRecDepth 20000 in
theorem ggX9_go_X9_in : GoodIn wsX9_go wsX9_in := goodIn_r _ [36, 37, 38, 239, 240, 241, 242, 243, 244, 245, 246, 247, 248, 249, 250, 251, 252, 253, 254, 255, 256, 257, 258, 259, 260, 261, 262, 263, 264, 265, 266, 267, 268, 269, 270, 271, 272, 273, 274, 275, 276, 277, 278, 279, 280, 281, 282, 283, 284, 285, 286, 287, 288, 289, 290, 291, 292, 293, 294, 295, 296, 297, 298] (by decide +kernel) (by decide +kernel)
set_option maxRecDepth 20000 in
theorem gX9_go_X9_in : GoodIn wsX9_go (wsV RX9 194 RX9 yX9_in wsX9_in) := goodIn_app (goodIn_of _ (by decide +kernel)) ggX9_go_X9_in
set_option maxRecDepth 20000 in
theorem ggX9_go_X9_isTail : GoodIn wsX9_go wsX9_isTail := goodIn_r _ [42, 43, 44, 45, 33, 34, 35, 31, 36, 37, 38, 46, 47, 48, 49, 50, 51, 52, 53, 54, 55, 56, 57, 58, 59, 60, 61, 62, 63, 64, 65, 66, 67, 68, 69, 70, 71, 72, 73, 74, 4, 75, 76, 77, 78, 79, 80, 81, 82, 83, 84, 85, 86, 87, 88, 89, 90, 239, 240, 241, 242, 243, 244, 245, 246, 247, 248, 249, 250, 251, 252, 253, 254, 255, 256, 257, 258, 259, 260, 261, 262, 263, 264, 265, 266, 267, 268, 269, 270, 271, 272, 273, 274, 275, 276, 277, 278, 279, 280, 281, 282, 283, 284, 285, 286, 287, 288, 289, 290, 291, 292, 293, 294, 295, 296, 297, 298] (by decide +kernel) (by decide +kernel)
set_option maxRecDepth 20000 in
theorem gX9_go_X9_isTail : GoodIn wsX9_go (wsV RX9 237 RX9 yX9_isTail wsX9_isTail) := goodIn_app (goodIn_of _ (by decide +kernel)) ggX9_go_X9_isTail
set_option maxRecDepth 20000 in
theorem ggX9_go_X9_escapes : GoodIn wsX9_go wsX9_escapes := goodIn_r _ [74, 4, 43, 45, 75, 76, 31, 77, 33, 34, 35, 36, 37, 38, 61, 62, 63, 64, 55, 51, 52, 53, 54, 50, 78, 79, 80, 81, 82, 83, 84, 85, 86, 87, 88, 89, 90, 46, 47, 48, 49, 56, 57, 58, 59, 60, 239, 240, 241, 242, 243, 244, 245, 246, 247, 248, 249, 250, 251, 252, 253, 254, 255, 256, 257, 258, 259, 260, 261, 262, 263, 264, 265, 266, 267, 268, 269, 270, 271, 272, 273, 274, 275, 276, 277, 278, 279, 280, 281, 282, 283, 284, 285, 286, 287, 288, 289, 290, 291, 292, 293, 294, 295, 296, 297, 298] (by decide +kernel) (by decide +kernel)
set_option maxRecDepth 20000 in
theorem gX9_go_X9_escapes : GoodIn wsX9_go (wsV RX9 224 RX9 yX9_escapes wsX9_escapes) := goodIn_app (goodIn_of _ (by decide +kernel)) ggX9_go_X9_escapes
set_option maxRecDepth 20000 in
theorem ggX9_go_X9_bits : GoodIn wsX9_go wsX9_bits := goodIn_r _ [93] (by decide +kernel) (by decide +kernel)
set_option maxRecDepth 20000 in
theorem gX9_go_X9_bits : GoodIn wsX9_go (va_wsS RX9 472 yX9_bits wsX9_bits) := goodIn_app (goodIn_of _ (by decide +kernel)) ggX9_go_X9_bits
set_option maxRecDepth 20000 in
theorem ggX9_go_X9_newFrame : GoodIn wsX9_go wsX9_newFrame := goodIn_r _ [97, 98, 13, 9, 70, 99, 100, 17, 18, 8, 21, 19, 101, 102, 103, 104, 22, 20, 105, 106, 31, 107, 27, 108, 109, 110, 111, 112, 113, 114, 115, 12, 116, 117, 118, 119, 120, 14, 239, 240, 241, 242, 243, 244, 245, 246, 247, 248, 249, 250, 251, 252, 253, 254, 255, 256, 257, 258, 259, 260, 261, 262, 263, 264, 265, 266, 267, 268, 269, 270, 271, 272, 273, 274, 275, 276, 277, 278, 279, 280, 281, 282, 283, 284, 285, 286, 287, 288, 289, 290, 291, 292, 293, 294, 295, 296, 297, 298] (by decide +kernel) (by decide +kernel)
set_option maxRecDepth 20000 in
theorem gX9_go_X9_newFrame : GoodIn wsX9_go (wsV RX9 447 RX9 yX9_newFrame wsX9_newFrame) := goodIn_app (goodIn_of _ (by decide +kernel)) ggX9_go_X9_newFrame
set_option maxRecDepth 20000 in
theorem ggX9_go_X9_begin : GoodIn wsX9_go wsX9_begin := goodIn_r _ [124, 15, 1, 125, 10, 11, 19, 20, 126, 127, 128, 31, 129, 16, 28, 105, 106, 107, 101, 102, 103, 104, 27, 108, 109, 110, 111, 239, 240, 241, 242, 243, 244, 245, 246, 247, 248, 249, 250, 251, 252, 253, 254, 255, 256, 257, 258, 259, 260, 261, 262, 263, 264, 265, 266, 267, 268, 269, 270, 271, 272, 273, 274, 275, 276, 277, 278, 279, 280, 281, 282, 283, 284, 285, 286, 287, 288, 289, 290, 291, 292, 293, 294, 295, 296, 297, 298] (by decide +kernel) (by decide +kernel)
set_option maxRecDepth 20000 in
theorem gX9_go_X9_begin : GoodIn wsX9_go (wsV RX9 428 RX9 yX9_begin wsX9_begin) := goodIn_app (goodIn_of _ (by decide +kernel)) ggX9_go_X9_begin
set_option maxRecDepth 20000 in
theorem ggX9_go_X9_walk : GoodIn wsX9_go wsX9_walk := goodIn_r _ [133, 10, 125, 43, 45, 5, 99, 134, 135, 136, 31, 137, 138, 139, 140, 141, 142, 11, 105, 106, 107, 101, 102, 103, 104, 27, 108, 109, 110, 111, 143, 144, 145, 146, 46, 47, 48, 49, 50, 51, 52, 53, 54, 55, 56, 57, 58, 59, 60, 147, 148, 149, 150, 98, 151, 152, 153, 154, 155, 156, 157, 158, 78, 79, 80, 81, 82, 121, 122, 123, 124, 15, 1, 19, 20, 126, 127, 128, 129, 16, 28, 159, 160, 161, 162, 44, 163, 120, 164, 165, 166, 167, 168, 169, 170, 171, 172, 173, 174, 175, 176, 177, 178, 179, 180, 181, 69, 2, 3, 26, 182, 183, 184, 185, 94, 95, 96, 97, 13, 9, 70, 100, 17, 18, 8, 21, 22, 112, 113, 114, 115, 12, 116, 117, 118, 119, 14, 186, 187, 188, 189, 190, 191, 192, 193, 37, 194, 195, 196, 197, 33, 34, 35, 36, 38, 198, 199, 200, 201, 202, 203, 204, 205, 206, 207, 208, 209, 210, 211, 212, 213, 214, 215, 216, 217, 4, 218, 219, 220, 221, 6, 222, 223, 224, 225, 226, 227, 228, 229, 230, 231, 232, 233, 23, 234, 235, 236, 237, 25, 24, 238, 239, 240, 241, 242, 243, 244, 245, 246, 247, 248, 249, 250, 251, 252, 253, 254, 255, 256, 257, 258, 259, 260, 261, 262, 263, 264, 265, 266, 267, 268, 269, 270, 271, 272, 273, 274, 275, 276, 277, 278, 279, 280, 281, 282, 283, 284, 285, 286, 287, 288, 289, 290, 291, 292, 293, 294, 295, 296, 297, 298] (by decide +kernel) (by decide +kernel)
set_option maxRecDepth 20000 in
theorem gX9_go_X9_walk : GoodIn wsX9_go (wsV RX9 475 RX9 yX9_walk wsX9_walk) := goodIn_app (goodIn_of _ (by decide +kernel)) ggX9_go_X9_walk
theorem dX9_go_0 : decode cX9_go 0 = .ok (.aload_n 0, 1) := by decide +kernel
theorem dX9_go_1 : decode cX9_go 1 = .ok (.iload_n 1, 1) := by decide +kernel
theorem dX9_go_2 : decode cX9_go 2 = .ok (.putfield 352, 3) := by decide +kernel
theorem dX9_go_5 : decode cX9_go 5 = .ok (.aload_n 0, 1) := by decide +kernel
theorem dX9_go_6 : decode cX9_go 6 = .ok (.iload_n 2, 1) := by decide +kernel
theorem dX9_go_7 : decode cX9_go 7 = .ok (.putfield 440, 3) := by decide +kernel
theorem dX9_go_10 : decode cX9_go 10 = .ok (.aload_n 0, 1) := by decide +kernel
theorem dX9_go_11 : decode cX9_go 11 = .ok (.iload_n 3, 1) := by decide +kernel
theorem dX9_go_12 : decode cX9_go 12 = .ok (.iconst 1, 1) := by decide +kernel
theorem dX9_go_13 : decode cX9_go 13 = .ok (.invokestatic 183, 3) := by decide +kernel
theorem dX9_go_16 : decode cX9_go 16 = .ok (.putfield 443, 3) := by decide +kernel
theorem dX9_go_19 : decode cX9_go 19 = .ok (.iconst 0, 1) := by decide +kernel
theorem dX9_go_20 : decode cX9_go 20 = .ok (.istore 4, 2) := by decide +kernel
theorem dX9_go_22 : decode cX9_go 22 = .ok (.iload 4, 2) := by decide +kernel
theorem dX9_go_24 : decode cX9_go 24 = .ok (.aload_n 0, 1) := by decide +kernel
theorem dX9_go_25 : decode cX9_go 25 = .ok (.getfield 121, 3) := by decide +kernel
theorem dX9_go_28 : decode cX9_go 28 = .ok (.if_icmp .ge 35, 3) := by decide +kernel
theorem dX9_go_31 : decode cX9_go 31 = .ok (.aload_n 0, 1) := by decide +kernel
theorem dX9_go_32 : decode cX9_go 32 = .ok (.getfield 104, 3) := by decide +kernel
theorem dX9_go_35 : decode cX9_go 35 = .ok (.iload 4, 2) := by decide +kernel
theorem dX9_go_37 : decode cX9_go 37 = .ok (.aload_n 0, 1) := by decide +kernel
theorem dX9_go_38 : decode cX9_go 38 = .ok (.iload 4, 2) := by decide +kernel
theorem dX9_go_40 : decode cX9_go 40 = .ok (.invokevirtual 194, 3) := by decide +kernel
theorem dX9_go_43 : decode cX9_go 43 = .ok (.iastore, 1) := by decide +kernel
theorem dX9_go_44 : decode cX9_go 44 = .ok (.aload_n 0, 1) := by decide +kernel
theorem dX9_go_45 : decode cX9_go 45 = .ok (.getfield 110, 3) := by decide +kernel
theorem dX9_go_48 : decode cX9_go 48 = .ok (.iload 4, 2) := by decide +kernel
theorem dX9_go_50 : decode cX9_go 50 = .ok (.aload_n 0, 1) := by decide +kernel
theorem dX9_go_51 : decode cX9_go 51 = .ok (.iload 4, 2) := by decide +kernel
theorem dX9_go_53 : decode cX9_go 53 = .ok (.invokevirtual 237, 3) := by decide +kernel
theorem dX9_go_56 : decode cX9_go 56 = .ok (.bastore, 1) := by decide +kernel
theorem dX9_go_57 : decode cX9_go 57 = .ok (.iinc 4 1, 3) := by decide +kernel
theorem dX9_go_60 : decode cX9_go 60 = .ok (.goto (-38), 3) := by decide +kernel
theorem dX9_go_63 : decode cX9_go 63 = .ok (.iconst 0, 1) := by decide +kernel
theorem dX9_go_64 : decode cX9_go 64 = .ok (.istore 4, 2) := by decide +kernel
theorem dX9_go_66 : decode cX9_go 66 = .ok (.iload 4, 2) := by decide +kernel
theorem dX9_go_68 : decode cX9_go 68 = .ok (.aload_n 0, 1) := by decide +kernel
theorem dX9_go_69 : decode cX9_go 69 = .ok (.getfield 7, 3) := by decide +kernel
theorem dX9_go_72 : decode cX9_go 72 = .ok (.if_icmp .ge 43, 3) := by decide +kernel
theorem dX9_go_75 : decode cX9_go 75 = .ok (.aload_n 0, 1) := by decide +kernel
theorem dX9_go_76 : decode cX9_go 76 = .ok (.getfield 107, 3) := by decide +kernel
theorem dX9_go_79 : decode cX9_go 79 = .ok (.iload 4, 2) := by decide +kernel
theorem dX9_go_81 : decode cX9_go 81 = .ok (.iload_n 3, 1) := by decide +kernel
theorem dX9_go_82 : decode cX9_go 82 = .ok (.iconst 2, 1) := by decide +kernel
theorem dX9_go_83 : decode cX9_go 83 = .ok (.invokestatic 183, 3) := by decide +kernel
theorem dX9_go_86 : decode cX9_go 86 = .ok (.ifCond .eq 15, 3) := by decide +kernel
theorem dX9_go_89 : decode cX9_go 89 = .ok (.aload_n 0, 1) := by decide +kernel
theorem dX9_go_90 : decode cX9_go 90 = .ok (.iload 4, 2) := by decide +kernel
theorem dX9_go_92 : decode cX9_go 92 = .ok (.invokevirtual 224, 3) := by decide +kernel
theorem dX9_go_95 : decode cX9_go 95 = .ok (.invokestatic 472, 3) := by decide +kernel
theorem dX9_go_98 : decode cX9_go 98 = .ok (.goto 10, 3) := by decide +kernel
theorem dX9_go_101 : decode cX9_go 101 = .ok (.aload_n 0, 1) := by decide +kernel
theorem dX9_go_102 : decode cX9_go 102 = .ok (.getfield 26, 3) := by decide +kernel
theorem dX9_go_105 : decode cX9_go 105 = .ok (.iload 4, 2) := by decide +kernel
theorem dX9_go_107 : decode cX9_go 107 = .ok (.iaload, 1) := by decide +kernel
theorem dX9_go_108 : decode cX9_go 108 = .ok (.iastore, 1) := by decide +kernel
theorem dX9_go_109 : decode cX9_go 109 = .ok (.iinc 4 1, 3) := by decide +kernel
theorem dX9_go_112 : decode cX9_go 112 = .ok (.goto (-46), 3) := by decide +kernel
theorem dX9_go_115 : decode cX9_go 115 = .ok (.aload_n 0, 1) := by decide +kernel
theorem dX9_go_116 : decode cX9_go 116 = .ok (.iconst 0, 1) := by decide +kernel
theorem dX9_go_117 : decode cX9_go 117 = .ok (.putfield 358, 3) := by decide +kernel
theorem dX9_go_120 : decode cX9_go 120 = .ok (.aload_n 0, 1) := by decide +kernel
theorem dX9_go_121 : decode cX9_go 121 = .ok (.iconst 0, 1) := by decide +kernel
theorem dX9_go_122 : decode cX9_go 122 = .ok (.putfield 342, 3) := by decide +kernel
theorem dX9_go_125 : decode cX9_go 125 = .ok (.aload_n 0, 1) := by decide +kernel
theorem dX9_go_126 : decode cX9_go 126 = .ok (.iconst 0, 1) := by decide +kernel
theorem dX9_go_127 : decode cX9_go 127 = .ok (.putfield 370, 3) := by decide +kernel
theorem dX9_go_130 : decode cX9_go 130 = .ok (.aload_n 0, 1) := by decide +kernel
theorem dX9_go_131 : decode cX9_go 131 = .ok (.iconst 0, 1) := by decide +kernel
theorem dX9_go_132 : decode cX9_go 132 = .ok (.putfield 385, 3) := by decide +kernel
theorem dX9_go_135 : decode cX9_go 135 = .ok (.aload_n 0, 1) := by decide +kernel
theorem dX9_go_136 : decode cX9_go 136 = .ok (.iconst 0, 1) := by decide +kernel
theorem dX9_go_137 : decode cX9_go 137 = .ok (.putfield 373, 3) := by decide +kernel
theorem dX9_go_140 : decode cX9_go 140 = .ok (.aload_n 0, 1) := by decide +kernel
theorem dX9_go_141 : decode cX9_go 141 = .ok (.iconst 0, 1) := by decide +kernel
theorem dX9_go_142 : decode cX9_go 142 = .ok (.putfield 349, 3) := by decide +kernel
theorem dX9_go_145 : decode cX9_go 145 = .ok (.aload_n 0, 1) := by decide +kernel
theorem dX9_go_146 : decode cX9_go 146 = .ok (.iconst 0, 1) := by decide +kernel
theorem dX9_go_147 : decode cX9_go 147 = .ok (.putfield 336, 3) := by decide +kernel
theorem dX9_go_150 : decode cX9_go 150 = .ok (.aload_n 0, 1) := by decide +kernel
theorem dX9_go_151 : decode cX9_go 151 = .ok (.iconst 0, 1) := by decide +kernel
theorem dX9_go_152 : decode cX9_go 152 = .ok (.putfield 388, 3) := by decide +kernel
theorem dX9_go_155 : decode cX9_go 155 = .ok (.aload_n 0, 1) := by decide +kernel
theorem dX9_go_156 : decode cX9_go 156 = .ok (.iconst 0, 1) := by decide +kernel
theorem dX9_go_157 : decode cX9_go 157 = .ok (.putfield 391, 3) := by decide +kernel
theorem dX9_go_160 : decode cX9_go 160 = .ok (.aload_n 0, 1) := by decide +kernel
theorem dX9_go_161 : decode cX9_go 161 = .ok (.iconst 1, 1) := by decide +kernel
theorem dX9_go_162 : decode cX9_go 162 = .ok (.putfield 361, 3) := by decide +kernel
theorem dX9_go_165 : decode cX9_go 165 = .ok (.aload_n 0, 1) := by decide +kernel
theorem dX9_go_166 : decode cX9_go 166 = .ok (.iconst 1, 1) := by decide +kernel
theorem dX9_go_167 : decode cX9_go 167 = .ok (.putfield 364, 3) := by decide +kernel
theorem dX9_go_170 : decode cX9_go 170 = .ok (.aload_n 0, 1) := by decide +kernel
theorem dX9_go_171 : decode cX9_go 171 = .ok (.iconst 0, 1) := by decide +kernel
theorem dX9_go_172 : decode cX9_go 172 = .ok (.putfield 394, 3) := by decide +kernel
theorem dX9_go_175 : decode cX9_go 175 = .ok (.aload_n 0, 1) := by decide +kernel
theorem dX9_go_176 : decode cX9_go 176 = .ok (.iconst 0, 1) := by decide +kernel
theorem dX9_go_177 : decode cX9_go 177 = .ok (.putfield 397, 3) := by decide +kernel
theorem dX9_go_180 : decode cX9_go 180 = .ok (.aload_n 0, 1) := by decide +kernel
theorem dX9_go_181 : decode cX9_go 181 = .ok (.iconst 0, 1) := by decide +kernel
theorem dX9_go_182 : decode cX9_go 182 = .ok (.putfield 462, 3) := by decide +kernel
theorem dX9_go_185 : decode cX9_go 185 = .ok (.aload_n 0, 1) := by decide +kernel
theorem dX9_go_186 : decode cX9_go 186 = .ok (.iconst 0, 1) := by decide +kernel
theorem dX9_go_187 : decode cX9_go 187 = .ok (.putfield 469, 3) := by decide +kernel
theorem dX9_go_190 : decode cX9_go 190 = .ok (.aload_n 0, 1) := by decide +kernel
theorem dX9_go_191 : decode cX9_go 191 = .ok (.lconst 0, 1) := by decide +kernel
theorem dX9_go_192 : decode cX9_go 192 = .ok (.putfield 465, 3) := by decide +kernel
theorem dX9_go_195 : decode cX9_go 195 = .ok (.aload_n 0, 1) := by decide +kernel
theorem dX9_go_196 : decode cX9_go 196 = .ok (.aload_n 0, 1) := by decide +kernel
theorem dX9_go_197 : decode cX9_go 197 = .ok (.getfield 29, 3) := by decide +kernel
theorem dX9_go_200 : decode cX9_go 200 = .ok (.iconst 0, 1) := by decide +kernel
theorem dX9_go_201 : decode cX9_go 201 = .ok (.iaload, 1) := by decide +kernel
theorem dX9_go_202 : decode cX9_go 202 = .ok (.aload_n 0, 1) := by decide +kernel
theorem dX9_go_203 : decode cX9_go 203 = .ok (.iconst 0, 1) := by decide +kernel
theorem dX9_go_204 : decode cX9_go 204 = .ok (.iconst (-1), 1) := by decide +kernel
theorem dX9_go_205 : decode cX9_go 205 = .ok (.iconst (-1), 1) := by decide +kernel
theorem dX9_go_206 : decode cX9_go 206 = .ok (.invokevirtual 447, 3) := by decide +kernel
theorem dX9_go_209 : decode cX9_go 209 = .ok (.iconst 0, 1) := by decide +kernel
theorem dX9_go_210 : decode cX9_go 210 = .ok (.invokevirtual 428, 3) := by decide +kernel
theorem dX9_go_213 : decode cX9_go 213 = .ok (.aload_n 0, 1) := by decide +kernel
theorem dX9_go_214 : decode cX9_go 214 = .ok (.getfield 358, 3) := by decide +kernel
theorem dX9_go_217 : decode cX9_go 217 = .ok (.ifCond .le 17, 3) := by decide +kernel
theorem dX9_go_220 : decode cX9_go 220 = .ok (.aload_n 0, 1) := by decide +kernel
theorem dX9_go_221 : decode cX9_go 221 = .ok (.getfield 336, 3) := by decide +kernel
theorem dX9_go_224 : decode cX9_go 224 = .ok (.ifCond .ne 10, 3) := by decide +kernel
theorem dX9_go_227 : decode cX9_go 227 = .ok (.aload_n 0, 1) := by decide +kernel
theorem dX9_go_228 : decode cX9_go 228 = .ok (.invokevirtual 475, 3) := by decide +kernel
theorem dX9_go_231 : decode cX9_go 231 = .ok (.goto (-18), 3) := by decide +kernel
theorem dX9_go_234 : decode cX9_go 234 = .ok (.bipush 10, 2) := by decide +kernel
theorem dX9_go_236 : decode cX9_go 236 = .ok (.newarray .int, 2) := by decide +kernel
theorem dX9_go_238 : decode cX9_go 238 = .ok (.dup, 1) := by decide +kernel
theorem dX9_go_239 : decode cX9_go 239 = .ok (.iconst 0, 1) := by decide +kernel
theorem dX9_go_240 : decode cX9_go 240 = .ok (.aload_n 0, 1) := by decide +kernel
theorem dX9_go_241 : decode cX9_go 241 = .ok (.getfield 336, 3) := by decide +kernel
theorem dX9_go_244 : decode cX9_go 244 = .ok (.iastore, 1) := by decide +kernel
theorem dX9_go_245 : decode cX9_go 245 = .ok (.dup, 1) := by decide +kernel
theorem dX9_go_246 : decode cX9_go 246 = .ok (.iconst 1, 1) := by decide +kernel
theorem dX9_go_247 : decode cX9_go 247 = .ok (.aload_n 0, 1) := by decide +kernel
theorem dX9_go_248 : decode cX9_go 248 = .ok (.getfield 336, 3) := by decide +kernel
theorem dX9_go_251 : decode cX9_go 251 = .ok (.ifCond .ne 7, 3) := by decide +kernel
theorem dX9_go_254 : decode cX9_go 254 = .ok (.iconst (-1), 1) := by decide +kernel
theorem dX9_go_255 : decode cX9_go 255 = .ok (.goto 7, 3) := by decide +kernel
theorem dX9_go_258 : decode cX9_go 258 = .ok (.aload_n 0, 1) := by decide +kernel
theorem dX9_go_259 : decode cX9_go 259 = .ok (.getfield 339, 3) := by decide +kernel
theorem dX9_go_262 : decode cX9_go 262 = .ok (.iastore, 1) := by decide +kernel
theorem dX9_go_263 : decode cX9_go 263 = .ok (.dup, 1) := by decide +kernel
theorem dX9_go_264 : decode cX9_go 264 = .ok (.iconst 2, 1) := by decide +kernel
theorem dX9_go_265 : decode cX9_go 265 = .ok (.aload_n 0, 1) := by decide +kernel
theorem dX9_go_266 : decode cX9_go 266 = .ok (.getfield 336, 3) := by decide +kernel
theorem dX9_go_269 : decode cX9_go 269 = .ok (.ifCond .ne 7, 3) := by decide +kernel
theorem dX9_go_272 : decode cX9_go 272 = .ok (.iconst (-1), 1) := by decide +kernel
theorem dX9_go_273 : decode cX9_go 273 = .ok (.goto 12, 3) := by decide +kernel
theorem dX9_go_276 : decode cX9_go 276 = .ok (.aload_n 0, 1) := by decide +kernel
theorem dX9_go_277 : decode cX9_go 277 = .ok (.getfield 104, 3) := by decide +kernel
theorem dX9_go_280 : decode cX9_go 280 = .ok (.aload_n 0, 1) := by decide +kernel
theorem dX9_go_281 : decode cX9_go 281 = .ok (.getfield 339, 3) := by decide +kernel
theorem dX9_go_284 : decode cX9_go 284 = .ok (.iaload, 1) := by decide +kernel
theorem dX9_go_285 : decode cX9_go 285 = .ok (.iastore, 1) := by decide +kernel
theorem dX9_go_286 : decode cX9_go 286 = .ok (.dup, 1) := by decide +kernel
theorem dX9_go_287 : decode cX9_go 287 = .ok (.iconst 3, 1) := by decide +kernel
theorem dX9_go_288 : decode cX9_go 288 = .ok (.aload_n 0, 1) := by decide +kernel
theorem dX9_go_289 : decode cX9_go 289 = .ok (.getfield 349, 3) := by decide +kernel
theorem dX9_go_292 : decode cX9_go 292 = .ok (.iastore, 1) := by decide +kernel
theorem dX9_go_293 : decode cX9_go 293 = .ok (.dup, 1) := by decide +kernel
theorem dX9_go_294 : decode cX9_go 294 = .ok (.iconst 4, 1) := by decide +kernel
theorem dX9_go_295 : decode cX9_go 295 = .ok (.aload_n 0, 1) := by decide +kernel
theorem dX9_go_296 : decode cX9_go 296 = .ok (.getfield 469, 3) := by decide +kernel
theorem dX9_go_299 : decode cX9_go 299 = .ok (.iastore, 1) := by decide +kernel
theorem dX9_go_300 : decode cX9_go 300 = .ok (.dup, 1) := by decide +kernel
theorem dX9_go_301 : decode cX9_go 301 = .ok (.iconst 5, 1) := by decide +kernel
theorem dX9_go_302 : decode cX9_go 302 = .ok (.aload_n 0, 1) := by decide +kernel
theorem dX9_go_303 : decode cX9_go 303 = .ok (.getfield 388, 3) := by decide +kernel
theorem dX9_go_306 : decode cX9_go 306 = .ok (.iastore, 1) := by decide +kernel
theorem dX9_go_307 : decode cX9_go 307 = .ok (.dup, 1) := by decide +kernel
theorem dX9_go_308 : decode cX9_go 308 = .ok (.bipush 6, 2) := by decide +kernel
theorem dX9_go_310 : decode cX9_go 310 = .ok (.aload_n 0, 1) := by decide +kernel
theorem dX9_go_311 : decode cX9_go 311 = .ok (.getfield 391, 3) := by decide +kernel
theorem dX9_go_314 : decode cX9_go 314 = .ok (.iastore, 1) := by decide +kernel
theorem dX9_go_315 : decode cX9_go 315 = .ok (.dup, 1) := by decide +kernel
theorem dX9_go_316 : decode cX9_go 316 = .ok (.bipush 7, 2) := by decide +kernel
theorem dX9_go_318 : decode cX9_go 318 = .ok (.aload_n 0, 1) := by decide +kernel
theorem dX9_go_319 : decode cX9_go 319 = .ok (.getfield 397, 3) := by decide +kernel
theorem dX9_go_322 : decode cX9_go 322 = .ok (.iastore, 1) := by decide +kernel
theorem dX9_go_323 : decode cX9_go 323 = .ok (.dup, 1) := by decide +kernel
theorem dX9_go_324 : decode cX9_go 324 = .ok (.bipush 8, 2) := by decide +kernel
theorem dX9_go_326 : decode cX9_go 326 = .ok (.aload_n 0, 1) := by decide +kernel
theorem dX9_go_327 : decode cX9_go 327 = .ok (.getfield 394, 3) := by decide +kernel
theorem dX9_go_330 : decode cX9_go 330 = .ok (.iastore, 1) := by decide +kernel
theorem dX9_go_331 : decode cX9_go 331 = .ok (.dup, 1) := by decide +kernel
theorem dX9_go_332 : decode cX9_go 332 = .ok (.bipush 9, 2) := by decide +kernel
theorem dX9_go_334 : decode cX9_go 334 = .ok (.aload_n 0, 1) := by decide +kernel
theorem dX9_go_335 : decode cX9_go 335 = .ok (.getfield 336, 3) := by decide +kernel
theorem dX9_go_338 : decode cX9_go 338 = .ok (.ifCond .ne 10, 3) := by decide +kernel
theorem dX9_go_341 : decode cX9_go 341 = .ok (.aload_n 0, 1) := by decide +kernel
theorem dX9_go_342 : decode cX9_go 342 = .ok (.getfield 462, 3) := by decide +kernel
theorem dX9_go_345 : decode cX9_go 345 = .ok (.goto 4, 3) := by decide +kernel
theorem dX9_go_348 : decode cX9_go 348 = .ok (.iconst 0, 1) := by decide +kernel
theorem dX9_go_349 : decode cX9_go 349 = .ok (.iastore, 1) := by decide +kernel
theorem dX9_go_350 : decode cX9_go 350 = .ok (.astore 4, 2) := by decide +kernel
theorem dX9_go_352 : decode cX9_go 352 = .ok (.aload 4, 2) := by decide +kernel
theorem dX9_go_354 : decode cX9_go 354 = .ok (.areturn, 1) := by decide +kernel
theorem dX9_bits_0 : decode cX9_bits 0 = .ok (.iconst 0, 1) := by decide +kernel
theorem dX9_bits_1 : decode cX9_bits 1 = .ok (.istore_n 1, 1) := by decide +kernel
theorem dX9_bits_2 : decode cX9_bits 2 = .ok (.iload_n 0, 1) := by decide +kernel
theorem dX9_bits_3 : decode cX9_bits 3 = .ok (.istore_n 2, 1) := by decide +kernel
theorem dX9_bits_4 : decode cX9_bits 4 = .ok (.iload_n 2, 1) := by decide +kernel
theorem dX9_bits_5 : decode cX9_bits 5 = .ok (.ifCond .le 16, 3) := by decide +kernel
theorem dX9_bits_8 : decode cX9_bits 8 = .ok (.iload_n 1, 1) := by decide +kernel
theorem dX9_bits_9 : decode cX9_bits 9 = .ok (.iload_n 2, 1) := by decide +kernel
theorem dX9_bits_10 : decode cX9_bits 10 = .ok (.iconst 2, 1) := by decide +kernel
theorem dX9_bits_11 : decode cX9_bits 11 = .ok (.irem, 1) := by decide +kernel
theorem dX9_bits_12 : decode cX9_bits 12 = .ok (.iadd, 1) := by decide +kernel
theorem dX9_bits_13 : decode cX9_bits 13 = .ok (.istore_n 1, 1) := by decide +kernel
theorem dX9_bits_14 : decode cX9_bits 14 = .ok (.iload_n 2, 1) := by decide +kernel
theorem dX9_bits_15 : decode cX9_bits 15 = .ok (.iconst 2, 1) := by decide +kernel
theorem dX9_bits_16 : decode cX9_bits 16 = .ok (.idiv, 1) := by decide +kernel
theorem dX9_bits_17 : decode cX9_bits 17 = .ok (.istore_n 2, 1) := by decide +kernel
theorem dX9_bits_18 : decode cX9_bits 18 = .ok (.goto (-14), 3) := by decide +kernel
theorem dX9_bits_21 : decode cX9_bits 21 = .ok (.iload_n 1, 1) := by decide +kernel
theorem dX9_bits_22 : decode cX9_bits 22 = .ok (.ireturn, 1) := by decide +kernel
set_option maxRecDepth 20000 in
theorem ggX9_limits_X9_isIn : GoodIn wsX9_limits wsX9_isIn := goodIn_r _ [7] (by decide +kernel) (by decide +kernel)
set_option maxRecDepth 20000 in
theorem gX9_limits_X9_isIn : GoodIn wsX9_limits (va_wsS RX9 117 yX9_isIn wsX9_isIn) := goodIn_app (goodIn_of _ (by decide +kernel)) ggX9_limits_X9_isIn
set_option maxRecDepth 20000 in
theorem ggX9_limits_X9_no : GoodIn wsX9_limits wsX9_no := goodIn_r _ [11, 1, 12, 13, 14, 15, 16, 17, 18, 19, 20, 21, 22, 23, 24, 25, 26, 27, 28, 29, 30, 31, 32, 33, 34, 35, 36, 37, 38, 39, 40, 41, 42, 43, 44, 45, 46, 47, 48, 49, 50, 51, 52, 53, 54, 55, 56, 57, 58, 59, 60, 61, 62, 63, 64, 65, 66, 67, 68, 69, 70, 71] (by decide +kernel) (by decide +kernel)
set_option maxRecDepth 20000 in
theorem gX9_limits_X9_no : GoodIn wsX9_limits (wsV RX9 128 RX9 yX9_no wsX9_no) := goodIn_app (goodIn_of _ (by decide +kernel)) ggX9_limits_X9_no
theorem dX9_limits_0 : decode cX9_limits 0 = .ok (.aload_n 0, 1) := by decide +kernel
theorem dX9_limits_1 : decode cX9_limits 1 = .ok (.iconst 0, 1) := by decide +kernel
theorem dX9_limits_2 : decode cX9_limits 2 = .ok (.putfield 114, 3) := by decide +kernel
theorem dX9_limits_5 : decode cX9_limits 5 = .ok (.iload_n 1, 1) := by decide +kernel
theorem dX9_limits_6 : decode cX9_limits 6 = .ok (.iconst 1, 1) := by decide +kernel
theorem dX9_limits_7 : decode cX9_limits 7 = .ok (.sipush 3000, 3) := by decide +kernel
theorem dX9_limits_10 : decode cX9_limits 10 = .ok (.invokestatic 117, 3) := by decide +kernel
theorem dX9_limits_13 : decode cX9_limits 13 = .ok (.ifCond .eq 13, 3) := by decide +kernel
theorem dX9_limits_16 : decode cX9_limits 16 = .ok (.iload_n 2, 1) := by decide +kernel
theorem dX9_limits_17 : decode cX9_limits 17 = .ok (.iconst 1, 1) := by decide +kernel
theorem dX9_limits_18 : decode cX9_limits 18 = .ok (.bipush 40, 2) := by decide +kernel
theorem dX9_limits_20 : decode cX9_limits 20 = .ok (.invokestatic 117, 3) := by decide +kernel
theorem dX9_limits_23 : decode cX9_limits 23 = .ok (.ifCond .ne 9, 3) := by decide +kernel
theorem dX9_limits_26 : decode cX9_limits 26 = .ok (.aload_n 0, 1) := by decide +kernel
theorem dX9_limits_27 : decode cX9_limits 27 = .ok (.iconst 1, 1) := by decide +kernel
theorem dX9_limits_28 : decode cX9_limits 28 = .ok (.invokevirtual 128, 3) := by decide +kernel
theorem dX9_limits_31 : decode cX9_limits 31 = .ok (.ireturn, 1) := by decide +kernel
theorem dX9_limits_32 : decode cX9_limits 32 = .ok (.aload_n 0, 1) := by decide +kernel
theorem dX9_limits_33 : decode cX9_limits 33 = .ok (.getfield 68, 3) := by decide +kernel
theorem dX9_limits_36 : decode cX9_limits 36 = .ok (.istore_n 3, 1) := by decide +kernel
theorem dX9_limits_37 : decode cX9_limits 37 = .ok (.aload_n 0, 1) := by decide +kernel
theorem dX9_limits_38 : decode cX9_limits 38 = .ok (.iload_n 1, 1) := by decide +kernel
theorem dX9_limits_39 : decode cX9_limits 39 = .ok (.putfield 68, 3) := by decide +kernel
theorem dX9_limits_42 : decode cX9_limits 42 = .ok (.aload_n 0, 1) := by decide +kernel
theorem dX9_limits_43 : decode cX9_limits 43 = .ok (.iload_n 2, 1) := by decide +kernel
theorem dX9_limits_44 : decode cX9_limits 44 = .ok (.putfield 71, 3) := by decide +kernel
theorem dX9_limits_47 : decode cX9_limits 47 = .ok (.iload_n 3, 1) := by decide +kernel
theorem dX9_limits_48 : decode cX9_limits 48 = .ok (.ireturn, 1) := by decide +kernel
set_option maxRecDepth 20000 in
theorem ggX9_run_X9_faults : GoodIn wsX9_run wsX9_faults := goodIn_r _ [25, 26, 27, 28, 24, 29, 13, 30, 31, 32, 33, 34, 35, 36, 37, 38, 39, 40, 41, 42, 43, 44, 45, 46, 47, 48, 49, 50, 51, 52, 53, 54, 55, 56, 57, 58, 59, 60, 61, 62, 63, 64, 65, 66, 67, 68, 69, 70, 71, 72, 73, 74, 75, 76, 77, 78, 79, 80, 81, 82, 83, 84, 85, 86, 87, 88, 89, 90, 91, 92, 93, 94, 95, 96, 97, 98, 99, 100, 101, 102, 103, 104, 105, 106, 107, 108, 109, 110, 111, 112, 113, 114, 115, 116, 117, 118, 119, 120, 121, 122, 123, 124, 125, 126, 127, 128, 302, 303, 304, 305, 306, 307, 308, 309, 310, 311, 312, 313, 314, 315, 316, 317, 318, 319, 320, 321, 322, 323, 324, 325, 326, 327, 328, 329, 330, 331, 332, 333, 334, 335, 336, 337, 338, 339, 340, 341, 342, 343, 344, 345, 346, 347, 348, 349, 350, 351, 352, 353, 354, 355, 356, 357, 358, 359, 360, 361] (by decide +kernel) (by decide +kernel)
set_option maxRecDepth 20000 in
theorem gX9_run_X9_faults : GoodIn wsX9_run (wsV RX9 227 RX9 yX9_faults wsX9_faults) := goodIn_app (goodIn_of _ (by decide +kernel)) ggX9_run_X9_faults
set_option maxRecDepth 20000 in
theorem ggX9_run_X9_no : GoodIn wsX9_run wsX9_no := goodIn_r _ [132, 1, 302, 303, 304, 305, 306, 307, 308, 309, 310, 311, 312, 313, 314, 315, 316, 317, 318, 319, 320, 321, 322, 323, 324, 325, 326, 327, 328, 329, 330, 331, 332, 333, 334, 335, 336, 337, 338, 339, 340, 341, 342, 343, 344, 345, 346, 347, 348, 349, 350, 351, 352, 353, 354, 355, 356, 357, 358, 359, 360, 361] (by decide +kernel) (by decide +kernel)
set_option maxRecDepth 20000 in
theorem gX9_run_X9_no : GoodIn wsX9_run (wsV RX9 128 RX9 yX9_no wsX9_no) := goodIn_app (goodIn_of _ (by decide +kernel)) ggX9_run_X9_no
set_option maxRecDepth 20000 in
theorem ggX9_run_X9_go : GoodIn wsX9_run wsX9_go := goodIn_r _ [136, 137, 138, 139, 61, 140, 141, 30, 142, 143, 144, 145, 146, 147, 148, 149, 150, 151, 152, 153, 154, 155, 156, 157, 8, 6, 31, 13, 158, 126, 127, 24, 128, 38, 39, 40, 41, 42, 43, 159, 160, 161, 162, 36, 99, 37, 65, 66, 67, 68, 69, 70, 71, 72, 73, 56, 81, 82, 83, 84, 85, 163, 164, 165, 166, 86, 87, 88, 89, 90, 91, 167, 168, 169, 170, 62, 63, 64, 171, 172, 173, 174, 175, 176, 177, 178, 179, 180, 181, 182, 183, 184, 185, 186, 187, 188, 189, 190, 191, 192, 193, 194, 195, 11, 196, 197, 198, 199, 16, 17, 18, 19, 200, 201, 202, 203, 204, 205, 206, 207, 208, 209, 210, 211, 212, 213, 214, 215, 216, 217, 218, 219, 220, 221, 222, 223, 224, 225, 226, 227, 228, 229, 230, 231, 232, 233, 234, 235, 236, 237, 238, 239, 240, 241, 242, 243, 244, 245, 246, 247, 248, 249, 250, 100, 251, 252, 253, 254, 116, 117, 118, 255, 256, 257, 258, 259, 260, 261, 262, 263, 264, 265, 101, 102, 103, 104, 266, 267, 268, 269, 270, 271, 272, 273, 105, 106, 107, 108, 274, 275, 276, 277, 278, 279, 280, 281, 48, 49, 50, 51, 52, 53, 54, 55, 57, 58, 59, 60, 282, 283, 284, 285, 286, 287, 288, 289, 290, 291, 292, 293, 294, 295, 296, 297, 298, 299, 300, 301, 15, 302, 303, 304, 305, 306, 307, 308, 309, 310, 311, 312, 313, 314, 315, 316, 317, 318, 319, 320, 321, 322, 323, 324, 325, 326, 327, 328, 329, 330, 331, 332, 333, 334, 335, 336, 337, 338, 339, 340, 341, 342, 343, 344, 345, 346, 347, 348, 349, 350, 351, 352, 353, 354, 355, 356, 357, 358, 359, 360, 361] (by decide +kernel) (by decide +kernel)
set_option maxRecDepth 20000 in
theorem gX9_run_X9_go : GoodIn wsX9_run (wsV RX9 478 RX9 yX9_go wsX9_go) := goodIn_app (goodIn_of _ (by decide +kernel)) ggX9_run_X9_go
theorem dX9_run_0 : decode cX9_run 0 = .ok (.aload_n 0, 1) := by decide +kernel
theorem dX9_run_1 : decode cX9_run 1 = .ok (.iconst 0, 1) := by decide +kernel
theorem dX9_run_2 : decode cX9_run 2 = .ok (.putfield 114, 3) := by decide +kernel
theorem dX9_run_5 : decode cX9_run 5 = .ok (.aload_n 0, 1) := by decide +kernel
theorem dX9_run_6 : decode cX9_run 6 = .ok (.invokevirtual 227, 3) := by decide +kernel
theorem dX9_run_9 : decode cX9_run 9 = .ok (.ifCond .le 9, 3) := by decide +kernel
theorem dX9_run_12 : decode cX9_run 12 = .ok (.aload_n 0, 1) := by decide +kernel
theorem dX9_run_13 : decode cX9_run 13 = .ok (.iconst 1, 1) := by decide +kernel
theorem dX9_run_14 : decode cX9_run 14 = .ok (.invokevirtual 128, 3) := by decide +kernel
theorem dX9_run_17 : decode cX9_run 17 = .ok (.ireturn, 1) := by decide +kernel
theorem dX9_run_18 : decode cX9_run 18 = .ok (.aload_n 0, 1) := by decide +kernel
theorem dX9_run_19 : decode cX9_run 19 = .ok (.aload_n 0, 1) := by decide +kernel
theorem dX9_run_20 : decode cX9_run 20 = .ok (.aload_n 0, 1) := by decide +kernel
theorem dX9_run_21 : decode cX9_run 21 = .ok (.getfield 68, 3) := by decide +kernel
theorem dX9_run_24 : decode cX9_run 24 = .ok (.aload_n 0, 1) := by decide +kernel
theorem dX9_run_25 : decode cX9_run 25 = .ok (.getfield 71, 3) := by decide +kernel
theorem dX9_run_28 : decode cX9_run 28 = .ok (.aload_n 0, 1) := by decide +kernel
theorem dX9_run_29 : decode cX9_run 29 = .ok (.getfield 65, 3) := by decide +kernel
theorem dX9_run_32 : decode cX9_run 32 = .ok (.invokevirtual 478, 3) := by decide +kernel
theorem dX9_run_35 : decode cX9_run 35 = .ok (.putfield 74, 3) := by decide +kernel
theorem dX9_run_38 : decode cX9_run 38 = .ok (.aload_n 0, 1) := by decide +kernel
theorem dX9_run_39 : decode cX9_run 39 = .ok (.aload_n 0, 1) := by decide +kernel
theorem dX9_run_40 : decode cX9_run 40 = .ok (.getfield 465, 3) := by decide +kernel
theorem dX9_run_43 : decode cX9_run 43 = .ok (.putfield 482, 3) := by decide +kernel
theorem dX9_run_46 : decode cX9_run 46 = .ok (.aload_n 0, 1) := by decide +kernel
theorem dX9_run_47 : decode cX9_run 47 = .ok (.iconst 3, 1) := by decide +kernel
theorem dX9_run_48 : decode cX9_run 48 = .ok (.bipush 50, 2) := by decide +kernel
theorem dX9_run_50 : decode cX9_run 50 = .ok (.aload_n 0, 1) := by decide +kernel
theorem dX9_run_51 : decode cX9_run 51 = .ok (.getfield 469, 3) := by decide +kernel
theorem dX9_run_54 : decode cX9_run 54 = .ok (.invokestatic 485, 3) := by decide +kernel
theorem dX9_run_57 : decode cX9_run 57 = .ok (.imul, 1) := by decide +kernel
theorem dX9_run_58 : decode cX9_run 58 = .ok (.newarray .int, 2) := by decide +kernel
theorem dX9_run_60 : decode cX9_run 60 = .ok (.putfield 77, 3) := by decide +kernel
theorem dX9_run_63 : decode cX9_run 63 = .ok (.aload_n 0, 1) := by decide +kernel
theorem dX9_run_64 : decode cX9_run 64 = .ok (.getfield 101, 3) := by decide +kernel
theorem dX9_run_67 : decode cX9_run 67 = .ok (.iconst 0, 1) := by decide +kernel
theorem dX9_run_68 : decode cX9_run 68 = .ok (.aload_n 0, 1) := by decide +kernel
theorem dX9_run_69 : decode cX9_run 69 = .ok (.getfield 77, 3) := by decide +kernel
theorem dX9_run_72 : decode cX9_run 72 = .ok (.iconst 0, 1) := by decide +kernel
theorem dX9_run_73 : decode cX9_run 73 = .ok (.aload_n 0, 1) := by decide +kernel
theorem dX9_run_74 : decode cX9_run 74 = .ok (.getfield 77, 3) := by decide +kernel
theorem dX9_run_77 : decode cX9_run 77 = .ok (.arraylength, 1) := by decide +kernel
theorem dX9_run_78 : decode cX9_run 78 = .ok (.invokestatic 286, 3) := by decide +kernel
theorem dX9_run_81 : decode cX9_run 81 = .ok (.aload_n 0, 1) := by decide +kernel
theorem dX9_run_82 : decode cX9_run 82 = .ok (.dup, 1) := by decide +kernel
theorem dX9_run_83 : decode cX9_run 83 = .ok (.getfield 488, 3) := by decide +kernel
theorem dX9_run_86 : decode cX9_run 86 = .ok (.iconst 1, 1) := by decide +kernel
theorem dX9_run_87 : decode cX9_run 87 = .ok (.iadd, 1) := by decide +kernel
theorem dX9_run_88 : decode cX9_run 88 = .ok (.putfield 488, 3) := by decide +kernel
theorem dX9_run_91 : decode cX9_run 91 = .ok (.aload_n 0, 1) := by decide +kernel
theorem dX9_run_92 : decode cX9_run 92 = .ok (.getfield 74, 3) := by decide +kernel
theorem dX9_run_95 : decode cX9_run 95 = .ok (.iconst 0, 1) := by decide +kernel
theorem dX9_run_96 : decode cX9_run 96 = .ok (.iaload, 1) := by decide +kernel
theorem dX9_run_97 : decode cX9_run 97 = .ok (.ireturn, 1) := by decide +kernel
set_option maxRecDepth 20000 in
theorem ggX9_ofRun_X9_isIn : GoodIn wsX9_ofRun wsX9_isIn := goodIn_r _ [7] (by decide +kernel) (by decide +kernel)
set_option maxRecDepth 20000 in
theorem gX9_ofRun_X9_isIn : GoodIn wsX9_ofRun (va_wsS RX9 117 yX9_isIn wsX9_isIn) := goodIn_app (goodIn_of _ (by decide +kernel)) ggX9_ofRun_X9_isIn
set_option maxRecDepth 20000 in
theorem ggX9_ofRun_X9_no : GoodIn wsX9_ofRun wsX9_no := goodIn_r _ [11, 1, 12, 13, 14, 15, 16, 17, 18, 19, 20, 21, 22, 23, 24, 25, 26, 27, 28, 29, 30, 31, 32, 33, 34, 35, 36, 37, 38, 39, 40, 41, 42, 43, 44, 45, 46, 47, 48, 49, 50, 51, 52, 53, 54, 55, 56, 57, 58, 59, 60, 61, 62, 63, 64, 65, 66, 67, 68, 69, 70, 71] (by decide +kernel) (by decide +kernel)
set_option maxRecDepth 20000 in
theorem gX9_ofRun_X9_no : GoodIn wsX9_ofRun (wsV RX9 128 RX9 yX9_no wsX9_no) := goodIn_app (goodIn_of _ (by decide +kernel)) ggX9_ofRun_X9_no
theorem dX9_ofRun_0 : decode cX9_ofRun 0 = .ok (.aload_n 0, 1) := by decide +kernel
theorem dX9_ofRun_1 : decode cX9_ofRun 1 = .ok (.iconst 0, 1) := by decide +kernel
theorem dX9_ofRun_2 : decode cX9_ofRun 2 = .ok (.putfield 114, 3) := by decide +kernel
theorem dX9_ofRun_5 : decode cX9_ofRun 5 = .ok (.iload_n 1, 1) := by decide +kernel
theorem dX9_ofRun_6 : decode cX9_ofRun 6 = .ok (.iconst 0, 1) := by decide +kernel
theorem dX9_ofRun_7 : decode cX9_ofRun 7 = .ok (.bipush 10, 2) := by decide +kernel
theorem dX9_ofRun_9 : decode cX9_ofRun 9 = .ok (.invokestatic 117, 3) := by decide +kernel
theorem dX9_ofRun_12 : decode cX9_ofRun 12 = .ok (.ifCond .ne 11, 3) := by decide +kernel
theorem dX9_ofRun_15 : decode cX9_ofRun 15 = .ok (.aload_n 0, 1) := by decide +kernel
theorem dX9_ofRun_16 : decode cX9_ofRun 16 = .ok (.iconst 1, 1) := by decide +kernel
theorem dX9_ofRun_17 : decode cX9_ofRun 17 = .ok (.invokevirtual 128, 3) := by decide +kernel
theorem dX9_ofRun_20 : decode cX9_ofRun 20 = .ok (.goto 22, 3) := by decide +kernel
theorem dX9_ofRun_23 : decode cX9_ofRun 23 = .ok (.iload_n 1, 1) := by decide +kernel
theorem dX9_ofRun_24 : decode cX9_ofRun 24 = .ok (.bipush 10, 2) := by decide +kernel
theorem dX9_ofRun_26 : decode cX9_ofRun 26 = .ok (.if_icmp .ne 10, 3) := by decide +kernel
theorem dX9_ofRun_29 : decode cX9_ofRun 29 = .ok (.aload_n 0, 1) := by decide +kernel
theorem dX9_ofRun_30 : decode cX9_ofRun 30 = .ok (.getfield 488, 3) := by decide +kernel
theorem dX9_ofRun_33 : decode cX9_ofRun 33 = .ok (.goto 9, 3) := by decide +kernel
theorem dX9_ofRun_36 : decode cX9_ofRun 36 = .ok (.aload_n 0, 1) := by decide +kernel
theorem dX9_ofRun_37 : decode cX9_ofRun 37 = .ok (.getfield 74, 3) := by decide +kernel
theorem dX9_ofRun_40 : decode cX9_ofRun 40 = .ok (.iload_n 1, 1) := by decide +kernel
theorem dX9_ofRun_41 : decode cX9_ofRun 41 = .ok (.iaload, 1) := by decide +kernel
theorem dX9_ofRun_42 : decode cX9_ofRun 42 = .ok (.ireturn, 1) := by decide +kernel
set_option maxRecDepth 20000 in
theorem ggX9_printed_X9_isIn : GoodIn wsX9_printed wsX9_isIn := goodIn_r _ [6] (by decide +kernel) (by decide +kernel)
set_option maxRecDepth 20000 in
theorem gX9_printed_X9_isIn : GoodIn wsX9_printed (va_wsS RX9 117 yX9_isIn wsX9_isIn) := goodIn_app (goodIn_of _ (by decide +kernel)) ggX9_printed_X9_isIn
set_option maxRecDepth 20000 in
theorem ggX9_printed_X9_no : GoodIn wsX9_printed wsX9_no := goodIn_r _ [10, 1, 11, 12, 13, 14, 15, 16, 17, 18, 19, 20, 21, 22, 23, 24, 25, 26, 27, 28, 29, 30, 31, 32, 33, 34, 35, 36, 37, 38, 39, 40, 41, 42, 43, 44, 45, 46, 47, 48, 49, 50, 51, 52, 53, 54, 55, 56, 57, 58, 59, 60, 61, 62, 63, 64, 65, 66, 67, 68, 69, 70] (by decide +kernel) (by decide +kernel)
set_option maxRecDepth 20000 in
theorem gX9_printed_X9_no : GoodIn wsX9_printed (wsV RX9 128 RX9 yX9_no wsX9_no) := goodIn_app (goodIn_of _ (by decide +kernel)) ggX9_printed_X9_no
theorem dX9_printed_0 : decode cX9_printed 0 = .ok (.aload_n 0, 1) := by decide +kernel
theorem dX9_printed_1 : decode cX9_printed 1 = .ok (.iconst 0, 1) := by decide +kernel
theorem dX9_printed_2 : decode cX9_printed 2 = .ok (.putfield 114, 3) := by decide +kernel
theorem dX9_printed_5 : decode cX9_printed 5 = .ok (.iload_n 1, 1) := by decide +kernel
theorem dX9_printed_6 : decode cX9_printed 6 = .ok (.iconst 0, 1) := by decide +kernel
theorem dX9_printed_7 : decode cX9_printed 7 = .ok (.aload_n 0, 1) := by decide +kernel
theorem dX9_printed_8 : decode cX9_printed 8 = .ok (.getfield 77, 3) := by decide +kernel
theorem dX9_printed_11 : decode cX9_printed 11 = .ok (.arraylength, 1) := by decide +kernel
theorem dX9_printed_12 : decode cX9_printed 12 = .ok (.iconst 3, 1) := by decide +kernel
theorem dX9_printed_13 : decode cX9_printed 13 = .ok (.idiv, 1) := by decide +kernel
theorem dX9_printed_14 : decode cX9_printed 14 = .ok (.iconst 1, 1) := by decide +kernel
theorem dX9_printed_15 : decode cX9_printed 15 = .ok (.isub, 1) := by decide +kernel
theorem dX9_printed_16 : decode cX9_printed 16 = .ok (.invokestatic 117, 3) := by decide +kernel
theorem dX9_printed_19 : decode cX9_printed 19 = .ok (.ifCond .ne 9, 3) := by decide +kernel
theorem dX9_printed_22 : decode cX9_printed 22 = .ok (.aload_n 0, 1) := by decide +kernel
theorem dX9_printed_23 : decode cX9_printed 23 = .ok (.iconst 1, 1) := by decide +kernel
theorem dX9_printed_24 : decode cX9_printed 24 = .ok (.invokevirtual 128, 3) := by decide +kernel
theorem dX9_printed_27 : decode cX9_printed 27 = .ok (.ireturn, 1) := by decide +kernel
theorem dX9_printed_28 : decode cX9_printed 28 = .ok (.iload_n 2, 1) := by decide +kernel
theorem dX9_printed_29 : decode cX9_printed 29 = .ok (.iconst 0, 1) := by decide +kernel
theorem dX9_printed_30 : decode cX9_printed 30 = .ok (.iconst 2, 1) := by decide +kernel
theorem dX9_printed_31 : decode cX9_printed 31 = .ok (.invokestatic 117, 3) := by decide +kernel
theorem dX9_printed_34 : decode cX9_printed 34 = .ok (.ifCond .eq 16, 3) := by decide +kernel
theorem dX9_printed_37 : decode cX9_printed 37 = .ok (.aload_n 0, 1) := by decide +kernel
theorem dX9_printed_38 : decode cX9_printed 38 = .ok (.getfield 77, 3) := by decide +kernel
theorem dX9_printed_41 : decode cX9_printed 41 = .ok (.iconst 3, 1) := by decide +kernel
theorem dX9_printed_42 : decode cX9_printed 42 = .ok (.iload_n 1, 1) := by decide +kernel
theorem dX9_printed_43 : decode cX9_printed 43 = .ok (.imul, 1) := by decide +kernel
theorem dX9_printed_44 : decode cX9_printed 44 = .ok (.iload_n 2, 1) := by decide +kernel
theorem dX9_printed_45 : decode cX9_printed 45 = .ok (.iadd, 1) := by decide +kernel
theorem dX9_printed_46 : decode cX9_printed 46 = .ok (.iaload, 1) := by decide +kernel
theorem dX9_printed_47 : decode cX9_printed 47 = .ok (.goto 8, 3) := by decide +kernel
theorem dX9_printed_50 : decode cX9_printed 50 = .ok (.aload_n 0, 1) := by decide +kernel
theorem dX9_printed_51 : decode cX9_printed 51 = .ok (.iconst 2, 1) := by decide +kernel
theorem dX9_printed_52 : decode cX9_printed 52 = .ok (.invokevirtual 128, 3) := by decide +kernel
theorem dX9_printed_55 : decode cX9_printed 55 = .ok (.ireturn, 1) := by decide +kernel
theorem dX9_meanPrinted_0 : decode cX9_meanPrinted 0 = .ok (.aload_n 0, 1) := by decide +kernel
theorem dX9_meanPrinted_1 : decode cX9_meanPrinted 1 = .ok (.iconst 0, 1) := by decide +kernel
theorem dX9_meanPrinted_2 : decode cX9_meanPrinted 2 = .ok (.putfield 114, 3) := by decide +kernel
theorem dX9_meanPrinted_5 : decode cX9_meanPrinted 5 = .ok (.aload_n 0, 1) := by decide +kernel
theorem dX9_meanPrinted_6 : decode cX9_meanPrinted 6 = .ok (.getfield 74, 3) := by decide +kernel
theorem dX9_meanPrinted_9 : decode cX9_meanPrinted 9 = .ok (.iconst 4, 1) := by decide +kernel
theorem dX9_meanPrinted_10 : decode cX9_meanPrinted 10 = .ok (.iaload, 1) := by decide +kernel
theorem dX9_meanPrinted_11 : decode cX9_meanPrinted 11 = .ok (.ifCond .ne 7, 3) := by decide +kernel
theorem dX9_meanPrinted_14 : decode cX9_meanPrinted 14 = .ok (.dconst 0, 1) := by decide +kernel
theorem dX9_meanPrinted_15 : decode cX9_meanPrinted 15 = .ok (.goto 16, 3) := by decide +kernel
theorem dX9_meanPrinted_18 : decode cX9_meanPrinted 18 = .ok (.aload_n 0, 1) := by decide +kernel
theorem dX9_meanPrinted_19 : decode cX9_meanPrinted 19 = .ok (.getfield 482, 3) := by decide +kernel
theorem dX9_meanPrinted_22 : decode cX9_meanPrinted 22 = .ok (.l2d, 1) := by decide +kernel
theorem dX9_meanPrinted_23 : decode cX9_meanPrinted 23 = .ok (.aload_n 0, 1) := by decide +kernel
theorem dX9_meanPrinted_24 : decode cX9_meanPrinted 24 = .ok (.getfield 74, 3) := by decide +kernel
theorem dX9_meanPrinted_27 : decode cX9_meanPrinted 27 = .ok (.iconst 4, 1) := by decide +kernel
theorem dX9_meanPrinted_28 : decode cX9_meanPrinted 28 = .ok (.iaload, 1) := by decide +kernel
theorem dX9_meanPrinted_29 : decode cX9_meanPrinted 29 = .ok (.i2d, 1) := by decide +kernel
theorem dX9_meanPrinted_30 : decode cX9_meanPrinted 30 = .ok (.ddiv, 1) := by decide +kernel
theorem dX9_meanPrinted_31 : decode cX9_meanPrinted 31 = .ok (.dreturn, 1) := by decide +kernel
set_option maxRecDepth 20000 in
theorem ggX9_manyNow_X9_in : GoodIn wsX9_manyNow wsX9_in := goodIn_r _ [10, 11, 12, 220, 221, 222, 223, 224, 225, 226, 227, 228, 229, 230, 231, 232, 233, 234, 235, 236, 237, 238, 239, 240, 241, 242, 243, 244, 245, 246, 247, 248, 249, 250, 251, 252, 253, 254, 255, 256, 257, 258, 259, 260, 261, 262, 263, 264, 265, 266, 267, 268, 269, 270, 271, 272, 273, 274, 275, 276, 277, 278, 279] (by decide +kernel) (by decide +kernel)
set_option maxRecDepth 20000 in
theorem gX9_manyNow_X9_in : GoodIn wsX9_manyNow (wsV RX9 194 RX9 yX9_in wsX9_in) := goodIn_app (goodIn_of _ (by decide +kernel)) ggX9_manyNow_X9_in
set_option maxRecDepth 20000 in
theorem ggX9_manyNow_X9_ofNodeNow : GoodIn wsX9_manyNow wsX9_ofNodeNow := goodIn_r _ [16, 17, 18, 19, 20, 6, 7, 8, 9, 10, 11, 12, 21, 22, 23, 24, 25, 26, 27, 28, 29, 30, 31, 32, 33, 34, 35, 36, 37, 38, 39, 40, 41, 42, 43, 44, 45, 46, 47, 48, 49, 50, 51, 52, 53, 54, 55, 56, 57, 58, 59, 60, 61, 62, 63, 64, 65, 66, 67, 68, 69, 70, 71, 2, 72, 73, 74, 75, 76, 77, 78, 79, 80, 81, 82, 83, 84, 85, 86, 87, 88, 89, 90, 91, 220, 221, 222, 223, 224, 225, 226, 227, 228, 229, 230, 231, 232, 233, 234, 235, 236, 237, 238, 239, 240, 241, 242, 243, 244, 245, 246, 247, 248, 249, 250, 251, 252, 253, 254, 255, 256, 257, 258, 259, 260, 261, 262, 263, 264, 265, 266, 267, 268, 269, 270, 271, 272, 273, 274, 275, 276, 277, 278, 279] (by decide +kernel) (by decide +kernel)
set_option maxRecDepth 20000 in
theorem gX9_manyNow_X9_ofNodeNow : GoodIn wsX9_manyNow (wsV RX9 240 RX9 yX9_ofNodeNow wsX9_ofNodeNow) := goodIn_app (goodIn_of _ (by decide +kernel)) ggX9_manyNow_X9_ofNodeNow
set_option maxRecDepth 20000 in
theorem ggX9_manyNow_X9_faults : GoodIn wsX9_manyNow wsX9_faults := goodIn_r _ [95, 96, 97, 98, 9, 99, 100, 1, 101, 102, 103, 104, 105, 17, 18, 6, 7, 8, 10, 11, 12, 106, 107, 108, 109, 110, 111, 112, 113, 114, 115, 116, 117, 52, 118, 119, 120, 121, 2, 72, 73, 74, 43, 44, 45, 46, 47, 48, 49, 50, 51, 122, 123, 124, 125, 126, 127, 128, 53, 54, 55, 56, 57, 62, 63, 64, 65, 66, 67, 129, 130, 131, 132, 133, 134, 135, 19, 20, 136, 137, 138, 139, 140, 141, 142, 143, 144, 145, 146, 147, 148, 149, 150, 25, 26, 27, 151, 152, 153, 154, 155, 156, 157, 158, 159, 160, 220, 221, 222, 223, 224, 225, 226, 227, 228, 229, 230, 231, 232, 233, 234, 235, 236, 237, 238, 239, 240, 241, 242, 243, 244, 245, 246, 247, 248, 249, 250, 251, 252, 253, 254, 255, 256, 257, 258, 259, 260, 261, 262, 263, 264, 265, 266, 267, 268, 269, 270, 271, 272, 273, 274, 275, 276, 277, 278, 279] (by decide +kernel) (by decide +kernel)
set_option maxRecDepth 20000 in
theorem gX9_manyNow_X9_faults : GoodIn wsX9_manyNow (wsV RX9 227 RX9 yX9_faults wsX9_faults) := goodIn_app (goodIn_of _ (by decide +kernel)) ggX9_manyNow_X9_faults
set_option maxRecDepth 20000 in
theorem ggX9_manyNow_X9_escapes : GoodIn wsX9_manyNow wsX9_escapes := goodIn_r _ [71, 2, 17, 18, 72, 73, 9, 74, 6, 7, 8, 10, 11, 12, 58, 59, 60, 61, 52, 48, 49, 50, 51, 47, 75, 76, 77, 78, 79, 80, 81, 82, 83, 84, 85, 86, 87, 43, 44, 45, 46, 53, 54, 55, 56, 57, 220, 221, 222, 223, 224, 225, 226, 227, 228, 229, 230, 231, 232, 233, 234, 235, 236, 237, 238, 239, 240, 241, 242, 243, 244, 245, 246, 247, 248, 249, 250, 251, 252, 253, 254, 255, 256, 257, 258, 259, 260, 261, 262, 263, 264, 265, 266, 267, 268, 269, 270, 271, 272, 273, 274, 275, 276, 277, 278, 279] (by decide +kernel) (by decide +kernel)
set_option maxRecDepth 20000 in
theorem gX9_manyNow_X9_escapes : GoodIn wsX9_manyNow (wsV RX9 224 RX9 yX9_escapes wsX9_escapes) := goodIn_app (goodIn_of _ (by decide +kernel)) ggX9_manyNow_X9_escapes
set_option maxRecDepth 20000 in
theorem ggX9_manyNow_X9_bits : GoodIn wsX9_manyNow wsX9_bits := goodIn_r _ [163] (by decide +kernel) (by decide +kernel)
set_option maxRecDepth 20000 in
theorem gX9_manyNow_X9_bits : GoodIn wsX9_manyNow (va_wsS RX9 472 yX9_bits wsX9_bits) := goodIn_app (goodIn_of _ (by decide +kernel)) ggX9_manyNow_X9_bits
set_option maxRecDepth 20000 in
theorem ggX9_manyNow_X9_allCode : GoodIn wsX9_manyNow wsX9_allCode := goodIn_r _ [167, 1, 168, 169, 170, 9, 171, 172, 173, 174, 175, 176, 177, 178, 101, 179, 180, 181, 182, 17, 18, 52, 183, 184, 185, 186, 187, 100, 188, 189, 190, 191, 43, 44, 45, 46, 47, 48, 49, 50, 51, 53, 54, 55, 56, 57, 192, 193, 194, 195, 88, 89, 90, 91, 75, 76, 77, 78, 79, 196, 197, 198, 199, 200, 201, 202, 203, 204, 205, 106, 107, 108, 109, 110, 111, 112, 113, 11, 114, 115, 116, 117, 118, 119, 120, 121, 2, 6, 7, 8, 10, 12, 206, 207, 208, 209, 19, 210, 20, 140, 141, 142, 143, 67, 211, 212, 213, 214, 25, 26, 27, 158, 159, 160, 21, 22, 23, 24, 28, 29, 30, 31, 32, 33, 34, 35, 36, 37, 38, 215, 216, 217, 218, 151, 152, 153, 154, 155, 156, 157, 39, 40, 41, 42, 58, 59, 60, 61, 62, 63, 64, 65, 66, 68, 69, 70, 71, 72, 73, 74, 80, 81, 82, 83, 84, 85, 86, 87, 219, 220, 221, 222, 223, 224, 225, 226, 227, 228, 229, 230, 231, 232, 233, 234, 235, 236, 237, 238, 239, 240, 241, 242, 243, 244, 245, 246, 247, 248, 249, 250, 251, 252, 253, 254, 255, 256, 257, 258, 259, 260, 261, 262, 263, 264, 265, 266, 267, 268, 269, 270, 271, 272, 273, 274, 275, 276, 277, 278, 279] (by decide +kernel) (by decide +kernel)
set_option maxRecDepth 20000 in
theorem gX9_manyNow_X9_allCode : GoodIn wsX9_manyNow (wsV RX9 491 RX9 yX9_allCode wsX9_allCode) := goodIn_app (goodIn_of _ (by decide +kernel)) ggX9_manyNow_X9_allCode
theorem dX9_manyNow_0 : decode cX9_manyNow 0 = .ok (.iconst 0, 1) := by decide +kernel
theorem dX9_manyNow_1 : decode cX9_manyNow 1 = .ok (.istore_n 2, 1) := by decide +kernel
theorem dX9_manyNow_2 : decode cX9_manyNow 2 = .ok (.iload_n 1, 1) := by decide +kernel
theorem dX9_manyNow_3 : decode cX9_manyNow 3 = .ok (.tableswitch 180 0 9 #[53, 58, 63, 131, 63, 63, 136, 165, 170, 175], 53) := by decide +kernel
theorem dX9_manyNow_56 : decode cX9_manyNow 56 = .ok (.aload_n 0, 1) := by decide +kernel
theorem dX9_manyNow_57 : decode cX9_manyNow 57 = .ok (.getfield 7, 3) := by decide +kernel
theorem dX9_manyNow_60 : decode cX9_manyNow 60 = .ok (.ireturn, 1) := by decide +kernel
theorem dX9_manyNow_61 : decode cX9_manyNow 61 = .ok (.aload_n 0, 1) := by decide +kernel
theorem dX9_manyNow_62 : decode cX9_manyNow 62 = .ok (.getfield 121, 3) := by decide +kernel
theorem dX9_manyNow_65 : decode cX9_manyNow 65 = .ok (.ireturn, 1) := by decide +kernel
theorem dX9_manyNow_66 : decode cX9_manyNow 66 = .ok (.iconst 0, 1) := by decide +kernel
theorem dX9_manyNow_67 : decode cX9_manyNow 67 = .ok (.istore_n 3, 1) := by decide +kernel
theorem dX9_manyNow_68 : decode cX9_manyNow 68 = .ok (.iload_n 3, 1) := by decide +kernel
theorem dX9_manyNow_69 : decode cX9_manyNow 69 = .ok (.aload_n 0, 1) := by decide +kernel
theorem dX9_manyNow_70 : decode cX9_manyNow 70 = .ok (.getfield 121, 3) := by decide +kernel
theorem dX9_manyNow_73 : decode cX9_manyNow 73 = .ok (.if_icmp .ge 59, 3) := by decide +kernel
theorem dX9_manyNow_76 : decode cX9_manyNow 76 = .ok (.iload_n 2, 1) := by decide +kernel
theorem dX9_manyNow_77 : decode cX9_manyNow 77 = .ok (.aload_n 0, 1) := by decide +kernel
theorem dX9_manyNow_78 : decode cX9_manyNow 78 = .ok (.iload_n 3, 1) := by decide +kernel
theorem dX9_manyNow_79 : decode cX9_manyNow 79 = .ok (.invokevirtual 194, 3) := by decide +kernel
theorem dX9_manyNow_82 : decode cX9_manyNow 82 = .ok (.iconst (-1), 1) := by decide +kernel
theorem dX9_manyNow_83 : decode cX9_manyNow 83 = .ok (.if_icmp .ne 16, 3) := by decide +kernel
theorem dX9_manyNow_86 : decode cX9_manyNow 86 = .ok (.iload_n 1, 1) := by decide +kernel
theorem dX9_manyNow_87 : decode cX9_manyNow 87 = .ok (.iconst 2, 1) := by decide +kernel
theorem dX9_manyNow_88 : decode cX9_manyNow 88 = .ok (.if_icmp .ne 7, 3) := by decide +kernel
theorem dX9_manyNow_91 : decode cX9_manyNow 91 = .ok (.iconst 1, 1) := by decide +kernel
theorem dX9_manyNow_92 : decode cX9_manyNow 92 = .ok (.goto 32, 3) := by decide +kernel
theorem dX9_manyNow_95 : decode cX9_manyNow 95 = .ok (.iconst 0, 1) := by decide +kernel
theorem dX9_manyNow_96 : decode cX9_manyNow 96 = .ok (.goto 28, 3) := by decide +kernel
theorem dX9_manyNow_99 : decode cX9_manyNow 99 = .ok (.iload_n 1, 1) := by decide +kernel
theorem dX9_manyNow_100 : decode cX9_manyNow 100 = .ok (.iconst 2, 1) := by decide +kernel
theorem dX9_manyNow_101 : decode cX9_manyNow 101 = .ok (.if_icmp .le 22, 3) := by decide +kernel
theorem dX9_manyNow_104 : decode cX9_manyNow 104 = .ok (.aload_n 0, 1) := by decide +kernel
theorem dX9_manyNow_105 : decode cX9_manyNow 105 = .ok (.iload_n 3, 1) := by decide +kernel
theorem dX9_manyNow_106 : decode cX9_manyNow 106 = .ok (.iload_n 1, 1) := by decide +kernel
theorem dX9_manyNow_107 : decode cX9_manyNow 107 = .ok (.iconst 4, 1) := by decide +kernel
theorem dX9_manyNow_108 : decode cX9_manyNow 108 = .ok (.if_icmp .ne 8, 3) := by decide +kernel
theorem dX9_manyNow_111 : decode cX9_manyNow 111 = .ok (.bipush 6, 2) := by decide +kernel
theorem dX9_manyNow_113 : decode cX9_manyNow 113 = .ok (.goto 4, 3) := by decide +kernel
theorem dX9_manyNow_116 : decode cX9_manyNow 116 = .ok (.iconst 5, 1) := by decide +kernel
theorem dX9_manyNow_117 : decode cX9_manyNow 117 = .ok (.invokevirtual 240, 3) := by decide +kernel
theorem dX9_manyNow_120 : decode cX9_manyNow 120 = .ok (.goto 4, 3) := by decide +kernel
theorem dX9_manyNow_123 : decode cX9_manyNow 123 = .ok (.iconst 0, 1) := by decide +kernel
theorem dX9_manyNow_124 : decode cX9_manyNow 124 = .ok (.iadd, 1) := by decide +kernel
theorem dX9_manyNow_125 : decode cX9_manyNow 125 = .ok (.istore_n 2, 1) := by decide +kernel
theorem dX9_manyNow_126 : decode cX9_manyNow 126 = .ok (.iinc 3 1, 3) := by decide +kernel
theorem dX9_manyNow_129 : decode cX9_manyNow 129 = .ok (.goto (-61), 3) := by decide +kernel
theorem dX9_manyNow_132 : decode cX9_manyNow 132 = .ok (.iload_n 2, 1) := by decide +kernel
theorem dX9_manyNow_133 : decode cX9_manyNow 133 = .ok (.ireturn, 1) := by decide +kernel
theorem dX9_manyNow_134 : decode cX9_manyNow 134 = .ok (.aload_n 0, 1) := by decide +kernel
theorem dX9_manyNow_135 : decode cX9_manyNow 135 = .ok (.invokevirtual 227, 3) := by decide +kernel
theorem dX9_manyNow_138 : decode cX9_manyNow 138 = .ok (.ireturn, 1) := by decide +kernel
theorem dX9_manyNow_139 : decode cX9_manyNow 139 = .ok (.iconst 0, 1) := by decide +kernel
theorem dX9_manyNow_140 : decode cX9_manyNow 140 = .ok (.istore_n 3, 1) := by decide +kernel
theorem dX9_manyNow_141 : decode cX9_manyNow 141 = .ok (.iload_n 3, 1) := by decide +kernel
theorem dX9_manyNow_142 : decode cX9_manyNow 142 = .ok (.aload_n 0, 1) := by decide +kernel
theorem dX9_manyNow_143 : decode cX9_manyNow 143 = .ok (.getfield 7, 3) := by decide +kernel
theorem dX9_manyNow_146 : decode cX9_manyNow 146 = .ok (.if_icmp .ge 20, 3) := by decide +kernel
theorem dX9_manyNow_149 : decode cX9_manyNow 149 = .ok (.iload_n 2, 1) := by decide +kernel
theorem dX9_manyNow_150 : decode cX9_manyNow 150 = .ok (.aload_n 0, 1) := by decide +kernel
theorem dX9_manyNow_151 : decode cX9_manyNow 151 = .ok (.iload_n 3, 1) := by decide +kernel
theorem dX9_manyNow_152 : decode cX9_manyNow 152 = .ok (.invokevirtual 224, 3) := by decide +kernel
theorem dX9_manyNow_155 : decode cX9_manyNow 155 = .ok (.invokestatic 472, 3) := by decide +kernel
theorem dX9_manyNow_158 : decode cX9_manyNow 158 = .ok (.iadd, 1) := by decide +kernel
theorem dX9_manyNow_159 : decode cX9_manyNow 159 = .ok (.istore_n 2, 1) := by decide +kernel
theorem dX9_manyNow_160 : decode cX9_manyNow 160 = .ok (.iinc 3 1, 3) := by decide +kernel
theorem dX9_manyNow_163 : decode cX9_manyNow 163 = .ok (.goto (-22), 3) := by decide +kernel
theorem dX9_manyNow_166 : decode cX9_manyNow 166 = .ok (.iload_n 2, 1) := by decide +kernel
theorem dX9_manyNow_167 : decode cX9_manyNow 167 = .ok (.ireturn, 1) := by decide +kernel
theorem dX9_manyNow_168 : decode cX9_manyNow 168 = .ok (.aload_n 0, 1) := by decide +kernel
theorem dX9_manyNow_169 : decode cX9_manyNow 169 = .ok (.getfield 65, 3) := by decide +kernel
theorem dX9_manyNow_172 : decode cX9_manyNow 172 = .ok (.ireturn, 1) := by decide +kernel
theorem dX9_manyNow_173 : decode cX9_manyNow 173 = .ok (.aload_n 0, 1) := by decide +kernel
theorem dX9_manyNow_174 : decode cX9_manyNow 174 = .ok (.getfield 68, 3) := by decide +kernel
theorem dX9_manyNow_177 : decode cX9_manyNow 177 = .ok (.ireturn, 1) := by decide +kernel
theorem dX9_manyNow_178 : decode cX9_manyNow 178 = .ok (.aload_n 0, 1) := by decide +kernel
theorem dX9_manyNow_179 : decode cX9_manyNow 179 = .ok (.getfield 71, 3) := by decide +kernel
theorem dX9_manyNow_182 : decode cX9_manyNow 182 = .ok (.ireturn, 1) := by decide +kernel
theorem dX9_manyNow_183 : decode cX9_manyNow 183 = .ok (.aload_n 0, 1) := by decide +kernel
theorem dX9_manyNow_184 : decode cX9_manyNow 184 = .ok (.invokevirtual 227, 3) := by decide +kernel
theorem dX9_manyNow_187 : decode cX9_manyNow 187 = .ok (.ifCond .le 7, 3) := by decide +kernel
theorem dX9_manyNow_190 : decode cX9_manyNow 190 = .ok (.iconst 0, 1) := by decide +kernel
theorem dX9_manyNow_191 : decode cX9_manyNow 191 = .ok (.goto 11, 3) := by decide +kernel
theorem dX9_manyNow_194 : decode cX9_manyNow 194 = .ok (.aload_n 0, 1) := by decide +kernel
theorem dX9_manyNow_195 : decode cX9_manyNow 195 = .ok (.aload_n 0, 1) := by decide +kernel
theorem dX9_manyNow_196 : decode cX9_manyNow 196 = .ok (.getfield 65, 3) := by decide +kernel
theorem dX9_manyNow_199 : decode cX9_manyNow 199 = .ok (.invokevirtual 491, 3) := by decide +kernel
theorem dX9_manyNow_202 : decode cX9_manyNow 202 = .ok (.ireturn, 1) := by decide +kernel
set_option maxRecDepth 20000 in
theorem ggX9_many_X9_isIn : GoodIn wsX9_many wsX9_isIn := goodIn_r _ [5] (by decide +kernel) (by decide +kernel)
set_option maxRecDepth 20000 in
theorem gX9_many_X9_isIn : GoodIn wsX9_many (va_wsS RX9 117 yX9_isIn wsX9_isIn) := goodIn_app (goodIn_of _ (by decide +kernel)) ggX9_many_X9_isIn
set_option maxRecDepth 20000 in
theorem ggX9_many_X9_manyNow : GoodIn wsX9_many wsX9_manyNow := goodIn_r _ [9, 10, 11, 12, 13, 14, 15, 16, 17, 4, 18, 19, 20, 21, 22, 23, 24, 25, 26, 27, 28, 29, 30, 31, 32, 2, 3, 5, 33, 34, 35, 36, 37, 38, 39, 40, 41, 42, 43, 44, 45, 46, 47, 48, 49, 50, 51, 52, 53, 54, 55, 56, 57, 58, 59, 60, 61, 62, 63, 64, 65, 66, 67, 68, 69, 70, 71, 72, 73, 74, 75, 76, 77, 78, 79, 80, 81, 82, 83, 84, 85, 86, 87, 88, 89, 90, 91, 92, 93, 94, 95, 96, 97, 98, 99, 100, 101, 102, 103, 104, 105, 106, 107, 108, 109, 110, 111, 112, 113, 114, 115, 116, 117, 118, 119, 120, 121, 122, 123, 124, 125, 126, 127, 128, 129, 130, 131, 132, 133, 134, 135, 136, 137, 138, 139, 140, 141, 142, 143, 144, 145, 146, 147, 148, 149, 150, 151, 152, 153, 154, 155, 156, 157, 158, 159, 160, 161, 162, 163, 164, 165, 166, 167, 168, 169, 170, 171, 172, 173, 174, 175, 176, 177, 178, 179, 180, 181, 182, 183, 184, 185, 186, 187, 188, 189, 190, 191, 192, 193, 194, 195, 196, 197, 198, 199, 200, 201, 202, 203, 204, 205, 206, 207, 208, 209, 210, 211, 212, 213, 214, 215, 216, 217, 218, 219, 220, 221, 222, 223, 224, 229, 230, 231, 232, 233, 234, 235, 236, 237, 238, 239, 240, 241, 242, 243, 244, 245, 246, 247, 248, 249, 250, 251, 252, 253, 254, 255, 256, 257, 258, 259, 260, 261, 262, 263, 264, 265, 266, 267, 268, 269, 270, 271, 272, 273, 274, 275, 276, 277, 278, 279, 280, 281, 282, 283, 284, 285, 286, 287, 288] (by decide +kernel) (by decide +kernel)
set_option maxRecDepth 20000 in
theorem gX9_many_X9_manyNow : GoodIn wsX9_many (wsV RX9 494 RX9 yX9_manyNow wsX9_manyNow) := goodIn_app (goodIn_of _ (by decide +kernel)) ggX9_many_X9_manyNow
set_option maxRecDepth 20000 in
theorem ggX9_many_X9_no : GoodIn wsX9_many wsX9_no := goodIn_r _ [228, 1, 229, 230, 231, 232, 233, 234, 235, 236, 237, 238, 239, 240, 241, 242, 243, 244, 245, 246, 247, 248, 249, 250, 251, 252, 253, 254, 255, 256, 257, 258, 259, 260, 261, 262, 263, 264, 265, 266, 267, 268, 269, 270, 271, 272, 273, 274, 275, 276, 277, 278, 279, 280, 281, 282, 283, 284, 285, 286, 287, 288] (by decide +kernel) (by decide +kernel)
set_option maxRecDepth 20000 in
theorem gX9_many_X9_no : GoodIn wsX9_many (wsV RX9 128 RX9 yX9_no wsX9_no) := goodIn_app (goodIn_of _ (by decide +kernel)) ggX9_many_X9_no
theorem dX9_many_0 : decode cX9_many 0 = .ok (.aload_n 0, 1) := by decide +kernel
theorem dX9_many_1 : decode cX9_many 1 = .ok (.iconst 0, 1) := by decide +kernel
theorem dX9_many_2 : decode cX9_many 2 = .ok (.putfield 114, 3) := by decide +kernel
theorem dX9_many_5 : decode cX9_many 5 = .ok (.iload_n 1, 1) := by decide +kernel
theorem dX9_many_6 : decode cX9_many 6 = .ok (.iconst 0, 1) := by decide +kernel
theorem dX9_many_7 : decode cX9_many 7 = .ok (.bipush 10, 2) := by decide +kernel
theorem dX9_many_9 : decode cX9_many 9 = .ok (.invokestatic 117, 3) := by decide +kernel
theorem dX9_many_12 : decode cX9_many 12 = .ok (.ifCond .eq 11, 3) := by decide +kernel
theorem dX9_many_15 : decode cX9_many 15 = .ok (.aload_n 0, 1) := by decide +kernel
theorem dX9_many_16 : decode cX9_many 16 = .ok (.iload_n 1, 1) := by decide +kernel
theorem dX9_many_17 : decode cX9_many 17 = .ok (.invokevirtual 494, 3) := by decide +kernel
theorem dX9_many_20 : decode cX9_many 20 = .ok (.goto 8, 3) := by decide +kernel
theorem dX9_many_23 : decode cX9_many 23 = .ok (.aload_n 0, 1) := by decide +kernel
theorem dX9_many_24 : decode cX9_many 24 = .ok (.iconst 1, 1) := by decide +kernel
theorem dX9_many_25 : decode cX9_many 25 = .ok (.invokevirtual 128, 3) := by decide +kernel
theorem dX9_many_28 : decode cX9_many 28 = .ok (.ireturn, 1) := by decide +kernel
set_option maxRecDepth 20000 in
theorem ggX9_wouldRun_X9_isIn : GoodIn wsX9_wouldRun wsX9_isIn := goodIn_r _ [6] (by decide +kernel) (by decide +kernel)
set_option maxRecDepth 20000 in
theorem gX9_wouldRun_X9_isIn : GoodIn wsX9_wouldRun (va_wsS RX9 117 yX9_isIn wsX9_isIn) := goodIn_app (goodIn_of _ (by decide +kernel)) ggX9_wouldRun_X9_isIn
set_option maxRecDepth 20000 in
theorem ggX9_wouldRun_X9_no : GoodIn wsX9_wouldRun wsX9_no := goodIn_r _ [10, 1, 293, 294, 295, 296, 297, 298, 299, 300, 301, 302, 303, 304, 305, 306, 307, 308, 309, 310, 311, 312, 313, 314, 315, 316, 317, 318, 319, 320, 321, 322, 323, 324, 325, 326, 327, 328, 329, 330, 331, 332, 333, 334, 335, 336, 337, 338, 339, 340, 341, 342, 343, 344, 345, 346, 347, 348, 349, 350, 351, 352] (by decide +kernel) (by decide +kernel)
set_option maxRecDepth 20000 in
theorem gX9_wouldRun_X9_no : GoodIn wsX9_wouldRun (wsV RX9 128 RX9 yX9_no wsX9_no) := goodIn_app (goodIn_of _ (by decide +kernel)) ggX9_wouldRun_X9_no
set_option maxRecDepth 20000 in
theorem ggX9_wouldRun_X9_faults : GoodIn wsX9_wouldRun wsX9_faults := goodIn_r _ [14, 15, 16, 17, 5, 18, 19, 20, 21, 22, 23, 24, 25, 26, 27, 28, 29, 30, 31, 32, 33, 34, 35, 36, 37, 38, 39, 40, 41, 42, 43, 44, 45, 46, 47, 48, 49, 50, 51, 52, 53, 54, 55, 56, 57, 58, 59, 60, 61, 62, 63, 64, 65, 66, 67, 68, 69, 70, 71, 72, 73, 74, 75, 76, 77, 78, 79, 80, 81, 82, 83, 84, 85, 86, 87, 88, 89, 90, 91, 92, 93, 94, 95, 96, 97, 98, 99, 100, 101, 102, 103, 104, 105, 3, 4, 6, 106, 107, 108, 109, 110, 111, 112, 113, 114, 115, 293, 294, 295, 296, 297, 298, 299, 300, 301, 302, 303, 304, 305, 306, 307, 308, 309, 310, 311, 312, 313, 314, 315, 316, 317, 318, 319, 320, 321, 322, 323, 324, 325, 326, 327, 328, 329, 330, 331, 332, 333, 334, 335, 336, 337, 338, 339, 340, 341, 342, 343, 344, 345, 346, 347, 348, 349, 350, 351, 352] (by decide +kernel) (by decide +kernel)
set_option maxRecDepth 20000 in
theorem gX9_wouldRun_X9_faults : GoodIn wsX9_wouldRun (wsV RX9 227 RX9 yX9_faults wsX9_faults) := goodIn_app (goodIn_of _ (by decide +kernel)) ggX9_wouldRun_X9_faults
set_option maxRecDepth 20000 in
theorem ggX9_wouldRun_X9_go : GoodIn wsX9_wouldRun wsX9_go := goodIn_r _ [119, 120, 121, 122, 51, 123, 124, 20, 125, 126, 127, 128, 129, 130, 131, 132, 133, 134, 135, 136, 137, 138, 139, 140, 141, 142, 21, 19, 143, 113, 114, 5, 115, 28, 29, 30, 31, 32, 33, 144, 145, 146, 147, 26, 89, 27, 55, 56, 57, 58, 59, 60, 61, 62, 63, 46, 71, 72, 73, 74, 75, 148, 149, 150, 151, 76, 77, 78, 79, 80, 81, 152, 153, 154, 155, 52, 53, 54, 156, 157, 158, 159, 160, 161, 162, 163, 164, 165, 166, 167, 168, 169, 170, 171, 172, 173, 174, 175, 176, 177, 178, 179, 180, 181, 182, 183, 184, 185, 186, 187, 188, 189, 190, 191, 192, 193, 194, 195, 196, 197, 198, 199, 200, 201, 202, 203, 204, 205, 206, 207, 208, 209, 210, 211, 212, 213, 214, 215, 216, 217, 218, 219, 220, 221, 222, 223, 224, 225, 226, 227, 228, 229, 230, 231, 232, 233, 234, 235, 236, 237, 238, 239, 240, 90, 241, 242, 243, 244, 3, 4, 6, 245, 246, 247, 248, 249, 250, 251, 252, 253, 254, 255, 91, 92, 93, 94, 256, 257, 258, 259, 260, 261, 262, 263, 95, 96, 97, 98, 264, 265, 266, 267, 268, 269, 270, 271, 38, 39, 40, 41, 42, 43, 44, 45, 47, 48, 49, 50, 272, 273, 274, 275, 276, 277, 278, 279, 280, 281, 282, 283, 284, 285, 286, 287, 288, 289, 290, 291, 292, 293, 294, 295, 296, 297, 298, 299, 300, 301, 302, 303, 304, 305, 306, 307, 308, 309, 310, 311, 312, 313, 314, 315, 316, 317, 318, 319, 320, 321, 322, 323, 324, 325, 326, 327, 328, 329, 330, 331, 332, 333, 334, 335, 336, 337, 338, 339, 340, 341, 342, 343, 344, 345, 346, 347, 348, 349, 350, 351, 352] (by decide +kernel) (by decide +kernel)
set_option maxRecDepth 20000 in
theorem gX9_wouldRun_X9_go : GoodIn wsX9_wouldRun (wsV RX9 478 RX9 yX9_go wsX9_go) := goodIn_app (goodIn_of _ (by decide +kernel)) ggX9_wouldRun_X9_go
theorem dX9_wouldRun_0 : decode cX9_wouldRun 0 = .ok (.aload_n 0, 1) := by decide +kernel
theorem dX9_wouldRun_1 : decode cX9_wouldRun 1 = .ok (.iconst 0, 1) := by decide +kernel
theorem dX9_wouldRun_2 : decode cX9_wouldRun 2 = .ok (.putfield 114, 3) := by decide +kernel
theorem dX9_wouldRun_5 : decode cX9_wouldRun 5 = .ok (.iload_n 1, 1) := by decide +kernel
theorem dX9_wouldRun_6 : decode cX9_wouldRun 6 = .ok (.iconst 1, 1) := by decide +kernel
theorem dX9_wouldRun_7 : decode cX9_wouldRun 7 = .ok (.sipush 3000, 3) := by decide +kernel
theorem dX9_wouldRun_10 : decode cX9_wouldRun 10 = .ok (.invokestatic 117, 3) := by decide +kernel
theorem dX9_wouldRun_13 : decode cX9_wouldRun 13 = .ok (.ifCond .eq 23, 3) := by decide +kernel
theorem dX9_wouldRun_16 : decode cX9_wouldRun 16 = .ok (.iload_n 2, 1) := by decide +kernel
theorem dX9_wouldRun_17 : decode cX9_wouldRun 17 = .ok (.iconst 1, 1) := by decide +kernel
theorem dX9_wouldRun_18 : decode cX9_wouldRun 18 = .ok (.bipush 40, 2) := by decide +kernel
theorem dX9_wouldRun_20 : decode cX9_wouldRun 20 = .ok (.invokestatic 117, 3) := by decide +kernel
theorem dX9_wouldRun_23 : decode cX9_wouldRun 23 = .ok (.ifCond .eq 13, 3) := by decide +kernel
theorem dX9_wouldRun_26 : decode cX9_wouldRun 26 = .ok (.iload_n 3, 1) := by decide +kernel
theorem dX9_wouldRun_27 : decode cX9_wouldRun 27 = .ok (.iconst 0, 1) := by decide +kernel
theorem dX9_wouldRun_28 : decode cX9_wouldRun 28 = .ok (.bipush 9, 2) := by decide +kernel
theorem dX9_wouldRun_30 : decode cX9_wouldRun 30 = .ok (.invokestatic 117, 3) := by decide +kernel
theorem dX9_wouldRun_33 : decode cX9_wouldRun 33 = .ok (.ifCond .ne 9, 3) := by decide +kernel
theorem dX9_wouldRun_36 : decode cX9_wouldRun 36 = .ok (.aload_n 0, 1) := by decide +kernel
theorem dX9_wouldRun_37 : decode cX9_wouldRun 37 = .ok (.iconst 1, 1) := by decide +kernel
theorem dX9_wouldRun_38 : decode cX9_wouldRun 38 = .ok (.invokevirtual 128, 3) := by decide +kernel
theorem dX9_wouldRun_41 : decode cX9_wouldRun 41 = .ok (.ireturn, 1) := by decide +kernel
theorem dX9_wouldRun_42 : decode cX9_wouldRun 42 = .ok (.aload_n 0, 1) := by decide +kernel
theorem dX9_wouldRun_43 : decode cX9_wouldRun 43 = .ok (.invokevirtual 227, 3) := by decide +kernel
theorem dX9_wouldRun_46 : decode cX9_wouldRun 46 = .ok (.ifCond .le 11, 3) := by decide +kernel
theorem dX9_wouldRun_49 : decode cX9_wouldRun 49 = .ok (.aload_n 0, 1) := by decide +kernel
theorem dX9_wouldRun_50 : decode cX9_wouldRun 50 = .ok (.iconst 2, 1) := by decide +kernel
theorem dX9_wouldRun_51 : decode cX9_wouldRun 51 = .ok (.invokevirtual 128, 3) := by decide +kernel
theorem dX9_wouldRun_54 : decode cX9_wouldRun 54 = .ok (.goto 15, 3) := by decide +kernel
theorem dX9_wouldRun_57 : decode cX9_wouldRun 57 = .ok (.aload_n 0, 1) := by decide +kernel
theorem dX9_wouldRun_58 : decode cX9_wouldRun 58 = .ok (.iload_n 1, 1) := by decide +kernel
theorem dX9_wouldRun_59 : decode cX9_wouldRun 59 = .ok (.iload_n 2, 1) := by decide +kernel
theorem dX9_wouldRun_60 : decode cX9_wouldRun 60 = .ok (.aload_n 0, 1) := by decide +kernel
theorem dX9_wouldRun_61 : decode cX9_wouldRun 61 = .ok (.getfield 65, 3) := by decide +kernel
theorem dX9_wouldRun_64 : decode cX9_wouldRun 64 = .ok (.invokevirtual 478, 3) := by decide +kernel
theorem dX9_wouldRun_67 : decode cX9_wouldRun 67 = .ok (.iload_n 3, 1) := by decide +kernel
theorem dX9_wouldRun_68 : decode cX9_wouldRun 68 = .ok (.iaload, 1) := by decide +kernel
theorem dX9_wouldRun_69 : decode cX9_wouldRun 69 = .ok (.ireturn, 1) := by decide +kernel
set_option maxRecDepth 20000 in
theorem ggX9_with_X9_isIn : GoodIn wsX9_with wsX9_isIn := goodIn_r _ [7] (by decide +kernel) (by decide +kernel)
set_option maxRecDepth 20000 in
theorem gX9_with_X9_isIn : GoodIn wsX9_with (va_wsS RX9 117 yX9_isIn wsX9_isIn) := goodIn_app (goodIn_of _ (by decide +kernel)) ggX9_with_X9_isIn
set_option maxRecDepth 20000 in
theorem ggX9_with_X9_no : GoodIn wsX9_with wsX9_no := goodIn_r _ [11, 1, 358, 359, 360, 361, 362, 363, 364, 365, 366, 367, 368, 369, 370, 371, 372, 373, 374, 375, 376, 377, 378, 379, 380, 381, 382, 383, 384, 385, 386, 387, 388, 389, 390, 391, 392, 393, 394, 395, 396, 397, 398, 399, 400, 401, 402, 403, 404, 405, 406, 407, 408, 409, 410, 411, 412, 413, 414, 415, 416, 417] (by decide +kernel) (by decide +kernel)
set_option maxRecDepth 20000 in
theorem gX9_with_X9_no : GoodIn wsX9_with (wsV RX9 128 RX9 yX9_no wsX9_no) := goodIn_app (goodIn_of _ (by decide +kernel)) ggX9_with_X9_no
set_option maxRecDepth 20000 in
theorem ggX9_with_X9_faults : GoodIn wsX9_with wsX9_faults := goodIn_r _ [15, 16, 17, 18, 6, 19, 20, 21, 22, 23, 24, 25, 26, 27, 28, 29, 30, 31, 32, 33, 34, 35, 36, 37, 38, 39, 40, 41, 42, 43, 44, 45, 46, 47, 48, 49, 50, 51, 52, 53, 54, 55, 56, 57, 58, 59, 60, 61, 62, 63, 64, 65, 66, 67, 68, 69, 70, 71, 72, 73, 74, 75, 76, 77, 78, 79, 80, 81, 82, 83, 84, 85, 86, 87, 88, 89, 90, 91, 92, 93, 94, 95, 96, 97, 98, 99, 100, 101, 102, 103, 104, 105, 106, 4, 5, 7, 107, 108, 109, 110, 111, 112, 113, 114, 115, 116, 358, 359, 360, 361, 362, 363, 364, 365, 366, 367, 368, 369, 370, 371, 372, 373, 374, 375, 376, 377, 378, 379, 380, 381, 382, 383, 384, 385, 386, 387, 388, 389, 390, 391, 392, 393, 394, 395, 396, 397, 398, 399, 400, 401, 402, 403, 404, 405, 406, 407, 408, 409, 410, 411, 412, 413, 414, 415, 416, 417] (by decide +kernel) (by decide +kernel)
set_option maxRecDepth 20000 in
theorem gX9_with_X9_faults : GoodIn wsX9_with (wsV RX9 227 RX9 yX9_faults wsX9_faults) := goodIn_app (goodIn_of _ (by decide +kernel)) ggX9_with_X9_faults
set_option maxRecDepth 20000 in
theorem ggX9_with_X9_allCode : GoodIn wsX9_with wsX9_allCode := goodIn_r _ [120, 21, 121, 122, 123, 6, 124, 125, 126, 127, 128, 129, 130, 131, 22, 132, 133, 134, 135, 27, 28, 47, 136, 137, 138, 139, 140, 20, 141, 142, 143, 144, 56, 57, 58, 59, 60, 61, 62, 63, 64, 72, 73, 74, 75, 76, 145, 146, 147, 148, 149, 150, 151, 152, 153, 154, 155, 156, 157, 158, 159, 160, 161, 162, 163, 164, 165, 166, 167, 35, 36, 37, 38, 39, 40, 41, 42, 33, 43, 44, 45, 46, 48, 49, 50, 51, 52, 29, 30, 31, 32, 34, 168, 169, 170, 171, 90, 172, 91, 96, 97, 98, 99, 82, 173, 174, 175, 176, 4, 5, 7, 114, 115, 116, 177, 178, 179, 180, 181, 182, 183, 184, 185, 186, 187, 188, 189, 190, 191, 192, 193, 194, 195, 107, 108, 109, 110, 111, 112, 113, 196, 197, 198, 199, 200, 201, 202, 203, 77, 78, 79, 80, 81, 204, 205, 206, 207, 53, 54, 55, 208, 209, 210, 211, 212, 213, 214, 215, 216, 358, 359, 360, 361, 362, 363, 364, 365, 366, 367, 368, 369, 370, 371, 372, 373, 374, 375, 376, 377, 378, 379, 380, 381, 382, 383, 384, 385, 386, 387, 388, 389, 390, 391, 392, 393, 394, 395, 396, 397, 398, 399, 400, 401, 402, 403, 404, 405, 406, 407, 408, 409, 410, 411, 412, 413, 414, 415, 416, 417] (by decide +kernel) (by decide +kernel)
set_option maxRecDepth 20000 in
theorem gX9_with_X9_allCode : GoodIn wsX9_with (wsV RX9 491 RX9 yX9_allCode wsX9_allCode) := goodIn_app (goodIn_of _ (by decide +kernel)) ggX9_with_X9_allCode
set_option maxRecDepth 20000 in
theorem ggX9_with_X9_go : GoodIn wsX9_with wsX9_go := goodIn_r _ [220, 221, 222, 223, 52, 224, 225, 21, 226, 227, 228, 229, 230, 231, 232, 233, 234, 235, 236, 237, 238, 239, 240, 241, 242, 243, 22, 20, 244, 114, 115, 6, 116, 29, 30, 31, 32, 33, 34, 196, 197, 198, 199, 27, 90, 28, 56, 57, 58, 59, 60, 61, 62, 63, 64, 47, 72, 73, 74, 75, 76, 200, 201, 202, 203, 77, 78, 79, 80, 81, 82, 204, 205, 206, 207, 53, 54, 55, 153, 154, 155, 156, 157, 208, 209, 210, 211, 212, 213, 214, 215, 245, 246, 247, 248, 249, 250, 251, 252, 253, 254, 255, 256, 257, 258, 259, 260, 261, 141, 142, 143, 144, 262, 263, 264, 265, 266, 267, 268, 269, 270, 271, 272, 273, 274, 275, 276, 277, 278, 279, 280, 281, 282, 283, 284, 285, 286, 287, 288, 289, 290, 291, 292, 293, 294, 295, 296, 297, 298, 299, 300, 301, 302, 303, 304, 149, 150, 151, 152, 305, 306, 307, 308, 91, 309, 310, 311, 312, 4, 5, 7, 188, 189, 190, 313, 314, 315, 316, 317, 318, 319, 320, 92, 93, 94, 95, 321, 322, 323, 324, 325, 326, 327, 328, 96, 97, 98, 99, 329, 330, 331, 332, 333, 334, 335, 336, 39, 40, 41, 42, 43, 44, 45, 46, 48, 49, 50, 51, 337, 338, 339, 340, 341, 342, 343, 344, 345, 346, 347, 348, 349, 350, 351, 352, 353, 354, 355, 356, 357, 358, 359, 360, 361, 362, 363, 364, 365, 366, 367, 368, 369, 370, 371, 372, 373, 374, 375, 376, 377, 378, 379, 380, 381, 382, 383, 384, 385, 386, 387, 388, 389, 390, 391, 392, 393, 394, 395, 396, 397, 398, 399, 400, 401, 402, 403, 404, 405, 406, 407, 408, 409, 410, 411, 412, 413, 414, 415, 416, 417] (by decide +kernel) (by decide +kernel)
set_option maxRecDepth 20000 in
theorem gX9_with_X9_go : GoodIn wsX9_with (wsV RX9 478 RX9 yX9_go wsX9_go) := goodIn_app (goodIn_of _ (by decide +kernel)) ggX9_with_X9_go
theorem dX9_with_0 : decode cX9_with 0 = .ok (.aload_n 0, 1) := by decide +kernel
theorem dX9_with_1 : decode cX9_with 1 = .ok (.iconst 0, 1) := by decide +kernel
theorem dX9_with_2 : decode cX9_with 2 = .ok (.putfield 114, 3) := by decide +kernel
theorem dX9_with_5 : decode cX9_with 5 = .ok (.iload_n 1, 1) := by decide +kernel
theorem dX9_with_6 : decode cX9_with 6 = .ok (.iconst 0, 1) := by decide +kernel
theorem dX9_with_7 : decode cX9_with 7 = .ok (.bipush 7, 2) := by decide +kernel
theorem dX9_with_9 : decode cX9_with 9 = .ok (.invokestatic 117, 3) := by decide +kernel
theorem dX9_with_12 : decode cX9_with 12 = .ok (.ifCond .eq 12, 3) := by decide +kernel
theorem dX9_with_15 : decode cX9_with 15 = .ok (.iload_n 2, 1) := by decide +kernel
theorem dX9_with_16 : decode cX9_with 16 = .ok (.iconst 0, 1) := by decide +kernel
theorem dX9_with_17 : decode cX9_with 17 = .ok (.iconst 2, 1) := by decide +kernel
theorem dX9_with_18 : decode cX9_with 18 = .ok (.invokestatic 117, 3) := by decide +kernel
theorem dX9_with_21 : decode cX9_with 21 = .ok (.ifCond .ne 9, 3) := by decide +kernel
theorem dX9_with_24 : decode cX9_with 24 = .ok (.aload_n 0, 1) := by decide +kernel
theorem dX9_with_25 : decode cX9_with 25 = .ok (.iconst 1, 1) := by decide +kernel
theorem dX9_with_26 : decode cX9_with 26 = .ok (.invokevirtual 128, 3) := by decide +kernel
theorem dX9_with_29 : decode cX9_with 29 = .ok (.ireturn, 1) := by decide +kernel
theorem dX9_with_30 : decode cX9_with 30 = .ok (.aload_n 0, 1) := by decide +kernel
theorem dX9_with_31 : decode cX9_with 31 = .ok (.invokevirtual 227, 3) := by decide +kernel
theorem dX9_with_34 : decode cX9_with 34 = .ok (.ifCond .le 9, 3) := by decide +kernel
theorem dX9_with_37 : decode cX9_with 37 = .ok (.aload_n 0, 1) := by decide +kernel
theorem dX9_with_38 : decode cX9_with 38 = .ok (.iconst 2, 1) := by decide +kernel
theorem dX9_with_39 : decode cX9_with 39 = .ok (.invokevirtual 128, 3) := by decide +kernel
theorem dX9_with_42 : decode cX9_with 42 = .ok (.ireturn, 1) := by decide +kernel
theorem dX9_with_43 : decode cX9_with 43 = .ok (.iload_n 2, 1) := by decide +kernel
theorem dX9_with_44 : decode cX9_with 44 = .ok (.ifCond .ne 11, 3) := by decide +kernel
theorem dX9_with_47 : decode cX9_with 47 = .ok (.aload_n 0, 1) := by decide +kernel
theorem dX9_with_48 : decode cX9_with 48 = .ok (.iload_n 1, 1) := by decide +kernel
theorem dX9_with_49 : decode cX9_with 49 = .ok (.invokevirtual 491, 3) := by decide +kernel
theorem dX9_with_52 : decode cX9_with 52 = .ok (.goto 29, 3) := by decide +kernel
theorem dX9_with_55 : decode cX9_with 55 = .ok (.aload_n 0, 1) := by decide +kernel
theorem dX9_with_56 : decode cX9_with 56 = .ok (.aload_n 0, 1) := by decide +kernel
theorem dX9_with_57 : decode cX9_with 57 = .ok (.getfield 68, 3) := by decide +kernel
theorem dX9_with_60 : decode cX9_with 60 = .ok (.aload_n 0, 1) := by decide +kernel
theorem dX9_with_61 : decode cX9_with 61 = .ok (.getfield 71, 3) := by decide +kernel
theorem dX9_with_64 : decode cX9_with 64 = .ok (.iload_n 1, 1) := by decide +kernel
theorem dX9_with_65 : decode cX9_with 65 = .ok (.invokevirtual 478, 3) := by decide +kernel
theorem dX9_with_68 : decode cX9_with 68 = .ok (.iload_n 2, 1) := by decide +kernel
theorem dX9_with_69 : decode cX9_with 69 = .ok (.iconst 1, 1) := by decide +kernel
theorem dX9_with_70 : decode cX9_with 70 = .ok (.if_icmp .ne 8, 3) := by decide +kernel
theorem dX9_with_73 : decode cX9_with 73 = .ok (.bipush 6, 2) := by decide +kernel
theorem dX9_with_75 : decode cX9_with 75 = .ok (.goto 5, 3) := by decide +kernel
theorem dX9_with_78 : decode cX9_with 78 = .ok (.bipush 7, 2) := by decide +kernel
theorem dX9_with_80 : decode cX9_with 80 = .ok (.iaload, 1) := by decide +kernel
theorem dX9_with_81 : decode cX9_with 81 = .ok (.ireturn, 1) := by decide +kernel
set_option maxRecDepth 20000 in
theorem ggX9_hiddenNow_X9_hasName : GoodIn wsX9_hiddenNow wsX9_hasName := goodIn_r _ [8] (by decide +kernel) (by decide +kernel)
set_option maxRecDepth 20000 in
theorem gX9_hiddenNow_X9_hasName : GoodIn wsX9_hiddenNow (va_wsS RX9 200 yX9_hasName wsX9_hasName) := goodIn_app (goodIn_of _ (by decide +kernel)) ggX9_hiddenNow_X9_hasName
set_option maxRecDepth 20000 in
theorem ggX9_hiddenNow_X9_in : GoodIn wsX9_hiddenNow wsX9_in := goodIn_r _ [12, 13, 14, 24, 25, 26, 27, 28, 29, 30, 31, 32, 33, 34, 35, 36, 37, 38, 39, 40, 41, 42, 43, 44, 45, 46, 47, 48, 49, 50, 51, 52, 53, 54, 55, 56, 57, 58, 59, 60, 61, 62, 63, 64, 65, 66, 67, 68, 69, 70, 71, 72, 73, 74, 75, 76, 77, 78, 79, 80, 81, 82, 83] (by decide +kernel) (by decide +kernel)
set_option maxRecDepth 20000 in
theorem gX9_hiddenNow_X9_in : GoodIn wsX9_hiddenNow (wsV RX9 194 RX9 yX9_in wsX9_in) := goodIn_app (goodIn_of _ (by decide +kernel)) ggX9_hiddenNow_X9_in
set_option maxRecDepth 20000 in
theorem ggX9_hiddenNow_X9_isInside : GoodIn wsX9_hiddenNow wsX9_isInside := goodIn_r _ [18, 19, 24, 25, 26, 27, 28, 29, 30, 31, 32, 33, 34, 35, 36, 37, 38, 39, 40, 41, 42, 43, 44, 45, 46, 47, 48, 49, 50, 51, 52, 53, 54, 55, 56, 57, 58, 59, 60, 61, 62, 63, 64, 65, 66, 67, 68, 69, 70, 71, 72, 73, 74, 75, 76, 77, 78, 79, 80, 81, 82, 83] (by decide +kernel) (by decide +kernel)
set_option maxRecDepth 20000 in
theorem gX9_hiddenNow_X9_isInside : GoodIn wsX9_hiddenNow (wsV RX9 203 RX9 yX9_isInside wsX9_isInside) := goodIn_app (goodIn_of _ (by decide +kernel)) ggX9_hiddenNow_X9_isInside
set_option maxRecDepth 20000 in
theorem ggX9_hiddenNow_X9_declarer : GoodIn wsX9_hiddenNow wsX9_declarer := goodIn_r _ [23, 1, 19, 24, 25, 26, 27, 28, 29, 30, 31, 32, 33, 34, 35, 36, 37, 38, 39, 40, 41, 42, 43, 44, 45, 46, 47, 48, 49, 50, 51, 52, 53, 54, 55, 56, 57, 58, 59, 60, 61, 62, 63, 64, 65, 66, 67, 68, 69, 70, 71, 72, 73, 74, 75, 76, 77, 78, 79, 80, 81, 82, 83] (by decide +kernel) (by decide +kernel)
set_option maxRecDepth 20000 in
theorem gX9_hiddenNow_X9_declarer : GoodIn wsX9_hiddenNow (wsV RX9 143 RX9 yX9_declarer wsX9_declarer) := goodIn_app (goodIn_of _ (by decide +kernel)) ggX9_hiddenNow_X9_declarer
theorem dX9_hiddenNow_0 : decode cX9_hiddenNow 0 = .ok (.aload_n 0, 1) := by decide +kernel
theorem dX9_hiddenNow_1 : decode cX9_hiddenNow 1 = .ok (.getfield 32, 3) := by decide +kernel
theorem dX9_hiddenNow_4 : decode cX9_hiddenNow 4 = .ok (.iload_n 1, 1) := by decide +kernel
theorem dX9_hiddenNow_5 : decode cX9_hiddenNow 5 = .ok (.bipush 16, 2) := by decide +kernel
theorem dX9_hiddenNow_7 : decode cX9_hiddenNow 7 = .ok (.imul, 1) := by decide +kernel
theorem dX9_hiddenNow_8 : decode cX9_hiddenNow 8 = .ok (.iload_n 2, 1) := by decide +kernel
theorem dX9_hiddenNow_9 : decode cX9_hiddenNow 9 = .ok (.iadd, 1) := by decide +kernel
theorem dX9_hiddenNow_10 : decode cX9_hiddenNow 10 = .ok (.iaload, 1) := by decide +kernel
theorem dX9_hiddenNow_11 : decode cX9_hiddenNow 11 = .ok (.iconst (-1), 1) := by decide +kernel
theorem dX9_hiddenNow_12 : decode cX9_hiddenNow 12 = .ok (.if_icmp .eq 5, 3) := by decide +kernel
theorem dX9_hiddenNow_15 : decode cX9_hiddenNow 15 = .ok (.iconst 0, 1) := by decide +kernel
theorem dX9_hiddenNow_16 : decode cX9_hiddenNow 16 = .ok (.ireturn, 1) := by decide +kernel
theorem dX9_hiddenNow_17 : decode cX9_hiddenNow 17 = .ok (.iconst 0, 1) := by decide +kernel
theorem dX9_hiddenNow_18 : decode cX9_hiddenNow 18 = .ok (.istore_n 3, 1) := by decide +kernel
theorem dX9_hiddenNow_19 : decode cX9_hiddenNow 19 = .ok (.iconst 0, 1) := by decide +kernel
theorem dX9_hiddenNow_20 : decode cX9_hiddenNow 20 = .ok (.istore 4, 2) := by decide +kernel
theorem dX9_hiddenNow_22 : decode cX9_hiddenNow 22 = .ok (.iload 4, 2) := by decide +kernel
theorem dX9_hiddenNow_24 : decode cX9_hiddenNow 24 = .ok (.aload_n 0, 1) := by decide +kernel
theorem dX9_hiddenNow_25 : decode cX9_hiddenNow 25 = .ok (.getfield 121, 3) := by decide +kernel
theorem dX9_hiddenNow_28 : decode cX9_hiddenNow 28 = .ok (.if_icmp .ge 107, 3) := by decide +kernel
theorem dX9_hiddenNow_31 : decode cX9_hiddenNow 31 = .ok (.aload_n 0, 1) := by decide +kernel
theorem dX9_hiddenNow_32 : decode cX9_hiddenNow 32 = .ok (.getfield 47, 3) := by decide +kernel
theorem dX9_hiddenNow_35 : decode cX9_hiddenNow 35 = .ok (.iload 4, 2) := by decide +kernel
theorem dX9_hiddenNow_37 : decode cX9_hiddenNow 37 = .ok (.iaload, 1) := by decide +kernel
theorem dX9_hiddenNow_38 : decode cX9_hiddenNow 38 = .ok (.invokestatic 200, 3) := by decide +kernel
theorem dX9_hiddenNow_41 : decode cX9_hiddenNow 41 = .ok (.ifCond .eq 88, 3) := by decide +kernel
theorem dX9_hiddenNow_44 : decode cX9_hiddenNow 44 = .ok (.aload_n 0, 1) := by decide +kernel
theorem dX9_hiddenNow_45 : decode cX9_hiddenNow 45 = .ok (.getfield 50, 3) := by decide +kernel
theorem dX9_hiddenNow_48 : decode cX9_hiddenNow 48 = .ok (.iload 4, 2) := by decide +kernel
theorem dX9_hiddenNow_50 : decode cX9_hiddenNow 50 = .ok (.iaload, 1) := by decide +kernel
theorem dX9_hiddenNow_51 : decode cX9_hiddenNow 51 = .ok (.iload_n 2, 1) := by decide +kernel
theorem dX9_hiddenNow_52 : decode cX9_hiddenNow 52 = .ok (.if_icmp .ne 77, 3) := by decide +kernel
theorem dX9_hiddenNow_55 : decode cX9_hiddenNow 55 = .ok (.aload_n 0, 1) := by decide +kernel
theorem dX9_hiddenNow_56 : decode cX9_hiddenNow 56 = .ok (.iload 4, 2) := by decide +kernel
theorem dX9_hiddenNow_58 : decode cX9_hiddenNow 58 = .ok (.invokevirtual 194, 3) := by decide +kernel
theorem dX9_hiddenNow_61 : decode cX9_hiddenNow 61 = .ok (.iconst (-1), 1) := by decide +kernel
theorem dX9_hiddenNow_62 : decode cX9_hiddenNow 62 = .ok (.if_icmp .eq 67, 3) := by decide +kernel
theorem dX9_hiddenNow_65 : decode cX9_hiddenNow 65 = .ok (.aload_n 0, 1) := by decide +kernel
theorem dX9_hiddenNow_66 : decode cX9_hiddenNow 66 = .ok (.iload 4, 2) := by decide +kernel
theorem dX9_hiddenNow_68 : decode cX9_hiddenNow 68 = .ok (.invokevirtual 194, 3) := by decide +kernel
theorem dX9_hiddenNow_71 : decode cX9_hiddenNow 71 = .ok (.iload_n 1, 1) := by decide +kernel
theorem dX9_hiddenNow_72 : decode cX9_hiddenNow 72 = .ok (.if_icmp .eq 20, 3) := by decide +kernel
theorem dX9_hiddenNow_75 : decode cX9_hiddenNow 75 = .ok (.aload_n 0, 1) := by decide +kernel
theorem dX9_hiddenNow_76 : decode cX9_hiddenNow 76 = .ok (.aload_n 0, 1) := by decide +kernel
theorem dX9_hiddenNow_77 : decode cX9_hiddenNow 77 = .ok (.iload 4, 2) := by decide +kernel
theorem dX9_hiddenNow_79 : decode cX9_hiddenNow 79 = .ok (.invokevirtual 194, 3) := by decide +kernel
theorem dX9_hiddenNow_82 : decode cX9_hiddenNow 82 = .ok (.iload_n 1, 1) := by decide +kernel
theorem dX9_hiddenNow_83 : decode cX9_hiddenNow 83 = .ok (.invokevirtual 203, 3) := by decide +kernel
theorem dX9_hiddenNow_86 : decode cX9_hiddenNow 86 = .ok (.ifCond .ne 6, 3) := by decide +kernel
theorem dX9_hiddenNow_89 : decode cX9_hiddenNow 89 = .ok (.goto 40, 3) := by decide +kernel
theorem dX9_hiddenNow_92 : decode cX9_hiddenNow 92 = .ok (.aload_n 0, 1) := by decide +kernel
theorem dX9_hiddenNow_93 : decode cX9_hiddenNow 93 = .ok (.aload_n 0, 1) := by decide +kernel
theorem dX9_hiddenNow_94 : decode cX9_hiddenNow 94 = .ok (.iload 4, 2) := by decide +kernel
theorem dX9_hiddenNow_96 : decode cX9_hiddenNow 96 = .ok (.invokevirtual 194, 3) := by decide +kernel
theorem dX9_hiddenNow_99 : decode cX9_hiddenNow 99 = .ok (.iload_n 2, 1) := by decide +kernel
theorem dX9_hiddenNow_100 : decode cX9_hiddenNow 100 = .ok (.invokevirtual 143, 3) := by decide +kernel
theorem dX9_hiddenNow_103 : decode cX9_hiddenNow 103 = .ok (.istore 5, 2) := by decide +kernel
theorem dX9_hiddenNow_105 : decode cX9_hiddenNow 105 = .ok (.iload_n 3, 1) := by decide +kernel
theorem dX9_hiddenNow_106 : decode cX9_hiddenNow 106 = .ok (.iload 5, 2) := by decide +kernel
theorem dX9_hiddenNow_108 : decode cX9_hiddenNow 108 = .ok (.iconst (-1), 1) := by decide +kernel
theorem dX9_hiddenNow_109 : decode cX9_hiddenNow 109 = .ok (.if_icmp .eq 13, 3) := by decide +kernel
theorem dX9_hiddenNow_112 : decode cX9_hiddenNow 112 = .ok (.aload_n 0, 1) := by decide +kernel
theorem dX9_hiddenNow_113 : decode cX9_hiddenNow 113 = .ok (.iload_n 1, 1) := by decide +kernel
