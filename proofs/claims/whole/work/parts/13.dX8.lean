set_option maxRecDepth 20000 in
theorem ggX8_init_X1_init : GoodIn wsX8_init wsX1_init := goodIn_r _ [41, 42, 2, 3, 43, 44, 45, 46, 47, 48, 49, 50, 51, 52, 53, 54, 55, 56, 57, 58, 59, 177, 178, 179, 180, 181, 182, 183, 184, 185, 186, 187, 188] (by decide +kernel) (by decide +kernel)
set_option maxRecDepth 20000 in
theorem gX8_init_X1_init : GoodIn wsX8_init (wsX1_init) := ggX8_init_X1_init
set_option maxRecDepth 20000 in
theorem ggX8_init_X5_init : GoodIn wsX8_init wsX5_init := goodIn_r _ [61, 62, 2, 3, 63, 44, 64, 65, 66, 67, 68, 69, 203, 204, 205, 206, 207, 208, 209] (by decide +kernel) (by decide +kernel)
set_option maxRecDepth 20000 in
theorem gX8_init_X5_init_n18 : GoodIn wsX8_init (wsX5_init) := ggX8_init_X5_init
set_option maxRecDepth 20000 in
theorem ggX8_init_X4_init : GoodIn wsX8_init wsX4_init := goodIn_r _ [72, 73, 2, 3, 44, 74, 75, 76, 77, 78, 79, 80, 81, 82, 83, 84, 85, 86, 87, 88, 89, 90, 91, 92, 93, 210, 211, 212, 213, 214, 215, 216, 217, 218, 219, 220, 221, 222, 223, 224, 225, 226, 227, 228] (by decide +kernel) (by decide +kernel)
set_option maxRecDepth 20000 in
theorem gX8_init_X4_init : GoodIn wsX8_init (wsX4_init) := ggX8_init_X4_init
set_option maxRecDepth 20000 in
theorem ggX8_init_X2_init : GoodIn wsX8_init wsX2_init := goodIn_r _ [96, 97, 2, 3, 98, 44, 99, 100, 101, 102, 103, 104, 105, 106, 229, 230, 231, 232, 233, 234, 235, 236, 237] (by decide +kernel) (by decide +kernel)
set_option maxRecDepth 20000 in
theorem gX8_init_X2_init : GoodIn wsX8_init (wsX2_init) := ggX8_init_X2_init
set_option maxRecDepth 20000 in
theorem ggX8_init_X0_init : GoodIn wsX8_init wsX0_init := goodIn_r _ [109, 110, 2, 3, 111, 112, 44, 113, 114, 115, 116, 117, 118, 119, 120, 121, 122, 123, 79, 124, 125, 126, 127, 238, 239, 240, 241, 242, 243, 244, 245, 246, 247, 248, 249, 250, 251, 252, 253, 254] (by decide +kernel) (by decide +kernel)
set_option maxRecDepth 20000 in
theorem gX8_init_X0_init : GoodIn wsX8_init (wsX0_init) := ggX8_init_X0_init
set_option maxRecDepth 20000 in
theorem ggX8_init_X3_init : GoodIn wsX8_init wsX3_init := goodIn_r _ [130, 131, 2, 3, 132, 133, 134, 135, 136, 137, 138, 139, 140, 30, 31, 141, 142, 143, 144, 145, 146, 147, 148, 149, 150, 151, 152, 153, 154, 155, 156, 157, 158, 44, 159, 160, 161, 162, 163, 164, 165, 166, 167, 168, 169, 170, 171, 172, 173, 174, 175, 176, 286, 287, 288, 255, 256, 257, 258, 259, 260, 261, 262, 263, 264, 265, 266, 267, 268, 269, 270, 271, 272, 273, 274, 275, 276, 277, 278, 279, 280, 281, 282, 283, 284, 285] (by decide +kernel) (by decide +kernel)
set_option maxRecDepth 20000 in
theorem gX8_init_X3_init : GoodIn wsX8_init (wsX3_init) := ggX8_init_X3_init
set_option maxRecDepth 20000 in
theorem ggX8_init_X6_init : GoodIn wsX8_init wsX6_init := goodIn_r _ [161, 162, 2, 3, 163, 164, 165, 166, 167, 168, 169, 170, 171, 172, 173, 44, 174, 175, 176, 272, 273, 274, 275, 276, 277, 278, 279, 280, 281, 282, 283, 284, 285] (by decide +kernel) (by decide +kernel)
set_option maxRecDepth 20000 in
theorem gX8_init_X6_init_n62 : GoodIn wsX8_init (wsX6_init) := ggX8_init_X6_init
theorem dX8_init_0 : decode cX8_init 0 = .ok (.aload_n 0, 1) := by decide +kernel
theorem dX8_init_1 : decode cX8_init 1 = .ok (.invokespecial 3, 3) := by decide +kernel
theorem dX8_init_4 : decode cX8_init 4 = .ok (.aload_n 0, 1) := by decide +kernel
theorem dX8_init_5 : decode cX8_init 5 = .ok (.new 9, 3) := by decide +kernel
theorem dX8_init_8 : decode cX8_init 8 = .ok (.dup, 1) := by decide +kernel
theorem dX8_init_9 : decode cX8_init 9 = .ok (.invokespecial 11, 3) := by decide +kernel
theorem dX8_init_12 : decode cX8_init 12 = .ok (.putfield 12, 3) := by decide +kernel
theorem dX8_init_15 : decode cX8_init 15 = .ok (.aload_n 0, 1) := by decide +kernel
theorem dX8_init_16 : decode cX8_init 16 = .ok (.new 16, 3) := by decide +kernel
theorem dX8_init_19 : decode cX8_init 19 = .ok (.dup, 1) := by decide +kernel
theorem dX8_init_20 : decode cX8_init 20 = .ok (.invokespecial 18, 3) := by decide +kernel
theorem dX8_init_23 : decode cX8_init 23 = .ok (.putfield 19, 3) := by decide +kernel
theorem dX8_init_26 : decode cX8_init 26 = .ok (.aload_n 0, 1) := by decide +kernel
theorem dX8_init_27 : decode cX8_init 27 = .ok (.new 23, 3) := by decide +kernel
theorem dX8_init_30 : decode cX8_init 30 = .ok (.dup, 1) := by decide +kernel
theorem dX8_init_31 : decode cX8_init 31 = .ok (.aload_n 0, 1) := by decide +kernel
theorem dX8_init_32 : decode cX8_init 32 = .ok (.getfield 12, 3) := by decide +kernel
theorem dX8_init_35 : decode cX8_init 35 = .ok (.aload_n 0, 1) := by decide +kernel
theorem dX8_init_36 : decode cX8_init 36 = .ok (.getfield 19, 3) := by decide +kernel
theorem dX8_init_39 : decode cX8_init 39 = .ok (.invokespecial 25, 3) := by decide +kernel
theorem dX8_init_42 : decode cX8_init 42 = .ok (.putfield 28, 3) := by decide +kernel
theorem dX8_init_45 : decode cX8_init 45 = .ok (.aload_n 0, 1) := by decide +kernel
theorem dX8_init_46 : decode cX8_init 46 = .ok (.new 32, 3) := by decide +kernel
theorem dX8_init_49 : decode cX8_init 49 = .ok (.dup, 1) := by decide +kernel
theorem dX8_init_50 : decode cX8_init 50 = .ok (.aload_n 0, 1) := by decide +kernel
theorem dX8_init_51 : decode cX8_init 51 = .ok (.getfield 12, 3) := by decide +kernel
theorem dX8_init_54 : decode cX8_init 54 = .ok (.aload_n 0, 1) := by decide +kernel
theorem dX8_init_55 : decode cX8_init 55 = .ok (.getfield 19, 3) := by decide +kernel
theorem dX8_init_58 : decode cX8_init 58 = .ok (.aload_n 0, 1) := by decide +kernel
theorem dX8_init_59 : decode cX8_init 59 = .ok (.getfield 28, 3) := by decide +kernel
theorem dX8_init_62 : decode cX8_init 62 = .ok (.invokespecial 34, 3) := by decide +kernel
theorem dX8_init_65 : decode cX8_init 65 = .ok (.putfield 37, 3) := by decide +kernel
theorem dX8_init_68 : decode cX8_init 68 = .ok (.aload_n 0, 1) := by decide +kernel
theorem dX8_init_69 : decode cX8_init 69 = .ok (.new 41, 3) := by decide +kernel
theorem dX8_init_72 : decode cX8_init 72 = .ok (.dup, 1) := by decide +kernel
theorem dX8_init_73 : decode cX8_init 73 = .ok (.aload_n 0, 1) := by decide +kernel
theorem dX8_init_74 : decode cX8_init 74 = .ok (.getfield 12, 3) := by decide +kernel
theorem dX8_init_77 : decode cX8_init 77 = .ok (.aload_n 0, 1) := by decide +kernel
theorem dX8_init_78 : decode cX8_init 78 = .ok (.getfield 19, 3) := by decide +kernel
theorem dX8_init_81 : decode cX8_init 81 = .ok (.aload_n 0, 1) := by decide +kernel
theorem dX8_init_82 : decode cX8_init 82 = .ok (.getfield 28, 3) := by decide +kernel
theorem dX8_init_85 : decode cX8_init 85 = .ok (.invokespecial 43, 3) := by decide +kernel
theorem dX8_init_88 : decode cX8_init 88 = .ok (.putfield 44, 3) := by decide +kernel
theorem dX8_init_91 : decode cX8_init 91 = .ok (.aload_n 0, 1) := by decide +kernel
theorem dX8_init_92 : decode cX8_init 92 = .ok (.new 41, 3) := by decide +kernel
theorem dX8_init_95 : decode cX8_init 95 = .ok (.dup, 1) := by decide +kernel
theorem dX8_init_96 : decode cX8_init 96 = .ok (.aload_n 0, 1) := by decide +kernel
theorem dX8_init_97 : decode cX8_init 97 = .ok (.getfield 12, 3) := by decide +kernel
theorem dX8_init_100 : decode cX8_init 100 = .ok (.aload_n 0, 1) := by decide +kernel
theorem dX8_init_101 : decode cX8_init 101 = .ok (.getfield 19, 3) := by decide +kernel
theorem dX8_init_104 : decode cX8_init 104 = .ok (.aload_n 0, 1) := by decide +kernel
theorem dX8_init_105 : decode cX8_init 105 = .ok (.getfield 28, 3) := by decide +kernel
theorem dX8_init_108 : decode cX8_init 108 = .ok (.invokespecial 43, 3) := by decide +kernel
theorem dX8_init_111 : decode cX8_init 111 = .ok (.putfield 48, 3) := by decide +kernel
theorem dX8_init_114 : decode cX8_init 114 = .ok (.aload_n 0, 1) := by decide +kernel
theorem dX8_init_115 : decode cX8_init 115 = .ok (.new 51, 3) := by decide +kernel
theorem dX8_init_118 : decode cX8_init 118 = .ok (.dup, 1) := by decide +kernel
theorem dX8_init_119 : decode cX8_init 119 = .ok (.aload_n 0, 1) := by decide +kernel
theorem dX8_init_120 : decode cX8_init 120 = .ok (.getfield 12, 3) := by decide +kernel
theorem dX8_init_123 : decode cX8_init 123 = .ok (.aload_n 0, 1) := by decide +kernel
theorem dX8_init_124 : decode cX8_init 124 = .ok (.getfield 19, 3) := by decide +kernel
theorem dX8_init_127 : decode cX8_init 127 = .ok (.aload_n 0, 1) := by decide +kernel
theorem dX8_init_128 : decode cX8_init 128 = .ok (.getfield 28, 3) := by decide +kernel
theorem dX8_init_131 : decode cX8_init 131 = .ok (.aload_n 0, 1) := by decide +kernel
theorem dX8_init_132 : decode cX8_init 132 = .ok (.getfield 48, 3) := by decide +kernel
theorem dX8_init_135 : decode cX8_init 135 = .ok (.invokespecial 53, 3) := by decide +kernel
theorem dX8_init_138 : decode cX8_init 138 = .ok (.putfield 56, 3) := by decide +kernel
theorem dX8_init_141 : decode cX8_init 141 = .ok (.aload_n 0, 1) := by decide +kernel
theorem dX8_init_142 : decode cX8_init 142 = .ok (.new 60, 3) := by decide +kernel
theorem dX8_init_145 : decode cX8_init 145 = .ok (.dup, 1) := by decide +kernel
theorem dX8_init_146 : decode cX8_init 146 = .ok (.invokespecial 62, 3) := by decide +kernel
theorem dX8_init_149 : decode cX8_init 149 = .ok (.putfield 63, 3) := by decide +kernel
theorem dX8_init_152 : decode cX8_init 152 = .ok (.aload_n 0, 1) := by decide +kernel
theorem dX8_init_153 : decode cX8_init 153 = .ok (.new 60, 3) := by decide +kernel
theorem dX8_init_156 : decode cX8_init 156 = .ok (.dup, 1) := by decide +kernel
theorem dX8_init_157 : decode cX8_init 157 = .ok (.invokespecial 62, 3) := by decide +kernel
theorem dX8_init_160 : decode cX8_init 160 = .ok (.putfield 67, 3) := by decide +kernel
theorem dX8_init_163 : decode cX8_init 163 = .ok (.aload_n 0, 1) := by decide +kernel
theorem dX8_init_164 : decode cX8_init 164 = .ok (.iconst 1, 1) := by decide +kernel
theorem dX8_init_165 : decode cX8_init 165 = .ok (.putfield 70, 3) := by decide +kernel
theorem dX8_init_168 : decode cX8_init 168 = .ok (.aload_n 0, 1) := by decide +kernel
theorem dX8_init_169 : decode cX8_init 169 = .ok (.bipush 7, 2) := by decide +kernel
theorem dX8_init_171 : decode cX8_init 171 = .ok (.putfield 74, 3) := by decide +kernel
theorem dX8_init_174 : decode cX8_init 174 = .ok (.aload_n 0, 1) := by decide +kernel
theorem dX8_init_175 : decode cX8_init 175 = .ok (.sipush 1000, 3) := by decide +kernel
theorem dX8_init_178 : decode cX8_init 178 = .ok (.putfield 78, 3) := by decide +kernel
theorem dX8_init_181 : decode cX8_init 181 = .ok (.aload_n 0, 1) := by decide +kernel
theorem dX8_init_182 : decode cX8_init 182 = .ok (.bipush 20, 2) := by decide +kernel
theorem dX8_init_184 : decode cX8_init 184 = .ok (.putfield 81, 3) := by decide +kernel
theorem dX8_init_187 : decode cX8_init 187 = .ok (.aload_n 0, 1) := by decide +kernel
theorem dX8_init_188 : decode cX8_init 188 = .ok (.iconst 0, 1) := by decide +kernel
theorem dX8_init_189 : decode cX8_init 189 = .ok (.putfield 84, 3) := by decide +kernel
theorem dX8_init_192 : decode cX8_init 192 = .ok (.return_, 1) := by decide +kernel
set_option maxRecDepth 20000 in
theorem ggX8_procedure_X8_needProcedure : GoodIn wsX8_procedure wsX8_needProcedure := goodIn_ca (goodIn_r _ [8, 9, 10, 1, 11, 12, 13, 14, 15, 16, 47, 48, 49, 50, 51, 52, 53, 54, 55, 56, 57, 58, 59, 60, 61, 62, 63, 64, 65, 66, 67, 68, 69, 70, 71, 72] (by decide +kernel) (by decide +kernel)) (goodIn_sub (fun _ h => List.mem_cons_of_mem _ (List.mem_append_left _ (List.mem_append_left _ (List.mem_append_right _ h)))) (by decide +kernel))
set_option maxRecDepth 20000 in
theorem gX8_procedure_X8_needProcedure : GoodIn wsX8_procedure (wsV RX8 87 RX8 yX8_needProcedure wsX8_needProcedure) := goodIn_app (goodIn_of _ (by decide +kernel)) ggX8_procedure_X8_needProcedure
set_option maxRecDepth 20000 in
theorem ggX8_procedure_X8_isName : GoodIn wsX8_procedure wsX8_isName := goodIn_r _ [19] (by decide +kernel) (by decide +kernel)
set_option maxRecDepth 20000 in
theorem gX8_procedure_X8_isName : GoodIn wsX8_procedure (va_wsS RX8 91 yX8_isName wsX8_isName) := goodIn_app (goodIn_of _ (by decide +kernel)) ggX8_procedure_X8_isName
set_option maxRecDepth 20000 in
theorem ggX8_procedure_X8_needArgument : GoodIn wsX8_procedure wsX8_needArgument := goodIn_ca (goodIn_r _ [22, 23, 24] (by decide +kernel) (by decide +kernel)) (goodIn_sub (fun _ h => List.mem_cons_of_mem _ (List.mem_append_left _ (List.mem_append_right _ h))) (by decide +kernel))
set_option maxRecDepth 20000 in
theorem gX8_procedure_X8_needArgument : GoodIn wsX8_procedure (va_wsS RX8 95 yX8_needArgument wsX8_needArgument) := goodIn_app (goodIn_of _ (by decide +kernel)) ggX8_procedure_X8_needArgument
set_option maxRecDepth 20000 in
theorem ggX8_procedure_X1_declares : GoodIn wsX8_procedure wsX1_declares := goodIn_r _ [28, 29, 61, 62, 63, 64, 65, 66, 67, 68, 69, 70, 71, 72] (by decide +kernel) (by decide +kernel)
set_option maxRecDepth 20000 in
theorem gX8_procedure_X1_declares : GoodIn wsX8_procedure (wsV RX8 102 RX1 yX1_declares wsX1_declares) := goodIn_app (goodIn_of _ (by decide +kernel)) ggX8_procedure_X1_declares
set_option maxRecDepth 20000 in
theorem ggX8_procedure_X8_needState : GoodIn wsX8_procedure wsX8_needState := goodIn_ca (goodIn_r _ [32, 33, 34] (by decide +kernel) (by decide +kernel)) (goodIn_sub (fun _ h => List.mem_cons_of_mem _ (List.mem_append_right _ h)) (by decide +kernel))
set_option maxRecDepth 20000 in
theorem gX8_procedure_X8_needState : GoodIn wsX8_procedure (va_wsS RX8 106 yX8_needState wsX8_needState) := goodIn_app (goodIn_of _ (by decide +kernel)) ggX8_procedure_X8_needState
set_option maxRecDepth 20000 in
theorem ggX8_procedure_X1_addProcedure : GoodIn wsX8_procedure wsX1_addProcedure := goodIn_r _ [38, 16, 39, 40, 41, 42, 43, 14, 44, 29, 45, 46, 61, 62, 63, 64, 65, 66, 67, 68, 69, 70, 71, 72] (by decide +kernel) (by decide +kernel)
set_option maxRecDepth 20000 in
theorem gX8_procedure_X1_addProcedure : GoodIn wsX8_procedure (wsV RX8 109 RX1 yX1_addProcedure wsX1_addProcedure) := goodIn_app (goodIn_of _ (by decide +kernel)) ggX8_procedure_X1_addProcedure
theorem dX8_procedure_0 : decode cX8_procedure 0 = .ok (.aload_n 0, 1) := by decide +kernel
theorem dX8_procedure_1 : decode cX8_procedure 1 = .ok (.iload_n 1, 1) := by decide +kernel
theorem dX8_procedure_2 : decode cX8_procedure 2 = .ok (.invokevirtual 87, 3) := by decide +kernel
theorem dX8_procedure_5 : decode cX8_procedure 5 = .ok (.iload_n 2, 1) := by decide +kernel
theorem dX8_procedure_6 : decode cX8_procedure 6 = .ok (.invokestatic 91, 3) := by decide +kernel
theorem dX8_procedure_9 : decode cX8_procedure 9 = .ok (.invokestatic 95, 3) := by decide +kernel
theorem dX8_procedure_12 : decode cX8_procedure 12 = .ok (.aload_n 0, 1) := by decide +kernel
theorem dX8_procedure_13 : decode cX8_procedure 13 = .ok (.getfield 12, 3) := by decide +kernel
theorem dX8_procedure_16 : decode cX8_procedure 16 = .ok (.getfield 99, 3) := by decide +kernel
theorem dX8_procedure_19 : decode cX8_procedure 19 = .ok (.bipush 10, 2) := by decide +kernel
theorem dX8_procedure_21 : decode cX8_procedure 21 = .ok (.if_icmp .ge 19, 3) := by decide +kernel
theorem dX8_procedure_24 : decode cX8_procedure 24 = .ok (.aload_n 0, 1) := by decide +kernel
theorem dX8_procedure_25 : decode cX8_procedure 25 = .ok (.getfield 12, 3) := by decide +kernel
theorem dX8_procedure_28 : decode cX8_procedure 28 = .ok (.iload_n 1, 1) := by decide +kernel
theorem dX8_procedure_29 : decode cX8_procedure 29 = .ok (.iload_n 2, 1) := by decide +kernel
theorem dX8_procedure_30 : decode cX8_procedure 30 = .ok (.invokevirtual 102, 3) := by decide +kernel
theorem dX8_procedure_33 : decode cX8_procedure 33 = .ok (.ifCond .ne 7, 3) := by decide +kernel
theorem dX8_procedure_36 : decode cX8_procedure 36 = .ok (.iconst 1, 1) := by decide +kernel
theorem dX8_procedure_37 : decode cX8_procedure 37 = .ok (.goto 4, 3) := by decide +kernel
theorem dX8_procedure_40 : decode cX8_procedure 40 = .ok (.iconst 0, 1) := by decide +kernel
theorem dX8_procedure_41 : decode cX8_procedure 41 = .ok (.invokestatic 106, 3) := by decide +kernel
theorem dX8_procedure_44 : decode cX8_procedure 44 = .ok (.aload_n 0, 1) := by decide +kernel
theorem dX8_procedure_45 : decode cX8_procedure 45 = .ok (.iconst 1, 1) := by decide +kernel
theorem dX8_procedure_46 : decode cX8_procedure 46 = .ok (.putfield 70, 3) := by decide +kernel
theorem dX8_procedure_49 : decode cX8_procedure 49 = .ok (.aload_n 0, 1) := by decide +kernel
theorem dX8_procedure_50 : decode cX8_procedure 50 = .ok (.getfield 12, 3) := by decide +kernel
theorem dX8_procedure_53 : decode cX8_procedure 53 = .ok (.iload_n 1, 1) := by decide +kernel
theorem dX8_procedure_54 : decode cX8_procedure 54 = .ok (.iload_n 2, 1) := by decide +kernel
theorem dX8_procedure_55 : decode cX8_procedure 55 = .ok (.invokevirtual 109, 3) := by decide +kernel
theorem dX8_procedure_58 : decode cX8_procedure 58 = .ok (.ireturn, 1) := by decide +kernel
set_option maxRecDepth 20000 in
theorem ggX8_parameter_X8_needProcedure : GoodIn wsX8_parameter wsX8_needProcedure := goodIn_ca (goodIn_r _ [7, 8, 9, 1, 10, 11, 12, 13, 14, 15, 57, 58, 59, 60, 61, 62, 63, 64, 65, 66, 67, 68, 69, 70, 71, 72, 73, 74, 75, 76, 77, 78, 79, 80, 81, 82] (by decide +kernel) (by decide +kernel)) (goodIn_sub (fun _ h => List.mem_cons_of_mem _ (List.mem_append_left _ (List.mem_append_left _ (List.mem_append_right _ h)))) (by decide +kernel))
set_option maxRecDepth 20000 in
theorem gX8_parameter_X8_needProcedure : GoodIn wsX8_parameter (wsV RX8 87 RX8 yX8_needProcedure wsX8_needProcedure) := goodIn_app (goodIn_of _ (by decide +kernel)) ggX8_parameter_X8_needProcedure
set_option maxRecDepth 20000 in
theorem ggX8_parameter_X8_isName : GoodIn wsX8_parameter wsX8_isName := goodIn_r _ [18] (by decide +kernel) (by decide +kernel)
set_option maxRecDepth 20000 in
theorem gX8_parameter_X8_isName : GoodIn wsX8_parameter (va_wsS RX8 91 yX8_isName wsX8_isName) := goodIn_app (goodIn_of _ (by decide +kernel)) ggX8_parameter_X8_isName
set_option maxRecDepth 20000 in
theorem ggX8_parameter_X8_needArgument : GoodIn wsX8_parameter wsX8_needArgument := goodIn_ca (goodIn_r _ [21, 22, 23] (by decide +kernel) (by decide +kernel)) (goodIn_sub (fun _ h => List.mem_cons_of_mem _ (List.mem_append_left _ (List.mem_append_right _ h))) (by decide +kernel))
set_option maxRecDepth 20000 in
theorem gX8_parameter_X8_needArgument : GoodIn wsX8_parameter (va_wsS RX8 95 yX8_needArgument wsX8_needArgument) := goodIn_app (goodIn_of _ (by decide +kernel)) ggX8_parameter_X8_needArgument
set_option maxRecDepth 20000 in
theorem ggX8_parameter_X1_takesParameter : GoodIn wsX8_parameter wsX1_takesParameter := goodIn_r _ [27, 28, 29, 30, 31, 32, 13, 33, 34, 71, 72, 73, 74, 75, 76, 77, 78, 79, 80, 81, 82] (by decide +kernel) (by decide +kernel)
set_option maxRecDepth 20000 in
theorem gX8_parameter_X1_takesParameter : GoodIn wsX8_parameter (wsV RX8 113 RX1 yX1_takesParameter wsX1_takesParameter) := goodIn_app (goodIn_of _ (by decide +kernel)) ggX8_parameter_X1_takesParameter
set_option maxRecDepth 20000 in
theorem ggX8_parameter_X8_needState : GoodIn wsX8_parameter wsX8_needState := goodIn_ca (goodIn_r _ [37, 38, 39] (by decide +kernel) (by decide +kernel)) (goodIn_sub (fun _ h => List.mem_cons_of_mem _ (List.mem_append_right _ h)) (by decide +kernel))
set_option maxRecDepth 20000 in
theorem gX8_parameter_X8_needState : GoodIn wsX8_parameter (va_wsS RX8 106 yX8_needState wsX8_needState) := goodIn_app (goodIn_of _ (by decide +kernel)) ggX8_parameter_X8_needState
set_option maxRecDepth 20000 in
theorem ggX8_parameter_X1_addParameter : GoodIn wsX8_parameter wsX1_addParameter := goodIn_r _ [43, 28, 44, 45, 46, 13, 47, 48, 49, 50, 51, 52, 53, 54, 55, 34, 56, 71, 72, 73, 74, 75, 76, 77, 78, 79, 80, 81, 82] (by decide +kernel) (by decide +kernel)
set_option maxRecDepth 20000 in
theorem gX8_parameter_X1_addParameter : GoodIn wsX8_parameter (wsV RX8 116 RX1 yX1_addParameter wsX1_addParameter) := goodIn_app (goodIn_of _ (by decide +kernel)) ggX8_parameter_X1_addParameter
theorem dX8_parameter_0 : decode cX8_parameter 0 = .ok (.aload_n 0, 1) := by decide +kernel
theorem dX8_parameter_1 : decode cX8_parameter 1 = .ok (.iload_n 1, 1) := by decide +kernel
theorem dX8_parameter_2 : decode cX8_parameter 2 = .ok (.invokevirtual 87, 3) := by decide +kernel
theorem dX8_parameter_5 : decode cX8_parameter 5 = .ok (.iload_n 2, 1) := by decide +kernel
theorem dX8_parameter_6 : decode cX8_parameter 6 = .ok (.invokestatic 91, 3) := by decide +kernel
theorem dX8_parameter_9 : decode cX8_parameter 9 = .ok (.ifCond .eq 16, 3) := by decide +kernel
theorem dX8_parameter_12 : decode cX8_parameter 12 = .ok (.iload_n 3, 1) := by decide +kernel
theorem dX8_parameter_13 : decode cX8_parameter 13 = .ok (.ifCond .lt 12, 3) := by decide +kernel
theorem dX8_parameter_16 : decode cX8_parameter 16 = .ok (.iload_n 3, 1) := by decide +kernel
theorem dX8_parameter_17 : decode cX8_parameter 17 = .ok (.iconst 5, 1) := by decide +kernel
theorem dX8_parameter_18 : decode cX8_parameter 18 = .ok (.if_icmp .gt 7, 3) := by decide +kernel
theorem dX8_parameter_21 : decode cX8_parameter 21 = .ok (.iconst 1, 1) := by decide +kernel
theorem dX8_parameter_22 : decode cX8_parameter 22 = .ok (.goto 4, 3) := by decide +kernel
theorem dX8_parameter_25 : decode cX8_parameter 25 = .ok (.iconst 0, 1) := by decide +kernel
theorem dX8_parameter_26 : decode cX8_parameter 26 = .ok (.invokestatic 95, 3) := by decide +kernel
theorem dX8_parameter_29 : decode cX8_parameter 29 = .ok (.iload_n 1, 1) := by decide +kernel
theorem dX8_parameter_30 : decode cX8_parameter 30 = .ok (.ifCond .eq 19, 3) := by decide +kernel
theorem dX8_parameter_33 : decode cX8_parameter 33 = .ok (.aload_n 0, 1) := by decide +kernel
theorem dX8_parameter_34 : decode cX8_parameter 34 = .ok (.getfield 12, 3) := by decide +kernel
theorem dX8_parameter_37 : decode cX8_parameter 37 = .ok (.iload_n 1, 1) := by decide +kernel
theorem dX8_parameter_38 : decode cX8_parameter 38 = .ok (.iload_n 2, 1) := by decide +kernel
theorem dX8_parameter_39 : decode cX8_parameter 39 = .ok (.invokevirtual 113, 3) := by decide +kernel
theorem dX8_parameter_42 : decode cX8_parameter 42 = .ok (.ifCond .eq 7, 3) := by decide +kernel
theorem dX8_parameter_45 : decode cX8_parameter 45 = .ok (.iconst 1, 1) := by decide +kernel
theorem dX8_parameter_46 : decode cX8_parameter 46 = .ok (.goto 4, 3) := by decide +kernel
theorem dX8_parameter_49 : decode cX8_parameter 49 = .ok (.iconst 0, 1) := by decide +kernel
theorem dX8_parameter_50 : decode cX8_parameter 50 = .ok (.invokestatic 106, 3) := by decide +kernel
theorem dX8_parameter_53 : decode cX8_parameter 53 = .ok (.aload_n 0, 1) := by decide +kernel
theorem dX8_parameter_54 : decode cX8_parameter 54 = .ok (.iconst 1, 1) := by decide +kernel
theorem dX8_parameter_55 : decode cX8_parameter 55 = .ok (.putfield 70, 3) := by decide +kernel
theorem dX8_parameter_58 : decode cX8_parameter 58 = .ok (.aload_n 0, 1) := by decide +kernel
theorem dX8_parameter_59 : decode cX8_parameter 59 = .ok (.getfield 12, 3) := by decide +kernel
theorem dX8_parameter_62 : decode cX8_parameter 62 = .ok (.iload_n 1, 1) := by decide +kernel
theorem dX8_parameter_63 : decode cX8_parameter 63 = .ok (.iload_n 2, 1) := by decide +kernel
theorem dX8_parameter_64 : decode cX8_parameter 64 = .ok (.iload_n 3, 1) := by decide +kernel
theorem dX8_parameter_65 : decode cX8_parameter 65 = .ok (.invokevirtual 116, 3) := by decide +kernel
theorem dX8_parameter_68 : decode cX8_parameter 68 = .ok (.ireturn, 1) := by decide +kernel
set_option maxRecDepth 20000 in
theorem ggX8_variable_X8_needProcedure : GoodIn wsX8_variable wsX8_needProcedure := goodIn_ca (goodIn_r _ [7, 8, 9, 1, 10, 11, 12, 13, 14, 15, 59, 60, 61, 62, 63, 64, 65, 66, 67, 68, 69, 70, 71, 72, 73, 74, 75, 76, 77, 78, 79, 80, 81, 82, 83, 84] (by decide +kernel) (by decide +kernel)) (goodIn_sub (fun _ h => List.mem_cons_of_mem _ (List.mem_append_left _ (List.mem_append_left _ (List.mem_append_right _ h)))) (by decide +kernel))
set_option maxRecDepth 20000 in
theorem gX8_variable_X8_needProcedure : GoodIn wsX8_variable (wsV RX8 87 RX8 yX8_needProcedure wsX8_needProcedure) := goodIn_app (goodIn_of _ (by decide +kernel)) ggX8_variable_X8_needProcedure
set_option maxRecDepth 20000 in
theorem ggX8_variable_X8_isName : GoodIn wsX8_variable wsX8_isName := goodIn_r _ [18] (by decide +kernel) (by decide +kernel)
set_option maxRecDepth 20000 in
theorem gX8_variable_X8_isName : GoodIn wsX8_variable (va_wsS RX8 91 yX8_isName wsX8_isName) := goodIn_app (goodIn_of _ (by decide +kernel)) ggX8_variable_X8_isName
set_option maxRecDepth 20000 in
theorem ggX8_variable_X8_isSizeOf : GoodIn wsX8_variable wsX8_isSizeOf := goodIn_r _ [21] (by decide +kernel) (by decide +kernel)
set_option maxRecDepth 20000 in
theorem gX8_variable_X8_isSizeOf : GoodIn wsX8_variable (va_wsS RX8 120 yX8_isSizeOf wsX8_isSizeOf) := goodIn_app (goodIn_of _ (by decide +kernel)) ggX8_variable_X8_isSizeOf
set_option maxRecDepth 20000 in
theorem ggX8_variable_X8_needArgument : GoodIn wsX8_variable wsX8_needArgument := goodIn_ca (goodIn_r _ [24, 25, 26] (by decide +kernel) (by decide +kernel)) (goodIn_sub (fun _ h => List.mem_cons_of_mem _ (List.mem_append_left _ (List.mem_append_right _ h))) (by decide +kernel))
set_option maxRecDepth 20000 in
theorem gX8_variable_X8_needArgument : GoodIn wsX8_variable (va_wsS RX8 95 yX8_needArgument wsX8_needArgument) := goodIn_app (goodIn_of _ (by decide +kernel)) ggX8_variable_X8_needArgument
set_option maxRecDepth 20000 in
theorem ggX8_variable_X1_takesVariable : GoodIn wsX8_variable wsX1_takesVariable := goodIn_r _ [30, 31, 32, 33, 34, 13, 35, 36, 73, 74, 75, 76, 77, 78, 79, 80, 81, 82, 83, 84] (by decide +kernel) (by decide +kernel)
set_option maxRecDepth 20000 in
theorem gX8_variable_X1_takesVariable : GoodIn wsX8_variable (wsV RX8 123 RX1 yX1_takesVariable wsX1_takesVariable) := goodIn_app (goodIn_of _ (by decide +kernel)) ggX8_variable_X1_takesVariable
set_option maxRecDepth 20000 in
theorem ggX8_variable_X8_needState : GoodIn wsX8_variable wsX8_needState := goodIn_ca (goodIn_r _ [39, 40, 41] (by decide +kernel) (by decide +kernel)) (goodIn_sub (fun _ h => List.mem_cons_of_mem _ (List.mem_append_right _ h)) (by decide +kernel))
set_option maxRecDepth 20000 in
theorem gX8_variable_X8_needState : GoodIn wsX8_variable (va_wsS RX8 106 yX8_needState wsX8_needState) := goodIn_app (goodIn_of _ (by decide +kernel)) ggX8_variable_X8_needState
set_option maxRecDepth 20000 in
theorem ggX8_variable_X1_addVariable : GoodIn wsX8_variable wsX1_addVariable := goodIn_r _ [45, 31, 46, 47, 48, 13, 49, 36, 50, 51, 52, 53, 54, 55, 56, 57, 58, 73, 74, 75, 76, 77, 78, 79, 80, 81, 82, 83, 84] (by decide +kernel) (by decide +kernel)
set_option maxRecDepth 20000 in
theorem gX8_variable_X1_addVariable : GoodIn wsX8_variable (wsV RX8 126 RX1 yX1_addVariable wsX1_addVariable) := goodIn_app (goodIn_of _ (by decide +kernel)) ggX8_variable_X1_addVariable
theorem dX8_variable_0 : decode cX8_variable 0 = .ok (.aload_n 0, 1) := by decide +kernel
theorem dX8_variable_1 : decode cX8_variable 1 = .ok (.iload_n 1, 1) := by decide +kernel
theorem dX8_variable_2 : decode cX8_variable 2 = .ok (.invokevirtual 87, 3) := by decide +kernel
theorem dX8_variable_5 : decode cX8_variable 5 = .ok (.iload_n 2, 1) := by decide +kernel
theorem dX8_variable_6 : decode cX8_variable 6 = .ok (.invokestatic 91, 3) := by decide +kernel
theorem dX8_variable_9 : decode cX8_variable 9 = .ok (.ifCond .eq 16, 3) := by decide +kernel
theorem dX8_variable_12 : decode cX8_variable 12 = .ok (.iload_n 3, 1) := by decide +kernel
theorem dX8_variable_13 : decode cX8_variable 13 = .ok (.iload 4, 2) := by decide +kernel
theorem dX8_variable_15 : decode cX8_variable 15 = .ok (.invokestatic 120, 3) := by decide +kernel
theorem dX8_variable_18 : decode cX8_variable 18 = .ok (.ifCond .eq 7, 3) := by decide +kernel
theorem dX8_variable_21 : decode cX8_variable 21 = .ok (.iconst 1, 1) := by decide +kernel
theorem dX8_variable_22 : decode cX8_variable 22 = .ok (.goto 4, 3) := by decide +kernel
theorem dX8_variable_25 : decode cX8_variable 25 = .ok (.iconst 0, 1) := by decide +kernel
theorem dX8_variable_26 : decode cX8_variable 26 = .ok (.invokestatic 95, 3) := by decide +kernel
theorem dX8_variable_29 : decode cX8_variable 29 = .ok (.aload_n 0, 1) := by decide +kernel
theorem dX8_variable_30 : decode cX8_variable 30 = .ok (.getfield 12, 3) := by decide +kernel
theorem dX8_variable_33 : decode cX8_variable 33 = .ok (.iload_n 1, 1) := by decide +kernel
theorem dX8_variable_34 : decode cX8_variable 34 = .ok (.iload_n 2, 1) := by decide +kernel
theorem dX8_variable_35 : decode cX8_variable 35 = .ok (.invokevirtual 123, 3) := by decide +kernel
theorem dX8_variable_38 : decode cX8_variable 38 = .ok (.invokestatic 106, 3) := by decide +kernel
theorem dX8_variable_41 : decode cX8_variable 41 = .ok (.aload_n 0, 1) := by decide +kernel
theorem dX8_variable_42 : decode cX8_variable 42 = .ok (.iconst 1, 1) := by decide +kernel
theorem dX8_variable_43 : decode cX8_variable 43 = .ok (.putfield 70, 3) := by decide +kernel
theorem dX8_variable_46 : decode cX8_variable 46 = .ok (.aload_n 0, 1) := by decide +kernel
theorem dX8_variable_47 : decode cX8_variable 47 = .ok (.getfield 12, 3) := by decide +kernel
theorem dX8_variable_50 : decode cX8_variable 50 = .ok (.iload_n 1, 1) := by decide +kernel
theorem dX8_variable_51 : decode cX8_variable 51 = .ok (.iload_n 2, 1) := by decide +kernel
theorem dX8_variable_52 : decode cX8_variable 52 = .ok (.iload_n 3, 1) := by decide +kernel
theorem dX8_variable_53 : decode cX8_variable 53 = .ok (.bipush 6, 2) := by decide +kernel
theorem dX8_variable_55 : decode cX8_variable 55 = .ok (.iadd, 1) := by decide +kernel
theorem dX8_variable_56 : decode cX8_variable 56 = .ok (.iload 4, 2) := by decide +kernel
theorem dX8_variable_58 : decode cX8_variable 58 = .ok (.invokevirtual 126, 3) := by decide +kernel
theorem dX8_variable_61 : decode cX8_variable 61 = .ok (.ireturn, 1) := by decide +kernel
set_option maxRecDepth 20000 in
theorem ggX8_ofName_X8_needProcedure : GoodIn wsX8_ofName wsX8_needProcedure := goodIn_ca (goodIn_r _ [9, 10, 11, 1, 12, 13, 14, 15, 16, 17, 40, 41, 42, 43, 44, 45, 46, 47, 48, 49, 50, 51, 52, 53, 54, 55, 56, 57, 58, 59, 60, 61, 62, 63, 64, 65] (by decide +kernel) (by decide +kernel)) (goodIn_sub (fun _ h => List.mem_cons_of_mem _ (List.mem_append_left _ (List.mem_append_right _ h))) (by decide +kernel))
set_option maxRecDepth 20000 in
theorem gX8_ofName_X8_needProcedure : GoodIn wsX8_ofName (wsV RX8 87 RX8 yX8_needProcedure wsX8_needProcedure) := goodIn_app (goodIn_of _ (by decide +kernel)) ggX8_ofName_X8_needProcedure
set_option maxRecDepth 20000 in
theorem ggX8_ofName_X8_isName : GoodIn wsX8_ofName wsX8_isName := goodIn_r _ [20] (by decide +kernel) (by decide +kernel)
set_option maxRecDepth 20000 in
theorem gX8_ofName_X8_isName : GoodIn wsX8_ofName (va_wsS RX8 91 yX8_isName wsX8_isName) := goodIn_app (goodIn_of _ (by decide +kernel)) ggX8_ofName_X8_isName
set_option maxRecDepth 20000 in
theorem ggX8_ofName_X8_needArgument : GoodIn wsX8_ofName wsX8_needArgument := goodIn_ca (goodIn_r _ [23, 24, 25] (by decide +kernel) (by decide +kernel)) (goodIn_sub (fun _ h => List.mem_cons_of_mem _ (List.mem_append_right _ h)) (by decide +kernel))
set_option maxRecDepth 20000 in
theorem gX8_ofName_X8_needArgument : GoodIn wsX8_ofName (va_wsS RX8 95 yX8_needArgument wsX8_needArgument) := goodIn_app (goodIn_of _ (by decide +kernel)) ggX8_ofName_X8_needArgument
set_option maxRecDepth 20000 in
theorem ggX8_ofName_X1_declarer : GoodIn wsX8_ofName wsX1_declarer := goodIn_r _ [29, 30, 31, 32, 33, 15, 34, 35, 54, 55, 56, 57, 58, 59, 60, 61, 62, 63, 64, 65] (by decide +kernel) (by decide +kernel)
set_option maxRecDepth 20000 in
theorem gX8_ofName_X1_declarer : GoodIn wsX8_ofName (wsV RX8 130 RX1 yX1_declarer wsX1_declarer) := goodIn_app (goodIn_of _ (by decide +kernel)) ggX8_ofName_X1_declarer
set_option maxRecDepth 20000 in
theorem ggX8_ofName_X1_hopsTo : GoodIn wsX8_ofName wsX1_hopsTo := goodIn_r _ [39, 30, 54, 55, 56, 57, 58, 59, 60, 61, 62, 63, 64, 65] (by decide +kernel) (by decide +kernel)
set_option maxRecDepth 20000 in
theorem gX8_ofName_X1_hopsTo : GoodIn wsX8_ofName (wsV RX8 133 RX1 yX1_hopsTo wsX1_hopsTo) := goodIn_app (goodIn_of _ (by decide +kernel)) ggX8_ofName_X1_hopsTo
theorem dX8_ofName_0 : decode cX8_ofName 0 = .ok (.aload_n 0, 1) := by decide +kernel
theorem dX8_ofName_1 : decode cX8_ofName 1 = .ok (.iload_n 1, 1) := by decide +kernel
theorem dX8_ofName_2 : decode cX8_ofName 2 = .ok (.invokevirtual 87, 3) := by decide +kernel
theorem dX8_ofName_5 : decode cX8_ofName 5 = .ok (.iload_n 2, 1) := by decide +kernel
theorem dX8_ofName_6 : decode cX8_ofName 6 = .ok (.invokestatic 91, 3) := by decide +kernel
theorem dX8_ofName_9 : decode cX8_ofName 9 = .ok (.ifCond .eq 16, 3) := by decide +kernel
theorem dX8_ofName_12 : decode cX8_ofName 12 = .ok (.iload_n 3, 1) := by decide +kernel
theorem dX8_ofName_13 : decode cX8_ofName 13 = .ok (.ifCond .lt 12, 3) := by decide +kernel
theorem dX8_ofName_16 : decode cX8_ofName 16 = .ok (.iload_n 3, 1) := by decide +kernel
theorem dX8_ofName_17 : decode cX8_ofName 17 = .ok (.iconst 4, 1) := by decide +kernel
theorem dX8_ofName_18 : decode cX8_ofName 18 = .ok (.if_icmp .gt 7, 3) := by decide +kernel
theorem dX8_ofName_21 : decode cX8_ofName 21 = .ok (.iconst 1, 1) := by decide +kernel
theorem dX8_ofName_22 : decode cX8_ofName 22 = .ok (.goto 4, 3) := by decide +kernel
theorem dX8_ofName_25 : decode cX8_ofName 25 = .ok (.iconst 0, 1) := by decide +kernel
theorem dX8_ofName_26 : decode cX8_ofName 26 = .ok (.invokestatic 95, 3) := by decide +kernel
theorem dX8_ofName_29 : decode cX8_ofName 29 = .ok (.aload_n 0, 1) := by decide +kernel
theorem dX8_ofName_30 : decode cX8_ofName 30 = .ok (.getfield 12, 3) := by decide +kernel
theorem dX8_ofName_33 : decode cX8_ofName 33 = .ok (.iload_n 1, 1) := by decide +kernel
theorem dX8_ofName_34 : decode cX8_ofName 34 = .ok (.iload_n 2, 1) := by decide +kernel
theorem dX8_ofName_35 : decode cX8_ofName 35 = .ok (.invokevirtual 130, 3) := by decide +kernel
theorem dX8_ofName_38 : decode cX8_ofName 38 = .ok (.istore 4, 2) := by decide +kernel
theorem dX8_ofName_40 : decode cX8_ofName 40 = .ok (.iload 4, 2) := by decide +kernel
theorem dX8_ofName_42 : decode cX8_ofName 42 = .ok (.iconst (-1), 1) := by decide +kernel
theorem dX8_ofName_43 : decode cX8_ofName 43 = .ok (.if_icmp .ne 5, 3) := by decide +kernel
theorem dX8_ofName_46 : decode cX8_ofName 46 = .ok (.iconst (-1), 1) := by decide +kernel
theorem dX8_ofName_47 : decode cX8_ofName 47 = .ok (.ireturn, 1) := by decide +kernel
theorem dX8_ofName_48 : decode cX8_ofName 48 = .ok (.iload 4, 2) := by decide +kernel
theorem dX8_ofName_50 : decode cX8_ofName 50 = .ok (.bipush 16, 2) := by decide +kernel
theorem dX8_ofName_52 : decode cX8_ofName 52 = .ok (.imul, 1) := by decide +kernel
theorem dX8_ofName_53 : decode cX8_ofName 53 = .ok (.iload_n 2, 1) := by decide +kernel
theorem dX8_ofName_54 : decode cX8_ofName 54 = .ok (.iadd, 1) := by decide +kernel
theorem dX8_ofName_55 : decode cX8_ofName 55 = .ok (.istore 5, 2) := by decide +kernel
theorem dX8_ofName_57 : decode cX8_ofName 57 = .ok (.iload_n 3, 1) := by decide +kernel
theorem dX8_ofName_58 : decode cX8_ofName 58 = .ok (.tableswitch 66 0 3 #[30, 33, 44, 55], 30) := by decide +kernel
theorem dX8_ofName_88 : decode cX8_ofName 88 = .ok (.iload 4, 2) := by decide +kernel
theorem dX8_ofName_90 : decode cX8_ofName 90 = .ok (.ireturn, 1) := by decide +kernel
theorem dX8_ofName_91 : decode cX8_ofName 91 = .ok (.aload_n 0, 1) := by decide +kernel
theorem dX8_ofName_92 : decode cX8_ofName 92 = .ok (.getfield 12, 3) := by decide +kernel
theorem dX8_ofName_95 : decode cX8_ofName 95 = .ok (.iload 4, 2) := by decide +kernel
theorem dX8_ofName_97 : decode cX8_ofName 97 = .ok (.iload_n 1, 1) := by decide +kernel
theorem dX8_ofName_98 : decode cX8_ofName 98 = .ok (.invokevirtual 133, 3) := by decide +kernel
theorem dX8_ofName_101 : decode cX8_ofName 101 = .ok (.ireturn, 1) := by decide +kernel
theorem dX8_ofName_102 : decode cX8_ofName 102 = .ok (.aload_n 0, 1) := by decide +kernel
theorem dX8_ofName_103 : decode cX8_ofName 103 = .ok (.getfield 12, 3) := by decide +kernel
theorem dX8_ofName_106 : decode cX8_ofName 106 = .ok (.getfield 136, 3) := by decide +kernel
theorem dX8_ofName_109 : decode cX8_ofName 109 = .ok (.iload 5, 2) := by decide +kernel
theorem dX8_ofName_111 : decode cX8_ofName 111 = .ok (.iaload, 1) := by decide +kernel
theorem dX8_ofName_112 : decode cX8_ofName 112 = .ok (.ireturn, 1) := by decide +kernel
theorem dX8_ofName_113 : decode cX8_ofName 113 = .ok (.aload_n 0, 1) := by decide +kernel
theorem dX8_ofName_114 : decode cX8_ofName 114 = .ok (.getfield 12, 3) := by decide +kernel
theorem dX8_ofName_117 : decode cX8_ofName 117 = .ok (.getfield 140, 3) := by decide +kernel
theorem dX8_ofName_120 : decode cX8_ofName 120 = .ok (.iload 5, 2) := by decide +kernel
theorem dX8_ofName_122 : decode cX8_ofName 122 = .ok (.iaload, 1) := by decide +kernel
theorem dX8_ofName_123 : decode cX8_ofName 123 = .ok (.ireturn, 1) := by decide +kernel
theorem dX8_ofName_124 : decode cX8_ofName 124 = .ok (.aload_n 0, 1) := by decide +kernel
theorem dX8_ofName_125 : decode cX8_ofName 125 = .ok (.getfield 12, 3) := by decide +kernel
theorem dX8_ofName_128 : decode cX8_ofName 128 = .ok (.getfield 143, 3) := by decide +kernel
theorem dX8_ofName_131 : decode cX8_ofName 131 = .ok (.iload 5, 2) := by decide +kernel
theorem dX8_ofName_133 : decode cX8_ofName 133 = .ok (.iaload, 1) := by decide +kernel
theorem dX8_ofName_134 : decode cX8_ofName 134 = .ok (.ireturn, 1) := by decide +kernel
set_option maxRecDepth 20000 in
theorem ggX8_ofProcedure_X8_needProcedure : GoodIn wsX8_ofProcedure wsX8_needProcedure := goodIn_ca (goodIn_r _ [14, 15, 16, 1, 17, 18, 19, 20, 21, 22, 388, 389, 390, 391, 392, 393, 394, 395, 396, 397, 398, 399, 400, 401, 402, 403, 404, 405, 406, 407, 408, 409, 410, 411, 412, 413] (by decide +kernel) (by decide +kernel)) (goodIn_sub (fun _ h => List.mem_cons_of_mem _ (List.mem_append_left _ (List.mem_append_right _ h))) (by decide +kernel))
set_option maxRecDepth 20000 in
theorem gX8_ofProcedure_X8_needProcedure : GoodIn wsX8_ofProcedure (wsV RX8 87 RX8 yX8_needProcedure wsX8_needProcedure) := goodIn_app (goodIn_of _ (by decide +kernel)) ggX8_ofProcedure_X8_needProcedure
set_option maxRecDepth 20000 in
theorem ggX8_ofProcedure_X8_needArgument : GoodIn wsX8_ofProcedure wsX8_needArgument := goodIn_ca (goodIn_r _ [25, 26, 27] (by decide +kernel) (by decide +kernel)) (goodIn_sub (fun _ h => List.mem_cons_of_mem _ (List.mem_append_right _ h)) (by decide +kernel))
set_option maxRecDepth 20000 in
theorem gX8_ofProcedure_X8_needArgument : GoodIn wsX8_ofProcedure (va_wsS RX8 95 yX8_needArgument wsX8_needArgument) := goodIn_app (goodIn_of _ (by decide +kernel)) ggX8_ofProcedure_X8_needArgument
set_option maxRecDepth 20000 in
theorem ggX8_ofProcedure_X8_refresh : GoodIn wsX8_ofProcedure wsX8_refresh := goodIn_r _ [31, 32, 6, 33, 34, 35, 36, 37, 38, 39, 40, 41, 42, 43, 44, 45, 46, 47, 48, 49, 50, 51, 52, 53, 54, 55, 56, 57, 58, 59, 60, 61, 62, 63, 64, 65, 66, 67, 68, 69, 70, 71, 72, 73, 74, 75, 76, 20, 77, 78, 79, 80, 81, 82, 83, 84, 85, 86, 87, 88, 89, 90, 91, 92, 93, 94, 95, 96, 97, 98, 99, 100, 101, 102, 103, 104, 105, 106, 107, 108, 109, 110, 111, 112, 113, 114, 115, 116, 117, 118, 119, 120, 121, 122, 123, 124, 125, 126, 127, 128, 129, 130, 131, 132, 133, 134, 135, 136, 137, 138, 139, 140, 141, 142, 143, 144, 145, 146, 147, 148, 149, 150, 151, 152, 153, 154, 155, 156, 157, 158, 159, 160, 161, 162, 163, 164, 165, 166, 167, 168, 169, 170, 171, 172, 173, 174, 175, 176, 177, 178, 179, 180, 181, 182, 183, 184, 185, 186, 187, 188, 189, 190, 191, 192, 193, 194, 195, 196, 197, 198, 199, 200, 201, 202, 203, 204, 205, 206, 207, 208, 209, 210, 211, 212, 213, 214, 215, 216, 217, 218, 219, 220, 221, 222, 223, 224, 225, 226, 227, 228, 229, 230, 231, 232, 233, 234, 235, 236, 237, 238, 239, 240, 241, 242, 243, 244, 245, 246, 247, 248, 249, 250, 251, 252, 253, 254, 255, 256, 257, 258, 259, 260, 261, 262, 263, 264, 388, 389, 390, 391, 392, 393, 394, 395, 396, 397, 398, 399, 400, 401, 414, 415, 416, 417, 418, 419, 420, 421, 422, 423, 424, 425, 426, 427, 428, 429, 430, 431, 432, 433, 434, 435, 436, 437, 438, 439, 402, 403, 404, 405, 406, 407, 408, 409, 410, 411, 412, 413, 440, 441, 442, 443, 444, 445, 446, 447, 448, 449, 450, 451, 452, 453, 454, 455, 456, 457, 458, 459, 460, 461, 462, 463, 464, 465] (by decide +kernel) (by decide +kernel)
set_option maxRecDepth 20000 in
theorem gX8_ofProcedure_X8_refresh : GoodIn wsX8_ofProcedure (wsV RX8 146 RX8 yX8_refresh wsX8_refresh) := goodIn_app (goodIn_of _ (by decide +kernel)) ggX8_ofProcedure_X8_refresh
set_option maxRecDepth 20000 in
theorem ggX8_ofProcedure_X8_codeLength : GoodIn wsX8_ofProcedure wsX8_codeLength := goodIn_r _ [268, 33, 269, 34, 270, 271, 272, 273, 274, 262, 275, 264, 276, 277, 278, 279, 280, 281, 282, 283, 284, 285, 286, 287, 255, 256, 70, 257, 72, 73, 258, 288, 289, 290, 291, 292, 250, 251, 252, 253, 234, 293, 245, 246, 247, 248, 235, 294, 295, 296, 297, 298, 299, 300, 301, 302, 303, 304, 305, 306, 307, 308, 309, 310, 311, 312, 313, 314, 315, 316, 317, 318, 319, 320, 321, 322, 323, 324, 325, 326, 327, 328, 329, 330, 331, 332, 333, 334, 335, 336, 337, 338, 339, 340, 341, 342, 343, 344, 345, 346, 347, 348, 349, 350, 351, 352, 353, 354, 355, 356, 357, 358, 359, 360, 361, 39, 362, 41, 53, 46, 44, 363, 364, 365, 366, 367, 368, 369, 370, 371, 372, 373, 374, 375, 376, 377, 378, 379, 380, 381, 382, 383, 384, 385, 386, 387, 388, 389, 390, 391, 392, 393, 394, 395, 396, 397, 398, 399, 400, 401, 440, 441, 442, 443, 444, 445, 446, 447, 448, 449, 450, 451, 452, 453, 454, 455, 456, 457, 458, 459, 460, 461, 462, 463, 464, 465, 433, 434, 435, 436, 437, 438, 439, 414, 415, 416, 417, 418, 419, 420, 421, 422, 423, 424, 425, 426, 427, 428, 429, 430, 431, 432, 402, 403, 404, 405, 406, 407, 408, 409, 410, 411, 412, 413] (by decide +kernel) (by decide +kernel)
set_option maxRecDepth 20000 in
theorem gX8_ofProcedure_X8_codeLength : GoodIn wsX8_ofProcedure (wsV RX8 171 RX8 yX8_codeLength wsX8_codeLength) := goodIn_app (goodIn_of _ (by decide +kernel)) ggX8_ofProcedure_X8_codeLength
theorem dX8_ofProcedure_0 : decode cX8_ofProcedure 0 = .ok (.aload_n 0, 1) := by decide +kernel
theorem dX8_ofProcedure_1 : decode cX8_ofProcedure 1 = .ok (.iload_n 1, 1) := by decide +kernel
theorem dX8_ofProcedure_2 : decode cX8_ofProcedure 2 = .ok (.invokevirtual 87, 3) := by decide +kernel
theorem dX8_ofProcedure_5 : decode cX8_ofProcedure 5 = .ok (.iload_n 2, 1) := by decide +kernel
theorem dX8_ofProcedure_6 : decode cX8_ofProcedure 6 = .ok (.ifCond .lt 13, 3) := by decide +kernel
theorem dX8_ofProcedure_9 : decode cX8_ofProcedure 9 = .ok (.iload_n 2, 1) := by decide +kernel
theorem dX8_ofProcedure_10 : decode cX8_ofProcedure 10 = .ok (.bipush 7, 2) := by decide +kernel
theorem dX8_ofProcedure_12 : decode cX8_ofProcedure 12 = .ok (.if_icmp .gt 7, 3) := by decide +kernel
theorem dX8_ofProcedure_15 : decode cX8_ofProcedure 15 = .ok (.iconst 1, 1) := by decide +kernel
theorem dX8_ofProcedure_16 : decode cX8_ofProcedure 16 = .ok (.goto 4, 3) := by decide +kernel
theorem dX8_ofProcedure_19 : decode cX8_ofProcedure 19 = .ok (.iconst 0, 1) := by decide +kernel
theorem dX8_ofProcedure_20 : decode cX8_ofProcedure 20 = .ok (.invokestatic 95, 3) := by decide +kernel
theorem dX8_ofProcedure_23 : decode cX8_ofProcedure 23 = .ok (.aload_n 0, 1) := by decide +kernel
theorem dX8_ofProcedure_24 : decode cX8_ofProcedure 24 = .ok (.invokevirtual 146, 3) := by decide +kernel
theorem dX8_ofProcedure_27 : decode cX8_ofProcedure 27 = .ok (.iload_n 2, 1) := by decide +kernel
theorem dX8_ofProcedure_28 : decode cX8_ofProcedure 28 = .ok (.tableswitch 122 0 6 #[44, 54, 64, 74, 84, 94, 112], 44) := by decide +kernel
theorem dX8_ofProcedure_72 : decode cX8_ofProcedure 72 = .ok (.aload_n 0, 1) := by decide +kernel
theorem dX8_ofProcedure_73 : decode cX8_ofProcedure 73 = .ok (.getfield 12, 3) := by decide +kernel
theorem dX8_ofProcedure_76 : decode cX8_ofProcedure 76 = .ok (.getfield 149, 3) := by decide +kernel
theorem dX8_ofProcedure_79 : decode cX8_ofProcedure 79 = .ok (.iload_n 1, 1) := by decide +kernel
theorem dX8_ofProcedure_80 : decode cX8_ofProcedure 80 = .ok (.iaload, 1) := by decide +kernel
theorem dX8_ofProcedure_81 : decode cX8_ofProcedure 81 = .ok (.ireturn, 1) := by decide +kernel
theorem dX8_ofProcedure_82 : decode cX8_ofProcedure 82 = .ok (.aload_n 0, 1) := by decide +kernel
theorem dX8_ofProcedure_83 : decode cX8_ofProcedure 83 = .ok (.getfield 12, 3) := by decide +kernel
theorem dX8_ofProcedure_86 : decode cX8_ofProcedure 86 = .ok (.getfield 152, 3) := by decide +kernel
theorem dX8_ofProcedure_89 : decode cX8_ofProcedure 89 = .ok (.iload_n 1, 1) := by decide +kernel
theorem dX8_ofProcedure_90 : decode cX8_ofProcedure 90 = .ok (.iaload, 1) := by decide +kernel
theorem dX8_ofProcedure_91 : decode cX8_ofProcedure 91 = .ok (.ireturn, 1) := by decide +kernel
theorem dX8_ofProcedure_92 : decode cX8_ofProcedure 92 = .ok (.aload_n 0, 1) := by decide +kernel
theorem dX8_ofProcedure_93 : decode cX8_ofProcedure 93 = .ok (.getfield 12, 3) := by decide +kernel
theorem dX8_ofProcedure_96 : decode cX8_ofProcedure 96 = .ok (.getfield 155, 3) := by decide +kernel
theorem dX8_ofProcedure_99 : decode cX8_ofProcedure 99 = .ok (.iload_n 1, 1) := by decide +kernel
theorem dX8_ofProcedure_100 : decode cX8_ofProcedure 100 = .ok (.iaload, 1) := by decide +kernel
theorem dX8_ofProcedure_101 : decode cX8_ofProcedure 101 = .ok (.ireturn, 1) := by decide +kernel
theorem dX8_ofProcedure_102 : decode cX8_ofProcedure 102 = .ok (.aload_n 0, 1) := by decide +kernel
theorem dX8_ofProcedure_103 : decode cX8_ofProcedure 103 = .ok (.getfield 12, 3) := by decide +kernel
theorem dX8_ofProcedure_106 : decode cX8_ofProcedure 106 = .ok (.getfield 158, 3) := by decide +kernel
theorem dX8_ofProcedure_109 : decode cX8_ofProcedure 109 = .ok (.iload_n 1, 1) := by decide +kernel
theorem dX8_ofProcedure_110 : decode cX8_ofProcedure 110 = .ok (.iaload, 1) := by decide +kernel
theorem dX8_ofProcedure_111 : decode cX8_ofProcedure 111 = .ok (.ireturn, 1) := by decide +kernel
theorem dX8_ofProcedure_112 : decode cX8_ofProcedure 112 = .ok (.aload_n 0, 1) := by decide +kernel
theorem dX8_ofProcedure_113 : decode cX8_ofProcedure 113 = .ok (.getfield 28, 3) := by decide +kernel
theorem dX8_ofProcedure_116 : decode cX8_ofProcedure 116 = .ok (.getfield 161, 3) := by decide +kernel
theorem dX8_ofProcedure_119 : decode cX8_ofProcedure 119 = .ok (.iload_n 1, 1) := by decide +kernel
theorem dX8_ofProcedure_120 : decode cX8_ofProcedure 120 = .ok (.iaload, 1) := by decide +kernel
theorem dX8_ofProcedure_121 : decode cX8_ofProcedure 121 = .ok (.ireturn, 1) := by decide +kernel
theorem dX8_ofProcedure_122 : decode cX8_ofProcedure 122 = .ok (.aload_n 0, 1) := by decide +kernel
theorem dX8_ofProcedure_123 : decode cX8_ofProcedure 123 = .ok (.getfield 28, 3) := by decide +kernel
theorem dX8_ofProcedure_126 : decode cX8_ofProcedure 126 = .ok (.getfield 164, 3) := by decide +kernel
theorem dX8_ofProcedure_129 : decode cX8_ofProcedure 129 = .ok (.iload_n 1, 1) := by decide +kernel
theorem dX8_ofProcedure_130 : decode cX8_ofProcedure 130 = .ok (.baload, 1) := by decide +kernel
theorem dX8_ofProcedure_131 : decode cX8_ofProcedure 131 = .ok (.ifCond .eq 7, 3) := by decide +kernel
theorem dX8_ofProcedure_134 : decode cX8_ofProcedure 134 = .ok (.iconst 1, 1) := by decide +kernel
theorem dX8_ofProcedure_135 : decode cX8_ofProcedure 135 = .ok (.goto 4, 3) := by decide +kernel
theorem dX8_ofProcedure_138 : decode cX8_ofProcedure 138 = .ok (.iconst 0, 1) := by decide +kernel
theorem dX8_ofProcedure_139 : decode cX8_ofProcedure 139 = .ok (.ireturn, 1) := by decide +kernel
theorem dX8_ofProcedure_140 : decode cX8_ofProcedure 140 = .ok (.aload_n 0, 1) := by decide +kernel
theorem dX8_ofProcedure_141 : decode cX8_ofProcedure 141 = .ok (.getfield 12, 3) := by decide +kernel
theorem dX8_ofProcedure_144 : decode cX8_ofProcedure 144 = .ok (.getfield 168, 3) := by decide +kernel
theorem dX8_ofProcedure_147 : decode cX8_ofProcedure 147 = .ok (.iload_n 1, 1) := by decide +kernel
theorem dX8_ofProcedure_148 : decode cX8_ofProcedure 148 = .ok (.iaload, 1) := by decide +kernel
theorem dX8_ofProcedure_149 : decode cX8_ofProcedure 149 = .ok (.ireturn, 1) := by decide +kernel
theorem dX8_ofProcedure_150 : decode cX8_ofProcedure 150 = .ok (.aload_n 0, 1) := by decide +kernel
theorem dX8_ofProcedure_151 : decode cX8_ofProcedure 151 = .ok (.iload_n 1, 1) := by decide +kernel
theorem dX8_ofProcedure_152 : decode cX8_ofProcedure 152 = .ok (.invokevirtual 171, 3) := by decide +kernel
theorem dX8_ofProcedure_155 : decode cX8_ofProcedure 155 = .ok (.ireturn, 1) := by decide +kernel
set_option maxRecDepth 20000 in
theorem ggX8_node_X5_suits : GoodIn wsX8_node wsX5_suits := goodIn_r _ [8, 9, 10, 11, 12, 13, 14, 7, 15, 16, 17, 18, 19, 20, 21, 22, 23, 24, 25, 26, 27, 28, 29, 30, 31, 32, 33, 34, 35, 36, 37, 38, 39, 40, 41, 42, 43, 44, 45, 93, 94, 95, 96, 97, 98, 99] (by decide +kernel) (by decide +kernel)
set_option maxRecDepth 20000 in
theorem gX8_node_X5_suits : GoodIn wsX8_node (wsV RX8 175 RX5 yX5_suits wsX5_suits) := goodIn_app (goodIn_of _ (by decide +kernel)) ggX8_node_X5_suits
set_option maxRecDepth 20000 in
theorem ggX8_node_X8_needArgument : GoodIn wsX8_node wsX8_needArgument := goodIn_ca (goodIn_r _ [48, 49, 50] (by decide +kernel) (by decide +kernel)) (goodIn_sub (fun _ h => List.mem_cons_of_mem _ (List.mem_append_left _ (List.mem_append_right _ h))) (by decide +kernel))
set_option maxRecDepth 20000 in
theorem gX8_node_X8_needArgument : GoodIn wsX8_node (va_wsS RX8 95 yX8_needArgument wsX8_needArgument) := goodIn_app (goodIn_of _ (by decide +kernel)) ggX8_node_X8_needArgument
set_option maxRecDepth 20000 in
theorem ggX8_node_X8_needState : GoodIn wsX8_node wsX8_needState := goodIn_ca (goodIn_r _ [53, 54, 55] (by decide +kernel) (by decide +kernel)) (goodIn_sub (fun _ h => List.mem_cons_of_mem _ (List.mem_append_right _ h)) (by decide +kernel))
set_option maxRecDepth 20000 in
theorem gX8_node_X8_needState : GoodIn wsX8_node (va_wsS RX8 106 yX8_needState wsX8_needState) := goodIn_app (goodIn_of _ (by decide +kernel)) ggX8_node_X8_needState
set_option maxRecDepth 20000 in
theorem ggX8_node_X5_add : GoodIn wsX8_node wsX5_add := goodIn_r _ [59, 28, 23, 60, 61, 62, 33, 34, 63, 64, 65, 7, 66, 9, 67, 68, 69, 70, 71, 72, 73, 74, 10, 75, 76, 77, 78, 11, 93, 94, 95, 96, 97, 98, 99] (by decide +kernel) (by decide +kernel)
set_option maxRecDepth 20000 in
theorem gX8_node_X5_add : GoodIn wsX8_node (wsV RX8 180 RX5 yX5_add wsX5_add) := goodIn_app (goodIn_of _ (by decide +kernel)) ggX8_node_X5_add
theorem dX8_node_0 : decode cX8_node 0 = .ok (.aload_n 0, 1) := by decide +kernel
theorem dX8_node_1 : decode cX8_node 1 = .ok (.getfield 19, 3) := by decide +kernel
theorem dX8_node_4 : decode cX8_node 4 = .ok (.iload_n 1, 1) := by decide +kernel
theorem dX8_node_5 : decode cX8_node 5 = .ok (.iload_n 2, 1) := by decide +kernel
theorem dX8_node_6 : decode cX8_node 6 = .ok (.iload_n 3, 1) := by decide +kernel
theorem dX8_node_7 : decode cX8_node 7 = .ok (.iload 4, 2) := by decide +kernel
theorem dX8_node_9 : decode cX8_node 9 = .ok (.invokevirtual 175, 3) := by decide +kernel
theorem dX8_node_12 : decode cX8_node 12 = .ok (.invokestatic 95, 3) := by decide +kernel
theorem dX8_node_15 : decode cX8_node 15 = .ok (.aload_n 0, 1) := by decide +kernel
theorem dX8_node_16 : decode cX8_node 16 = .ok (.getfield 19, 3) := by decide +kernel
theorem dX8_node_19 : decode cX8_node 19 = .ok (.getfield 179, 3) := by decide +kernel
theorem dX8_node_22 : decode cX8_node 22 = .ok (.bipush 110, 2) := by decide +kernel
theorem dX8_node_24 : decode cX8_node 24 = .ok (.if_icmp .ge 7, 3) := by decide +kernel
theorem dX8_node_27 : decode cX8_node 27 = .ok (.iconst 1, 1) := by decide +kernel
theorem dX8_node_28 : decode cX8_node 28 = .ok (.goto 4, 3) := by decide +kernel
theorem dX8_node_31 : decode cX8_node 31 = .ok (.iconst 0, 1) := by decide +kernel
theorem dX8_node_32 : decode cX8_node 32 = .ok (.invokestatic 106, 3) := by decide +kernel
theorem dX8_node_35 : decode cX8_node 35 = .ok (.aload_n 0, 1) := by decide +kernel
theorem dX8_node_36 : decode cX8_node 36 = .ok (.iconst 1, 1) := by decide +kernel
theorem dX8_node_37 : decode cX8_node 37 = .ok (.putfield 70, 3) := by decide +kernel
theorem dX8_node_40 : decode cX8_node 40 = .ok (.aload_n 0, 1) := by decide +kernel
theorem dX8_node_41 : decode cX8_node 41 = .ok (.getfield 19, 3) := by decide +kernel
theorem dX8_node_44 : decode cX8_node 44 = .ok (.iload_n 1, 1) := by decide +kernel
theorem dX8_node_45 : decode cX8_node 45 = .ok (.iload_n 2, 1) := by decide +kernel
theorem dX8_node_46 : decode cX8_node 46 = .ok (.iload_n 3, 1) := by decide +kernel
theorem dX8_node_47 : decode cX8_node 47 = .ok (.iload 4, 2) := by decide +kernel
theorem dX8_node_49 : decode cX8_node 49 = .ok (.invokevirtual 180, 3) := by decide +kernel
theorem dX8_node_52 : decode cX8_node 52 = .ok (.ireturn, 1) := by decide +kernel
set_option maxRecDepth 20000 in
theorem ggX8_body_X8_needProcedure : GoodIn wsX8_body wsX8_needProcedure := goodIn_ca (goodIn_r _ [10, 11, 12, 3, 13, 14, 15, 16, 17, 18, 50, 51, 52, 53, 54, 55, 56, 57, 58, 59, 60, 61, 62, 63, 64, 65, 66, 67, 68, 69, 70, 71, 72, 73, 74, 75] (by decide +kernel) (by decide +kernel)) (goodIn_sub (fun _ h => List.mem_cons_of_mem _ (List.mem_append_left _ (List.mem_append_left _ (List.mem_append_right _ h)))) (by decide +kernel))
set_option maxRecDepth 20000 in
theorem gX8_body_X8_needProcedure : GoodIn wsX8_body (wsV RX8 87 RX8 yX8_needProcedure wsX8_needProcedure) := goodIn_app (goodIn_of _ (by decide +kernel)) ggX8_body_X8_needProcedure
set_option maxRecDepth 20000 in
theorem ggX8_body_X8_needNode : GoodIn wsX8_body wsX8_needNode := goodIn_ca (goodIn_r _ [22, 11, 12, 1, 23, 24, 25, 26, 27, 28, 50, 51, 52, 53, 54, 55, 56, 57, 58, 59, 60, 61, 62, 63, 76, 77, 78, 79, 80, 81, 82] (by decide +kernel) (by decide +kernel)) (goodIn_sub (fun _ h => List.mem_cons_of_mem _ (List.mem_append_left _ (List.mem_append_left _ (List.mem_append_right _ h)))) (by decide +kernel))
set_option maxRecDepth 20000 in
theorem gX8_body_X8_needNode : GoodIn wsX8_body (wsV RX8 183 RX8 yX8_needNode wsX8_needNode) := goodIn_app (goodIn_of _ (by decide +kernel)) ggX8_body_X8_needNode
set_option maxRecDepth 20000 in
theorem ggX8_body_X5_isStatement : GoodIn wsX8_body wsX5_isStatement := goodIn_r _ [32, 33, 76, 77, 78, 79, 80, 81, 82] (by decide +kernel) (by decide +kernel)
set_option maxRecDepth 20000 in
theorem gX8_body_X5_isStatement : GoodIn wsX8_body (wsV RX8 186 RX5 yX5_isStatement wsX5_isStatement) := goodIn_app (goodIn_of _ (by decide +kernel)) ggX8_body_X5_isStatement
set_option maxRecDepth 20000 in
theorem ggX8_body_X8_needArgument : GoodIn wsX8_body wsX8_needArgument := goodIn_ca (goodIn_r _ [36, 37, 38] (by decide +kernel) (by decide +kernel)) (goodIn_sub (fun _ h => List.mem_cons_of_mem _ (List.mem_append_left _ (List.mem_append_right _ h))) (by decide +kernel))
set_option maxRecDepth 20000 in
theorem gX8_body_X8_needArgument : GoodIn wsX8_body (va_wsS RX8 95 yX8_needArgument wsX8_needArgument) := goodIn_app (goodIn_of _ (by decide +kernel)) ggX8_body_X8_needArgument
set_option maxRecDepth 20000 in
theorem ggX8_body_X5_isFree : GoodIn wsX8_body wsX5_isFree := goodIn_r _ [42, 43, 44, 76, 77, 78, 79, 80, 81, 82] (by decide +kernel) (by decide +kernel)
set_option maxRecDepth 20000 in
theorem gX8_body_X5_isFree : GoodIn wsX8_body (wsV RX8 189 RX5 yX5_isFree wsX5_isFree) := goodIn_app (goodIn_of _ (by decide +kernel)) ggX8_body_X5_isFree
set_option maxRecDepth 20000 in
theorem ggX8_body_X8_needState : GoodIn wsX8_body wsX8_needState := goodIn_ca (goodIn_r _ [47, 48, 49] (by decide +kernel) (by decide +kernel)) (goodIn_sub (fun _ h => List.mem_cons_of_mem _ (List.mem_append_right _ h)) (by decide +kernel))
set_option maxRecDepth 20000 in
theorem gX8_body_X8_needState : GoodIn wsX8_body (va_wsS RX8 106 yX8_needState wsX8_needState) := goodIn_app (goodIn_of _ (by decide +kernel)) ggX8_body_X8_needState
theorem dX8_body_0 : decode cX8_body 0 = .ok (.aload_n 0, 1) := by decide +kernel
theorem dX8_body_1 : decode cX8_body 1 = .ok (.iload_n 1, 1) := by decide +kernel
theorem dX8_body_2 : decode cX8_body 2 = .ok (.invokevirtual 87, 3) := by decide +kernel
theorem dX8_body_5 : decode cX8_body 5 = .ok (.aload_n 0, 1) := by decide +kernel
theorem dX8_body_6 : decode cX8_body 6 = .ok (.iload_n 2, 1) := by decide +kernel
theorem dX8_body_7 : decode cX8_body 7 = .ok (.invokevirtual 183, 3) := by decide +kernel
theorem dX8_body_10 : decode cX8_body 10 = .ok (.aload_n 0, 1) := by decide +kernel
theorem dX8_body_11 : decode cX8_body 11 = .ok (.getfield 19, 3) := by decide +kernel
theorem dX8_body_14 : decode cX8_body 14 = .ok (.iload_n 2, 1) := by decide +kernel
theorem dX8_body_15 : decode cX8_body 15 = .ok (.invokevirtual 186, 3) := by decide +kernel
theorem dX8_body_18 : decode cX8_body 18 = .ok (.invokestatic 95, 3) := by decide +kernel
theorem dX8_body_21 : decode cX8_body 21 = .ok (.aload_n 0, 1) := by decide +kernel
theorem dX8_body_22 : decode cX8_body 22 = .ok (.getfield 19, 3) := by decide +kernel
theorem dX8_body_25 : decode cX8_body 25 = .ok (.iload_n 2, 1) := by decide +kernel
theorem dX8_body_26 : decode cX8_body 26 = .ok (.invokevirtual 189, 3) := by decide +kernel
theorem dX8_body_29 : decode cX8_body 29 = .ok (.invokestatic 106, 3) := by decide +kernel
theorem dX8_body_32 : decode cX8_body 32 = .ok (.aload_n 0, 1) := by decide +kernel
theorem dX8_body_33 : decode cX8_body 33 = .ok (.iconst 1, 1) := by decide +kernel
theorem dX8_body_34 : decode cX8_body 34 = .ok (.putfield 70, 3) := by decide +kernel
theorem dX8_body_37 : decode cX8_body 37 = .ok (.aload_n 0, 1) := by decide +kernel
theorem dX8_body_38 : decode cX8_body 38 = .ok (.getfield 12, 3) := by decide +kernel
theorem dX8_body_41 : decode cX8_body 41 = .ok (.getfield 168, 3) := by decide +kernel
theorem dX8_body_44 : decode cX8_body 44 = .ok (.iload_n 1, 1) := by decide +kernel
theorem dX8_body_45 : decode cX8_body 45 = .ok (.iaload, 1) := by decide +kernel
theorem dX8_body_46 : decode cX8_body 46 = .ok (.istore_n 3, 1) := by decide +kernel
theorem dX8_body_47 : decode cX8_body 47 = .ok (.iload_n 3, 1) := by decide +kernel
theorem dX8_body_48 : decode cX8_body 48 = .ok (.iconst (-1), 1) := by decide +kernel
theorem dX8_body_49 : decode cX8_body 49 = .ok (.if_icmp .eq 13, 3) := by decide +kernel
theorem dX8_body_52 : decode cX8_body 52 = .ok (.aload_n 0, 1) := by decide +kernel
theorem dX8_body_53 : decode cX8_body 53 = .ok (.getfield 19, 3) := by decide +kernel
theorem dX8_body_56 : decode cX8_body 56 = .ok (.getfield 192, 3) := by decide +kernel
theorem dX8_body_59 : decode cX8_body 59 = .ok (.iload_n 3, 1) := by decide +kernel
theorem dX8_body_60 : decode cX8_body 60 = .ok (.iconst (-1), 1) := by decide +kernel
theorem dX8_body_61 : decode cX8_body 61 = .ok (.iastore, 1) := by decide +kernel
theorem dX8_body_62 : decode cX8_body 62 = .ok (.aload_n 0, 1) := by decide +kernel
theorem dX8_body_63 : decode cX8_body 63 = .ok (.getfield 12, 3) := by decide +kernel
theorem dX8_body_66 : decode cX8_body 66 = .ok (.getfield 168, 3) := by decide +kernel
theorem dX8_body_69 : decode cX8_body 69 = .ok (.iload_n 1, 1) := by decide +kernel
theorem dX8_body_70 : decode cX8_body 70 = .ok (.iload_n 2, 1) := by decide +kernel
theorem dX8_body_71 : decode cX8_body 71 = .ok (.iastore, 1) := by decide +kernel
theorem dX8_body_72 : decode cX8_body 72 = .ok (.aload_n 0, 1) := by decide +kernel
theorem dX8_body_73 : decode cX8_body 73 = .ok (.getfield 19, 3) := by decide +kernel
theorem dX8_body_76 : decode cX8_body 76 = .ok (.getfield 192, 3) := by decide +kernel
theorem dX8_body_79 : decode cX8_body 79 = .ok (.iload_n 2, 1) := by decide +kernel
theorem dX8_body_80 : decode cX8_body 80 = .ok (.iload_n 1, 1) := by decide +kernel
theorem dX8_body_81 : decode cX8_body 81 = .ok (.iastore, 1) := by decide +kernel
theorem dX8_body_82 : decode cX8_body 82 = .ok (.iload_n 3, 1) := by decide +kernel
theorem dX8_body_83 : decode cX8_body 83 = .ok (.ireturn, 1) := by decide +kernel
set_option maxRecDepth 20000 in
theorem ggX8_ofNode_X8_needNode : GoodIn wsX8_ofNode wsX8_needNode := goodIn_ca (goodIn_r _ [15, 16, 17, 1, 18, 19, 20, 21, 22, 23, 266, 267, 268, 269, 270, 271, 272, 273, 274, 275, 276, 277, 278, 279, 280, 281, 282, 283, 284, 285, 286] (by decide +kernel) (by decide +kernel)) (goodIn_sub (fun _ h => List.mem_cons_of_mem _ (List.mem_append_left _ (List.mem_append_right _ h))) (by decide +kernel))
set_option maxRecDepth 20000 in
theorem gX8_ofNode_X8_needNode : GoodIn wsX8_ofNode (wsV RX8 183 RX8 yX8_needNode wsX8_needNode) := goodIn_app (goodIn_of _ (by decide +kernel)) ggX8_ofNode_X8_needNode
set_option maxRecDepth 20000 in
theorem ggX8_ofNode_X8_needArgument : GoodIn wsX8_ofNode wsX8_needArgument := goodIn_ca (goodIn_r _ [26, 27, 28] (by decide +kernel) (by decide +kernel)) (goodIn_sub (fun _ h => List.mem_cons_of_mem _ (List.mem_append_right _ h)) (by decide +kernel))
set_option maxRecDepth 20000 in
theorem gX8_ofNode_X8_needArgument : GoodIn wsX8_ofNode (va_wsS RX8 95 yX8_needArgument wsX8_needArgument) := goodIn_app (goodIn_of _ (by decide +kernel)) ggX8_ofNode_X8_needArgument
set_option maxRecDepth 20000 in
theorem ggX8_ofNode_X8_refresh : GoodIn wsX8_ofNode wsX8_refresh := goodIn_r _ [32, 33, 6, 34, 35, 36, 37, 38, 39, 40, 41, 42, 43, 44, 45, 46, 47, 48, 49, 50, 51, 52, 53, 54, 55, 56, 57, 58, 59, 60, 61, 62, 63, 64, 65, 66, 67, 68, 69, 70, 21, 71, 72, 73, 74, 75, 76, 77, 78, 79, 80, 81, 82, 83, 84, 85, 86, 87, 88, 89, 90, 91, 92, 93, 94, 95, 96, 97, 98, 99, 100, 101, 102, 103, 104, 105, 106, 107, 108, 109, 110, 111, 112, 113, 114, 115, 116, 117, 118, 119, 120, 121, 122, 123, 124, 125, 126, 127, 128, 129, 130, 131, 132, 133, 134, 135, 136, 137, 138, 139, 140, 141, 142, 143, 144, 145, 146, 147, 148, 149, 150, 151, 152, 153, 154, 155, 156, 157, 158, 159, 160, 161, 162, 163, 164, 165, 166, 167, 168, 169, 170, 171, 172, 173, 174, 175, 176, 177, 178, 179, 180, 181, 182, 183, 184, 185, 186, 187, 188, 189, 190, 191, 192, 193, 194, 195, 196, 197, 198, 199, 200, 201, 202, 203, 204, 205, 206, 207, 208, 209, 210, 211, 212, 213, 214, 215, 216, 217, 218, 219, 220, 221, 222, 223, 224, 225, 226, 227, 228, 229, 230, 231, 232, 233, 234, 235, 236, 237, 238, 239, 240, 241, 242, 243, 244, 245, 246, 247, 248, 249, 250, 251, 252, 253, 254, 255, 256, 257, 258, 259, 260, 261, 262, 263, 264, 265, 266, 267, 268, 269, 270, 271, 272, 273, 274, 275, 276, 277, 278, 279, 287, 288, 289, 290, 291, 292, 293, 294, 295, 296, 297, 298, 299, 300, 301, 302, 303, 304, 305, 280, 281, 282, 283, 284, 285, 286, 306, 307, 308, 309, 310, 311, 312, 313, 314, 315, 316, 317, 318, 319, 320, 321, 322, 323, 324, 325, 326, 327, 328, 329, 330, 331, 332, 333, 334, 335, 336, 337, 338, 339, 340, 341, 342, 343] (by decide +kernel) (by decide +kernel)
set_option maxRecDepth 20000 in
theorem gX8_ofNode_X8_refresh : GoodIn wsX8_ofNode (wsV RX8 146 RX8 yX8_refresh wsX8_refresh) := goodIn_app (goodIn_of _ (by decide +kernel)) ggX8_ofNode_X8_refresh
theorem dX8_ofNode_0 : decode cX8_ofNode 0 = .ok (.aload_n 0, 1) := by decide +kernel
theorem dX8_ofNode_1 : decode cX8_ofNode 1 = .ok (.iload_n 1, 1) := by decide +kernel
theorem dX8_ofNode_2 : decode cX8_ofNode 2 = .ok (.invokevirtual 183, 3) := by decide +kernel
theorem dX8_ofNode_5 : decode cX8_ofNode 5 = .ok (.iload_n 2, 1) := by decide +kernel
theorem dX8_ofNode_6 : decode cX8_ofNode 6 = .ok (.ifCond .lt 13, 3) := by decide +kernel
theorem dX8_ofNode_9 : decode cX8_ofNode 9 = .ok (.iload_n 2, 1) := by decide +kernel
theorem dX8_ofNode_10 : decode cX8_ofNode 10 = .ok (.bipush 7, 2) := by decide +kernel
theorem dX8_ofNode_12 : decode cX8_ofNode 12 = .ok (.if_icmp .gt 7, 3) := by decide +kernel
theorem dX8_ofNode_15 : decode cX8_ofNode 15 = .ok (.iconst 1, 1) := by decide +kernel
theorem dX8_ofNode_16 : decode cX8_ofNode 16 = .ok (.goto 4, 3) := by decide +kernel
theorem dX8_ofNode_19 : decode cX8_ofNode 19 = .ok (.iconst 0, 1) := by decide +kernel
theorem dX8_ofNode_20 : decode cX8_ofNode 20 = .ok (.invokestatic 95, 3) := by decide +kernel
theorem dX8_ofNode_23 : decode cX8_ofNode 23 = .ok (.aload_n 0, 1) := by decide +kernel
theorem dX8_ofNode_24 : decode cX8_ofNode 24 = .ok (.invokevirtual 146, 3) := by decide +kernel
theorem dX8_ofNode_27 : decode cX8_ofNode 27 = .ok (.iload_n 2, 1) := by decide +kernel
theorem dX8_ofNode_28 : decode cX8_ofNode 28 = .ok (.tableswitch 130 0 6 #[44, 54, 64, 74, 84, 94, 112], 44) := by decide +kernel
theorem dX8_ofNode_72 : decode cX8_ofNode 72 = .ok (.aload_n 0, 1) := by decide +kernel
theorem dX8_ofNode_73 : decode cX8_ofNode 73 = .ok (.getfield 19, 3) := by decide +kernel
theorem dX8_ofNode_76 : decode cX8_ofNode 76 = .ok (.getfield 195, 3) := by decide +kernel
theorem dX8_ofNode_79 : decode cX8_ofNode 79 = .ok (.iload_n 1, 1) := by decide +kernel
theorem dX8_ofNode_80 : decode cX8_ofNode 80 = .ok (.iaload, 1) := by decide +kernel
theorem dX8_ofNode_81 : decode cX8_ofNode 81 = .ok (.ireturn, 1) := by decide +kernel
theorem dX8_ofNode_82 : decode cX8_ofNode 82 = .ok (.aload_n 0, 1) := by decide +kernel
theorem dX8_ofNode_83 : decode cX8_ofNode 83 = .ok (.getfield 19, 3) := by decide +kernel
theorem dX8_ofNode_86 : decode cX8_ofNode 86 = .ok (.getfield 198, 3) := by decide +kernel
theorem dX8_ofNode_89 : decode cX8_ofNode 89 = .ok (.iload_n 1, 1) := by decide +kernel
theorem dX8_ofNode_90 : decode cX8_ofNode 90 = .ok (.iaload, 1) := by decide +kernel
theorem dX8_ofNode_91 : decode cX8_ofNode 91 = .ok (.ireturn, 1) := by decide +kernel
theorem dX8_ofNode_92 : decode cX8_ofNode 92 = .ok (.aload_n 0, 1) := by decide +kernel
theorem dX8_ofNode_93 : decode cX8_ofNode 93 = .ok (.getfield 19, 3) := by decide +kernel
theorem dX8_ofNode_96 : decode cX8_ofNode 96 = .ok (.getfield 201, 3) := by decide +kernel
theorem dX8_ofNode_99 : decode cX8_ofNode 99 = .ok (.iload_n 1, 1) := by decide +kernel
theorem dX8_ofNode_100 : decode cX8_ofNode 100 = .ok (.iaload, 1) := by decide +kernel
theorem dX8_ofNode_101 : decode cX8_ofNode 101 = .ok (.ireturn, 1) := by decide +kernel
theorem dX8_ofNode_102 : decode cX8_ofNode 102 = .ok (.aload_n 0, 1) := by decide +kernel
theorem dX8_ofNode_103 : decode cX8_ofNode 103 = .ok (.getfield 19, 3) := by decide +kernel
theorem dX8_ofNode_106 : decode cX8_ofNode 106 = .ok (.getfield 204, 3) := by decide +kernel
theorem dX8_ofNode_109 : decode cX8_ofNode 109 = .ok (.iload_n 1, 1) := by decide +kernel
theorem dX8_ofNode_110 : decode cX8_ofNode 110 = .ok (.iaload, 1) := by decide +kernel
theorem dX8_ofNode_111 : decode cX8_ofNode 111 = .ok (.ireturn, 1) := by decide +kernel
theorem dX8_ofNode_112 : decode cX8_ofNode 112 = .ok (.aload_n 0, 1) := by decide +kernel
theorem dX8_ofNode_113 : decode cX8_ofNode 113 = .ok (.getfield 28, 3) := by decide +kernel
theorem dX8_ofNode_116 : decode cX8_ofNode 116 = .ok (.getfield 207, 3) := by decide +kernel
theorem dX8_ofNode_119 : decode cX8_ofNode 119 = .ok (.iload_n 1, 1) := by decide +kernel
theorem dX8_ofNode_120 : decode cX8_ofNode 120 = .ok (.iaload, 1) := by decide +kernel
theorem dX8_ofNode_121 : decode cX8_ofNode 121 = .ok (.ireturn, 1) := by decide +kernel
theorem dX8_ofNode_122 : decode cX8_ofNode 122 = .ok (.aload_n 0, 1) := by decide +kernel
theorem dX8_ofNode_123 : decode cX8_ofNode 123 = .ok (.getfield 28, 3) := by decide +kernel
theorem dX8_ofNode_126 : decode cX8_ofNode 126 = .ok (.getfield 210, 3) := by decide +kernel
theorem dX8_ofNode_129 : decode cX8_ofNode 129 = .ok (.iload_n 1, 1) := by decide +kernel
theorem dX8_ofNode_130 : decode cX8_ofNode 130 = .ok (.baload, 1) := by decide +kernel
theorem dX8_ofNode_131 : decode cX8_ofNode 131 = .ok (.ifCond .eq 7, 3) := by decide +kernel
theorem dX8_ofNode_134 : decode cX8_ofNode 134 = .ok (.iconst 1, 1) := by decide +kernel
theorem dX8_ofNode_135 : decode cX8_ofNode 135 = .ok (.goto 4, 3) := by decide +kernel
theorem dX8_ofNode_138 : decode cX8_ofNode 138 = .ok (.iconst 0, 1) := by decide +kernel
theorem dX8_ofNode_139 : decode cX8_ofNode 139 = .ok (.ireturn, 1) := by decide +kernel
theorem dX8_ofNode_140 : decode cX8_ofNode 140 = .ok (.aload_n 0, 1) := by decide +kernel
theorem dX8_ofNode_141 : decode cX8_ofNode 141 = .ok (.getfield 28, 3) := by decide +kernel
theorem dX8_ofNode_144 : decode cX8_ofNode 144 = .ok (.getfield 213, 3) := by decide +kernel
theorem dX8_ofNode_147 : decode cX8_ofNode 147 = .ok (.iload_n 1, 1) := by decide +kernel
theorem dX8_ofNode_148 : decode cX8_ofNode 148 = .ok (.baload, 1) := by decide +kernel
theorem dX8_ofNode_149 : decode cX8_ofNode 149 = .ok (.ifCond .eq 7, 3) := by decide +kernel
theorem dX8_ofNode_152 : decode cX8_ofNode 152 = .ok (.iconst 1, 1) := by decide +kernel
theorem dX8_ofNode_153 : decode cX8_ofNode 153 = .ok (.goto 4, 3) := by decide +kernel
theorem dX8_ofNode_156 : decode cX8_ofNode 156 = .ok (.iconst 0, 1) := by decide +kernel
theorem dX8_ofNode_157 : decode cX8_ofNode 157 = .ok (.ireturn, 1) := by decide +kernel
theorem dX8_ofNode_158 : decode cX8_ofNode 158 = .ok (.aload_n 0, 1) := by decide +kernel
theorem dX8_ofNode_159 : decode cX8_ofNode 159 = .ok (.getfield 28, 3) := by decide +kernel
theorem dX8_ofNode_162 : decode cX8_ofNode 162 = .ok (.getfield 216, 3) := by decide +kernel
theorem dX8_ofNode_165 : decode cX8_ofNode 165 = .ok (.iload_n 1, 1) := by decide +kernel
theorem dX8_ofNode_166 : decode cX8_ofNode 166 = .ok (.iaload, 1) := by decide +kernel
theorem dX8_ofNode_167 : decode cX8_ofNode 167 = .ok (.ireturn, 1) := by decide +kernel
set_option maxRecDepth 20000 in
theorem ggX8_fault_X8_refresh : GoodIn wsX8_fault wsX8_refresh := goodIn_r _ [10, 11, 12, 1, 13, 14, 15, 16, 17, 18, 19, 20, 21, 22, 23, 24, 25, 26, 27, 28, 29, 30, 31, 32, 33, 34, 35, 36, 37, 38, 39, 40, 41, 42, 43, 44, 45, 46, 47, 48, 49, 50, 51, 52, 53, 54, 55, 56, 57, 58, 59, 60, 61, 62, 63, 64, 65, 66, 67, 68, 69, 70, 71, 72, 73, 74, 75, 76, 77, 78, 79, 80, 81, 82, 83, 84, 85, 86, 87, 88, 89, 90, 91, 92, 93, 94, 95, 96, 97, 98, 99, 100, 101, 102, 103, 104, 105, 106, 107, 108, 109, 110, 111, 112, 113, 114, 115, 116, 117, 118, 119, 120, 121, 122, 123, 124, 125, 126, 127, 128, 129, 130, 131, 132, 133, 134, 135, 136, 137, 138, 139, 140, 141, 142, 143, 144, 145, 146, 147, 148, 149, 150, 151, 152, 153, 154, 155, 156, 157, 158, 159, 160, 161, 162, 163, 164, 165, 166, 167, 168, 169, 170, 171, 172, 173, 174, 175, 176, 177, 178, 179, 180, 181, 182, 183, 184, 185, 186, 187, 188, 189, 190, 191, 192, 193, 194, 195, 196, 197, 198, 199, 200, 201, 202, 203, 204, 205, 206, 207, 208, 209, 210, 211, 212, 213, 214, 215, 216, 217, 218, 219, 220, 221, 222, 223, 224, 225, 226, 227, 228, 229, 230, 231, 232, 233, 234, 235, 236, 237, 238, 239, 240, 241, 242, 243, 244, 255, 256, 257, 258, 259, 260, 261, 262, 263, 264, 265, 266, 267, 268, 278, 279, 280, 281, 282, 283, 284, 285, 286, 287, 288, 289, 290, 291, 292, 293, 294, 295, 296, 297, 298, 299, 300, 301, 302, 303, 304, 305, 306, 307, 308, 309, 310, 311, 312, 313, 314, 315, 269, 270, 271, 272, 273, 274, 275, 276, 277, 316, 317, 318, 319, 320, 321, 322, 323, 324, 325, 326, 327, 328, 329, 330, 331, 332] (by decide +kernel) (by decide +kernel)
set_option maxRecDepth 20000 in
theorem gX8_fault_X8_refresh : GoodIn wsX8_fault (wsV RX8 146 RX8 yX8_refresh wsX8_refresh) := goodIn_app (goodIn_of _ (by decide +kernel)) ggX8_fault_X8_refresh
set_option maxRecDepth 20000 in
theorem ggX8_fault_X8_needPlace : GoodIn wsX8_fault wsX8_needPlace := goodIn_ca (goodIn_r _ [247, 248, 249] (by decide +kernel) (by decide +kernel)) (goodIn_sub (fun _ h => List.mem_cons_of_mem _ (List.mem_append_left _ (List.mem_append_right _ h))) (by decide +kernel))
set_option maxRecDepth 20000 in
theorem gX8_fault_X8_needPlace : GoodIn wsX8_fault (va_wsS RX8 220 yX8_needPlace wsX8_needPlace) := goodIn_app (goodIn_of _ (by decide +kernel)) ggX8_fault_X8_needPlace
set_option maxRecDepth 20000 in
theorem ggX8_fault_X8_needArgument : GoodIn wsX8_fault wsX8_needArgument := goodIn_ca (goodIn_r _ [252, 253, 254] (by decide +kernel) (by decide +kernel)) (goodIn_sub (fun _ h => List.mem_cons_of_mem _ (List.mem_append_right _ h)) (by decide +kernel))
set_option maxRecDepth 20000 in
theorem gX8_fault_X8_needArgument : GoodIn wsX8_fault (va_wsS RX8 95 yX8_needArgument wsX8_needArgument) := goodIn_app (goodIn_of _ (by decide +kernel)) ggX8_fault_X8_needArgument
theorem dX8_fault_0 : decode cX8_fault 0 = .ok (.aload_n 0, 1) := by decide +kernel
theorem dX8_fault_1 : decode cX8_fault 1 = .ok (.invokevirtual 146, 3) := by decide +kernel
theorem dX8_fault_4 : decode cX8_fault 4 = .ok (.iload_n 1, 1) := by decide +kernel
theorem dX8_fault_5 : decode cX8_fault 5 = .ok (.ifCond .lt 18, 3) := by decide +kernel
theorem dX8_fault_8 : decode cX8_fault 8 = .ok (.iload_n 1, 1) := by decide +kernel
theorem dX8_fault_9 : decode cX8_fault 9 = .ok (.aload_n 0, 1) := by decide +kernel
theorem dX8_fault_10 : decode cX8_fault 10 = .ok (.getfield 37, 3) := by decide +kernel
theorem dX8_fault_13 : decode cX8_fault 13 = .ok (.getfield 219, 3) := by decide +kernel
theorem dX8_fault_16 : decode cX8_fault 16 = .ok (.if_icmp .ge 7, 3) := by decide +kernel
theorem dX8_fault_19 : decode cX8_fault 19 = .ok (.iconst 1, 1) := by decide +kernel
theorem dX8_fault_20 : decode cX8_fault 20 = .ok (.goto 4, 3) := by decide +kernel
theorem dX8_fault_23 : decode cX8_fault 23 = .ok (.iconst 0, 1) := by decide +kernel
theorem dX8_fault_24 : decode cX8_fault 24 = .ok (.invokestatic 220, 3) := by decide +kernel
theorem dX8_fault_27 : decode cX8_fault 27 = .ok (.iload_n 2, 1) := by decide +kernel
theorem dX8_fault_28 : decode cX8_fault 28 = .ok (.ifCond .lt 12, 3) := by decide +kernel
theorem dX8_fault_31 : decode cX8_fault 31 = .ok (.iload_n 2, 1) := by decide +kernel
theorem dX8_fault_32 : decode cX8_fault 32 = .ok (.iconst 2, 1) := by decide +kernel
theorem dX8_fault_33 : decode cX8_fault 33 = .ok (.if_icmp .gt 7, 3) := by decide +kernel
theorem dX8_fault_36 : decode cX8_fault 36 = .ok (.iconst 1, 1) := by decide +kernel
theorem dX8_fault_37 : decode cX8_fault 37 = .ok (.goto 4, 3) := by decide +kernel
theorem dX8_fault_40 : decode cX8_fault 40 = .ok (.iconst 0, 1) := by decide +kernel
theorem dX8_fault_41 : decode cX8_fault 41 = .ok (.invokestatic 95, 3) := by decide +kernel
theorem dX8_fault_44 : decode cX8_fault 44 = .ok (.iload_n 2, 1) := by decide +kernel
theorem dX8_fault_45 : decode cX8_fault 45 = .ok (.lookupswitch 47 #[(0, 27), (1, 37)], 27) := by decide +kernel
theorem dX8_fault_72 : decode cX8_fault 72 = .ok (.aload_n 0, 1) := by decide +kernel
theorem dX8_fault_73 : decode cX8_fault 73 = .ok (.getfield 37, 3) := by decide +kernel
theorem dX8_fault_76 : decode cX8_fault 76 = .ok (.getfield 223, 3) := by decide +kernel
theorem dX8_fault_79 : decode cX8_fault 79 = .ok (.iload_n 1, 1) := by decide +kernel
theorem dX8_fault_80 : decode cX8_fault 80 = .ok (.iaload, 1) := by decide +kernel
theorem dX8_fault_81 : decode cX8_fault 81 = .ok (.ireturn, 1) := by decide +kernel
theorem dX8_fault_82 : decode cX8_fault 82 = .ok (.aload_n 0, 1) := by decide +kernel
theorem dX8_fault_83 : decode cX8_fault 83 = .ok (.getfield 37, 3) := by decide +kernel
theorem dX8_fault_86 : decode cX8_fault 86 = .ok (.getfield 226, 3) := by decide +kernel
theorem dX8_fault_89 : decode cX8_fault 89 = .ok (.iload_n 1, 1) := by decide +kernel
theorem dX8_fault_90 : decode cX8_fault 90 = .ok (.iaload, 1) := by decide +kernel
theorem dX8_fault_91 : decode cX8_fault 91 = .ok (.ireturn, 1) := by decide +kernel
theorem dX8_fault_92 : decode cX8_fault 92 = .ok (.aload_n 0, 1) := by decide +kernel
theorem dX8_fault_93 : decode cX8_fault 93 = .ok (.getfield 37, 3) := by decide +kernel
theorem dX8_fault_96 : decode cX8_fault 96 = .ok (.getfield 229, 3) := by decide +kernel
theorem dX8_fault_99 : decode cX8_fault 99 = .ok (.iload_n 1, 1) := by decide +kernel
theorem dX8_fault_100 : decode cX8_fault 100 = .ok (.iaload, 1) := by decide +kernel
theorem dX8_fault_101 : decode cX8_fault 101 = .ok (.ireturn, 1) := by decide +kernel
set_option maxRecDepth 20000 in
theorem ggX8_passes_X8_isPasses : GoodIn wsX8_passes wsX8_isPasses := goodIn_r _ [5] (by decide +kernel) (by decide +kernel)
set_option maxRecDepth 20000 in
theorem gX8_passes_X8_isPasses : GoodIn wsX8_passes (va_wsS RX8 232 yX8_isPasses wsX8_isPasses) := goodIn_app (goodIn_of _ (by decide +kernel)) ggX8_passes_X8_isPasses
set_option maxRecDepth 20000 in
theorem ggX8_passes_X8_needArgument : GoodIn wsX8_passes wsX8_needArgument := goodIn_ca (goodIn_r _ [8, 9, 10] (by decide +kernel) (by decide +kernel)) (goodIn_sub (fun _ h => List.mem_cons_of_mem _ (List.mem_append_right _ h)) (by decide +kernel))
set_option maxRecDepth 20000 in
theorem gX8_passes_X8_needArgument : GoodIn wsX8_passes (va_wsS RX8 95 yX8_needArgument wsX8_needArgument) := goodIn_app (goodIn_of _ (by decide +kernel)) ggX8_passes_X8_needArgument
theorem dX8_passes_0 : decode cX8_passes 0 = .ok (.iload_n 1, 1) := by decide +kernel
theorem dX8_passes_1 : decode cX8_passes 1 = .ok (.invokestatic 232, 3) := by decide +kernel
theorem dX8_passes_4 : decode cX8_passes 4 = .ok (.invokestatic 95, 3) := by decide +kernel
theorem dX8_passes_7 : decode cX8_passes 7 = .ok (.aload_n 0, 1) := by decide +kernel
theorem dX8_passes_8 : decode cX8_passes 8 = .ok (.getfield 74, 3) := by decide +kernel
theorem dX8_passes_11 : decode cX8_passes 11 = .ok (.istore_n 2, 1) := by decide +kernel
theorem dX8_passes_12 : decode cX8_passes 12 = .ok (.aload_n 0, 1) := by decide +kernel
theorem dX8_passes_13 : decode cX8_passes 13 = .ok (.iload_n 1, 1) := by decide +kernel
theorem dX8_passes_14 : decode cX8_passes 14 = .ok (.putfield 74, 3) := by decide +kernel
theorem dX8_passes_17 : decode cX8_passes 17 = .ok (.iload_n 2, 1) := by decide +kernel
theorem dX8_passes_18 : decode cX8_passes 18 = .ok (.ireturn, 1) := by decide +kernel
set_option maxRecDepth 20000 in
theorem ggX8_code_X8_needProcedure : GoodIn wsX8_code wsX8_needProcedure := goodIn_ca (goodIn_r _ [11, 12, 13, 14, 15, 16, 17, 18, 19, 20, 389, 390, 391, 392, 393, 394, 395, 396, 397, 398, 399, 400, 401, 402, 420, 421, 422, 423, 424, 425, 426, 427, 428, 429, 430, 431] (by decide +kernel) (by decide +kernel)) (goodIn_sub (fun _ h => List.mem_cons_of_mem _ (List.mem_append_left _ (List.mem_append_right _ h))) (by decide +kernel))
set_option maxRecDepth 20000 in
theorem gX8_code_X8_needProcedure : GoodIn wsX8_code (wsV RX8 87 RX8 yX8_needProcedure wsX8_needProcedure) := goodIn_app (goodIn_of _ (by decide +kernel)) ggX8_code_X8_needProcedure
set_option maxRecDepth 20000 in
theorem ggX8_code_X8_refresh : GoodIn wsX8_code wsX8_refresh := goodIn_r _ [24, 25, 26, 27, 1, 28, 29, 30, 31, 32, 33, 34, 35, 36, 37, 38, 39, 40, 41, 42, 43, 44, 45, 46, 47, 48, 49, 50, 51, 52, 53, 54, 55, 56, 57, 58, 59, 60, 61, 62, 63, 64, 65, 66, 67, 68, 69, 18, 70, 71, 72, 73, 74, 75, 76, 77, 78, 79, 80, 81, 82, 83, 84, 85, 86, 87, 88, 89, 90, 91, 92, 93, 94, 95, 96, 97, 98, 99, 100, 101, 102, 103, 104, 105, 106, 107, 108, 109, 110, 111, 112, 113, 114, 115, 116, 117, 118, 119, 120, 121, 122, 123, 124, 125, 126, 127, 128, 129, 130, 131, 132, 133, 134, 135, 136, 137, 138, 139, 140, 141, 142, 143, 144, 145, 146, 147, 148, 149, 150, 151, 152, 153, 154, 155, 156, 157, 158, 159, 160, 161, 162, 163, 164, 165, 166, 167, 168, 169, 170, 171, 172, 173, 174, 175, 176, 177, 178, 179, 180, 181, 182, 183, 184, 185, 186, 187, 188, 189, 190, 191, 192, 193, 194, 195, 196, 197, 198, 199, 200, 201, 202, 203, 204, 205, 206, 207, 208, 209, 210, 211, 212, 213, 214, 215, 216, 217, 218, 219, 220, 221, 222, 223, 224, 225, 226, 227, 228, 229, 230, 231, 232, 233, 234, 235, 236, 237, 238, 239, 240, 241, 242, 243, 244, 245, 246, 247, 248, 249, 250, 251, 252, 253, 254, 255, 256, 257, 389, 390, 391, 392, 393, 394, 395, 396, 397, 398, 399, 400, 401, 402, 432, 433, 434, 435, 436, 437, 438, 439, 440, 441, 442, 443, 444, 445, 446, 447, 448, 449, 450, 451, 452, 453, 454, 455, 456, 457, 420, 421, 422, 423, 424, 425, 426, 427, 428, 429, 430, 431, 458, 459, 460, 461, 462, 463, 464, 465, 466, 403, 404, 405, 406, 407, 408, 409, 410, 411, 412, 413, 414, 415, 416, 417, 418, 419] (by decide +kernel) (by decide +kernel)
set_option maxRecDepth 20000 in
theorem gX8_code_X8_refresh : GoodIn wsX8_code (wsV RX8 146 RX8 yX8_refresh wsX8_refresh) := goodIn_app (goodIn_of _ (by decide +kernel)) ggX8_code_X8_refresh
set_option maxRecDepth 20000 in
theorem ggX8_code_X8_codeLength : GoodIn wsX8_code wsX8_codeLength := goodIn_r _ [261, 27, 262, 1, 263, 264, 265, 266, 267, 255, 268, 257, 269, 270, 271, 272, 273, 274, 275, 276, 277, 278, 279, 280, 248, 249, 63, 250, 65, 66, 251, 281, 282, 283, 284, 285, 243, 244, 245, 246, 227, 286, 238, 239, 240, 241, 228, 287, 288, 289, 290, 291, 292, 293, 294, 295, 296, 297, 298, 299, 300, 301, 302, 303, 304, 305, 306, 307, 308, 309, 310, 311, 312, 313, 314, 315, 316, 317, 318, 319, 320, 321, 322, 323, 324, 325, 326, 327, 328, 329, 330, 331, 332, 333, 334, 335, 336, 337, 338, 339, 340, 341, 342, 343, 344, 345, 346, 347, 348, 349, 350, 351, 352, 353, 354, 32, 355, 34, 46, 39, 37, 356, 357, 358, 359, 360, 361, 362, 363, 364, 365, 366, 367, 368, 369, 370, 371, 372, 373, 374, 375, 376, 377, 378, 379, 380, 389, 390, 391, 392, 393, 394, 395, 396, 397, 398, 399, 400, 401, 402, 458, 459, 460, 461, 462, 463, 464, 465, 466, 403, 404, 405, 406, 407, 408, 409, 410, 411, 412, 413, 414, 415, 416, 417, 418, 419, 451, 452, 453, 454, 455, 456, 457, 432, 433, 434, 435, 436, 437, 438, 439, 440, 441, 442, 443, 444, 445, 446, 447, 448, 449, 450, 420, 421, 422, 423, 424, 425, 426, 427, 428, 429, 430, 431] (by decide +kernel) (by decide +kernel)
set_option maxRecDepth 20000 in
theorem gX8_code_X8_codeLength : GoodIn wsX8_code (wsV RX8 171 RX8 yX8_codeLength wsX8_codeLength) := goodIn_app (goodIn_of _ (by decide +kernel)) ggX8_code_X8_codeLength
set_option maxRecDepth 20000 in
theorem ggX8_code_X8_needPlace : GoodIn wsX8_code wsX8_needPlace := goodIn_ca (goodIn_r _ [383, 12, 13] (by decide +kernel) (by decide +kernel)) (goodIn_sub (fun _ h => List.mem_cons_of_mem _ (List.mem_append_left _ (List.mem_append_right _ h))) (by decide +kernel))
set_option maxRecDepth 20000 in
theorem gX8_code_X8_needPlace : GoodIn wsX8_code (va_wsS RX8 220 yX8_needPlace wsX8_needPlace) := goodIn_app (goodIn_of _ (by decide +kernel)) ggX8_code_X8_needPlace
set_option maxRecDepth 20000 in
theorem ggX8_code_X8_needArgument : GoodIn wsX8_code wsX8_needArgument := goodIn_ca (goodIn_r _ [386, 387, 388] (by decide +kernel) (by decide +kernel)) (goodIn_sub (fun _ h => List.mem_cons_of_mem _ (List.mem_append_right _ h)) (by decide +kernel))
set_option maxRecDepth 20000 in
theorem gX8_code_X8_needArgument : GoodIn wsX8_code (va_wsS RX8 95 yX8_needArgument wsX8_needArgument) := goodIn_app (goodIn_of _ (by decide +kernel)) ggX8_code_X8_needArgument
theorem dX8_code_0 : decode cX8_code 0 = .ok (.aload_n 0, 1) := by decide +kernel
theorem dX8_code_1 : decode cX8_code 1 = .ok (.iload_n 1, 1) := by decide +kernel
theorem dX8_code_2 : decode cX8_code 2 = .ok (.invokevirtual 87, 3) := by decide +kernel
theorem dX8_code_5 : decode cX8_code 5 = .ok (.aload_n 0, 1) := by decide +kernel
theorem dX8_code_6 : decode cX8_code 6 = .ok (.invokevirtual 146, 3) := by decide +kernel
theorem dX8_code_9 : decode cX8_code 9 = .ok (.iload_n 2, 1) := by decide +kernel
theorem dX8_code_10 : decode cX8_code 10 = .ok (.ifCond .lt 16, 3) := by decide +kernel
theorem dX8_code_13 : decode cX8_code 13 = .ok (.iload_n 2, 1) := by decide +kernel
theorem dX8_code_14 : decode cX8_code 14 = .ok (.aload_n 0, 1) := by decide +kernel
theorem dX8_code_15 : decode cX8_code 15 = .ok (.iload_n 1, 1) := by decide +kernel
theorem dX8_code_16 : decode cX8_code 16 = .ok (.invokevirtual 171, 3) := by decide +kernel
theorem dX8_code_19 : decode cX8_code 19 = .ok (.if_icmp .ge 7, 3) := by decide +kernel
theorem dX8_code_22 : decode cX8_code 22 = .ok (.iconst 1, 1) := by decide +kernel
theorem dX8_code_23 : decode cX8_code 23 = .ok (.goto 4, 3) := by decide +kernel
theorem dX8_code_26 : decode cX8_code 26 = .ok (.iconst 0, 1) := by decide +kernel
theorem dX8_code_27 : decode cX8_code 27 = .ok (.invokestatic 220, 3) := by decide +kernel
theorem dX8_code_30 : decode cX8_code 30 = .ok (.iload_n 3, 1) := by decide +kernel
theorem dX8_code_31 : decode cX8_code 31 = .ok (.ifCond .lt 12, 3) := by decide +kernel
theorem dX8_code_34 : decode cX8_code 34 = .ok (.iload_n 3, 1) := by decide +kernel
theorem dX8_code_35 : decode cX8_code 35 = .ok (.iconst 3, 1) := by decide +kernel
theorem dX8_code_36 : decode cX8_code 36 = .ok (.if_icmp .gt 7, 3) := by decide +kernel
theorem dX8_code_39 : decode cX8_code 39 = .ok (.iconst 1, 1) := by decide +kernel
theorem dX8_code_40 : decode cX8_code 40 = .ok (.goto 4, 3) := by decide +kernel
theorem dX8_code_43 : decode cX8_code 43 = .ok (.iconst 0, 1) := by decide +kernel
theorem dX8_code_44 : decode cX8_code 44 = .ok (.invokestatic 95, 3) := by decide +kernel
theorem dX8_code_47 : decode cX8_code 47 = .ok (.aload_n 0, 1) := by decide +kernel
theorem dX8_code_48 : decode cX8_code 48 = .ok (.getfield 44, 3) := by decide +kernel
theorem dX8_code_51 : decode cX8_code 51 = .ok (.getfield 235, 3) := by decide +kernel
theorem dX8_code_54 : decode cX8_code 54 = .ok (.iload_n 1, 1) := by decide +kernel
theorem dX8_code_55 : decode cX8_code 55 = .ok (.iaload, 1) := by decide +kernel
theorem dX8_code_56 : decode cX8_code 56 = .ok (.iload_n 2, 1) := by decide +kernel
theorem dX8_code_57 : decode cX8_code 57 = .ok (.iadd, 1) := by decide +kernel
theorem dX8_code_58 : decode cX8_code 58 = .ok (.istore 4, 2) := by decide +kernel
theorem dX8_code_60 : decode cX8_code 60 = .ok (.iload_n 3, 1) := by decide +kernel
theorem dX8_code_61 : decode cX8_code 61 = .ok (.tableswitch 60 0 2 #[27, 38, 49], 27) := by decide +kernel
theorem dX8_code_88 : decode cX8_code 88 = .ok (.aload_n 0, 1) := by decide +kernel
theorem dX8_code_89 : decode cX8_code 89 = .ok (.getfield 44, 3) := by decide +kernel
theorem dX8_code_92 : decode cX8_code 92 = .ok (.getfield 238, 3) := by decide +kernel
theorem dX8_code_95 : decode cX8_code 95 = .ok (.iload 4, 2) := by decide +kernel
theorem dX8_code_97 : decode cX8_code 97 = .ok (.iaload, 1) := by decide +kernel
theorem dX8_code_98 : decode cX8_code 98 = .ok (.ireturn, 1) := by decide +kernel
theorem dX8_code_99 : decode cX8_code 99 = .ok (.aload_n 0, 1) := by decide +kernel
theorem dX8_code_100 : decode cX8_code 100 = .ok (.getfield 44, 3) := by decide +kernel
theorem dX8_code_103 : decode cX8_code 103 = .ok (.getfield 241, 3) := by decide +kernel
theorem dX8_code_106 : decode cX8_code 106 = .ok (.iload 4, 2) := by decide +kernel
theorem dX8_code_108 : decode cX8_code 108 = .ok (.iaload, 1) := by decide +kernel
theorem dX8_code_109 : decode cX8_code 109 = .ok (.ireturn, 1) := by decide +kernel
theorem dX8_code_110 : decode cX8_code 110 = .ok (.aload_n 0, 1) := by decide +kernel
theorem dX8_code_111 : decode cX8_code 111 = .ok (.getfield 44, 3) := by decide +kernel
theorem dX8_code_114 : decode cX8_code 114 = .ok (.getfield 244, 3) := by decide +kernel
theorem dX8_code_117 : decode cX8_code 117 = .ok (.iload 4, 2) := by decide +kernel
theorem dX8_code_119 : decode cX8_code 119 = .ok (.iaload, 1) := by decide +kernel
theorem dX8_code_120 : decode cX8_code 120 = .ok (.ireturn, 1) := by decide +kernel
theorem dX8_code_121 : decode cX8_code 121 = .ok (.aload_n 0, 1) := by decide +kernel
theorem dX8_code_122 : decode cX8_code 122 = .ok (.getfield 44, 3) := by decide +kernel
theorem dX8_code_125 : decode cX8_code 125 = .ok (.getfield 247, 3) := by decide +kernel
theorem dX8_code_128 : decode cX8_code 128 = .ok (.iload 4, 2) := by decide +kernel
theorem dX8_code_130 : decode cX8_code 130 = .ok (.iaload, 1) := by decide +kernel
theorem dX8_code_131 : decode cX8_code 131 = .ok (.ireturn, 1) := by decide +kernel
set_option maxRecDepth 20000 in
theorem ggX8_limits_X8_areLimits : GoodIn wsX8_limits wsX8_areLimits := goodIn_r _ [6] (by decide +kernel) (by decide +kernel)
set_option maxRecDepth 20000 in
theorem gX8_limits_X8_areLimits : GoodIn wsX8_limits (va_wsS RX8 250 yX8_areLimits wsX8_areLimits) := goodIn_app (goodIn_of _ (by decide +kernel)) ggX8_limits_X8_areLimits
set_option maxRecDepth 20000 in
theorem ggX8_limits_X8_needArgument : GoodIn wsX8_limits wsX8_needArgument := goodIn_ca (goodIn_r _ [9, 10, 11] (by decide +kernel) (by decide +kernel)) (goodIn_sub (fun _ h => List.mem_cons_of_mem _ (List.mem_append_right _ h)) (by decide +kernel))
set_option maxRecDepth 20000 in
theorem gX8_limits_X8_needArgument : GoodIn wsX8_limits (va_wsS RX8 95 yX8_needArgument wsX8_needArgument) := goodIn_app (goodIn_of _ (by decide +kernel)) ggX8_limits_X8_needArgument
theorem dX8_limits_0 : decode cX8_limits 0 = .ok (.iload_n 1, 1) := by decide +kernel
theorem dX8_limits_1 : decode cX8_limits 1 = .ok (.iload_n 2, 1) := by decide +kernel
theorem dX8_limits_2 : decode cX8_limits 2 = .ok (.invokestatic 250, 3) := by decide +kernel
theorem dX8_limits_5 : decode cX8_limits 5 = .ok (.invokestatic 95, 3) := by decide +kernel
theorem dX8_limits_8 : decode cX8_limits 8 = .ok (.aload_n 0, 1) := by decide +kernel
theorem dX8_limits_9 : decode cX8_limits 9 = .ok (.getfield 78, 3) := by decide +kernel
theorem dX8_limits_12 : decode cX8_limits 12 = .ok (.istore_n 3, 1) := by decide +kernel
theorem dX8_limits_13 : decode cX8_limits 13 = .ok (.aload_n 0, 1) := by decide +kernel
theorem dX8_limits_14 : decode cX8_limits 14 = .ok (.iload_n 1, 1) := by decide +kernel
theorem dX8_limits_15 : decode cX8_limits 15 = .ok (.putfield 78, 3) := by decide +kernel
theorem dX8_limits_18 : decode cX8_limits 18 = .ok (.aload_n 0, 1) := by decide +kernel
theorem dX8_limits_19 : decode cX8_limits 19 = .ok (.iload_n 2, 1) := by decide +kernel
theorem dX8_limits_20 : decode cX8_limits 20 = .ok (.putfield 81, 3) := by decide +kernel
theorem dX8_limits_23 : decode cX8_limits 23 = .ok (.iload_n 3, 1) := by decide +kernel
theorem dX8_limits_24 : decode cX8_limits 24 = .ok (.ireturn, 1) := by decide +kernel
set_option maxRecDepth 20000 in
theorem ggX8_run_X8_refresh : GoodIn wsX8_run wsX8_refresh := goodIn_r _ [14, 15, 16, 1, 17, 18, 19, 20, 21, 22, 23, 24, 25, 26, 27, 28, 29, 30, 31, 32, 33, 34, 35, 36, 37, 38, 39, 40, 41, 42, 43, 44, 45, 46, 47, 48, 49, 50, 51, 52, 53, 54, 55, 56, 57, 58, 59, 60, 61, 62, 63, 64, 65, 66, 67, 68, 69, 70, 71, 72, 73, 74, 75, 76, 77, 78, 79, 80, 81, 82, 83, 84, 85, 86, 87, 88, 89, 90, 91, 92, 93, 94, 95, 96, 97, 98, 99, 100, 101, 102, 103, 104, 105, 106, 107, 108, 109, 110, 111, 112, 113, 114, 115, 116, 117, 118, 119, 120, 121, 122, 123, 124, 125, 126, 127, 128, 129, 130, 131, 132, 133, 134, 135, 136, 137, 138, 139, 140, 141, 142, 143, 144, 145, 146, 147, 148, 149, 150, 151, 152, 153, 154, 155, 156, 157, 158, 159, 160, 161, 162, 163, 164, 165, 166, 167, 168, 169, 170, 171, 172, 173, 174, 175, 176, 177, 178, 179, 180, 181, 182, 183, 184, 185, 186, 187, 188, 189, 190, 191, 192, 193, 194, 195, 196, 197, 198, 199, 200, 201, 202, 203, 204, 205, 206, 207, 208, 209, 210, 211, 212, 213, 214, 215, 216, 217, 218, 219, 220, 221, 222, 223, 224, 225, 226, 227, 228, 229, 230, 231, 232, 233, 234, 235, 236, 237, 238, 239, 240, 241, 242, 243, 244, 245, 246, 247, 248, 606, 607, 608, 609, 610, 611, 612, 613, 614, 615, 616, 617, 618, 619, 643, 644, 645, 646, 647, 648, 649, 650, 651, 652, 653, 654, 655, 656, 657, 658, 659, 660, 661, 662, 663, 664, 665, 666, 667, 668, 669, 670, 671, 672, 673, 674, 675, 676, 677, 678, 679, 680, 620, 621, 622, 623, 624, 625, 626, 627, 628, 681, 682, 683, 684, 685, 686, 687, 688, 689, 690, 691, 692, 693, 694, 695, 696, 697] (by decide +kernel) (by decide +kernel)
set_option maxRecDepth 20000 in
theorem gX8_run_X8_refresh : GoodIn wsX8_run (wsV RX8 146 RX8 yX8_refresh wsX8_refresh) := goodIn_app (goodIn_of _ (by decide +kernel)) ggX8_run_X8_refresh
set_option maxRecDepth 20000 in
theorem ggX8_run_X8_needState : GoodIn wsX8_run wsX8_needState := goodIn_ca (goodIn_r _ [251, 252, 253] (by decide +kernel) (by decide +kernel)) (goodIn_sub (fun _ h => List.mem_cons_of_mem _ (List.mem_append_right _ h)) (by decide +kernel))
set_option maxRecDepth 20000 in
theorem gX8_run_X8_needState : GoodIn wsX8_run (va_wsS RX8 106 yX8_needState wsX8_needState) := goodIn_app (goodIn_of _ (by decide +kernel)) ggX8_run_X8_needState
set_option maxRecDepth 20000 in
theorem ggX8_run_X3_execute : GoodIn wsX8_run wsX3_execute := goodIn_r _ [258, 259, 260, 261, 262, 263, 264, 265, 266, 267, 268, 269, 270, 271, 246, 272, 248, 273, 274, 275, 276, 277, 278, 279, 280, 281, 282, 283, 284, 239, 240, 53, 241, 55, 56, 242, 285, 286, 287, 288, 289, 234, 235, 236, 237, 218, 290, 229, 230, 231, 232, 219, 291, 292, 293, 294, 295, 296, 297, 298, 299, 300, 301, 302, 303, 304, 305, 306, 307, 308, 309, 310, 311, 312, 313, 314, 315, 316, 317, 318, 319, 320, 321, 322, 323, 324, 325, 326, 327, 328, 329, 330, 331, 332, 333, 334, 335, 336, 337, 338, 339, 340, 341, 342, 343, 344, 345, 346, 347, 348, 349, 350, 351, 352, 353, 354, 355, 356, 357, 358, 22, 359, 24, 36, 29, 27, 360, 361, 362, 363, 364, 365, 366, 367, 368, 369, 370, 371, 372, 373, 374, 375, 376, 377, 378, 379, 380, 381, 382, 383, 384, 385, 386, 387, 257, 388, 389, 390, 391, 392, 393, 394, 395, 396, 397, 398, 399, 400, 401, 402, 403, 404, 405, 406, 407, 408, 409, 410, 411, 412, 413, 414, 415, 416, 417, 418, 419, 420, 421, 422, 423, 424, 425, 426, 427, 428, 429, 430, 102, 431, 432, 433, 434, 435, 436, 437, 438, 439, 440, 441, 442, 443, 444, 445, 446, 447, 448, 449, 450, 451, 452, 453, 454, 455, 456, 457, 458, 459, 460, 461, 462, 463, 464, 465, 466, 467, 468, 469, 470, 471, 472, 473, 474, 475, 156, 157, 158, 159, 160, 161, 476, 477, 478, 479, 480, 481, 482, 483, 484, 485, 486, 487, 488, 489, 490, 491, 492, 493, 494, 495, 496, 497, 498, 499, 500, 501, 502, 503, 504, 505, 506, 507, 508, 509, 510, 511, 512, 513, 514, 515, 516, 517, 518, 519, 520, 521, 522, 523, 524, 525, 526, 527, 528, 529, 530, 531, 532, 533, 534, 535, 536, 537, 538, 539, 540, 541, 542, 543, 544, 545, 546, 547, 60, 548, 549, 550, 215, 216, 217, 551, 552, 553, 554, 555, 556, 557, 558, 559, 560, 561, 562, 563, 564, 565, 566, 567, 568, 569, 570, 571, 572, 573, 574, 575, 576, 577, 578, 579, 580, 581, 582, 583, 584, 585, 586, 587, 588, 589, 590, 591, 592, 593, 594, 595, 596, 597, 598, 599, 600, 601, 602, 603, 604, 605, 92, 93, 698, 699, 700, 701, 702, 703, 704, 705, 706, 707, 708, 709, 710, 711, 712, 713, 714, 681, 682, 683, 684, 685, 686, 687, 688, 689, 690, 691, 692, 693, 694, 695, 696, 697, 662, 663, 664, 665, 666, 667, 668, 643, 644, 645, 646, 647, 648, 649, 650, 651, 652, 653, 654, 655, 656, 657, 658, 659, 660, 661, 669, 670, 671, 672, 673, 674, 675, 676, 677, 678, 679, 680, 715, 716, 717, 629, 630, 631, 632, 633, 634, 635, 636, 637, 638, 639, 640, 641, 642] (by decide +kernel) (by decide +kernel)
set_option maxRecDepth 20000 in
theorem gX8_run_X3_execute : GoodIn wsX8_run (wsV RX8 253 RX3 yX3_execute wsX3_execute) := goodIn_app (goodIn_of _ (by decide +kernel)) ggX8_run_X3_execute
theorem dX8_run_0 : decode cX8_run 0 = .ok (.aload_n 0, 1) := by decide +kernel
theorem dX8_run_1 : decode cX8_run 1 = .ok (.invokevirtual 146, 3) := by decide +kernel
theorem dX8_run_4 : decode cX8_run 4 = .ok (.aload_n 0, 1) := by decide +kernel
theorem dX8_run_5 : decode cX8_run 5 = .ok (.getfield 37, 3) := by decide +kernel
theorem dX8_run_8 : decode cX8_run 8 = .ok (.getfield 219, 3) := by decide +kernel
theorem dX8_run_11 : decode cX8_run 11 = .ok (.ifCond .ne 7, 3) := by decide +kernel
theorem dX8_run_14 : decode cX8_run 14 = .ok (.iconst 1, 1) := by decide +kernel
theorem dX8_run_15 : decode cX8_run 15 = .ok (.goto 4, 3) := by decide +kernel
theorem dX8_run_18 : decode cX8_run 18 = .ok (.iconst 0, 1) := by decide +kernel
theorem dX8_run_19 : decode cX8_run 19 = .ok (.invokestatic 106, 3) := by decide +kernel
theorem dX8_run_22 : decode cX8_run 22 = .ok (.aload_n 0, 1) := by decide +kernel
theorem dX8_run_23 : decode cX8_run 23 = .ok (.getfield 56, 3) := by decide +kernel
theorem dX8_run_26 : decode cX8_run 26 = .ok (.aload_n 0, 1) := by decide +kernel
theorem dX8_run_27 : decode cX8_run 27 = .ok (.getfield 74, 3) := by decide +kernel
theorem dX8_run_30 : decode cX8_run 30 = .ok (.aload_n 0, 1) := by decide +kernel
theorem dX8_run_31 : decode cX8_run 31 = .ok (.getfield 78, 3) := by decide +kernel
theorem dX8_run_34 : decode cX8_run 34 = .ok (.aload_n 0, 1) := by decide +kernel
theorem dX8_run_35 : decode cX8_run 35 = .ok (.getfield 81, 3) := by decide +kernel
theorem dX8_run_38 : decode cX8_run 38 = .ok (.aload_n 0, 1) := by decide +kernel
theorem dX8_run_39 : decode cX8_run 39 = .ok (.getfield 63, 3) := by decide +kernel
theorem dX8_run_42 : decode cX8_run 42 = .ok (.invokevirtual 253, 3) := by decide +kernel
theorem dX8_run_45 : decode cX8_run 45 = .ok (.aload_n 0, 1) := by decide +kernel
theorem dX8_run_46 : decode cX8_run 46 = .ok (.dup, 1) := by decide +kernel
theorem dX8_run_47 : decode cX8_run 47 = .ok (.getfield 84, 3) := by decide +kernel
theorem dX8_run_50 : decode cX8_run 50 = .ok (.iconst 1, 1) := by decide +kernel
theorem dX8_run_51 : decode cX8_run 51 = .ok (.iadd, 1) := by decide +kernel
theorem dX8_run_52 : decode cX8_run 52 = .ok (.putfield 84, 3) := by decide +kernel
theorem dX8_run_55 : decode cX8_run 55 = .ok (.aload_n 0, 1) := by decide +kernel
theorem dX8_run_56 : decode cX8_run 56 = .ok (.getfield 63, 3) := by decide +kernel
theorem dX8_run_59 : decode cX8_run 59 = .ok (.getfield 257, 3) := by decide +kernel
theorem dX8_run_62 : decode cX8_run 62 = .ok (.ireturn, 1) := by decide +kernel
set_option maxRecDepth 20000 in
theorem ggX8_ofRun_X8_needArgument : GoodIn wsX8_ofRun wsX8_needArgument := goodIn_ca (goodIn_r _ [6, 7, 8] (by decide +kernel) (by decide +kernel)) (goodIn_sub (fun _ h => List.mem_cons_of_mem _ (List.mem_append_right _ h)) (by decide +kernel))
set_option maxRecDepth 20000 in
theorem gX8_ofRun_X8_needArgument : GoodIn wsX8_ofRun (va_wsS RX8 95 yX8_needArgument wsX8_needArgument) := goodIn_app (goodIn_of _ (by decide +kernel)) ggX8_ofRun_X8_needArgument
set_option maxRecDepth 20000 in
theorem ggX8_ofRun_X6_answer : GoodIn wsX8_ofRun wsX6_answer := goodIn_r _ [13, 14, 15, 16, 17, 18, 19, 20, 21, 22, 23, 38, 39, 40, 41, 42, 43, 44, 45, 46, 47, 48, 49, 50, 51] (by decide +kernel) (by decide +kernel)
set_option maxRecDepth 20000 in
theorem gX8_ofRun_X6_answer : GoodIn wsX8_ofRun (wsV RX8 260 RX6 yX6_answer wsX6_answer) := goodIn_app (goodIn_of _ (by decide +kernel)) ggX8_ofRun_X6_answer
theorem dX8_ofRun_0 : decode cX8_ofRun 0 = .ok (.iload_n 1, 1) := by decide +kernel
theorem dX8_ofRun_1 : decode cX8_ofRun 1 = .ok (.ifCond .lt 13, 3) := by decide +kernel
theorem dX8_ofRun_4 : decode cX8_ofRun 4 = .ok (.iload_n 1, 1) := by decide +kernel
theorem dX8_ofRun_5 : decode cX8_ofRun 5 = .ok (.bipush 10, 2) := by decide +kernel
theorem dX8_ofRun_7 : decode cX8_ofRun 7 = .ok (.if_icmp .gt 7, 3) := by decide +kernel
theorem dX8_ofRun_10 : decode cX8_ofRun 10 = .ok (.iconst 1, 1) := by decide +kernel
theorem dX8_ofRun_11 : decode cX8_ofRun 11 = .ok (.goto 4, 3) := by decide +kernel
theorem dX8_ofRun_14 : decode cX8_ofRun 14 = .ok (.iconst 0, 1) := by decide +kernel
theorem dX8_ofRun_15 : decode cX8_ofRun 15 = .ok (.invokestatic 95, 3) := by decide +kernel
theorem dX8_ofRun_18 : decode cX8_ofRun 18 = .ok (.iload_n 1, 1) := by decide +kernel
theorem dX8_ofRun_19 : decode cX8_ofRun 19 = .ok (.bipush 10, 2) := by decide +kernel
theorem dX8_ofRun_21 : decode cX8_ofRun 21 = .ok (.if_icmp .ne 10, 3) := by decide +kernel
theorem dX8_ofRun_24 : decode cX8_ofRun 24 = .ok (.aload_n 0, 1) := by decide +kernel
theorem dX8_ofRun_25 : decode cX8_ofRun 25 = .ok (.getfield 84, 3) := by decide +kernel
theorem dX8_ofRun_28 : decode cX8_ofRun 28 = .ok (.goto 11, 3) := by decide +kernel
theorem dX8_ofRun_31 : decode cX8_ofRun 31 = .ok (.aload_n 0, 1) := by decide +kernel
theorem dX8_ofRun_32 : decode cX8_ofRun 32 = .ok (.getfield 63, 3) := by decide +kernel
theorem dX8_ofRun_35 : decode cX8_ofRun 35 = .ok (.iload_n 1, 1) := by decide +kernel
theorem dX8_ofRun_36 : decode cX8_ofRun 36 = .ok (.invokevirtual 260, 3) := by decide +kernel
theorem dX8_ofRun_39 : decode cX8_ofRun 39 = .ok (.ireturn, 1) := by decide +kernel
set_option maxRecDepth 20000 in
theorem ggX8_printed_X6_kept : GoodIn wsX8_printed wsX6_kept := goodIn_r _ [9, 10, 36, 37, 38, 39, 40, 41, 42, 43, 44, 45, 46, 47, 48, 49] (by decide +kernel) (by decide +kernel)
set_option maxRecDepth 20000 in
theorem gX8_printed_X6_kept : GoodIn wsX8_printed (wsV RX8 263 RX6 yX6_kept wsX6_kept) := goodIn_app (goodIn_of _ (by decide +kernel)) ggX8_printed_X6_kept
set_option maxRecDepth 20000 in
theorem ggX8_printed_X8_needPlace : GoodIn wsX8_printed wsX8_needPlace := goodIn_ca (goodIn_r _ [14, 15, 16] (by decide +kernel) (by decide +kernel)) (goodIn_sub (fun _ h => List.mem_cons_of_mem _ (List.mem_append_left _ (List.mem_append_right _ h))) (by decide +kernel))
set_option maxRecDepth 20000 in
theorem gX8_printed_X8_needPlace : GoodIn wsX8_printed (va_wsS RX8 220 yX8_needPlace wsX8_needPlace) := goodIn_app (goodIn_of _ (by decide +kernel)) ggX8_printed_X8_needPlace
set_option maxRecDepth 20000 in
theorem ggX8_printed_X8_needArgument : GoodIn wsX8_printed wsX8_needArgument := goodIn_ca (goodIn_r _ [19, 20, 21] (by decide +kernel) (by decide +kernel)) (goodIn_sub (fun _ h => List.mem_cons_of_mem _ (List.mem_append_right _ h)) (by decide +kernel))
set_option maxRecDepth 20000 in
theorem gX8_printed_X8_needArgument : GoodIn wsX8_printed (va_wsS RX8 95 yX8_needArgument wsX8_needArgument) := goodIn_app (goodIn_of _ (by decide +kernel)) ggX8_printed_X8_needArgument
theorem dX8_printed_0 : decode cX8_printed 0 = .ok (.iload_n 1, 1) := by decide +kernel
theorem dX8_printed_1 : decode cX8_printed 1 = .ok (.ifCond .lt 18, 3) := by decide +kernel
theorem dX8_printed_4 : decode cX8_printed 4 = .ok (.iload_n 1, 1) := by decide +kernel
theorem dX8_printed_5 : decode cX8_printed 5 = .ok (.aload_n 0, 1) := by decide +kernel
theorem dX8_printed_6 : decode cX8_printed 6 = .ok (.getfield 63, 3) := by decide +kernel
theorem dX8_printed_9 : decode cX8_printed 9 = .ok (.invokevirtual 263, 3) := by decide +kernel
theorem dX8_printed_12 : decode cX8_printed 12 = .ok (.if_icmp .ge 7, 3) := by decide +kernel
theorem dX8_printed_15 : decode cX8_printed 15 = .ok (.iconst 1, 1) := by decide +kernel
theorem dX8_printed_16 : decode cX8_printed 16 = .ok (.goto 4, 3) := by decide +kernel
theorem dX8_printed_19 : decode cX8_printed 19 = .ok (.iconst 0, 1) := by decide +kernel
theorem dX8_printed_20 : decode cX8_printed 20 = .ok (.invokestatic 220, 3) := by decide +kernel
theorem dX8_printed_23 : decode cX8_printed 23 = .ok (.iload_n 2, 1) := by decide +kernel
theorem dX8_printed_24 : decode cX8_printed 24 = .ok (.ifCond .lt 12, 3) := by decide +kernel
theorem dX8_printed_27 : decode cX8_printed 27 = .ok (.iload_n 2, 1) := by decide +kernel
theorem dX8_printed_28 : decode cX8_printed 28 = .ok (.iconst 2, 1) := by decide +kernel
theorem dX8_printed_29 : decode cX8_printed 29 = .ok (.if_icmp .gt 7, 3) := by decide +kernel
theorem dX8_printed_32 : decode cX8_printed 32 = .ok (.iconst 1, 1) := by decide +kernel
theorem dX8_printed_33 : decode cX8_printed 33 = .ok (.goto 4, 3) := by decide +kernel
theorem dX8_printed_36 : decode cX8_printed 36 = .ok (.iconst 0, 1) := by decide +kernel
theorem dX8_printed_37 : decode cX8_printed 37 = .ok (.invokestatic 95, 3) := by decide +kernel
theorem dX8_printed_40 : decode cX8_printed 40 = .ok (.iload_n 2, 1) := by decide +kernel
theorem dX8_printed_41 : decode cX8_printed 41 = .ok (.lookupswitch 47 #[(0, 27), (1, 37)], 27) := by decide +kernel
theorem dX8_printed_68 : decode cX8_printed 68 = .ok (.aload_n 0, 1) := by decide +kernel
theorem dX8_printed_69 : decode cX8_printed 69 = .ok (.getfield 63, 3) := by decide +kernel
theorem dX8_printed_72 : decode cX8_printed 72 = .ok (.getfield 267, 3) := by decide +kernel
theorem dX8_printed_75 : decode cX8_printed 75 = .ok (.iload_n 1, 1) := by decide +kernel
theorem dX8_printed_76 : decode cX8_printed 76 = .ok (.iaload, 1) := by decide +kernel
theorem dX8_printed_77 : decode cX8_printed 77 = .ok (.ireturn, 1) := by decide +kernel
theorem dX8_printed_78 : decode cX8_printed 78 = .ok (.aload_n 0, 1) := by decide +kernel
theorem dX8_printed_79 : decode cX8_printed 79 = .ok (.getfield 63, 3) := by decide +kernel
theorem dX8_printed_82 : decode cX8_printed 82 = .ok (.getfield 270, 3) := by decide +kernel
theorem dX8_printed_85 : decode cX8_printed 85 = .ok (.iload_n 1, 1) := by decide +kernel
theorem dX8_printed_86 : decode cX8_printed 86 = .ok (.iaload, 1) := by decide +kernel
theorem dX8_printed_87 : decode cX8_printed 87 = .ok (.ireturn, 1) := by decide +kernel
theorem dX8_printed_88 : decode cX8_printed 88 = .ok (.aload_n 0, 1) := by decide +kernel
theorem dX8_printed_89 : decode cX8_printed 89 = .ok (.getfield 63, 3) := by decide +kernel
theorem dX8_printed_92 : decode cX8_printed 92 = .ok (.getfield 273, 3) := by decide +kernel
theorem dX8_printed_95 : decode cX8_printed 95 = .ok (.iload_n 1, 1) := by decide +kernel
theorem dX8_printed_96 : decode cX8_printed 96 = .ok (.iaload, 1) := by decide +kernel
theorem dX8_printed_97 : decode cX8_printed 97 = .ok (.ireturn, 1) := by decide +kernel
theorem dX8_meanPrinted_0 : decode cX8_meanPrinted 0 = .ok (.aload_n 0, 1) := by decide +kernel
theorem dX8_meanPrinted_1 : decode cX8_meanPrinted 1 = .ok (.getfield 63, 3) := by decide +kernel
theorem dX8_meanPrinted_4 : decode cX8_meanPrinted 4 = .ok (.getfield 276, 3) := by decide +kernel
theorem dX8_meanPrinted_7 : decode cX8_meanPrinted 7 = .ok (.ifCond .ne 5, 3) := by decide +kernel
theorem dX8_meanPrinted_10 : decode cX8_meanPrinted 10 = .ok (.dconst 0, 1) := by decide +kernel
theorem dX8_meanPrinted_11 : decode cX8_meanPrinted 11 = .ok (.dreturn, 1) := by decide +kernel
theorem dX8_meanPrinted_12 : decode cX8_meanPrinted 12 = .ok (.aload_n 0, 1) := by decide +kernel
theorem dX8_meanPrinted_13 : decode cX8_meanPrinted 13 = .ok (.getfield 63, 3) := by decide +kernel
theorem dX8_meanPrinted_16 : decode cX8_meanPrinted 16 = .ok (.getfield 279, 3) := by decide +kernel
theorem dX8_meanPrinted_19 : decode cX8_meanPrinted 19 = .ok (.l2d, 1) := by decide +kernel
theorem dX8_meanPrinted_20 : decode cX8_meanPrinted 20 = .ok (.aload_n 0, 1) := by decide +kernel
theorem dX8_meanPrinted_21 : decode cX8_meanPrinted 21 = .ok (.getfield 63, 3) := by decide +kernel
theorem dX8_meanPrinted_24 : decode cX8_meanPrinted 24 = .ok (.getfield 276, 3) := by decide +kernel
theorem dX8_meanPrinted_27 : decode cX8_meanPrinted 27 = .ok (.i2d, 1) := by decide +kernel
theorem dX8_meanPrinted_28 : decode cX8_meanPrinted 28 = .ok (.ddiv, 1) := by decide +kernel
theorem dX8_meanPrinted_29 : decode cX8_meanPrinted 29 = .ok (.dreturn, 1) := by decide +kernel
set_option maxRecDepth 20000 in
theorem ggX8_many_X8_needArgument : GoodIn wsX8_many wsX8_needArgument := goodIn_ca (goodIn_r _ [18, 19, 20] (by decide +kernel) (by decide +kernel)) (goodIn_sub (fun _ h => List.mem_cons_of_mem _ (List.mem_append_right _ h)) (by decide +kernel))
set_option maxRecDepth 20000 in
theorem gX8_many_X8_needArgument : GoodIn wsX8_many (va_wsS RX8 95 yX8_needArgument wsX8_needArgument) := goodIn_app (goodIn_of _ (by decide +kernel)) ggX8_many_X8_needArgument
set_option maxRecDepth 20000 in
theorem ggX8_many_X8_refresh : GoodIn wsX8_many wsX8_refresh := goodIn_r _ [24, 25, 5, 7, 26, 27, 28, 29, 30, 31, 32, 33, 34, 35, 36, 37, 38, 39, 40, 41, 42, 43, 44, 45, 46, 47, 48, 49, 50, 51, 52, 53, 54, 55, 56, 57, 58, 59, 60, 61, 62, 63, 64, 65, 66, 67, 68, 69, 70, 71, 72, 73, 74, 75, 76, 77, 78, 79, 80, 81, 82, 83, 84, 85, 86, 87, 88, 89, 90, 91, 92, 93, 94, 95, 96, 97, 98, 99, 100, 101, 102, 103, 104, 105, 106, 107, 108, 109, 110, 111, 112, 113, 114, 115, 116, 117, 118, 119, 120, 121, 122, 123, 124, 125, 126, 127, 128, 129, 130, 131, 132, 133, 134, 135, 136, 137, 138, 139, 140, 141, 142, 143, 144, 145, 146, 147, 148, 149, 150, 151, 152, 153, 154, 155, 156, 157, 158, 159, 160, 161, 162, 163, 164, 165, 166, 167, 168, 169, 170, 171, 172, 173, 174, 175, 176, 177, 178, 179, 180, 181, 182, 183, 184, 185, 186, 187, 188, 189, 190, 191, 192, 193, 194, 195, 196, 197, 198, 199, 200, 201, 202, 203, 204, 205, 206, 207, 208, 209, 210, 211, 212, 213, 214, 215, 216, 217, 218, 219, 220, 221, 222, 223, 224, 225, 226, 227, 228, 229, 230, 231, 232, 233, 234, 235, 236, 237, 238, 239, 240, 241, 242, 243, 244, 245, 246, 247, 248, 249, 250, 251, 252, 253, 254, 255, 256, 257, 379, 380, 381, 382, 383, 384, 385, 386, 387, 388, 389, 390, 391, 392, 412, 413, 414, 415, 416, 417, 418, 419, 420, 421, 422, 423, 424, 425, 426, 427, 428, 429, 430, 405, 406, 407, 408, 409, 410, 411, 393, 394, 395, 396, 397, 398, 399, 400, 401, 402, 403, 404, 431, 432, 433, 434, 435, 436, 437, 438, 439, 440, 441, 442, 443, 444, 445, 446, 447, 448, 449, 450, 451, 452, 453, 454, 455, 456] (by decide +kernel) (by decide +kernel)
set_option maxRecDepth 20000 in
theorem gX8_many_X8_refresh : GoodIn wsX8_many (wsV RX8 146 RX8 yX8_refresh wsX8_refresh) := goodIn_app (goodIn_of _ (by decide +kernel)) ggX8_many_X8_refresh
set_option maxRecDepth 20000 in
theorem ggX8_many_X8_wholeCodeLength : GoodIn wsX8_many wsX8_wholeCodeLength := goodIn_r _ [261, 7, 8, 26, 262, 263, 264, 265, 255, 266, 257, 267, 268, 269, 270, 271, 272, 273, 274, 275, 276, 277, 278, 248, 249, 62, 250, 64, 65, 251, 279, 280, 281, 282, 283, 243, 244, 245, 246, 227, 284, 238, 239, 240, 241, 228, 285, 286, 287, 288, 289, 290, 291, 292, 293, 294, 295, 296, 297, 298, 299, 300, 301, 302, 303, 304, 305, 306, 307, 308, 309, 310, 311, 312, 313, 314, 315, 316, 317, 318, 319, 320, 321, 322, 323, 324, 325, 326, 327, 328, 329, 330, 331, 332, 333, 334, 335, 336, 337, 338, 339, 340, 341, 342, 343, 344, 345, 346, 347, 348, 349, 350, 351, 352, 31, 353, 33, 45, 38, 36, 354, 355, 356, 357, 358, 359, 360, 361, 362, 363, 364, 365, 366, 367, 368, 369, 370, 371, 372, 373, 374, 375, 376, 377, 378, 379, 380, 381, 382, 383, 384, 385, 386, 387, 388, 389, 390, 391, 392, 431, 432, 433, 434, 435, 436, 437, 438, 439, 440, 441, 442, 443, 444, 445, 446, 447, 448, 449, 450, 451, 452, 453, 454, 455, 456, 405, 406, 407, 408, 409, 410, 411, 412, 413, 414, 415, 416, 417, 418, 419, 420, 421, 422, 423, 424, 425, 426, 427, 428, 429, 430, 393, 394, 395, 396, 397, 398, 399, 400, 401, 402, 403, 404] (by decide +kernel) (by decide +kernel)
set_option maxRecDepth 20000 in
theorem gX8_many_X8_wholeCodeLength : GoodIn wsX8_many (wsV RX8 295 RX8 yX8_wholeCodeLength wsX8_wholeCodeLength) := goodIn_app (goodIn_of _ (by decide +kernel)) ggX8_many_X8_wholeCodeLength
theorem dX8_many_0 : decode cX8_many 0 = .ok (.iload_n 1, 1) := by decide +kernel
theorem dX8_many_1 : decode cX8_many 1 = .ok (.ifCond .lt 13, 3) := by decide +kernel
theorem dX8_many_4 : decode cX8_many 4 = .ok (.iload_n 1, 1) := by decide +kernel
theorem dX8_many_5 : decode cX8_many 5 = .ok (.bipush 10, 2) := by decide +kernel
theorem dX8_many_7 : decode cX8_many 7 = .ok (.if_icmp .gt 7, 3) := by decide +kernel
theorem dX8_many_10 : decode cX8_many 10 = .ok (.iconst 1, 1) := by decide +kernel
theorem dX8_many_11 : decode cX8_many 11 = .ok (.goto 4, 3) := by decide +kernel
theorem dX8_many_14 : decode cX8_many 14 = .ok (.iconst 0, 1) := by decide +kernel
theorem dX8_many_15 : decode cX8_many 15 = .ok (.invokestatic 95, 3) := by decide +kernel
theorem dX8_many_18 : decode cX8_many 18 = .ok (.aload_n 0, 1) := by decide +kernel
theorem dX8_many_19 : decode cX8_many 19 = .ok (.invokevirtual 146, 3) := by decide +kernel
theorem dX8_many_22 : decode cX8_many 22 = .ok (.iload_n 1, 1) := by decide +kernel
theorem dX8_many_23 : decode cX8_many 23 = .ok (.tableswitch 124 0 9 #[53, 61, 69, 77, 85, 93, 101, 109, 114, 119], 53) := by decide +kernel
theorem dX8_many_76 : decode cX8_many 76 = .ok (.aload_n 0, 1) := by decide +kernel
theorem dX8_many_77 : decode cX8_many 77 = .ok (.getfield 12, 3) := by decide +kernel
theorem dX8_many_80 : decode cX8_many 80 = .ok (.getfield 99, 3) := by decide +kernel
theorem dX8_many_83 : decode cX8_many 83 = .ok (.ireturn, 1) := by decide +kernel
theorem dX8_many_84 : decode cX8_many 84 = .ok (.aload_n 0, 1) := by decide +kernel
theorem dX8_many_85 : decode cX8_many 85 = .ok (.getfield 19, 3) := by decide +kernel
theorem dX8_many_88 : decode cX8_many 88 = .ok (.getfield 179, 3) := by decide +kernel
theorem dX8_many_91 : decode cX8_many 91 = .ok (.ireturn, 1) := by decide +kernel
theorem dX8_many_92 : decode cX8_many 92 = .ok (.aload_n 0, 1) := by decide +kernel
theorem dX8_many_93 : decode cX8_many 93 = .ok (.getfield 28, 3) := by decide +kernel
theorem dX8_many_96 : decode cX8_many 96 = .ok (.getfield 283, 3) := by decide +kernel
theorem dX8_many_99 : decode cX8_many 99 = .ok (.ireturn, 1) := by decide +kernel
theorem dX8_many_100 : decode cX8_many 100 = .ok (.aload_n 0, 1) := by decide +kernel
theorem dX8_many_101 : decode cX8_many 101 = .ok (.getfield 37, 3) := by decide +kernel
theorem dX8_many_104 : decode cX8_many 104 = .ok (.getfield 219, 3) := by decide +kernel
theorem dX8_many_107 : decode cX8_many 107 = .ok (.ireturn, 1) := by decide +kernel
theorem dX8_many_108 : decode cX8_many 108 = .ok (.aload_n 0, 1) := by decide +kernel
theorem dX8_many_109 : decode cX8_many 109 = .ok (.getfield 28, 3) := by decide +kernel
theorem dX8_many_112 : decode cX8_many 112 = .ok (.getfield 286, 3) := by decide +kernel
theorem dX8_many_115 : decode cX8_many 115 = .ok (.ireturn, 1) := by decide +kernel
theorem dX8_many_116 : decode cX8_many 116 = .ok (.aload_n 0, 1) := by decide +kernel
theorem dX8_many_117 : decode cX8_many 117 = .ok (.getfield 28, 3) := by decide +kernel
theorem dX8_many_120 : decode cX8_many 120 = .ok (.getfield 289, 3) := by decide +kernel
theorem dX8_many_123 : decode cX8_many 123 = .ok (.ireturn, 1) := by decide +kernel
theorem dX8_many_124 : decode cX8_many 124 = .ok (.aload_n 0, 1) := by decide +kernel
theorem dX8_many_125 : decode cX8_many 125 = .ok (.getfield 28, 3) := by decide +kernel
theorem dX8_many_128 : decode cX8_many 128 = .ok (.getfield 292, 3) := by decide +kernel
theorem dX8_many_131 : decode cX8_many 131 = .ok (.ireturn, 1) := by decide +kernel
theorem dX8_many_132 : decode cX8_many 132 = .ok (.aload_n 0, 1) := by decide +kernel
theorem dX8_many_133 : decode cX8_many 133 = .ok (.getfield 74, 3) := by decide +kernel
theorem dX8_many_136 : decode cX8_many 136 = .ok (.ireturn, 1) := by decide +kernel
theorem dX8_many_137 : decode cX8_many 137 = .ok (.aload_n 0, 1) := by decide +kernel
theorem dX8_many_138 : decode cX8_many 138 = .ok (.getfield 78, 3) := by decide +kernel
theorem dX8_many_141 : decode cX8_many 141 = .ok (.ireturn, 1) := by decide +kernel
theorem dX8_many_142 : decode cX8_many 142 = .ok (.aload_n 0, 1) := by decide +kernel
theorem dX8_many_143 : decode cX8_many 143 = .ok (.getfield 81, 3) := by decide +kernel
theorem dX8_many_146 : decode cX8_many 146 = .ok (.ireturn, 1) := by decide +kernel
theorem dX8_many_147 : decode cX8_many 147 = .ok (.aload_n 0, 1) := by decide +kernel
theorem dX8_many_148 : decode cX8_many 148 = .ok (.aload_n 0, 1) := by decide +kernel
theorem dX8_many_149 : decode cX8_many 149 = .ok (.getfield 74, 3) := by decide +kernel
theorem dX8_many_152 : decode cX8_many 152 = .ok (.invokevirtual 295, 3) := by decide +kernel
theorem dX8_many_155 : decode cX8_many 155 = .ok (.ireturn, 1) := by decide +kernel
set_option maxRecDepth 20000 in
theorem ggX8_wouldRun_X8_areLimits : GoodIn wsX8_wouldRun wsX8_areLimits := goodIn_r _ [9] (by decide +kernel) (by decide +kernel)
set_option maxRecDepth 20000 in
theorem gX8_wouldRun_X8_areLimits : GoodIn wsX8_wouldRun (va_wsS RX8 250 yX8_areLimits wsX8_areLimits) := goodIn_app (goodIn_of _ (by decide +kernel)) ggX8_wouldRun_X8_areLimits
set_option maxRecDepth 20000 in
theorem ggX8_wouldRun_X8_needArgument : GoodIn wsX8_wouldRun wsX8_needArgument := goodIn_ca (goodIn_r _ [12, 13, 14] (by decide +kernel) (by decide +kernel)) (goodIn_sub (fun _ h => List.mem_cons_of_mem _ (List.mem_append_left _ (List.mem_append_right _ h))) (by decide +kernel))
set_option maxRecDepth 20000 in
theorem gX8_wouldRun_X8_needArgument : GoodIn wsX8_wouldRun (va_wsS RX8 95 yX8_needArgument wsX8_needArgument) := goodIn_app (goodIn_of _ (by decide +kernel)) ggX8_wouldRun_X8_needArgument
set_option maxRecDepth 20000 in
theorem ggX8_wouldRun_X8_refresh : GoodIn wsX8_wouldRun wsX8_refresh := goodIn_r _ [18, 19, 20, 1, 21, 22, 23, 24, 25, 26, 27, 28, 29, 30, 31, 32, 33, 34, 35, 36, 37, 38, 39, 40, 41, 42, 43, 44, 45, 46, 47, 48, 49, 50, 51, 52, 53, 54, 55, 56, 57, 58, 59, 60, 61, 62, 63, 64, 65, 66, 67, 68, 69, 70, 71, 72, 73, 74, 75, 76, 77, 78, 79, 80, 81, 82, 83, 84, 85, 86, 87, 88, 89, 90, 91, 92, 93, 94, 95, 96, 97, 98, 99, 100, 101, 102, 103, 104, 105, 106, 107, 108, 109, 110, 111, 112, 113, 114, 115, 116, 117, 118, 119, 120, 121, 122, 123, 124, 125, 126, 127, 128, 129, 130, 131, 132, 133, 134, 135, 136, 137, 138, 139, 140, 141, 142, 143, 144, 145, 146, 147, 148, 149, 150, 151, 152, 153, 154, 155, 156, 157, 158, 159, 160, 161, 162, 163, 164, 165, 166, 167, 168, 169, 170, 171, 172, 173, 174, 175, 176, 177, 178, 179, 180, 181, 182, 183, 184, 185, 186, 187, 188, 189, 190, 191, 192, 193, 194, 195, 196, 197, 198, 199, 200, 201, 202, 203, 204, 205, 206, 207, 208, 209, 210, 211, 212, 213, 214, 215, 216, 217, 218, 219, 220, 221, 222, 223, 224, 225, 226, 227, 228, 229, 230, 231, 232, 233, 234, 235, 236, 237, 238, 239, 240, 241, 242, 243, 244, 245, 246, 247, 248, 249, 250, 251, 252, 614, 615, 616, 617, 618, 619, 620, 621, 622, 623, 624, 625, 626, 627, 637, 638, 639, 640, 641, 642, 643, 644, 645, 646, 647, 648, 649, 650, 651, 652, 653, 654, 655, 656, 657, 658, 659, 660, 661, 662, 663, 664, 665, 666, 667, 668, 669, 670, 671, 672, 673, 674, 628, 629, 630, 631, 632, 633, 634, 635, 636, 675, 676, 677, 678, 679, 680, 681, 682, 683, 684, 685, 686, 687, 688, 689, 690, 691] (by decide +kernel) (by decide +kernel)
set_option maxRecDepth 20000 in
theorem gX8_wouldRun_X8_refresh : GoodIn wsX8_wouldRun (wsV RX8 146 RX8 yX8_refresh wsX8_refresh) := goodIn_app (goodIn_of _ (by decide +kernel)) ggX8_wouldRun_X8_refresh
set_option maxRecDepth 20000 in
theorem ggX8_wouldRun_X8_needState : GoodIn wsX8_wouldRun wsX8_needState := goodIn_ca (goodIn_r _ [255, 256, 257] (by decide +kernel) (by decide +kernel)) (goodIn_sub (fun _ h => List.mem_cons_of_mem _ (List.mem_append_right _ h)) (by decide +kernel))
set_option maxRecDepth 20000 in
theorem gX8_wouldRun_X8_needState : GoodIn wsX8_wouldRun (va_wsS RX8 106 yX8_needState wsX8_needState) := goodIn_app (goodIn_of _ (by decide +kernel)) ggX8_wouldRun_X8_needState
set_option maxRecDepth 20000 in
theorem ggX8_wouldRun_X3_execute : GoodIn wsX8_wouldRun wsX3_execute := goodIn_r _ [262, 263, 264, 265, 266, 267, 268, 269, 270, 271, 272, 273, 274, 275, 250, 276, 252, 277, 278, 279, 280, 281, 282, 283, 284, 285, 286, 287, 288, 243, 244, 57, 245, 59, 60, 246, 289, 290, 291, 292, 293, 238, 239, 240, 241, 222, 294, 233, 234, 235, 236, 223, 295, 296, 297, 298, 299, 300, 301, 302, 303, 304, 305, 306, 307, 308, 309, 310, 311, 312, 313, 314, 315, 316, 317, 318, 319, 320, 321, 322, 323, 324, 325, 326, 327, 328, 329, 330, 331, 332, 333, 334, 335, 336, 337, 338, 339, 340, 341, 342, 343, 344, 345, 346, 347, 348, 349, 350, 351, 352, 353, 354, 355, 356, 357, 358, 359, 360, 361, 362, 26, 363, 28, 40, 33, 31, 364, 365, 366, 367, 368, 369, 370, 371, 372, 373, 374, 375, 376, 377, 378, 379, 380, 381, 382, 383, 384, 385, 386, 387, 388, 389, 390, 391, 261, 392, 393, 394, 395, 396, 397, 398, 399, 400, 401, 402, 403, 404, 405, 406, 407, 408, 409, 410, 411, 412, 413, 414, 415, 416, 417, 418, 419, 420, 421, 422, 423, 424, 425, 426, 427, 428, 429, 430, 431, 432, 433, 434, 106, 435, 436, 437, 438, 439, 440, 441, 442, 443, 444, 445, 446, 447, 448, 449, 450, 451, 452, 453, 454, 455, 456, 457, 458, 459, 460, 461, 462, 463, 464, 465, 466, 467, 468, 469, 470, 471, 472, 473, 474, 475, 476, 477, 478, 479, 160, 161, 162, 163, 164, 165, 480, 481, 482, 483, 484, 485, 486, 487, 488, 489, 490, 491, 492, 493, 494, 495, 496, 497, 498, 499, 500, 501, 502, 503, 504, 505, 506, 507, 508, 509, 510, 511, 512, 513, 514, 515, 516, 517, 518, 519, 520, 521, 522, 523, 524, 525, 526, 527, 528, 529, 530, 531, 532, 533, 534, 535, 536, 537, 538, 539, 540, 541, 542, 543, 544, 545, 546, 547, 548, 549, 550, 551, 64, 552, 553, 554, 219, 220, 221, 555, 556, 557, 558, 559, 560, 561, 562, 563, 564, 565, 566, 567, 568, 569, 570, 571, 572, 573, 574, 575, 576, 577, 578, 579, 580, 581, 582, 583, 584, 585, 586, 587, 588, 589, 590, 591, 592, 593, 594, 595, 596, 597, 598, 599, 600, 601, 602, 603, 604, 605, 606, 607, 608, 609, 96, 97, 692, 693, 694, 695, 696, 697, 698, 699, 700, 701, 702, 703, 704, 705, 706, 707, 708, 675, 676, 677, 678, 679, 680, 681, 682, 683, 684, 685, 686, 687, 688, 689, 690, 691, 656, 657, 658, 659, 660, 661, 662, 637, 638, 639, 640, 641, 642, 643, 644, 645, 646, 647, 648, 649, 650, 651, 652, 653, 654, 655, 663, 664, 665, 666, 667, 668, 669, 670, 671, 672, 673, 674, 709, 710, 711, 712, 713, 714, 715, 716, 717, 718, 719, 720, 721, 722, 723, 724, 725] (by decide +kernel) (by decide +kernel)
set_option maxRecDepth 20000 in
theorem gX8_wouldRun_X3_execute : GoodIn wsX8_wouldRun (wsV RX8 253 RX3 yX3_execute wsX3_execute) := goodIn_app (goodIn_of _ (by decide +kernel)) ggX8_wouldRun_X3_execute
set_option maxRecDepth 20000 in
theorem ggX8_wouldRun_X6_answer : GoodIn wsX8_wouldRun wsX6_answer := goodIn_r _ [613, 411, 412, 413, 414, 415, 416, 417, 418, 419, 420, 712, 713, 714, 715, 716, 717, 718, 719, 720, 721, 722, 723, 724, 725] (by decide +kernel) (by decide +kernel)
set_option maxRecDepth 20000 in
theorem gX8_wouldRun_X6_answer : GoodIn wsX8_wouldRun (wsV RX8 260 RX6 yX6_answer wsX6_answer) := goodIn_app (goodIn_of _ (by decide +kernel)) ggX8_wouldRun_X6_answer
theorem dX8_wouldRun_0 : decode cX8_wouldRun 0 = .ok (.iload_n 1, 1) := by decide +kernel
theorem dX8_wouldRun_1 : decode cX8_wouldRun 1 = .ok (.iload_n 2, 1) := by decide +kernel
theorem dX8_wouldRun_2 : decode cX8_wouldRun 2 = .ok (.invokestatic 250, 3) := by decide +kernel
theorem dX8_wouldRun_5 : decode cX8_wouldRun 5 = .ok (.ifCond .eq 17, 3) := by decide +kernel
theorem dX8_wouldRun_8 : decode cX8_wouldRun 8 = .ok (.iload_n 3, 1) := by decide +kernel
theorem dX8_wouldRun_9 : decode cX8_wouldRun 9 = .ok (.ifCond .lt 13, 3) := by decide +kernel
theorem dX8_wouldRun_12 : decode cX8_wouldRun 12 = .ok (.iload_n 3, 1) := by decide +kernel
theorem dX8_wouldRun_13 : decode cX8_wouldRun 13 = .ok (.bipush 9, 2) := by decide +kernel
theorem dX8_wouldRun_15 : decode cX8_wouldRun 15 = .ok (.if_icmp .gt 7, 3) := by decide +kernel
theorem dX8_wouldRun_18 : decode cX8_wouldRun 18 = .ok (.iconst 1, 1) := by decide +kernel
theorem dX8_wouldRun_19 : decode cX8_wouldRun 19 = .ok (.goto 4, 3) := by decide +kernel
theorem dX8_wouldRun_22 : decode cX8_wouldRun 22 = .ok (.iconst 0, 1) := by decide +kernel
theorem dX8_wouldRun_23 : decode cX8_wouldRun 23 = .ok (.invokestatic 95, 3) := by decide +kernel
theorem dX8_wouldRun_26 : decode cX8_wouldRun 26 = .ok (.aload_n 0, 1) := by decide +kernel
theorem dX8_wouldRun_27 : decode cX8_wouldRun 27 = .ok (.invokevirtual 146, 3) := by decide +kernel
theorem dX8_wouldRun_30 : decode cX8_wouldRun 30 = .ok (.aload_n 0, 1) := by decide +kernel
theorem dX8_wouldRun_31 : decode cX8_wouldRun 31 = .ok (.getfield 37, 3) := by decide +kernel
theorem dX8_wouldRun_34 : decode cX8_wouldRun 34 = .ok (.getfield 219, 3) := by decide +kernel
theorem dX8_wouldRun_37 : decode cX8_wouldRun 37 = .ok (.ifCond .ne 7, 3) := by decide +kernel
theorem dX8_wouldRun_40 : decode cX8_wouldRun 40 = .ok (.iconst 1, 1) := by decide +kernel
theorem dX8_wouldRun_41 : decode cX8_wouldRun 41 = .ok (.goto 4, 3) := by decide +kernel
theorem dX8_wouldRun_44 : decode cX8_wouldRun 44 = .ok (.iconst 0, 1) := by decide +kernel
theorem dX8_wouldRun_45 : decode cX8_wouldRun 45 = .ok (.invokestatic 106, 3) := by decide +kernel
theorem dX8_wouldRun_48 : decode cX8_wouldRun 48 = .ok (.aload_n 0, 1) := by decide +kernel
theorem dX8_wouldRun_49 : decode cX8_wouldRun 49 = .ok (.getfield 56, 3) := by decide +kernel
theorem dX8_wouldRun_52 : decode cX8_wouldRun 52 = .ok (.aload_n 0, 1) := by decide +kernel
theorem dX8_wouldRun_53 : decode cX8_wouldRun 53 = .ok (.getfield 74, 3) := by decide +kernel
theorem dX8_wouldRun_56 : decode cX8_wouldRun 56 = .ok (.iload_n 1, 1) := by decide +kernel
theorem dX8_wouldRun_57 : decode cX8_wouldRun 57 = .ok (.iload_n 2, 1) := by decide +kernel
theorem dX8_wouldRun_58 : decode cX8_wouldRun 58 = .ok (.aload_n 0, 1) := by decide +kernel
theorem dX8_wouldRun_59 : decode cX8_wouldRun 59 = .ok (.getfield 67, 3) := by decide +kernel
theorem dX8_wouldRun_62 : decode cX8_wouldRun 62 = .ok (.invokevirtual 253, 3) := by decide +kernel
theorem dX8_wouldRun_65 : decode cX8_wouldRun 65 = .ok (.aload_n 0, 1) := by decide +kernel
theorem dX8_wouldRun_66 : decode cX8_wouldRun 66 = .ok (.getfield 67, 3) := by decide +kernel
theorem dX8_wouldRun_69 : decode cX8_wouldRun 69 = .ok (.iload_n 3, 1) := by decide +kernel
theorem dX8_wouldRun_70 : decode cX8_wouldRun 70 = .ok (.invokevirtual 260, 3) := by decide +kernel
theorem dX8_wouldRun_73 : decode cX8_wouldRun 73 = .ok (.ireturn, 1) := by decide +kernel
set_option maxRecDepth 20000 in
theorem ggX8_with_X8_isPasses : GoodIn wsX8_with wsX8_isPasses := goodIn_r _ [12] (by decide +kernel) (by decide +kernel)
set_option maxRecDepth 20000 in
theorem gX8_with_X8_isPasses : GoodIn wsX8_with (va_wsS RX8 232 yX8_isPasses wsX8_isPasses) := goodIn_app (goodIn_of _ (by decide +kernel)) ggX8_with_X8_isPasses
set_option maxRecDepth 20000 in
theorem ggX8_with_X8_needArgument : GoodIn wsX8_with wsX8_needArgument := goodIn_ca (goodIn_r _ [15, 16, 17] (by decide +kernel) (by decide +kernel)) (goodIn_sub (fun _ h => List.mem_cons_of_mem _ (List.mem_append_left _ (List.mem_append_right _ h))) (by decide +kernel))
set_option maxRecDepth 20000 in
theorem gX8_with_X8_needArgument : GoodIn wsX8_with (va_wsS RX8 95 yX8_needArgument wsX8_needArgument) := goodIn_app (goodIn_of _ (by decide +kernel)) ggX8_with_X8_needArgument
set_option maxRecDepth 20000 in
theorem ggX8_with_X8_refresh : GoodIn wsX8_with wsX8_refresh := goodIn_r _ [21, 22, 23, 1, 24, 25, 26, 27, 28, 29, 30, 31, 32, 33, 34, 35, 36, 37, 38, 39, 40, 41, 42, 43, 44, 45, 46, 47, 48, 49, 50, 51, 52, 53, 54, 55, 56, 57, 58, 59, 60, 61, 62, 63, 64, 65, 66, 67, 68, 69, 70, 71, 72, 73, 74, 75, 76, 77, 78, 79, 80, 81, 82, 83, 84, 85, 86, 87, 88, 89, 90, 91, 92, 93, 94, 95, 96, 97, 98, 99, 100, 101, 102, 103, 104, 105, 106, 107, 108, 109, 110, 111, 112, 113, 114, 115, 116, 117, 118, 119, 120, 121, 122, 123, 124, 125, 126, 127, 128, 129, 130, 131, 132, 133, 134, 135, 136, 137, 138, 139, 140, 141, 142, 143, 144, 145, 146, 147, 148, 149, 150, 151, 152, 153, 154, 155, 156, 157, 158, 159, 160, 161, 162, 163, 164, 165, 166, 167, 168, 169, 170, 171, 172, 173, 174, 175, 176, 177, 178, 179, 180, 181, 182, 183, 184, 185, 186, 187, 188, 189, 190, 191, 192, 193, 194, 195, 196, 197, 198, 199, 200, 201, 202, 203, 204, 205, 206, 207, 208, 209, 210, 211, 212, 213, 214, 215, 216, 217, 218, 219, 220, 221, 222, 223, 224, 225, 226, 227, 228, 229, 230, 231, 232, 233, 234, 235, 236, 237, 238, 239, 240, 241, 242, 243, 244, 245, 246, 247, 248, 249, 250, 251, 252, 253, 254, 255, 619, 620, 621, 622, 623, 624, 625, 626, 627, 628, 629, 630, 631, 632, 656, 657, 658, 659, 660, 661, 662, 663, 664, 665, 666, 667, 668, 669, 670, 671, 672, 673, 674, 675, 676, 677, 678, 679, 680, 681, 682, 683, 684, 685, 686, 687, 688, 689, 690, 691, 692, 693, 633, 634, 635, 636, 637, 638, 639, 640, 641, 694, 695, 696, 697, 698, 699, 700, 701, 702, 703, 704, 705, 706, 707, 708, 709, 710] (by decide +kernel) (by decide +kernel)
set_option maxRecDepth 20000 in
theorem gX8_with_X8_refresh : GoodIn wsX8_with (wsV RX8 146 RX8 yX8_refresh wsX8_refresh) := goodIn_app (goodIn_of _ (by decide +kernel)) ggX8_with_X8_refresh
set_option maxRecDepth 20000 in
theorem ggX8_with_X8_needState : GoodIn wsX8_with wsX8_needState := goodIn_ca (goodIn_r _ [258, 259, 260] (by decide +kernel) (by decide +kernel)) (goodIn_sub (fun _ h => List.mem_cons_of_mem _ (List.mem_append_right _ h)) (by decide +kernel))
set_option maxRecDepth 20000 in
theorem gX8_with_X8_needState : GoodIn wsX8_with (va_wsS RX8 106 yX8_needState wsX8_needState) := goodIn_app (goodIn_of _ (by decide +kernel)) ggX8_with_X8_needState
set_option maxRecDepth 20000 in
theorem ggX8_with_X8_wholeCodeLength : GoodIn wsX8_with wsX8_wholeCodeLength := goodIn_r _ [264, 1, 2, 24, 265, 266, 267, 268, 253, 269, 255, 270, 271, 272, 273, 274, 275, 276, 277, 278, 279, 280, 281, 246, 247, 60, 248, 62, 63, 249, 282, 283, 284, 285, 286, 241, 242, 243, 244, 225, 287, 236, 237, 238, 239, 226, 288, 289, 290, 291, 292, 293, 294, 295, 296, 297, 298, 299, 300, 301, 302, 303, 304, 305, 306, 307, 308, 309, 310, 311, 312, 313, 314, 315, 316, 317, 318, 319, 320, 321, 322, 323, 324, 325, 326, 327, 328, 329, 330, 331, 332, 333, 334, 335, 336, 337, 338, 339, 340, 341, 342, 343, 344, 345, 346, 347, 348, 349, 350, 351, 352, 353, 354, 355, 29, 356, 31, 43, 36, 34, 357, 358, 359, 360, 361, 362, 363, 364, 365, 366, 367, 368, 369, 370, 371, 372, 373, 374, 375, 376, 377, 378, 379, 380, 381, 619, 620, 621, 622, 623, 624, 625, 626, 627, 628, 629, 630, 631, 632, 633, 634, 635, 636, 637, 638, 639, 640, 641, 694, 695, 696, 697, 698, 699, 700, 701, 702, 703, 704, 705, 706, 707, 708, 709, 710, 675, 676, 677, 678, 679, 680, 681, 656, 657, 658, 659, 660, 661, 662, 663, 664, 665, 666, 667, 668, 669, 670, 671, 672, 673, 674, 682, 683, 684, 685, 686, 687, 688, 689, 690, 691, 692, 693] (by decide +kernel) (by decide +kernel)
set_option maxRecDepth 20000 in
theorem gX8_with_X8_wholeCodeLength : GoodIn wsX8_with (wsV RX8 295 RX8 yX8_wholeCodeLength wsX8_wholeCodeLength) := goodIn_app (goodIn_of _ (by decide +kernel)) ggX8_with_X8_wholeCodeLength
set_option maxRecDepth 20000 in
theorem ggX8_with_X3_execute : GoodIn wsX8_with wsX3_execute := goodIn_r _ [386, 387, 388, 389, 390, 391, 392, 393, 394, 395, 396, 397, 267, 268, 253, 269, 255, 270, 271, 272, 273, 274, 275, 276, 277, 278, 279, 280, 281, 246, 247, 60, 248, 62, 63, 249, 282, 283, 284, 285, 286, 241, 242, 243, 244, 225, 287, 236, 237, 238, 239, 226, 288, 289, 290, 291, 292, 293, 294, 295, 296, 297, 298, 299, 300, 301, 302, 303, 304, 305, 306, 307, 308, 309, 310, 311, 312, 313, 314, 315, 316, 317, 318, 319, 320, 321, 322, 323, 324, 325, 326, 327, 328, 329, 330, 331, 332, 333, 334, 335, 336, 337, 338, 339, 340, 341, 342, 343, 344, 345, 346, 347, 348, 349, 350, 351, 352, 353, 354, 355, 29, 356, 31, 43, 36, 34, 357, 358, 359, 360, 361, 362, 363, 364, 365, 366, 367, 368, 369, 370, 371, 372, 373, 374, 375, 376, 377, 378, 379, 380, 381, 398, 399, 400, 385, 401, 402, 403, 404, 405, 406, 407, 408, 409, 410, 411, 412, 413, 414, 415, 416, 417, 418, 419, 420, 421, 422, 423, 424, 425, 426, 427, 428, 429, 430, 431, 432, 433, 434, 435, 436, 437, 438, 439, 440, 441, 442, 443, 109, 444, 445, 446, 447, 448, 449, 450, 451, 452, 453, 454, 455, 456, 457, 458, 459, 460, 461, 462, 463, 464, 465, 466, 467, 468, 469, 470, 471, 472, 473, 474, 475, 476, 477, 478, 479, 480, 481, 482, 483, 484, 485, 486, 487, 488, 163, 164, 165, 166, 167, 168, 489, 490, 491, 492, 493, 494, 495, 496, 497, 498, 499, 500, 501, 502, 503, 504, 505, 506, 507, 508, 509, 510, 511, 512, 513, 514, 515, 516, 517, 518, 519, 520, 521, 522, 523, 524, 525, 526, 527, 528, 529, 530, 531, 532, 533, 534, 535, 536, 537, 538, 539, 540, 541, 542, 543, 544, 545, 546, 547, 548, 549, 550, 551, 552, 553, 554, 555, 556, 557, 558, 559, 560, 67, 561, 562, 563, 222, 223, 224, 564, 565, 566, 567, 568, 569, 570, 571, 572, 573, 574, 575, 576, 577, 578, 579, 580, 581, 582, 583, 584, 585, 586, 587, 588, 589, 590, 591, 592, 593, 594, 595, 596, 597, 598, 599, 600, 601, 602, 603, 604, 605, 606, 607, 608, 609, 610, 611, 612, 613, 614, 615, 616, 617, 618, 99, 100, 711, 712, 713, 714, 715, 716, 717, 718, 719, 720, 721, 722, 723, 724, 725, 726, 727, 694, 695, 696, 697, 698, 699, 700, 701, 702, 703, 704, 705, 706, 707, 708, 709, 710, 675, 676, 677, 678, 679, 680, 681, 656, 657, 658, 659, 660, 661, 662, 663, 664, 665, 666, 667, 668, 669, 670, 671, 672, 673, 674, 682, 683, 684, 685, 686, 687, 688, 689, 690, 691, 692, 693, 728, 729, 730, 642, 643, 644, 645, 646, 647, 648, 649, 650, 651, 652, 653, 654, 655] (by decide +kernel) (by decide +kernel)
set_option maxRecDepth 20000 in
theorem gX8_with_X3_execute : GoodIn wsX8_with (wsV RX8 253 RX3 yX3_execute wsX3_execute) := goodIn_app (goodIn_of _ (by decide +kernel)) ggX8_with_X3_execute
theorem dX8_with_0 : decode cX8_with 0 = .ok (.iload_n 1, 1) := by decide +kernel
theorem dX8_with_1 : decode cX8_with 1 = .ok (.invokestatic 232, 3) := by decide +kernel
theorem dX8_with_4 : decode cX8_with 4 = .ok (.ifCond .eq 16, 3) := by decide +kernel
theorem dX8_with_7 : decode cX8_with 7 = .ok (.iload_n 2, 1) := by decide +kernel
theorem dX8_with_8 : decode cX8_with 8 = .ok (.ifCond .lt 12, 3) := by decide +kernel
theorem dX8_with_11 : decode cX8_with 11 = .ok (.iload_n 2, 1) := by decide +kernel
theorem dX8_with_12 : decode cX8_with 12 = .ok (.iconst 2, 1) := by decide +kernel
theorem dX8_with_13 : decode cX8_with 13 = .ok (.if_icmp .gt 7, 3) := by decide +kernel
theorem dX8_with_16 : decode cX8_with 16 = .ok (.iconst 1, 1) := by decide +kernel
theorem dX8_with_17 : decode cX8_with 17 = .ok (.goto 4, 3) := by decide +kernel
theorem dX8_with_20 : decode cX8_with 20 = .ok (.iconst 0, 1) := by decide +kernel
theorem dX8_with_21 : decode cX8_with 21 = .ok (.invokestatic 95, 3) := by decide +kernel
theorem dX8_with_24 : decode cX8_with 24 = .ok (.aload_n 0, 1) := by decide +kernel
theorem dX8_with_25 : decode cX8_with 25 = .ok (.invokevirtual 146, 3) := by decide +kernel
theorem dX8_with_28 : decode cX8_with 28 = .ok (.aload_n 0, 1) := by decide +kernel
theorem dX8_with_29 : decode cX8_with 29 = .ok (.getfield 37, 3) := by decide +kernel
theorem dX8_with_32 : decode cX8_with 32 = .ok (.getfield 219, 3) := by decide +kernel
theorem dX8_with_35 : decode cX8_with 35 = .ok (.ifCond .ne 7, 3) := by decide +kernel
theorem dX8_with_38 : decode cX8_with 38 = .ok (.iconst 1, 1) := by decide +kernel
theorem dX8_with_39 : decode cX8_with 39 = .ok (.goto 4, 3) := by decide +kernel
theorem dX8_with_42 : decode cX8_with 42 = .ok (.iconst 0, 1) := by decide +kernel
theorem dX8_with_43 : decode cX8_with 43 = .ok (.invokestatic 106, 3) := by decide +kernel
theorem dX8_with_46 : decode cX8_with 46 = .ok (.iload_n 2, 1) := by decide +kernel
theorem dX8_with_47 : decode cX8_with 47 = .ok (.ifCond .ne 9, 3) := by decide +kernel
theorem dX8_with_50 : decode cX8_with 50 = .ok (.aload_n 0, 1) := by decide +kernel
theorem dX8_with_51 : decode cX8_with 51 = .ok (.iload_n 1, 1) := by decide +kernel
theorem dX8_with_52 : decode cX8_with 52 = .ok (.invokevirtual 295, 3) := by decide +kernel
theorem dX8_with_55 : decode cX8_with 55 = .ok (.ireturn, 1) := by decide +kernel
theorem dX8_with_56 : decode cX8_with 56 = .ok (.aload_n 0, 1) := by decide +kernel
theorem dX8_with_57 : decode cX8_with 57 = .ok (.getfield 56, 3) := by decide +kernel
theorem dX8_with_60 : decode cX8_with 60 = .ok (.iload_n 1, 1) := by decide +kernel
theorem dX8_with_61 : decode cX8_with 61 = .ok (.aload_n 0, 1) := by decide +kernel
theorem dX8_with_62 : decode cX8_with 62 = .ok (.getfield 78, 3) := by decide +kernel
theorem dX8_with_65 : decode cX8_with 65 = .ok (.aload_n 0, 1) := by decide +kernel
theorem dX8_with_66 : decode cX8_with 66 = .ok (.getfield 81, 3) := by decide +kernel
theorem dX8_with_69 : decode cX8_with 69 = .ok (.aload_n 0, 1) := by decide +kernel
theorem dX8_with_70 : decode cX8_with 70 = .ok (.getfield 67, 3) := by decide +kernel
theorem dX8_with_73 : decode cX8_with 73 = .ok (.invokevirtual 253, 3) := by decide +kernel
theorem dX8_with_76 : decode cX8_with 76 = .ok (.iload_n 2, 1) := by decide +kernel
theorem dX8_with_77 : decode cX8_with 77 = .ok (.iconst 1, 1) := by decide +kernel
theorem dX8_with_78 : decode cX8_with 78 = .ok (.if_icmp .ne 13, 3) := by decide +kernel
theorem dX8_with_81 : decode cX8_with 81 = .ok (.aload_n 0, 1) := by decide +kernel
theorem dX8_with_82 : decode cX8_with 82 = .ok (.getfield 67, 3) := by decide +kernel
theorem dX8_with_85 : decode cX8_with 85 = .ok (.getfield 298, 3) := by decide +kernel
theorem dX8_with_88 : decode cX8_with 88 = .ok (.goto 10, 3) := by decide +kernel
theorem dX8_with_91 : decode cX8_with 91 = .ok (.aload_n 0, 1) := by decide +kernel
theorem dX8_with_92 : decode cX8_with 92 = .ok (.getfield 67, 3) := by decide +kernel
theorem dX8_with_95 : decode cX8_with 95 = .ok (.getfield 301, 3) := by decide +kernel
theorem dX8_with_98 : decode cX8_with 98 = .ok (.ireturn, 1) := by decide +kernel
set_option maxRecDepth 20000 in
theorem ggX8_hiddenBy_X8_needProcedure : GoodIn wsX8_hiddenBy wsX8_needProcedure := goodIn_ca (goodIn_r _ [7, 8, 9, 1, 10, 11, 12, 13, 14, 15, 266, 267, 268, 269, 270, 271, 272, 273, 274, 275, 276, 277, 278, 279, 280, 281, 282, 283, 284, 285, 286, 287, 288, 289, 290, 291] (by decide +kernel) (by decide +kernel)) (goodIn_sub (fun _ h => List.mem_cons_of_mem _ (List.mem_append_left _ (List.mem_append_right _ h))) (by decide +kernel))
set_option maxRecDepth 20000 in
theorem gX8_hiddenBy_X8_needProcedure : GoodIn wsX8_hiddenBy (wsV RX8 87 RX8 yX8_needProcedure wsX8_needProcedure) := goodIn_app (goodIn_of _ (by decide +kernel)) ggX8_hiddenBy_X8_needProcedure
set_option maxRecDepth 20000 in
theorem ggX8_hiddenBy_X8_isName : GoodIn wsX8_hiddenBy wsX8_isName := goodIn_r _ [18] (by decide +kernel) (by decide +kernel)
set_option maxRecDepth 20000 in
theorem gX8_hiddenBy_X8_isName : GoodIn wsX8_hiddenBy (va_wsS RX8 91 yX8_isName wsX8_isName) := goodIn_app (goodIn_of _ (by decide +kernel)) ggX8_hiddenBy_X8_isName
set_option maxRecDepth 20000 in
theorem ggX8_hiddenBy_X8_needArgument : GoodIn wsX8_hiddenBy wsX8_needArgument := goodIn_ca (goodIn_r _ [21, 22, 23] (by decide +kernel) (by decide +kernel)) (goodIn_sub (fun _ h => List.mem_cons_of_mem _ (List.mem_append_right _ h)) (by decide +kernel))
set_option maxRecDepth 20000 in
theorem gX8_hiddenBy_X8_needArgument : GoodIn wsX8_hiddenBy (va_wsS RX8 95 yX8_needArgument wsX8_needArgument) := goodIn_app (goodIn_of _ (by decide +kernel)) ggX8_hiddenBy_X8_needArgument
set_option maxRecDepth 20000 in
theorem ggX8_hiddenBy_X8_refresh : GoodIn wsX8_hiddenBy wsX8_refresh := goodIn_r _ [27, 28, 2, 29, 30, 31, 32, 33, 34, 35, 36, 37, 38, 39, 40, 41, 42, 43, 44, 45, 46, 47, 48, 49, 50, 51, 52, 53, 54, 55, 56, 57, 58, 59, 60, 61, 62, 63, 64, 65, 66, 67, 68, 69, 70, 71, 72, 13, 73, 74, 75, 76, 77, 78, 79, 80, 81, 82, 83, 84, 85, 86, 87, 88, 89, 90, 91, 92, 93, 94, 95, 96, 97, 98, 99, 100, 101, 102, 103, 104, 105, 106, 107, 108, 109, 110, 111, 112, 113, 114, 115, 116, 117, 118, 119, 120, 121, 122, 123, 124, 125, 126, 127, 128, 129, 130, 131, 132, 133, 134, 135, 136, 137, 138, 139, 140, 141, 142, 143, 144, 145, 146, 147, 148, 149, 150, 151, 152, 153, 154, 155, 156, 157, 158, 159, 160, 161, 162, 163, 164, 165, 166, 167, 168, 169, 170, 171, 172, 173, 174, 175, 176, 177, 178, 179, 180, 181, 182, 183, 184, 185, 186, 187, 188, 189, 190, 191, 192, 193, 194, 195, 196, 197, 198, 199, 200, 201, 202, 203, 204, 205, 206, 207, 208, 209, 210, 211, 212, 213, 214, 215, 216, 217, 218, 219, 220, 221, 222, 223, 224, 225, 226, 227, 228, 229, 230, 231, 232, 233, 234, 235, 236, 237, 238, 239, 240, 241, 242, 243, 244, 245, 246, 247, 248, 249, 250, 251, 252, 253, 254, 255, 256, 257, 258, 259, 260, 266, 267, 268, 269, 270, 271, 272, 273, 274, 275, 276, 277, 278, 279, 292, 293, 294, 295, 296, 297, 298, 299, 300, 301, 302, 303, 304, 305, 306, 307, 308, 309, 310, 311, 312, 313, 314, 315, 316, 317, 280, 281, 282, 283, 284, 285, 286, 287, 288, 289, 290, 291, 318, 319, 320, 321, 322, 323, 324, 325, 326, 327, 328, 329, 330, 331, 332, 333, 334, 335, 336, 337, 338, 339, 340, 341, 342, 343] (by decide +kernel) (by decide +kernel)
set_option maxRecDepth 20000 in
theorem gX8_hiddenBy_X8_refresh : GoodIn wsX8_hiddenBy (wsV RX8 146 RX8 yX8_refresh wsX8_refresh) := goodIn_app (goodIn_of _ (by decide +kernel)) ggX8_hiddenBy_X8_refresh
set_option maxRecDepth 20000 in
theorem ggX8_hiddenBy_X1_declares : GoodIn wsX8_hiddenBy wsX1_declares := goodIn_r _ [78, 79, 280, 281, 282, 283, 284, 285, 286, 287, 288, 289, 290, 291] (by decide +kernel) (by decide +kernel)
set_option maxRecDepth 20000 in
theorem gX8_hiddenBy_X1_declares : GoodIn wsX8_hiddenBy (wsV RX8 102 RX1 yX1_declares wsX1_declares) := goodIn_app (goodIn_of _ (by decide +kernel)) ggX8_hiddenBy_X1_declares
set_option maxRecDepth 20000 in
theorem ggX8_hiddenBy_X4_reaching : GoodIn wsX8_hiddenBy wsX4_reaching := goodIn_r _ [265, 37, 38, 48, 56, 55, 54, 63, 64, 65, 66, 67, 68, 69, 140, 141, 142, 13, 143, 74, 292, 293, 294, 295, 296, 297, 298, 299, 300, 301, 302, 303, 304, 305, 306, 307, 308, 309, 310, 311, 312, 313, 314, 315, 316, 317, 280, 281, 282, 283, 284, 285, 286, 287, 288, 289, 290, 291] (by decide +kernel) (by decide +kernel)
set_option maxRecDepth 20000 in
theorem gX8_hiddenBy_X4_reaching : GoodIn wsX8_hiddenBy (wsV RX8 304 RX4 yX4_reaching wsX4_reaching) := goodIn_app (goodIn_of _ (by decide +kernel)) ggX8_hiddenBy_X4_reaching
theorem dX8_hiddenBy_0 : decode cX8_hiddenBy 0 = .ok (.aload_n 0, 1) := by decide +kernel
theorem dX8_hiddenBy_1 : decode cX8_hiddenBy 1 = .ok (.iload_n 1, 1) := by decide +kernel
theorem dX8_hiddenBy_2 : decode cX8_hiddenBy 2 = .ok (.invokevirtual 87, 3) := by decide +kernel
theorem dX8_hiddenBy_5 : decode cX8_hiddenBy 5 = .ok (.iload_n 2, 1) := by decide +kernel
theorem dX8_hiddenBy_6 : decode cX8_hiddenBy 6 = .ok (.invokestatic 91, 3) := by decide +kernel
theorem dX8_hiddenBy_9 : decode cX8_hiddenBy 9 = .ok (.invokestatic 95, 3) := by decide +kernel
theorem dX8_hiddenBy_12 : decode cX8_hiddenBy 12 = .ok (.aload_n 0, 1) := by decide +kernel
theorem dX8_hiddenBy_13 : decode cX8_hiddenBy 13 = .ok (.invokevirtual 146, 3) := by decide +kernel
theorem dX8_hiddenBy_16 : decode cX8_hiddenBy 16 = .ok (.aload_n 0, 1) := by decide +kernel
theorem dX8_hiddenBy_17 : decode cX8_hiddenBy 17 = .ok (.getfield 12, 3) := by decide +kernel
theorem dX8_hiddenBy_20 : decode cX8_hiddenBy 20 = .ok (.iload_n 1, 1) := by decide +kernel
theorem dX8_hiddenBy_21 : decode cX8_hiddenBy 21 = .ok (.iload_n 2, 1) := by decide +kernel
theorem dX8_hiddenBy_22 : decode cX8_hiddenBy 22 = .ok (.invokevirtual 102, 3) := by decide +kernel
theorem dX8_hiddenBy_25 : decode cX8_hiddenBy 25 = .ok (.ifCond .eq 7, 3) := by decide +kernel
theorem dX8_hiddenBy_28 : decode cX8_hiddenBy 28 = .ok (.iconst 0, 1) := by decide +kernel
theorem dX8_hiddenBy_29 : decode cX8_hiddenBy 29 = .ok (.goto 12, 3) := by decide +kernel
theorem dX8_hiddenBy_32 : decode cX8_hiddenBy 32 = .ok (.aload_n 0, 1) := by decide +kernel
theorem dX8_hiddenBy_33 : decode cX8_hiddenBy 33 = .ok (.getfield 28, 3) := by decide +kernel
theorem dX8_hiddenBy_36 : decode cX8_hiddenBy 36 = .ok (.iload_n 1, 1) := by decide +kernel
theorem dX8_hiddenBy_37 : decode cX8_hiddenBy 37 = .ok (.iload_n 2, 1) := by decide +kernel
theorem dX8_hiddenBy_38 : decode cX8_hiddenBy 38 = .ok (.invokevirtual 304, 3) := by decide +kernel
theorem dX8_hiddenBy_41 : decode cX8_hiddenBy 41 = .ok (.ireturn, 1) := by decide +kernel
set_option maxRecDepth 20000 in
theorem ggX8_digest_X8_refresh : GoodIn wsX8_digest wsX8_refresh := goodIn_r _ [21, 22, 23, 7, 24, 25, 26, 27, 28, 29, 30, 31, 32, 33, 34, 35, 36, 37, 38, 39, 40, 41, 42, 43, 44, 45, 46, 47, 48, 49, 50, 51, 52, 53, 54, 55, 56, 57, 58, 59, 60, 61, 62, 63, 64, 65, 66, 67, 68, 69, 70, 71, 72, 73, 74, 75, 76, 77, 78, 79, 80, 81, 82, 83, 84, 85, 86, 87, 88, 89, 90, 91, 92, 93, 94, 95, 96, 97, 98, 99, 100, 101, 102, 103, 104, 105, 106, 107, 108, 109, 110, 111, 112, 113, 114, 115, 116, 117, 118, 119, 120, 121, 122, 123, 124, 125, 126, 127, 128, 129, 130, 131, 132, 133, 134, 135, 136, 137, 138, 139, 140, 141, 142, 143, 144, 145, 146, 147, 148, 149, 150, 151, 152, 153, 154, 155, 156, 157, 158, 159, 160, 161, 162, 163, 164, 165, 166, 167, 168, 169, 170, 171, 172, 173, 174, 175, 176, 177, 178, 179, 180, 181, 182, 183, 184, 185, 186, 187, 188, 189, 190, 191, 192, 193, 194, 195, 196, 197, 198, 199, 200, 201, 202, 203, 204, 205, 206, 207, 208, 209, 210, 211, 212, 213, 214, 215, 216, 217, 218, 219, 220, 221, 222, 223, 224, 225, 226, 227, 228, 229, 230, 231, 232, 233, 234, 235, 236, 237, 238, 239, 240, 241, 242, 243, 244, 245, 246, 247, 248, 249, 250, 251, 252, 253, 254, 255, 722, 723, 724, 725, 726, 727, 728, 729, 730, 731, 732, 733, 734, 735, 778, 779, 780, 781, 782, 783, 784, 785, 786, 787, 788, 789, 790, 791, 792, 793, 794, 795, 796, 748, 749, 750, 751, 752, 753, 754, 736, 737, 738, 739, 740, 741, 742, 743, 744, 745, 746, 747, 755, 756, 757, 758, 759, 760, 761, 762, 763, 797, 798, 799, 800, 801, 802, 803, 804, 805, 806, 807, 808, 809, 810, 811, 812, 813] (by decide +kernel) (by decide +kernel)
set_option maxRecDepth 20000 in
theorem gX8_digest_X8_refresh : GoodIn wsX8_digest (wsV RX8 146 RX8 yX8_refresh wsX8_refresh) := goodIn_app (goodIn_of _ (by decide +kernel)) ggX8_digest_X8_refresh
set_option maxRecDepth 20000 in
theorem ggX8_digest_X8_many : GoodIn wsX8_digest wsX8_many := goodIn_ca (goodIn_r _ [259, 3, 4, 5, 6, 23, 260, 7, 8, 261, 262, 263, 16, 11, 12, 264, 265, 20, 266, 267, 268, 17, 18, 19, 21, 22, 24, 25, 26, 27, 28, 29, 30, 31, 32, 33, 34, 35, 36, 37, 38, 39, 40, 41, 42, 43, 44, 45, 46, 47, 48, 49, 50, 51, 52, 53, 54, 55, 56, 57, 58, 59, 60, 61, 62, 63, 64, 65, 66, 67, 68, 69, 70, 71, 72, 73, 74, 75, 76, 77, 78, 79, 80, 81, 82, 83, 84, 85, 86, 87, 88, 89, 90, 91, 92, 93, 94, 95, 96, 97, 98, 99, 100, 101, 102, 103, 104, 105, 106, 107, 108, 109, 110, 111, 112, 113, 114, 115, 116, 117, 118, 119, 120, 121, 122, 123, 124, 125, 126, 127, 128, 129, 130, 131, 132, 133, 134, 135, 136, 137, 138, 139, 140, 141, 142, 143, 144, 145, 146, 147, 148, 149, 150, 151, 152, 153, 154, 155, 156, 157, 158, 159, 160, 161, 162, 163, 164, 165, 166, 167, 168, 169, 170, 171, 172, 173, 174, 175, 176, 177, 178, 179, 180, 181, 182, 183, 184, 185, 186, 187, 188, 189, 190, 191, 192, 193, 194, 195, 196, 197, 198, 199, 200, 201, 202, 203, 204, 205, 206, 207, 208, 209, 210, 211, 212, 213, 214, 215, 216, 217, 218, 219, 220, 221, 222, 223, 224, 225, 226, 227, 228, 229, 230, 231, 232, 233, 234, 235, 236, 237, 238, 239, 240, 241, 242, 243, 244, 245, 246, 247, 248, 249, 250, 251, 252, 253, 254, 255, 269, 270, 271, 272, 273, 274, 275, 276, 277, 278, 279, 280, 281, 282, 283, 284, 285, 286, 287, 288, 289, 290, 291, 292, 293, 294, 295, 296, 297, 298, 299, 300, 301, 302, 303, 304, 305, 306, 307, 308, 309, 310, 311, 312, 313, 314, 315, 316, 317, 318, 319, 320, 321, 322, 323, 324, 325, 326, 327, 328, 329, 330, 331, 332, 333, 334, 335, 336, 337, 338, 339, 340, 341, 342, 343, 344, 345, 346, 347, 348, 349, 350, 351, 352, 353, 354, 355, 356, 357, 358, 359, 360, 361, 362, 363, 364, 365, 366, 367, 368, 369, 370, 371, 372, 373, 374, 375, 376, 377, 378, 379, 380, 381, 382, 383, 384, 385, 386, 387, 388, 389, 722, 723, 724, 725, 726, 727, 728, 729, 730, 731, 732, 733, 734, 735, 736, 737, 738, 739, 740, 741, 742, 743, 744, 745, 746, 747, 748, 749, 750, 751, 752, 753, 754, 778, 779, 780, 781, 782, 783, 784, 785, 786, 787, 788, 789, 790, 791, 792, 793, 794, 795, 796, 755, 756, 757, 758, 759, 760, 761, 762, 763, 797, 798, 799, 800, 801, 802, 803, 804, 805, 806, 807, 808, 809, 810, 811, 812, 813] (by decide +kernel) (by decide +kernel)) (goodIn_sub (fun _ h => List.mem_cons_of_mem _ (List.mem_append_left _ (List.mem_append_right _ h))) (by decide +kernel))
set_option maxRecDepth 20000 in
theorem gX8_digest_X8_many : GoodIn wsX8_digest (wsV RX8 311 RX8 yX8_many wsX8_many) := goodIn_app (goodIn_of _ (by decide +kernel)) ggX8_digest_X8_many
set_option maxRecDepth 20000 in
theorem ggX8_digest_X8_ofProcedure : GoodIn wsX8_digest wsX8_ofProcedure := goodIn_ca (goodIn_ca (goodIn_r _ [393, 3, 394, 395, 396, 397, 23, 398, 399, 400, 401, 402, 403, 20, 404, 405, 406, 407, 408, 409, 67, 410, 411, 264, 265, 266, 267, 268, 17, 18, 19, 21, 22, 7, 24, 25, 26, 27, 28, 29, 30, 31, 32, 33, 34, 35, 36, 37, 38, 39, 40, 41, 42, 43, 44, 45, 46, 47, 48, 49, 50, 51, 52, 53, 54, 55, 56, 57, 58, 59, 60, 61, 62, 63, 64, 65, 66, 68, 69, 70, 71, 72, 73, 74, 75, 76, 77, 78, 79, 80, 81, 82, 83, 84, 85, 86, 87, 88, 89, 90, 91, 92, 93, 94, 95, 96, 97, 98, 99, 100, 101, 102, 103, 104, 105, 106, 107, 108, 109, 110, 111, 112, 113, 114, 115, 116, 117, 118, 119, 120, 121, 122, 123, 124, 125, 126, 127, 128, 129, 130, 131, 132, 133, 134, 135, 136, 137, 138, 139, 140, 141, 142, 143, 144, 145, 146, 147, 148, 149, 150, 151, 152, 153, 154, 155, 156, 157, 158, 159, 160, 161, 162, 163, 164, 165, 166, 167, 168, 169, 170, 171, 172, 173, 174, 175, 176, 177, 178, 179, 180, 181, 182, 183, 184, 185, 186, 187, 188, 189, 190, 191, 192, 193, 194, 195, 196, 197, 198, 199, 200, 201, 202, 203, 204, 205, 206, 207, 208, 209, 210, 211, 212, 213, 214, 215, 216, 217, 218, 219, 220, 221, 222, 223, 224, 225, 226, 227, 228, 229, 230, 231, 232, 233, 234, 235, 236, 237, 238, 239, 240, 241, 242, 243, 244, 245, 246, 247, 248, 249, 250, 251, 252, 253, 254, 255, 412, 413, 414, 415, 8, 16, 416, 274, 275, 276, 277, 278, 279, 280, 281, 282, 283, 284, 285, 286, 287, 288, 289, 290, 291, 292, 293, 294, 295, 296, 297, 298, 299, 300, 301, 302, 303, 304, 305, 306, 307, 308, 309, 310, 311, 312, 313, 314, 315, 316, 317, 318, 319, 320, 321, 322, 323, 324, 325, 326, 327, 328, 329, 330, 331, 332, 333, 334, 335, 336, 337, 338, 339, 340, 341, 342, 343, 344, 345, 346, 347, 348, 349, 350, 351, 352, 353, 354, 355, 356, 357, 358, 359, 360, 361, 362, 363, 364, 365, 366, 367, 368, 369, 370, 371, 372, 373, 374, 375, 376, 377, 378, 379, 380, 381, 382, 383, 384, 385, 386, 387, 388, 389, 722, 723, 724, 725, 726, 727, 728, 729, 730, 731, 732, 733, 734, 735, 736, 737, 738, 739, 740, 741, 742, 743, 744, 745, 746, 747, 778, 779, 780, 781, 782, 783, 784, 785, 786, 787, 788, 789, 790, 791, 792, 793, 794, 795, 796, 748, 749, 750, 751, 752, 753, 754, 755, 756, 757, 758, 759, 760, 761, 762, 763, 797, 798, 799, 800, 801, 802, 803, 804, 805, 806, 807, 808, 809, 810, 811, 812, 813] (by decide +kernel) (by decide +kernel)) (goodIn_sub (fun _ h => List.mem_cons_of_mem _ (List.mem_append_right _ h)) (by decide +kernel))) (goodIn_sub (fun _ h => List.mem_cons_of_mem _ (List.mem_append_left _ (List.mem_append_right _ h))) (by decide +kernel))
set_option maxRecDepth 20000 in
theorem gX8_digest_X8_ofProcedure : GoodIn wsX8_digest (wsV RX8 314 RX8 yX8_ofProcedure wsX8_ofProcedure) := goodIn_app (goodIn_of _ (by decide +kernel)) ggX8_digest_X8_ofProcedure
set_option maxRecDepth 20000 in
theorem ggX8_digest_X8_hiddenBy : GoodIn wsX8_digest wsX8_hiddenBy := goodIn_ca (goodIn_ca (goodIn_r _ [420, 3, 23, 401, 402, 403, 20, 404, 405, 406, 407, 408, 409, 67, 410, 411, 421, 422, 423, 264, 265, 266, 267, 268, 17, 18, 19, 21, 22, 7, 24, 25, 26, 27, 28, 29, 30, 31, 32, 33, 34, 35, 36, 37, 38, 39, 40, 41, 42, 43, 44, 45, 46, 47, 48, 49, 50, 51, 52, 53, 54, 55, 56, 57, 58, 59, 60, 61, 62, 63, 64, 65, 66, 68, 69, 70, 71, 72, 73, 74, 75, 76, 77, 78, 79, 80, 81, 82, 83, 84, 85, 86, 87, 88, 89, 90, 91, 92, 93, 94, 95, 96, 97, 98, 99, 100, 101, 102, 103, 104, 105, 106, 107, 108, 109, 110, 111, 112, 113, 114, 115, 116, 117, 118, 119, 120, 121, 122, 123, 124, 125, 126, 127, 128, 129, 130, 131, 132, 133, 134, 135, 136, 137, 138, 139, 140, 141, 142, 143, 144, 145, 146, 147, 148, 149, 150, 151, 152, 153, 154, 155, 156, 157, 158, 159, 160, 161, 162, 163, 164, 165, 166, 167, 168, 169, 170, 171, 172, 173, 174, 175, 176, 177, 178, 179, 180, 181, 182, 183, 184, 185, 186, 187, 188, 189, 190, 191, 192, 193, 194, 195, 196, 197, 198, 199, 200, 201, 202, 203, 204, 205, 206, 207, 208, 209, 210, 211, 212, 213, 214, 215, 216, 217, 218, 219, 220, 221, 222, 223, 224, 225, 226, 227, 228, 229, 230, 231, 232, 233, 234, 235, 236, 237, 238, 239, 240, 241, 242, 243, 244, 245, 246, 247, 248, 249, 250, 251, 252, 253, 254, 255, 424, 425, 426, 427, 428, 722, 723, 724, 725, 726, 727, 728, 729, 730, 731, 732, 733, 734, 735, 736, 737, 738, 739, 740, 741, 742, 743, 744, 745, 746, 747, 778, 779, 780, 781, 782, 783, 784, 785, 786, 787, 788, 789, 790, 791, 792, 793, 794, 795, 796, 748, 749, 750, 751, 752, 753, 754, 755, 756, 757, 758, 759, 760, 761, 762, 763, 797, 798, 799, 800, 801, 802, 803, 804, 805, 806, 807, 808, 809, 810, 811, 812, 813] (by decide +kernel) (by decide +kernel)) (goodIn_sub (fun _ h => List.mem_cons_of_mem _ (List.mem_append_right _ h)) (by decide +kernel))) (goodIn_sub (fun _ h => List.mem_cons_of_mem _ (List.mem_append_left _ (List.mem_append_right _ h))) (by decide +kernel))
set_option maxRecDepth 20000 in
theorem gX8_digest_X8_hiddenBy : GoodIn wsX8_digest (wsV RX8 317 RX8 yX8_hiddenBy wsX8_hiddenBy) := goodIn_app (goodIn_of _ (by decide +kernel)) ggX8_digest_X8_hiddenBy
set_option maxRecDepth 20000 in
theorem ggX8_digest_X8_codeLength : GoodIn wsX8_digest wsX8_codeLength := goodIn_r _ [415, 7, 8, 24, 16, 416, 274, 275, 276, 253, 277, 255, 278, 279, 280, 281, 282, 283, 284, 285, 286, 287, 288, 289, 246, 247, 60, 248, 62, 63, 249, 290, 291, 292, 293, 294, 241, 242, 243, 244, 225, 295, 236, 237, 238, 239, 226, 296, 297, 298, 299, 300, 301, 302, 303, 304, 305, 306, 307, 308, 309, 310, 311, 312, 313, 314, 315, 316, 317, 318, 319, 320, 321, 322, 323, 324, 325, 326, 327, 328, 329, 330, 331, 332, 333, 334, 335, 336, 337, 338, 339, 340, 341, 342, 343, 344, 345, 346, 347, 348, 349, 350, 351, 352, 353, 354, 355, 356, 357, 358, 359, 360, 361, 362, 363, 29, 364, 31, 43, 36, 34, 365, 366, 367, 368, 369, 370, 371, 372, 373, 374, 375, 376, 377, 378, 379, 380, 381, 382, 383, 384, 385, 386, 387, 388, 389, 722, 723, 724, 725, 726, 727, 728, 729, 730, 731, 732, 733, 734, 735, 755, 756, 757, 758, 759, 760, 761, 762, 763, 797, 798, 799, 800, 801, 802, 803, 804, 805, 806, 807, 808, 809, 810, 811, 812, 813, 748, 749, 750, 751, 752, 753, 754, 778, 779, 780, 781, 782, 783, 784, 785, 786, 787, 788, 789, 790, 791, 792, 793, 794, 795, 796, 736, 737, 738, 739, 740, 741, 742, 743, 744, 745, 746, 747] (by decide +kernel) (by decide +kernel)
set_option maxRecDepth 20000 in
theorem gX8_digest_X8_codeLength : GoodIn wsX8_digest (wsV RX8 171 RX8 yX8_codeLength wsX8_codeLength) := goodIn_app (goodIn_of _ (by decide +kernel)) ggX8_digest_X8_codeLength
set_option maxRecDepth 20000 in
theorem ggX8_digest_X8_code : GoodIn wsX8_digest wsX8_code := goodIn_ca (goodIn_ca (goodIn_r _ [432, 24, 433, 434, 435, 436, 437, 401, 402, 403, 20, 404, 405, 406, 3, 407, 408, 409, 67, 410, 411, 17, 18, 19, 21, 22, 23, 7, 25, 26, 27, 28, 29, 30, 31, 32, 33, 34, 35, 36, 37, 38, 39, 40, 41, 42, 43, 44, 45, 46, 47, 48, 49, 50, 51, 52, 53, 54, 55, 56, 57, 58, 59, 60, 61, 62, 63, 64, 65, 66, 68, 69, 70, 71, 72, 73, 74, 75, 76, 77, 78, 79, 80, 81, 82, 83, 84, 85, 86, 87, 88, 89, 90, 91, 92, 93, 94, 95, 96, 97, 98, 99, 100, 101, 102, 103, 104, 105, 106, 107, 108, 109, 110, 111, 112, 113, 114, 115, 116, 117, 118, 119, 120, 121, 122, 123, 124, 125, 126, 127, 128, 129, 130, 131, 132, 133, 134, 135, 136, 137, 138, 139, 140, 141, 142, 143, 144, 145, 146, 147, 148, 149, 150, 151, 152, 153, 154, 155, 156, 157, 158, 159, 160, 161, 162, 163, 164, 165, 166, 167, 168, 169, 170, 171, 172, 173, 174, 175, 176, 177, 178, 179, 180, 181, 182, 183, 184, 185, 186, 187, 188, 189, 190, 191, 192, 193, 194, 195, 196, 197, 198, 199, 200, 201, 202, 203, 204, 205, 206, 207, 208, 209, 210, 211, 212, 213, 214, 215, 216, 217, 218, 219, 220, 221, 222, 223, 224, 225, 226, 227, 228, 229, 230, 231, 232, 233, 234, 235, 236, 237, 238, 239, 240, 241, 242, 243, 244, 245, 246, 247, 248, 249, 250, 251, 252, 253, 254, 255, 412, 413, 414, 415, 8, 16, 416, 274, 275, 276, 277, 278, 279, 280, 281, 282, 283, 284, 285, 286, 287, 288, 289, 290, 291, 292, 293, 294, 295, 296, 297, 298, 299, 300, 301, 302, 303, 304, 305, 306, 307, 308, 309, 310, 311, 312, 313, 314, 315, 316, 317, 318, 319, 320, 321, 322, 323, 324, 325, 326, 327, 328, 329, 330, 331, 332, 333, 334, 335, 336, 337, 338, 339, 340, 341, 342, 343, 344, 345, 346, 347, 348, 349, 350, 351, 352, 353, 354, 355, 356, 357, 358, 359, 360, 361, 362, 363, 364, 365, 366, 367, 368, 369, 370, 371, 372, 373, 374, 375, 376, 377, 378, 379, 380, 381, 382, 383, 384, 385, 386, 387, 388, 389, 438, 439, 440, 264, 265, 266, 267, 268, 722, 723, 724, 725, 726, 727, 728, 729, 730, 731, 732, 733, 734, 735, 797, 798, 799, 800, 801, 802, 803, 804, 805, 806, 807, 808, 809, 810, 811, 812, 813, 736, 737, 738, 739, 740, 741, 742, 743, 744, 745, 746, 747, 778, 779, 780, 781, 782, 783, 784, 785, 786, 787, 788, 789, 790, 791, 792, 793, 794, 795, 796, 748, 749, 750, 751, 752, 753, 754, 755, 756, 757, 758, 759, 760, 761, 762, 763] (by decide +kernel) (by decide +kernel)) (goodIn_sub (fun _ h => List.mem_cons_of_mem _ (List.mem_append_right _ h)) (by decide +kernel))) (goodIn_sub (fun _ h => List.mem_cons_of_mem _ (List.mem_append_left _ (List.mem_append_right _ h))) (by decide +kernel))
set_option maxRecDepth 20000 in
theorem gX8_digest_X8_code : GoodIn wsX8_digest (wsV RX8 320 RX8 yX8_code wsX8_code) := goodIn_app (goodIn_of _ (by decide +kernel)) ggX8_digest_X8_code
set_option maxRecDepth 20000 in
theorem ggX8_digest_X8_ofNode : GoodIn wsX8_digest wsX8_ofNode := goodIn_ca (goodIn_ca (goodIn_r _ [444, 5, 445, 446, 447, 448, 23, 449, 450, 451, 452, 453, 454, 455, 20, 456, 405, 406, 457, 458, 459, 60, 460, 461, 264, 265, 266, 267, 268, 17, 18, 19, 21, 22, 7, 24, 25, 26, 27, 28, 29, 30, 31, 32, 33, 34, 35, 36, 37, 38, 39, 40, 41, 42, 43, 44, 45, 46, 47, 48, 49, 50, 51, 52, 53, 54, 55, 56, 57, 58, 59, 61, 62, 63, 64, 65, 66, 67, 68, 69, 70, 71, 72, 73, 74, 75, 76, 77, 78, 79, 80, 81, 82, 83, 84, 85, 86, 87, 88, 89, 90, 91, 92, 93, 94, 95, 96, 97, 98, 99, 100, 101, 102, 103, 104, 105, 106, 107, 108, 109, 110, 111, 112, 113, 114, 115, 116, 117, 118, 119, 120, 121, 122, 123, 124, 125, 126, 127, 128, 129, 130, 131, 132, 133, 134, 135, 136, 137, 138, 139, 140, 141, 142, 143, 144, 145, 146, 147, 148, 149, 150, 151, 152, 153, 154, 155, 156, 157, 158, 159, 160, 161, 162, 163, 164, 165, 166, 167, 168, 169, 170, 171, 172, 173, 174, 175, 176, 177, 178, 179, 180, 181, 182, 183, 184, 185, 186, 187, 188, 189, 190, 191, 192, 193, 194, 195, 196, 197, 198, 199, 200, 201, 202, 203, 204, 205, 206, 207, 208, 209, 210, 211, 212, 213, 214, 215, 216, 217, 218, 219, 220, 221, 222, 223, 224, 225, 226, 227, 228, 229, 230, 231, 232, 233, 234, 235, 236, 237, 238, 239, 240, 241, 242, 243, 244, 245, 246, 247, 248, 249, 250, 251, 252, 253, 254, 255, 722, 723, 724, 725, 726, 727, 728, 729, 730, 731, 732, 733, 734, 735, 748, 749, 750, 751, 752, 753, 754, 778, 779, 780, 781, 782, 783, 784, 785, 786, 787, 788, 789, 790, 791, 792, 793, 794, 795, 796, 736, 737, 738, 739, 740, 741, 742, 743, 744, 745, 746, 747, 755, 756, 757, 758, 759, 760, 761, 762, 763, 797, 798, 799, 800, 801, 802, 803, 804, 805, 806, 807, 808, 809, 810, 811, 812, 813] (by decide +kernel) (by decide +kernel)) (goodIn_sub (fun _ h => List.mem_cons_of_mem _ (List.mem_append_right _ h)) (by decide +kernel))) (goodIn_sub (fun _ h => List.mem_cons_of_mem _ (List.mem_append_left _ (List.mem_append_right _ h))) (by decide +kernel))
set_option maxRecDepth 20000 in
theorem gX8_digest_X8_ofNode : GoodIn wsX8_digest (wsV RX8 323 RX8 yX8_ofNode wsX8_ofNode) := goodIn_app (goodIn_of _ (by decide +kernel)) ggX8_digest_X8_ofNode
set_option maxRecDepth 20000 in
theorem ggX8_digest_X8_fault : GoodIn wsX8_digest wsX8_fault := goodIn_ca (goodIn_ca (goodIn_r _ [465, 7, 8, 466, 467, 468, 17, 18, 19, 20, 21, 22, 23, 24, 25, 26, 27, 28, 29, 30, 31, 32, 33, 34, 35, 36, 37, 38, 39, 40, 41, 42, 43, 44, 45, 46, 47, 48, 49, 50, 51, 52, 53, 54, 55, 56, 57, 58, 59, 60, 61, 62, 63, 64, 65, 66, 67, 68, 69, 70, 71, 72, 73, 74, 75, 76, 77, 78, 79, 80, 81, 82, 83, 84, 85, 86, 87, 88, 89, 90, 91, 92, 93, 94, 95, 96, 97, 98, 99, 100, 101, 102, 103, 104, 105, 106, 107, 108, 109, 110, 111, 112, 113, 114, 115, 116, 117, 118, 119, 120, 121, 122, 123, 124, 125, 126, 127, 128, 129, 130, 131, 132, 133, 134, 135, 136, 137, 138, 139, 140, 141, 142, 143, 144, 145, 146, 147, 148, 149, 150, 151, 152, 153, 154, 155, 156, 157, 158, 159, 160, 161, 162, 163, 164, 165, 166, 167, 168, 169, 170, 171, 172, 173, 174, 175, 176, 177, 178, 179, 180, 181, 182, 183, 184, 185, 186, 187, 188, 189, 190, 191, 192, 193, 194, 195, 196, 197, 198, 199, 200, 201, 202, 203, 204, 205, 206, 207, 208, 209, 210, 211, 212, 213, 214, 215, 216, 217, 218, 219, 220, 221, 222, 223, 224, 225, 226, 227, 228, 229, 230, 231, 232, 233, 234, 235, 236, 237, 238, 239, 240, 241, 242, 243, 244, 245, 246, 247, 248, 249, 250, 251, 252, 253, 254, 255, 438, 439, 440, 405, 406, 264, 265, 266, 267, 268, 722, 723, 724, 725, 726, 727, 728, 729, 730, 731, 732, 733, 734, 735, 755, 756, 757, 758, 759, 760, 761, 762, 763, 778, 779, 780, 781, 782, 783, 784, 785, 786, 787, 788, 789, 790, 791, 792, 793, 794, 795, 796, 748, 749, 750, 751, 752, 753, 754, 736, 737, 738, 739, 740, 741, 742, 743, 744, 745, 746, 747, 797, 798, 799, 800, 801, 802, 803, 804, 805, 806, 807, 808, 809, 810, 811, 812, 813] (by decide +kernel) (by decide +kernel)) (goodIn_sub (fun _ h => List.mem_cons_of_mem _ (List.mem_append_right _ h)) (by decide +kernel))) (goodIn_sub (fun _ h => List.mem_cons_of_mem _ (List.mem_append_left _ (List.mem_append_right _ h))) (by decide +kernel))
set_option maxRecDepth 20000 in
theorem gX8_digest_X8_fault : GoodIn wsX8_digest (wsV RX8 326 RX8 yX8_fault wsX8_fault) := goodIn_app (goodIn_of _ (by decide +kernel)) ggX8_digest_X8_fault
set_option maxRecDepth 20000 in
theorem ggX8_digest_X8_ofRun : GoodIn wsX8_digest wsX8_ofRun := goodIn_ca (goodIn_r _ [472, 473, 9, 264, 265, 20, 266, 267, 268, 474, 475, 476, 477, 478, 479, 480, 481, 482, 483, 484, 485, 486, 487, 488, 722, 723, 724, 725, 726, 727, 728, 729, 730, 731, 732, 733, 734, 735, 764, 765, 766, 767, 768, 769, 770, 771, 772, 773, 774, 775, 776, 777] (by decide +kernel) (by decide +kernel)) (goodIn_sub (fun _ h => List.mem_cons_of_mem _ (List.mem_append_left _ (List.mem_append_right _ h))) (by decide +kernel))
set_option maxRecDepth 20000 in
theorem gX8_digest_X8_ofRun : GoodIn wsX8_digest (wsV RX8 329 RX8 yX8_ofRun wsX8_ofRun) := goodIn_app (goodIn_of _ (by decide +kernel)) ggX8_digest_X8_ofRun
set_option maxRecDepth 20000 in
theorem ggX8_digest_X6_kept : GoodIn wsX8_digest wsX6_kept := goodIn_r _ [492, 483, 764, 765, 766, 767, 768, 769, 770, 771, 772, 773, 774, 775, 776, 777] (by decide +kernel) (by decide +kernel)
set_option maxRecDepth 20000 in
theorem gX8_digest_X6_kept : GoodIn wsX8_digest (wsV RX8 263 RX6 yX6_kept wsX6_kept) := goodIn_app (goodIn_of _ (by decide +kernel)) ggX8_digest_X6_kept
set_option maxRecDepth 20000 in
theorem ggX8_digest_X8_printed : GoodIn wsX8_digest wsX8_printed := goodIn_ca (goodIn_ca (goodIn_r _ [496, 9, 497, 498, 499, 489, 490, 491, 477, 492, 483, 438, 439, 20, 440, 405, 406, 264, 265, 266, 267, 268, 722, 723, 724, 725, 726, 727, 728, 729, 730, 731, 732, 733, 734, 735, 764, 765, 766, 767, 768, 769, 770, 771, 772, 773, 774, 775, 776, 777] (by decide +kernel) (by decide +kernel)) (goodIn_sub (fun _ h => List.mem_cons_of_mem _ (List.mem_append_right _ h)) (by decide +kernel))) (goodIn_sub (fun _ h => List.mem_cons_of_mem _ (List.mem_append_left _ (List.mem_append_right _ h))) (by decide +kernel))
set_option maxRecDepth 20000 in
theorem gX8_digest_X8_printed : GoodIn wsX8_digest (wsV RX8 332 RX8 yX8_printed wsX8_printed) := goodIn_app (goodIn_of _ (by decide +kernel)) ggX8_digest_X8_printed
set_option maxRecDepth 20000 in
theorem ggX8_digest_X8_wholeCodeLength : GoodIn wsX8_digest wsX8_wholeCodeLength := goodIn_r _ [272, 7, 8, 24, 273, 274, 275, 276, 253, 277, 255, 278, 279, 280, 281, 282, 283, 284, 285, 286, 287, 288, 289, 246, 247, 60, 248, 62, 63, 249, 290, 291, 292, 293, 294, 241, 242, 243, 244, 225, 295, 236, 237, 238, 239, 226, 296, 297, 298, 299, 300, 301, 302, 303, 304, 305, 306, 307, 308, 309, 310, 311, 312, 313, 314, 315, 316, 317, 318, 319, 320, 321, 322, 323, 324, 325, 326, 327, 328, 329, 330, 331, 332, 333, 334, 335, 336, 337, 338, 339, 340, 341, 342, 343, 344, 345, 346, 347, 348, 349, 350, 351, 352, 353, 354, 355, 356, 357, 358, 359, 360, 361, 362, 363, 29, 364, 31, 43, 36, 34, 365, 366, 367, 368, 369, 370, 371, 372, 373, 374, 375, 376, 377, 378, 379, 380, 381, 382, 383, 384, 385, 386, 387, 388, 389, 722, 723, 724, 725, 726, 727, 728, 729, 730, 731, 732, 733, 734, 735, 755, 756, 757, 758, 759, 760, 761, 762, 763, 797, 798, 799, 800, 801, 802, 803, 804, 805, 806, 807, 808, 809, 810, 811, 812, 813, 748, 749, 750, 751, 752, 753, 754, 778, 779, 780, 781, 782, 783, 784, 785, 786, 787, 788, 789, 790, 791, 792, 793, 794, 795, 796, 736, 737, 738, 739, 740, 741, 742, 743, 744, 745, 746, 747] (by decide +kernel) (by decide +kernel)
set_option maxRecDepth 20000 in
theorem gX8_digest_X8_wholeCodeLength : GoodIn wsX8_digest (wsV RX8 295 RX8 yX8_wholeCodeLength wsX8_wholeCodeLength) := goodIn_app (goodIn_of _ (by decide +kernel)) ggX8_digest_X8_wholeCodeLength
set_option maxRecDepth 20000 in
theorem ggX8_digest_X3_execute : GoodIn wsX8_digest wsX3_execute := goodIn_r _ [504, 505, 506, 507, 508, 509, 510, 511, 512, 513, 514, 515, 275, 276, 253, 277, 255, 278, 279, 280, 281, 282, 283, 284, 285, 286, 287, 288, 289, 246, 247, 60, 248, 62, 63, 249, 290, 291, 292, 293, 294, 241, 242, 243, 244, 225, 295, 236, 237, 238, 239, 226, 296, 297, 298, 299, 300, 301, 302, 303, 304, 305, 306, 307, 308, 309, 310, 311, 312, 313, 314, 315, 316, 317, 318, 319, 320, 321, 322, 323, 324, 325, 326, 327, 328, 329, 330, 331, 332, 333, 334, 335, 336, 337, 338, 339, 340, 341, 342, 343, 344, 345, 346, 347, 348, 349, 350, 351, 352, 353, 354, 355, 356, 357, 358, 359, 360, 361, 362, 363, 29, 364, 31, 43, 36, 34, 365, 366, 367, 368, 369, 370, 371, 372, 373, 374, 375, 376, 377, 378, 379, 380, 381, 382, 383, 384, 385, 386, 387, 388, 389, 516, 517, 518, 503, 519, 520, 521, 522, 523, 524, 525, 526, 527, 528, 529, 530, 531, 532, 533, 534, 535, 477, 536, 479, 480, 481, 482, 483, 484, 485, 486, 487, 488, 537, 538, 539, 540, 541, 542, 543, 544, 545, 546, 547, 548, 549, 550, 109, 551, 552, 553, 554, 555, 556, 557, 558, 559, 560, 561, 562, 563, 564, 565, 566, 567, 568, 569, 570, 571, 572, 573, 574, 575, 576, 577, 578, 579, 580, 581, 582, 583, 584, 585, 586, 587, 588, 589, 590, 591, 592, 593, 594, 595, 163, 164, 165, 166, 167, 168, 596, 597, 598, 599, 600, 601, 602, 603, 604, 605, 606, 607, 608, 609, 610, 611, 612, 613, 614, 615, 616, 617, 618, 619, 620, 621, 622, 623, 624, 625, 626, 627, 628, 629, 630, 631, 632, 633, 634, 635, 636, 637, 638, 639, 640, 641, 642, 643, 644, 645, 646, 647, 648, 649, 650, 651, 652, 653, 654, 655, 656, 657, 658, 659, 660, 661, 662, 663, 664, 665, 408, 409, 67, 410, 411, 666, 222, 223, 224, 667, 668, 669, 670, 671, 672, 673, 674, 675, 676, 677, 678, 679, 680, 681, 682, 683, 684, 685, 686, 687, 688, 689, 690, 691, 692, 693, 694, 695, 696, 697, 698, 699, 700, 701, 702, 703, 704, 705, 706, 707, 708, 709, 710, 711, 712, 713, 714, 715, 716, 717, 718, 719, 720, 721, 99, 100, 814, 815, 816, 817, 818, 819, 820, 821, 822, 823, 824, 825, 826, 827, 828, 829, 830, 797, 798, 799, 800, 801, 802, 803, 804, 805, 806, 807, 808, 809, 810, 811, 812, 813, 748, 749, 750, 751, 752, 753, 754, 778, 779, 780, 781, 782, 783, 784, 785, 786, 787, 788, 789, 790, 791, 792, 793, 794, 795, 796, 736, 737, 738, 739, 740, 741, 742, 743, 744, 745, 746, 747, 831, 832, 833, 764, 765, 766, 767, 768, 769, 770, 771, 772, 773, 774, 775, 776, 777] (by decide +kernel) (by decide +kernel)
set_option maxRecDepth 20000 in
theorem gX8_digest_X3_execute : GoodIn wsX8_digest (wsV RX8 253 RX3 yX3_execute wsX3_execute) := goodIn_app (goodIn_of _ (by decide +kernel)) ggX8_digest_X3_execute
set_option maxRecDepth 20000 in
theorem ggX8_digest_X6_answer : GoodIn wsX8_digest wsX6_answer := goodIn_r _ [478, 479, 480, 481, 482, 483, 484, 485, 486, 487, 488, 764, 765, 766, 767, 768, 769, 770, 771, 772, 773, 774, 775, 776, 777] (by decide +kernel) (by decide +kernel)
set_option maxRecDepth 20000 in
theorem gX8_digest_X6_answer : GoodIn wsX8_digest (wsV RX8 260 RX6 yX6_answer wsX6_answer) := goodIn_app (goodIn_of _ (by decide +kernel)) ggX8_digest_X6_answer
theorem dX8_digest_0 : decode cX8_digest 0 = .ok (.aload_n 0, 1) := by decide +kernel
theorem dX8_digest_1 : decode cX8_digest 1 = .ok (.invokevirtual 146, 3) := by decide +kernel
theorem dX8_digest_4 : decode cX8_digest 4 = .ok (.ldc2_w 307, 3) := by decide +kernel
theorem dX8_digest_7 : decode cX8_digest 7 = .ok (.lstore_n 1, 1) := by decide +kernel
theorem dX8_digest_8 : decode cX8_digest 8 = .ok (.iconst 0, 1) := by decide +kernel
theorem dX8_digest_9 : decode cX8_digest 9 = .ok (.istore_n 3, 1) := by decide +kernel
theorem dX8_digest_10 : decode cX8_digest 10 = .ok (.iload_n 3, 1) := by decide +kernel
theorem dX8_digest_11 : decode cX8_digest 11 = .ok (.bipush 10, 2) := by decide +kernel
theorem dX8_digest_13 : decode cX8_digest 13 = .ok (.if_icmp .gt 22, 3) := by decide +kernel
theorem dX8_digest_16 : decode cX8_digest 16 = .ok (.lload_n 1, 1) := by decide +kernel
theorem dX8_digest_17 : decode cX8_digest 17 = .ok (.ldc2_w 309, 3) := by decide +kernel
theorem dX8_digest_20 : decode cX8_digest 20 = .ok (.lmul, 1) := by decide +kernel
theorem dX8_digest_21 : decode cX8_digest 21 = .ok (.aload_n 0, 1) := by decide +kernel
theorem dX8_digest_22 : decode cX8_digest 22 = .ok (.iload_n 3, 1) := by decide +kernel
theorem dX8_digest_23 : decode cX8_digest 23 = .ok (.invokevirtual 311, 3) := by decide +kernel
theorem dX8_digest_26 : decode cX8_digest 26 = .ok (.i2l, 1) := by decide +kernel
theorem dX8_digest_27 : decode cX8_digest 27 = .ok (.ladd, 1) := by decide +kernel
theorem dX8_digest_28 : decode cX8_digest 28 = .ok (.lstore_n 1, 1) := by decide +kernel
theorem dX8_digest_29 : decode cX8_digest 29 = .ok (.iinc 3 1, 3) := by decide +kernel
theorem dX8_digest_32 : decode cX8_digest 32 = .ok (.goto (-22), 3) := by decide +kernel
theorem dX8_digest_35 : decode cX8_digest 35 = .ok (.iconst 0, 1) := by decide +kernel
theorem dX8_digest_36 : decode cX8_digest 36 = .ok (.istore_n 3, 1) := by decide +kernel
theorem dX8_digest_37 : decode cX8_digest 37 = .ok (.iload_n 3, 1) := by decide +kernel
theorem dX8_digest_38 : decode cX8_digest 38 = .ok (.aload_n 0, 1) := by decide +kernel
theorem dX8_digest_39 : decode cX8_digest 39 = .ok (.getfield 12, 3) := by decide +kernel
theorem dX8_digest_42 : decode cX8_digest 42 = .ok (.getfield 99, 3) := by decide +kernel
theorem dX8_digest_45 : decode cX8_digest 45 = .ok (.if_icmp .ge 117, 3) := by decide +kernel
theorem dX8_digest_48 : decode cX8_digest 48 = .ok (.iconst 0, 1) := by decide +kernel
theorem dX8_digest_49 : decode cX8_digest 49 = .ok (.istore 4, 2) := by decide +kernel
theorem dX8_digest_51 : decode cX8_digest 51 = .ok (.iload 4, 2) := by decide +kernel
theorem dX8_digest_53 : decode cX8_digest 53 = .ok (.bipush 7, 2) := by decide +kernel
theorem dX8_digest_55 : decode cX8_digest 55 = .ok (.if_icmp .gt 24, 3) := by decide +kernel
theorem dX8_digest_58 : decode cX8_digest 58 = .ok (.lload_n 1, 1) := by decide +kernel
theorem dX8_digest_59 : decode cX8_digest 59 = .ok (.ldc2_w 309, 3) := by decide +kernel
theorem dX8_digest_62 : decode cX8_digest 62 = .ok (.lmul, 1) := by decide +kernel
theorem dX8_digest_63 : decode cX8_digest 63 = .ok (.aload_n 0, 1) := by decide +kernel
theorem dX8_digest_64 : decode cX8_digest 64 = .ok (.iload_n 3, 1) := by decide +kernel
theorem dX8_digest_65 : decode cX8_digest 65 = .ok (.iload 4, 2) := by decide +kernel
theorem dX8_digest_67 : decode cX8_digest 67 = .ok (.invokevirtual 314, 3) := by decide +kernel
theorem dX8_digest_70 : decode cX8_digest 70 = .ok (.i2l, 1) := by decide +kernel
theorem dX8_digest_71 : decode cX8_digest 71 = .ok (.ladd, 1) := by decide +kernel
theorem dX8_digest_72 : decode cX8_digest 72 = .ok (.lstore_n 1, 1) := by decide +kernel
theorem dX8_digest_73 : decode cX8_digest 73 = .ok (.iinc 4 1, 3) := by decide +kernel
theorem dX8_digest_76 : decode cX8_digest 76 = .ok (.goto (-25), 3) := by decide +kernel
theorem dX8_digest_79 : decode cX8_digest 79 = .ok (.iconst 0, 1) := by decide +kernel
theorem dX8_digest_80 : decode cX8_digest 80 = .ok (.istore 4, 2) := by decide +kernel
theorem dX8_digest_82 : decode cX8_digest 82 = .ok (.iload 4, 2) := by decide +kernel
theorem dX8_digest_84 : decode cX8_digest 84 = .ok (.bipush 7, 2) := by decide +kernel
theorem dX8_digest_86 : decode cX8_digest 86 = .ok (.if_icmp .gt 24, 3) := by decide +kernel
theorem dX8_digest_89 : decode cX8_digest 89 = .ok (.lload_n 1, 1) := by decide +kernel
theorem dX8_digest_90 : decode cX8_digest 90 = .ok (.ldc2_w 309, 3) := by decide +kernel
theorem dX8_digest_93 : decode cX8_digest 93 = .ok (.lmul, 1) := by decide +kernel
theorem dX8_digest_94 : decode cX8_digest 94 = .ok (.aload_n 0, 1) := by decide +kernel
theorem dX8_digest_95 : decode cX8_digest 95 = .ok (.iload_n 3, 1) := by decide +kernel
theorem dX8_digest_96 : decode cX8_digest 96 = .ok (.iload 4, 2) := by decide +kernel
theorem dX8_digest_98 : decode cX8_digest 98 = .ok (.invokevirtual 317, 3) := by decide +kernel
theorem dX8_digest_101 : decode cX8_digest 101 = .ok (.i2l, 1) := by decide +kernel
theorem dX8_digest_102 : decode cX8_digest 102 = .ok (.ladd, 1) := by decide +kernel
theorem dX8_digest_103 : decode cX8_digest 103 = .ok (.lstore_n 1, 1) := by decide +kernel
theorem dX8_digest_104 : decode cX8_digest 104 = .ok (.iinc 4 1, 3) := by decide +kernel
theorem dX8_digest_107 : decode cX8_digest 107 = .ok (.goto (-25), 3) := by decide +kernel
theorem dX8_digest_110 : decode cX8_digest 110 = .ok (.aload_n 0, 1) := by decide +kernel
theorem dX8_digest_111 : decode cX8_digest 111 = .ok (.iload_n 3, 1) := by decide +kernel
theorem dX8_digest_112 : decode cX8_digest 112 = .ok (.invokevirtual 171, 3) := by decide +kernel
theorem dX8_digest_115 : decode cX8_digest 115 = .ok (.istore 4, 2) := by decide +kernel
theorem dX8_digest_117 : decode cX8_digest 117 = .ok (.iconst 0, 1) := by decide +kernel
theorem dX8_digest_118 : decode cX8_digest 118 = .ok (.istore 5, 2) := by decide +kernel
theorem dX8_digest_120 : decode cX8_digest 120 = .ok (.iload 5, 2) := by decide +kernel
theorem dX8_digest_122 : decode cX8_digest 122 = .ok (.iload 4, 2) := by decide +kernel
theorem dX8_digest_124 : decode cX8_digest 124 = .ok (.iconst 4, 1) := by decide +kernel
theorem dX8_digest_125 : decode cX8_digest 125 = .ok (.imul, 1) := by decide +kernel
theorem dX8_digest_126 : decode cX8_digest 126 = .ok (.if_icmp .ge 30, 3) := by decide +kernel
theorem dX8_digest_129 : decode cX8_digest 129 = .ok (.lload_n 1, 1) := by decide +kernel
theorem dX8_digest_130 : decode cX8_digest 130 = .ok (.ldc2_w 309, 3) := by decide +kernel
theorem dX8_digest_133 : decode cX8_digest 133 = .ok (.lmul, 1) := by decide +kernel
theorem dX8_digest_134 : decode cX8_digest 134 = .ok (.aload_n 0, 1) := by decide +kernel
theorem dX8_digest_135 : decode cX8_digest 135 = .ok (.iload_n 3, 1) := by decide +kernel
theorem dX8_digest_136 : decode cX8_digest 136 = .ok (.iload 5, 2) := by decide +kernel
theorem dX8_digest_138 : decode cX8_digest 138 = .ok (.iconst 4, 1) := by decide +kernel
theorem dX8_digest_139 : decode cX8_digest 139 = .ok (.idiv, 1) := by decide +kernel
theorem dX8_digest_140 : decode cX8_digest 140 = .ok (.iload 5, 2) := by decide +kernel
theorem dX8_digest_142 : decode cX8_digest 142 = .ok (.iconst 4, 1) := by decide +kernel
theorem dX8_digest_143 : decode cX8_digest 143 = .ok (.irem, 1) := by decide +kernel
theorem dX8_digest_144 : decode cX8_digest 144 = .ok (.invokevirtual 320, 3) := by decide +kernel
theorem dX8_digest_147 : decode cX8_digest 147 = .ok (.i2l, 1) := by decide +kernel
theorem dX8_digest_148 : decode cX8_digest 148 = .ok (.ladd, 1) := by decide +kernel
theorem dX8_digest_149 : decode cX8_digest 149 = .ok (.lstore_n 1, 1) := by decide +kernel
theorem dX8_digest_150 : decode cX8_digest 150 = .ok (.iinc 5 1, 3) := by decide +kernel
theorem dX8_digest_153 : decode cX8_digest 153 = .ok (.goto (-33), 3) := by decide +kernel
theorem dX8_digest_156 : decode cX8_digest 156 = .ok (.iinc 3 1, 3) := by decide +kernel
theorem dX8_digest_159 : decode cX8_digest 159 = .ok (.goto (-122), 3) := by decide +kernel
theorem dX8_digest_162 : decode cX8_digest 162 = .ok (.iconst 0, 1) := by decide +kernel
theorem dX8_digest_163 : decode cX8_digest 163 = .ok (.istore_n 3, 1) := by decide +kernel
theorem dX8_digest_164 : decode cX8_digest 164 = .ok (.iload_n 3, 1) := by decide +kernel
theorem dX8_digest_165 : decode cX8_digest 165 = .ok (.aload_n 0, 1) := by decide +kernel
theorem dX8_digest_166 : decode cX8_digest 166 = .ok (.getfield 19, 3) := by decide +kernel
theorem dX8_digest_169 : decode cX8_digest 169 = .ok (.getfield 179, 3) := by decide +kernel
theorem dX8_digest_172 : decode cX8_digest 172 = .ok (.iconst 4, 1) := by decide +kernel
theorem dX8_digest_173 : decode cX8_digest 173 = .ok (.imul, 1) := by decide +kernel
theorem dX8_digest_174 : decode cX8_digest 174 = .ok (.if_icmp .ge 29, 3) := by decide +kernel
theorem dX8_digest_177 : decode cX8_digest 177 = .ok (.lload_n 1, 1) := by decide +kernel
theorem dX8_digest_178 : decode cX8_digest 178 = .ok (.ldc2_w 309, 3) := by decide +kernel
theorem dX8_digest_181 : decode cX8_digest 181 = .ok (.lmul, 1) := by decide +kernel
theorem dX8_digest_182 : decode cX8_digest 182 = .ok (.aload_n 0, 1) := by decide +kernel
theorem dX8_digest_183 : decode cX8_digest 183 = .ok (.iload_n 3, 1) := by decide +kernel
theorem dX8_digest_184 : decode cX8_digest 184 = .ok (.iconst 4, 1) := by decide +kernel
theorem dX8_digest_185 : decode cX8_digest 185 = .ok (.idiv, 1) := by decide +kernel
theorem dX8_digest_186 : decode cX8_digest 186 = .ok (.iconst 4, 1) := by decide +kernel
theorem dX8_digest_187 : decode cX8_digest 187 = .ok (.iload_n 3, 1) := by decide +kernel
theorem dX8_digest_188 : decode cX8_digest 188 = .ok (.iconst 4, 1) := by decide +kernel
theorem dX8_digest_189 : decode cX8_digest 189 = .ok (.irem, 1) := by decide +kernel
theorem dX8_digest_190 : decode cX8_digest 190 = .ok (.iadd, 1) := by decide +kernel
theorem dX8_digest_191 : decode cX8_digest 191 = .ok (.invokevirtual 323, 3) := by decide +kernel
theorem dX8_digest_194 : decode cX8_digest 194 = .ok (.i2l, 1) := by decide +kernel
theorem dX8_digest_195 : decode cX8_digest 195 = .ok (.ladd, 1) := by decide +kernel
theorem dX8_digest_196 : decode cX8_digest 196 = .ok (.lstore_n 1, 1) := by decide +kernel
theorem dX8_digest_197 : decode cX8_digest 197 = .ok (.iinc 3 1, 3) := by decide +kernel
theorem dX8_digest_200 : decode cX8_digest 200 = .ok (.goto (-36), 3) := by decide +kernel
theorem dX8_digest_203 : decode cX8_digest 203 = .ok (.iconst 0, 1) := by decide +kernel
theorem dX8_digest_204 : decode cX8_digest 204 = .ok (.istore_n 3, 1) := by decide +kernel
theorem dX8_digest_205 : decode cX8_digest 205 = .ok (.iload_n 3, 1) := by decide +kernel
theorem dX8_digest_206 : decode cX8_digest 206 = .ok (.aload_n 0, 1) := by decide +kernel
theorem dX8_digest_207 : decode cX8_digest 207 = .ok (.getfield 37, 3) := by decide +kernel
theorem dX8_digest_210 : decode cX8_digest 210 = .ok (.getfield 219, 3) := by decide +kernel
theorem dX8_digest_213 : decode cX8_digest 213 = .ok (.iconst 3, 1) := by decide +kernel
theorem dX8_digest_214 : decode cX8_digest 214 = .ok (.imul, 1) := by decide +kernel
theorem dX8_digest_215 : decode cX8_digest 215 = .ok (.if_icmp .ge 27, 3) := by decide +kernel
theorem dX8_digest_218 : decode cX8_digest 218 = .ok (.lload_n 1, 1) := by decide +kernel
theorem dX8_digest_219 : decode cX8_digest 219 = .ok (.ldc2_w 309, 3) := by decide +kernel
theorem dX8_digest_222 : decode cX8_digest 222 = .ok (.lmul, 1) := by decide +kernel
theorem dX8_digest_223 : decode cX8_digest 223 = .ok (.aload_n 0, 1) := by decide +kernel
theorem dX8_digest_224 : decode cX8_digest 224 = .ok (.iload_n 3, 1) := by decide +kernel
theorem dX8_digest_225 : decode cX8_digest 225 = .ok (.iconst 3, 1) := by decide +kernel
theorem dX8_digest_226 : decode cX8_digest 226 = .ok (.idiv, 1) := by decide +kernel
theorem dX8_digest_227 : decode cX8_digest 227 = .ok (.iload_n 3, 1) := by decide +kernel
theorem dX8_digest_228 : decode cX8_digest 228 = .ok (.iconst 3, 1) := by decide +kernel
theorem dX8_digest_229 : decode cX8_digest 229 = .ok (.irem, 1) := by decide +kernel
theorem dX8_digest_230 : decode cX8_digest 230 = .ok (.invokevirtual 326, 3) := by decide +kernel
theorem dX8_digest_233 : decode cX8_digest 233 = .ok (.i2l, 1) := by decide +kernel
theorem dX8_digest_234 : decode cX8_digest 234 = .ok (.ladd, 1) := by decide +kernel
theorem dX8_digest_235 : decode cX8_digest 235 = .ok (.lstore_n 1, 1) := by decide +kernel
theorem dX8_digest_236 : decode cX8_digest 236 = .ok (.iinc 3 1, 3) := by decide +kernel
theorem dX8_digest_239 : decode cX8_digest 239 = .ok (.goto (-34), 3) := by decide +kernel
theorem dX8_digest_242 : decode cX8_digest 242 = .ok (.iconst 0, 1) := by decide +kernel
theorem dX8_digest_243 : decode cX8_digest 243 = .ok (.istore_n 3, 1) := by decide +kernel
theorem dX8_digest_244 : decode cX8_digest 244 = .ok (.iload_n 3, 1) := by decide +kernel
theorem dX8_digest_245 : decode cX8_digest 245 = .ok (.bipush 10, 2) := by decide +kernel
theorem dX8_digest_247 : decode cX8_digest 247 = .ok (.if_icmp .gt 22, 3) := by decide +kernel
theorem dX8_digest_250 : decode cX8_digest 250 = .ok (.lload_n 1, 1) := by decide +kernel
theorem dX8_digest_251 : decode cX8_digest 251 = .ok (.ldc2_w 309, 3) := by decide +kernel
theorem dX8_digest_254 : decode cX8_digest 254 = .ok (.lmul, 1) := by decide +kernel
theorem dX8_digest_255 : decode cX8_digest 255 = .ok (.aload_n 0, 1) := by decide +kernel
theorem dX8_digest_256 : decode cX8_digest 256 = .ok (.iload_n 3, 1) := by decide +kernel
theorem dX8_digest_257 : decode cX8_digest 257 = .ok (.invokevirtual 329, 3) := by decide +kernel
theorem dX8_digest_260 : decode cX8_digest 260 = .ok (.i2l, 1) := by decide +kernel
theorem dX8_digest_261 : decode cX8_digest 261 = .ok (.ladd, 1) := by decide +kernel
theorem dX8_digest_262 : decode cX8_digest 262 = .ok (.lstore_n 1, 1) := by decide +kernel
theorem dX8_digest_263 : decode cX8_digest 263 = .ok (.iinc 3 1, 3) := by decide +kernel
theorem dX8_digest_266 : decode cX8_digest 266 = .ok (.goto (-22), 3) := by decide +kernel
theorem dX8_digest_269 : decode cX8_digest 269 = .ok (.iconst 0, 1) := by decide +kernel
theorem dX8_digest_270 : decode cX8_digest 270 = .ok (.istore_n 3, 1) := by decide +kernel
theorem dX8_digest_271 : decode cX8_digest 271 = .ok (.iload_n 3, 1) := by decide +kernel
theorem dX8_digest_272 : decode cX8_digest 272 = .ok (.aload_n 0, 1) := by decide +kernel
theorem dX8_digest_273 : decode cX8_digest 273 = .ok (.getfield 63, 3) := by decide +kernel
theorem dX8_digest_276 : decode cX8_digest 276 = .ok (.invokevirtual 263, 3) := by decide +kernel
theorem dX8_digest_279 : decode cX8_digest 279 = .ok (.iconst 3, 1) := by decide +kernel
theorem dX8_digest_280 : decode cX8_digest 280 = .ok (.imul, 1) := by decide +kernel
theorem dX8_digest_281 : decode cX8_digest 281 = .ok (.if_icmp .ge 27, 3) := by decide +kernel
theorem dX8_digest_284 : decode cX8_digest 284 = .ok (.lload_n 1, 1) := by decide +kernel
theorem dX8_digest_285 : decode cX8_digest 285 = .ok (.ldc2_w 309, 3) := by decide +kernel
theorem dX8_digest_288 : decode cX8_digest 288 = .ok (.lmul, 1) := by decide +kernel
theorem dX8_digest_289 : decode cX8_digest 289 = .ok (.aload_n 0, 1) := by decide +kernel
theorem dX8_digest_290 : decode cX8_digest 290 = .ok (.iload_n 3, 1) := by decide +kernel
theorem dX8_digest_291 : decode cX8_digest 291 = .ok (.iconst 3, 1) := by decide +kernel
theorem dX8_digest_292 : decode cX8_digest 292 = .ok (.idiv, 1) := by decide +kernel
theorem dX8_digest_293 : decode cX8_digest 293 = .ok (.iload_n 3, 1) := by decide +kernel
theorem dX8_digest_294 : decode cX8_digest 294 = .ok (.iconst 3, 1) := by decide +kernel
theorem dX8_digest_295 : decode cX8_digest 295 = .ok (.irem, 1) := by decide +kernel
theorem dX8_digest_296 : decode cX8_digest 296 = .ok (.invokevirtual 332, 3) := by decide +kernel
theorem dX8_digest_299 : decode cX8_digest 299 = .ok (.i2l, 1) := by decide +kernel
theorem dX8_digest_300 : decode cX8_digest 300 = .ok (.ladd, 1) := by decide +kernel
theorem dX8_digest_301 : decode cX8_digest 301 = .ok (.lstore_n 1, 1) := by decide +kernel
theorem dX8_digest_302 : decode cX8_digest 302 = .ok (.iinc 3 1, 3) := by decide +kernel
theorem dX8_digest_305 : decode cX8_digest 305 = .ok (.goto (-34), 3) := by decide +kernel
theorem dX8_digest_308 : decode cX8_digest 308 = .ok (.aload_n 0, 1) := by decide +kernel
theorem dX8_digest_309 : decode cX8_digest 309 = .ok (.getfield 37, 3) := by decide +kernel
theorem dX8_digest_312 : decode cX8_digest 312 = .ok (.getfield 219, 3) := by decide +kernel
theorem dX8_digest_315 : decode cX8_digest 315 = .ok (.ifCond .eq 5, 3) := by decide +kernel
theorem dX8_digest_318 : decode cX8_digest 318 = .ok (.lload_n 1, 1) := by decide +kernel
theorem dX8_digest_319 : decode cX8_digest 319 = .ok (.lreturn, 1) := by decide +kernel
theorem dX8_digest_320 : decode cX8_digest 320 = .ok (.lload_n 1, 1) := by decide +kernel
theorem dX8_digest_321 : decode cX8_digest 321 = .ok (.ldc2_w 309, 3) := by decide +kernel
theorem dX8_digest_324 : decode cX8_digest 324 = .ok (.lmul, 1) := by decide +kernel
theorem dX8_digest_325 : decode cX8_digest 325 = .ok (.aload_n 0, 1) := by decide +kernel
theorem dX8_digest_326 : decode cX8_digest 326 = .ok (.iconst 0, 1) := by decide +kernel
theorem dX8_digest_327 : decode cX8_digest 327 = .ok (.invokevirtual 295, 3) := by decide +kernel
theorem dX8_digest_330 : decode cX8_digest 330 = .ok (.i2l, 1) := by decide +kernel
theorem dX8_digest_331 : decode cX8_digest 331 = .ok (.ladd, 1) := by decide +kernel
theorem dX8_digest_332 : decode cX8_digest 332 = .ok (.lstore_n 1, 1) := by decide +kernel
theorem dX8_digest_333 : decode cX8_digest 333 = .ok (.aload_n 0, 1) := by decide +kernel
theorem dX8_digest_334 : decode cX8_digest 334 = .ok (.getfield 56, 3) := by decide +kernel
theorem dX8_digest_337 : decode cX8_digest 337 = .ok (.iconst 0, 1) := by decide +kernel
theorem dX8_digest_338 : decode cX8_digest 338 = .ok (.aload_n 0, 1) := by decide +kernel
theorem dX8_digest_339 : decode cX8_digest 339 = .ok (.getfield 78, 3) := by decide +kernel
theorem dX8_digest_342 : decode cX8_digest 342 = .ok (.aload_n 0, 1) := by decide +kernel
theorem dX8_digest_343 : decode cX8_digest 343 = .ok (.getfield 81, 3) := by decide +kernel
theorem dX8_digest_346 : decode cX8_digest 346 = .ok (.aload_n 0, 1) := by decide +kernel
theorem dX8_digest_347 : decode cX8_digest 347 = .ok (.getfield 67, 3) := by decide +kernel
theorem dX8_digest_350 : decode cX8_digest 350 = .ok (.invokevirtual 253, 3) := by decide +kernel
theorem dX8_digest_353 : decode cX8_digest 353 = .ok (.lload_n 1, 1) := by decide +kernel
theorem dX8_digest_354 : decode cX8_digest 354 = .ok (.ldc2_w 309, 3) := by decide +kernel
theorem dX8_digest_357 : decode cX8_digest 357 = .ok (.lmul, 1) := by decide +kernel
theorem dX8_digest_358 : decode cX8_digest 358 = .ok (.aload_n 0, 1) := by decide +kernel
theorem dX8_digest_359 : decode cX8_digest 359 = .ok (.getfield 67, 3) := by decide +kernel
theorem dX8_digest_362 : decode cX8_digest 362 = .ok (.getfield 298, 3) := by decide +kernel
theorem dX8_digest_365 : decode cX8_digest 365 = .ok (.i2l, 1) := by decide +kernel
theorem dX8_digest_366 : decode cX8_digest 366 = .ok (.ladd, 1) := by decide +kernel
theorem dX8_digest_367 : decode cX8_digest 367 = .ok (.lstore_n 1, 1) := by decide +kernel
theorem dX8_digest_368 : decode cX8_digest 368 = .ok (.lload_n 1, 1) := by decide +kernel
theorem dX8_digest_369 : decode cX8_digest 369 = .ok (.ldc2_w 309, 3) := by decide +kernel
theorem dX8_digest_372 : decode cX8_digest 372 = .ok (.lmul, 1) := by decide +kernel
theorem dX8_digest_373 : decode cX8_digest 373 = .ok (.aload_n 0, 1) := by decide +kernel
theorem dX8_digest_374 : decode cX8_digest 374 = .ok (.getfield 67, 3) := by decide +kernel
theorem dX8_digest_377 : decode cX8_digest 377 = .ok (.getfield 301, 3) := by decide +kernel
theorem dX8_digest_380 : decode cX8_digest 380 = .ok (.i2l, 1) := by decide +kernel
theorem dX8_digest_381 : decode cX8_digest 381 = .ok (.ladd, 1) := by decide +kernel
theorem dX8_digest_382 : decode cX8_digest 382 = .ok (.lstore_n 1, 1) := by decide +kernel
theorem dX8_digest_383 : decode cX8_digest 383 = .ok (.aload_n 0, 1) := by decide +kernel
theorem dX8_digest_384 : decode cX8_digest 384 = .ok (.getfield 56, 3) := by decide +kernel
theorem dX8_digest_387 : decode cX8_digest 387 = .ok (.aload_n 0, 1) := by decide +kernel
theorem dX8_digest_388 : decode cX8_digest 388 = .ok (.getfield 74, 3) := by decide +kernel
theorem dX8_digest_391 : decode cX8_digest 391 = .ok (.sipush 200, 3) := by decide +kernel
theorem dX8_digest_394 : decode cX8_digest 394 = .ok (.bipush 10, 2) := by decide +kernel
theorem dX8_digest_396 : decode cX8_digest 396 = .ok (.aload_n 0, 1) := by decide +kernel
theorem dX8_digest_397 : decode cX8_digest 397 = .ok (.getfield 67, 3) := by decide +kernel
theorem dX8_digest_400 : decode cX8_digest 400 = .ok (.invokevirtual 253, 3) := by decide +kernel
theorem dX8_digest_403 : decode cX8_digest 403 = .ok (.iconst 0, 1) := by decide +kernel
theorem dX8_digest_404 : decode cX8_digest 404 = .ok (.istore_n 3, 1) := by decide +kernel
theorem dX8_digest_405 : decode cX8_digest 405 = .ok (.iload_n 3, 1) := by decide +kernel
theorem dX8_digest_406 : decode cX8_digest 406 = .ok (.bipush 9, 2) := by decide +kernel
theorem dX8_digest_408 : decode cX8_digest 408 = .ok (.if_icmp .gt 25, 3) := by decide +kernel
theorem dX8_digest_411 : decode cX8_digest 411 = .ok (.lload_n 1, 1) := by decide +kernel
theorem dX8_digest_412 : decode cX8_digest 412 = .ok (.ldc2_w 309, 3) := by decide +kernel
theorem dX8_digest_415 : decode cX8_digest 415 = .ok (.lmul, 1) := by decide +kernel
theorem dX8_digest_416 : decode cX8_digest 416 = .ok (.aload_n 0, 1) := by decide +kernel
theorem dX8_digest_417 : decode cX8_digest 417 = .ok (.getfield 67, 3) := by decide +kernel
theorem dX8_digest_420 : decode cX8_digest 420 = .ok (.iload_n 3, 1) := by decide +kernel
theorem dX8_digest_421 : decode cX8_digest 421 = .ok (.invokevirtual 260, 3) := by decide +kernel
theorem dX8_digest_424 : decode cX8_digest 424 = .ok (.i2l, 1) := by decide +kernel
theorem dX8_digest_425 : decode cX8_digest 425 = .ok (.ladd, 1) := by decide +kernel
theorem dX8_digest_426 : decode cX8_digest 426 = .ok (.lstore_n 1, 1) := by decide +kernel
theorem dX8_digest_427 : decode cX8_digest 427 = .ok (.iinc 3 1, 3) := by decide +kernel
theorem dX8_digest_430 : decode cX8_digest 430 = .ok (.goto (-25), 3) := by decide +kernel
theorem dX8_digest_433 : decode cX8_digest 433 = .ok (.lload_n 1, 1) := by decide +kernel
theorem dX8_digest_434 : decode cX8_digest 434 = .ok (.lreturn, 1) := by decide +kernel
set_option maxRecDepth 20000 in
theorem ggX8_refresh_X4_find : GoodIn wsX8_refresh wsX4_find := goodIn_r _ [10, 11, 12, 13, 14, 15, 16, 17, 18, 19, 9, 20, 21, 22, 23, 24, 25, 26, 27, 28, 29, 30, 31, 32, 33, 34, 35, 36, 37, 38, 39, 40, 41, 42, 43, 44, 45, 46, 47, 48, 49, 50, 51, 52, 53, 54, 55, 56, 57, 58, 59, 60, 61, 62, 63, 64, 65, 66, 67, 68, 69, 70, 71, 72, 73, 74, 75, 76, 77, 78, 79, 80, 81, 82, 83, 84, 85, 86, 87, 88, 89, 90, 91, 92, 93, 94, 95, 96, 97, 98, 99, 100, 101, 102, 103, 104, 105, 106, 107, 108, 109, 110, 111, 112, 113, 114, 115, 116, 117, 118, 119, 120, 121, 122, 123, 124, 125, 126, 127, 128, 129, 130, 131, 132, 133, 134, 135, 136, 137, 138, 139, 140, 141, 142, 143, 144, 145, 146, 147, 148, 250, 251, 252, 253, 254, 255, 256, 257, 258, 259, 260, 261, 262, 263, 264, 265, 266, 267, 268, 269, 270, 271, 272, 273, 274, 275, 276, 277, 278, 279, 280, 281, 282, 283, 284, 285, 286, 287] (by decide +kernel) (by decide +kernel)
set_option maxRecDepth 20000 in
theorem gX8_refresh_X4_find : GoodIn wsX8_refresh (wsV RX8 335 RX4 yX4_find wsX4_find) := goodIn_app (goodIn_of _ (by decide +kernel)) ggX8_refresh_X4_find
set_option maxRecDepth 20000 in
theorem ggX8_refresh_X2_find : GoodIn wsX8_refresh wsX2_find := goodIn_r _ [153, 154, 155, 156, 157, 158, 159, 160, 161, 162, 163, 152, 164, 165, 166, 167, 168, 169, 170, 171, 172, 173, 174, 175, 176, 177, 178, 179, 180, 38, 39, 40, 41, 42, 43, 181, 182, 183, 184, 185, 186, 187, 188, 189, 190, 191, 192, 110, 111, 47, 112, 113, 114, 193, 194, 195, 196, 197, 198, 199, 200, 201, 202, 203, 204, 205, 206, 207, 208, 209, 210, 211, 212, 213, 214, 215, 216, 217, 218, 219, 220, 221, 222, 223, 224, 225, 226, 227, 228, 229, 288, 289, 290, 291, 292, 293, 294, 295, 296, 276, 277, 278, 279, 280, 281, 282, 283, 284, 285, 286, 287, 269, 270, 271, 272, 273, 274, 275, 250, 251, 252, 253, 254, 255, 256, 257, 258, 259, 260, 261, 262, 263, 264, 265, 266, 267, 268] (by decide +kernel) (by decide +kernel)
set_option maxRecDepth 20000 in
theorem gX8_refresh_X2_find : GoodIn wsX8_refresh (wsV RX8 338 RX2 yX2_find wsX2_find) := goodIn_app (goodIn_of _ (by decide +kernel)) ggX8_refresh_X2_find
set_option maxRecDepth 20000 in
theorem ggX8_refresh_X0_forget : GoodIn wsX8_refresh wsX0_forget := goodIn_r _ [234, 235, 297, 298, 299, 300, 301, 302, 303, 304, 305, 306, 307, 308, 309, 310, 311, 312, 313] (by decide +kernel) (by decide +kernel)
set_option maxRecDepth 20000 in
theorem gX8_refresh_X0_forget : GoodIn wsX8_refresh (wsV RX8 339 RX0 yX0_forget wsX0_forget) := goodIn_app (goodIn_of _ (by decide +kernel)) ggX8_refresh_X0_forget
theorem dX8_refresh_0 : decode cX8_refresh 0 = .ok (.aload_n 0, 1) := by decide +kernel
theorem dX8_refresh_1 : decode cX8_refresh 1 = .ok (.getfield 70, 3) := by decide +kernel
theorem dX8_refresh_4 : decode cX8_refresh 4 = .ok (.ifCond .eq 36, 3) := by decide +kernel
theorem dX8_refresh_7 : decode cX8_refresh 7 = .ok (.aload_n 0, 1) := by decide +kernel
theorem dX8_refresh_8 : decode cX8_refresh 8 = .ok (.getfield 28, 3) := by decide +kernel
theorem dX8_refresh_11 : decode cX8_refresh 11 = .ok (.invokevirtual 335, 3) := by decide +kernel
theorem dX8_refresh_14 : decode cX8_refresh 14 = .ok (.aload_n 0, 1) := by decide +kernel
theorem dX8_refresh_15 : decode cX8_refresh 15 = .ok (.getfield 37, 3) := by decide +kernel
theorem dX8_refresh_18 : decode cX8_refresh 18 = .ok (.invokevirtual 338, 3) := by decide +kernel
theorem dX8_refresh_21 : decode cX8_refresh 21 = .ok (.aload_n 0, 1) := by decide +kernel
theorem dX8_refresh_22 : decode cX8_refresh 22 = .ok (.getfield 44, 3) := by decide +kernel
theorem dX8_refresh_25 : decode cX8_refresh 25 = .ok (.invokevirtual 339, 3) := by decide +kernel
theorem dX8_refresh_28 : decode cX8_refresh 28 = .ok (.aload_n 0, 1) := by decide +kernel
theorem dX8_refresh_29 : decode cX8_refresh 29 = .ok (.getfield 48, 3) := by decide +kernel
theorem dX8_refresh_32 : decode cX8_refresh 32 = .ok (.invokevirtual 339, 3) := by decide +kernel
theorem dX8_refresh_35 : decode cX8_refresh 35 = .ok (.aload_n 0, 1) := by decide +kernel
theorem dX8_refresh_36 : decode cX8_refresh 36 = .ok (.iconst 0, 1) := by decide +kernel
theorem dX8_refresh_37 : decode cX8_refresh 37 = .ok (.putfield 70, 3) := by decide +kernel
theorem dX8_refresh_40 : decode cX8_refresh 40 = .ok (.return_, 1) := by decide +kernel
set_option maxRecDepth 20000 in
theorem ggX8_codeLength_X0_layOut : GoodIn wsX8_codeLength wsX0_layOut := goodIn_r _ [10, 11, 12, 13, 14, 15, 16, 17, 18, 19, 20, 9, 21, 22, 23, 24, 25, 26, 27, 28, 29, 30, 31, 32, 33, 34, 35, 36, 37, 38, 39, 40, 41, 42, 43, 44, 45, 46, 47, 48, 49, 50, 51, 52, 53, 54, 55, 56, 57, 58, 59, 60, 61, 62, 63, 64, 65, 66, 67, 68, 69, 70, 71, 72, 73, 74, 75, 76, 77, 78, 79, 80, 81, 82, 83, 84, 85, 86, 87, 88, 89, 90, 91, 92, 93, 94, 95, 96, 97, 98, 99, 100, 101, 102, 103, 104, 105, 106, 107, 108, 109, 110, 111, 112, 113, 114, 115, 116, 117, 118, 119, 120, 121, 122, 123, 124, 125, 126, 127, 128, 129, 130, 131, 132, 133, 134, 135, 136, 137, 138, 139, 140, 141, 142, 143, 144, 145, 169, 170, 171, 172, 173, 174, 175, 176, 177, 178, 179, 180, 181, 182, 183, 184, 185, 186, 187, 188, 189, 190, 191, 192, 193, 194, 195, 196, 197, 198, 199, 200, 201, 202, 203, 204, 205, 206, 207, 208, 209, 210, 211, 212, 213, 214, 215, 216, 217, 218, 219, 220, 221, 222, 223] (by decide +kernel) (by decide +kernel)
set_option maxRecDepth 20000 in
theorem gX8_codeLength_X0_layOut : GoodIn wsX8_codeLength (wsV RX8 342 RX0 yX0_layOut wsX0_layOut) := goodIn_app (goodIn_of _ (by decide +kernel)) ggX8_codeLength_X0_layOut
theorem dX8_codeLength_0 : decode cX8_codeLength 0 = .ok (.aload_n 0, 1) := by decide +kernel
theorem dX8_codeLength_1 : decode cX8_codeLength 1 = .ok (.getfield 37, 3) := by decide +kernel
theorem dX8_codeLength_4 : decode cX8_codeLength 4 = .ok (.getfield 219, 3) := by decide +kernel
theorem dX8_codeLength_7 : decode cX8_codeLength 7 = .ok (.ifCond .eq 5, 3) := by decide +kernel
theorem dX8_codeLength_10 : decode cX8_codeLength 10 = .ok (.iconst 0, 1) := by decide +kernel
theorem dX8_codeLength_11 : decode cX8_codeLength 11 = .ok (.ireturn, 1) := by decide +kernel
theorem dX8_codeLength_12 : decode cX8_codeLength 12 = .ok (.aload_n 0, 1) := by decide +kernel
theorem dX8_codeLength_13 : decode cX8_codeLength 13 = .ok (.getfield 44, 3) := by decide +kernel
theorem dX8_codeLength_16 : decode cX8_codeLength 16 = .ok (.aload_n 0, 1) := by decide +kernel
theorem dX8_codeLength_17 : decode cX8_codeLength 17 = .ok (.getfield 74, 3) := by decide +kernel
theorem dX8_codeLength_20 : decode cX8_codeLength 20 = .ok (.invokevirtual 342, 3) := by decide +kernel
theorem dX8_codeLength_23 : decode cX8_codeLength 23 = .ok (.aload_n 0, 1) := by decide +kernel
theorem dX8_codeLength_24 : decode cX8_codeLength 24 = .ok (.getfield 44, 3) := by decide +kernel
theorem dX8_codeLength_27 : decode cX8_codeLength 27 = .ok (.getfield 345, 3) := by decide +kernel
theorem dX8_codeLength_30 : decode cX8_codeLength 30 = .ok (.iload_n 1, 1) := by decide +kernel
theorem dX8_codeLength_31 : decode cX8_codeLength 31 = .ok (.iaload, 1) := by decide +kernel
theorem dX8_codeLength_32 : decode cX8_codeLength 32 = .ok (.ireturn, 1) := by decide +kernel
set_option maxRecDepth 20000 in
theorem ggX8_wholeCodeLength_X0_layOut : GoodIn wsX8_wholeCodeLength wsX0_layOut := goodIn_r _ [9, 10, 11, 12, 13, 14, 15, 16, 17, 18, 19, 8, 20, 21, 22, 23, 24, 25, 26, 27, 28, 29, 30, 31, 32, 33, 34, 35, 36, 37, 38, 39, 40, 41, 42, 43, 44, 45, 46, 47, 48, 49, 50, 51, 52, 53, 54, 55, 56, 57, 58, 59, 60, 61, 62, 63, 64, 65, 66, 67, 68, 69, 70, 71, 72, 73, 74, 75, 76, 77, 78, 79, 80, 81, 82, 83, 84, 85, 86, 87, 88, 89, 90, 91, 92, 93, 94, 95, 96, 97, 98, 99, 100, 101, 102, 103, 104, 105, 106, 107, 108, 109, 110, 111, 112, 113, 114, 115, 116, 117, 118, 119, 120, 121, 122, 123, 124, 125, 126, 127, 128, 129, 130, 131, 132, 133, 134, 135, 136, 137, 138, 139, 140, 141, 142, 143, 144, 168, 169, 170, 171, 172, 173, 174, 175, 176, 177, 178, 179, 180, 181, 182, 183, 184, 185, 186, 187, 188, 189, 190, 191, 192, 193, 194, 195, 196, 197, 198, 199, 200, 201, 202, 203, 204, 205, 206, 207, 208, 209, 210, 211, 212, 213, 214, 215, 216, 217, 218, 219, 220, 221, 222] (by decide +kernel) (by decide +kernel)
set_option maxRecDepth 20000 in
theorem gX8_wholeCodeLength_X0_layOut : GoodIn wsX8_wholeCodeLength (wsV RX8 342 RX0 yX0_layOut wsX0_layOut) := goodIn_app (goodIn_of _ (by decide +kernel)) ggX8_wholeCodeLength_X0_layOut
theorem dX8_wholeCodeLength_0 : decode cX8_wholeCodeLength 0 = .ok (.aload_n 0, 1) := by decide +kernel
theorem dX8_wholeCodeLength_1 : decode cX8_wholeCodeLength 1 = .ok (.getfield 37, 3) := by decide +kernel
theorem dX8_wholeCodeLength_4 : decode cX8_wholeCodeLength 4 = .ok (.getfield 219, 3) := by decide +kernel
theorem dX8_wholeCodeLength_7 : decode cX8_wholeCodeLength 7 = .ok (.ifCond .eq 5, 3) := by decide +kernel
theorem dX8_wholeCodeLength_10 : decode cX8_wholeCodeLength 10 = .ok (.iconst 0, 1) := by decide +kernel
theorem dX8_wholeCodeLength_11 : decode cX8_wholeCodeLength 11 = .ok (.ireturn, 1) := by decide +kernel
theorem dX8_wholeCodeLength_12 : decode cX8_wholeCodeLength 12 = .ok (.aload_n 0, 1) := by decide +kernel
theorem dX8_wholeCodeLength_13 : decode cX8_wholeCodeLength 13 = .ok (.getfield 44, 3) := by decide +kernel
theorem dX8_wholeCodeLength_16 : decode cX8_wholeCodeLength 16 = .ok (.iload_n 1, 1) := by decide +kernel
theorem dX8_wholeCodeLength_17 : decode cX8_wholeCodeLength 17 = .ok (.invokevirtual 342, 3) := by decide +kernel
theorem dX8_wholeCodeLength_20 : decode cX8_wholeCodeLength 20 = .ok (.aload_n 0, 1) := by decide +kernel
theorem dX8_wholeCodeLength_21 : decode cX8_wholeCodeLength 21 = .ok (.getfield 44, 3) := by decide +kernel
theorem dX8_wholeCodeLength_24 : decode cX8_wholeCodeLength 24 = .ok (.getfield 348, 3) := by decide +kernel
theorem dX8_wholeCodeLength_27 : decode cX8_wholeCodeLength 27 = .ok (.ireturn, 1) := by decide +kernel
set_option maxRecDepth 20000 in
theorem ggX8_needProcedure_X1_has : GoodIn wsX8_needProcedure wsX1_has := goodIn_r _ [8, 9, 24, 25, 26, 27, 28, 29, 30, 31, 32, 33, 34, 35] (by decide +kernel) (by decide +kernel)
set_option maxRecDepth 20000 in
theorem gX8_needProcedure_X1_has : GoodIn wsX8_needProcedure (wsV RX8 351 RX1 yX1_has wsX1_has) := goodIn_app (goodIn_of _ (by decide +kernel)) ggX8_needProcedure_X1_has
theorem dX8_needProcedure_0 : decode cX8_needProcedure 0 = .ok (.aload_n 0, 1) := by decide +kernel
theorem dX8_needProcedure_1 : decode cX8_needProcedure 1 = .ok (.getfield 12, 3) := by decide +kernel
theorem dX8_needProcedure_4 : decode cX8_needProcedure 4 = .ok (.iload_n 1, 1) := by decide +kernel
theorem dX8_needProcedure_5 : decode cX8_needProcedure 5 = .ok (.invokevirtual 351, 3) := by decide +kernel
theorem dX8_needProcedure_8 : decode cX8_needProcedure 8 = .ok (.ifCond .ne 14, 3) := by decide +kernel
theorem dX8_needProcedure_11 : decode cX8_needProcedure 11 = .ok (.new 354, 3) := by decide +kernel
theorem dX8_needProcedure_14 : decode cX8_needProcedure 14 = .ok (.dup, 1) := by decide +kernel
theorem dX8_needProcedure_15 : decode cX8_needProcedure 15 = .ok (.ldc_w 356, 3) := by decide +kernel
theorem dX8_needProcedure_18 : decode cX8_needProcedure 18 = .ok (.invokespecial 358, 3) := by decide +kernel
theorem dX8_needProcedure_21 : decode cX8_needProcedure 21 = .ok (.athrow, 1) := by decide +kernel
theorem dX8_needProcedure_22 : decode cX8_needProcedure 22 = .ok (.return_, 1) := by decide +kernel
set_option maxRecDepth 20000 in
theorem ggX8_needNode_X5_has : GoodIn wsX8_needNode wsX5_has := goodIn_r _ [8, 9, 24, 25, 26, 27, 28, 29, 30] (by decide +kernel) (by decide +kernel)
set_option maxRecDepth 20000 in
theorem gX8_needNode_X5_has : GoodIn wsX8_needNode (wsV RX8 361 RX5 yX5_has wsX5_has) := goodIn_app (goodIn_of _ (by decide +kernel)) ggX8_needNode_X5_has
theorem dX8_needNode_0 : decode cX8_needNode 0 = .ok (.aload_n 0, 1) := by decide +kernel
theorem dX8_needNode_1 : decode cX8_needNode 1 = .ok (.getfield 19, 3) := by decide +kernel
theorem dX8_needNode_4 : decode cX8_needNode 4 = .ok (.iload_n 1, 1) := by decide +kernel
theorem dX8_needNode_5 : decode cX8_needNode 5 = .ok (.invokevirtual 361, 3) := by decide +kernel
theorem dX8_needNode_8 : decode cX8_needNode 8 = .ok (.ifCond .ne 14, 3) := by decide +kernel
theorem dX8_needNode_11 : decode cX8_needNode 11 = .ok (.new 354, 3) := by decide +kernel
theorem dX8_needNode_14 : decode cX8_needNode 14 = .ok (.dup, 1) := by decide +kernel
theorem dX8_needNode_15 : decode cX8_needNode 15 = .ok (.ldc_w 362, 3) := by decide +kernel
theorem dX8_needNode_18 : decode cX8_needNode 18 = .ok (.invokespecial 358, 3) := by decide +kernel
theorem dX8_needNode_21 : decode cX8_needNode 21 = .ok (.athrow, 1) := by decide +kernel
theorem dX8_needNode_22 : decode cX8_needNode 22 = .ok (.return_, 1) := by decide +kernel
theorem dX8_needPlace_0 : decode cX8_needPlace 0 = .ok (.iload_n 0, 1) := by decide +kernel
theorem dX8_needPlace_1 : decode cX8_needPlace 1 = .ok (.ifCond .ne 14, 3) := by decide +kernel
theorem dX8_needPlace_4 : decode cX8_needPlace 4 = .ok (.new 354, 3) := by decide +kernel
theorem dX8_needPlace_7 : decode cX8_needPlace 7 = .ok (.dup, 1) := by decide +kernel
theorem dX8_needPlace_8 : decode cX8_needPlace 8 = .ok (.ldc_w 364, 3) := by decide +kernel
theorem dX8_needPlace_11 : decode cX8_needPlace 11 = .ok (.invokespecial 358, 3) := by decide +kernel
theorem dX8_needPlace_14 : decode cX8_needPlace 14 = .ok (.athrow, 1) := by decide +kernel
theorem dX8_needPlace_15 : decode cX8_needPlace 15 = .ok (.return_, 1) := by decide +kernel
theorem dX8_needArgument_0 : decode cX8_needArgument 0 = .ok (.iload_n 0, 1) := by decide +kernel
theorem dX8_needArgument_1 : decode cX8_needArgument 1 = .ok (.ifCond .ne 14, 3) := by decide +kernel
theorem dX8_needArgument_4 : decode cX8_needArgument 4 = .ok (.new 366, 3) := by decide +kernel
theorem dX8_needArgument_7 : decode cX8_needArgument 7 = .ok (.dup, 1) := by decide +kernel
theorem dX8_needArgument_8 : decode cX8_needArgument 8 = .ok (.ldc_w 368, 3) := by decide +kernel
theorem dX8_needArgument_11 : decode cX8_needArgument 11 = .ok (.invokespecial 370, 3) := by decide +kernel
theorem dX8_needArgument_14 : decode cX8_needArgument 14 = .ok (.athrow, 1) := by decide +kernel
theorem dX8_needArgument_15 : decode cX8_needArgument 15 = .ok (.return_, 1) := by decide +kernel
theorem dX8_needState_0 : decode cX8_needState 0 = .ok (.iload_n 0, 1) := by decide +kernel
theorem dX8_needState_1 : decode cX8_needState 1 = .ok (.ifCond .ne 14, 3) := by decide +kernel
theorem dX8_needState_4 : decode cX8_needState 4 = .ok (.new 371, 3) := by decide +kernel
theorem dX8_needState_7 : decode cX8_needState 7 = .ok (.dup, 1) := by decide +kernel
theorem dX8_needState_8 : decode cX8_needState 8 = .ok (.ldc_w 373, 3) := by decide +kernel
theorem dX8_needState_11 : decode cX8_needState 11 = .ok (.invokespecial 375, 3) := by decide +kernel
theorem dX8_needState_14 : decode cX8_needState 14 = .ok (.athrow, 1) := by decide +kernel
theorem dX8_needState_15 : decode cX8_needState 15 = .ok (.return_, 1) := by decide +kernel
theorem dX8_isName_0 : decode cX8_isName 0 = .ok (.iload_n 0, 1) := by decide +kernel
theorem dX8_isName_1 : decode cX8_isName 1 = .ok (.ifCond .lt 13, 3) := by decide +kernel
theorem dX8_isName_4 : decode cX8_isName 4 = .ok (.iload_n 0, 1) := by decide +kernel
theorem dX8_isName_5 : decode cX8_isName 5 = .ok (.bipush 16, 2) := by decide +kernel
theorem dX8_isName_7 : decode cX8_isName 7 = .ok (.if_icmp .ge 7, 3) := by decide +kernel
theorem dX8_isName_10 : decode cX8_isName 10 = .ok (.iconst 1, 1) := by decide +kernel
theorem dX8_isName_11 : decode cX8_isName 11 = .ok (.goto 4, 3) := by decide +kernel
theorem dX8_isName_14 : decode cX8_isName 14 = .ok (.iconst 0, 1) := by decide +kernel
theorem dX8_isName_15 : decode cX8_isName 15 = .ok (.ireturn, 1) := by decide +kernel
theorem dX8_isPasses_0 : decode cX8_isPasses 0 = .ok (.iload_n 0, 1) := by decide +kernel
theorem dX8_isPasses_1 : decode cX8_isPasses 1 = .ok (.ifCond .lt 13, 3) := by decide +kernel
theorem dX8_isPasses_4 : decode cX8_isPasses 4 = .ok (.iload_n 0, 1) := by decide +kernel
theorem dX8_isPasses_5 : decode cX8_isPasses 5 = .ok (.bipush 7, 2) := by decide +kernel
theorem dX8_isPasses_7 : decode cX8_isPasses 7 = .ok (.if_icmp .gt 7, 3) := by decide +kernel
theorem dX8_isPasses_10 : decode cX8_isPasses 10 = .ok (.iconst 1, 1) := by decide +kernel
theorem dX8_isPasses_11 : decode cX8_isPasses 11 = .ok (.goto 4, 3) := by decide +kernel
theorem dX8_isPasses_14 : decode cX8_isPasses 14 = .ok (.iconst 0, 1) := by decide +kernel
theorem dX8_isPasses_15 : decode cX8_isPasses 15 = .ok (.ireturn, 1) := by decide +kernel
theorem dX8_areLimits_0 : decode cX8_areLimits 0 = .ok (.iload_n 0, 1) := by decide +kernel
theorem dX8_areLimits_1 : decode cX8_areLimits 1 = .ok (.iconst 1, 1) := by decide +kernel
theorem dX8_areLimits_2 : decode cX8_areLimits 2 = .ok (.if_icmp .lt 25, 3) := by decide +kernel
theorem dX8_areLimits_5 : decode cX8_areLimits 5 = .ok (.iload_n 0, 1) := by decide +kernel
theorem dX8_areLimits_6 : decode cX8_areLimits 6 = .ok (.sipush 3000, 3) := by decide +kernel
theorem dX8_areLimits_9 : decode cX8_areLimits 9 = .ok (.if_icmp .gt 18, 3) := by decide +kernel
theorem dX8_areLimits_12 : decode cX8_areLimits 12 = .ok (.iload_n 1, 1) := by decide +kernel
theorem dX8_areLimits_13 : decode cX8_areLimits 13 = .ok (.iconst 1, 1) := by decide +kernel
theorem dX8_areLimits_14 : decode cX8_areLimits 14 = .ok (.if_icmp .lt 13, 3) := by decide +kernel
theorem dX8_areLimits_17 : decode cX8_areLimits 17 = .ok (.iload_n 1, 1) := by decide +kernel
theorem dX8_areLimits_18 : decode cX8_areLimits 18 = .ok (.bipush 40, 2) := by decide +kernel
theorem dX8_areLimits_20 : decode cX8_areLimits 20 = .ok (.if_icmp .gt 7, 3) := by decide +kernel
theorem dX8_areLimits_23 : decode cX8_areLimits 23 = .ok (.iconst 1, 1) := by decide +kernel
theorem dX8_areLimits_24 : decode cX8_areLimits 24 = .ok (.goto 4, 3) := by decide +kernel
theorem dX8_areLimits_27 : decode cX8_areLimits 27 = .ok (.iconst 0, 1) := by decide +kernel
theorem dX8_areLimits_28 : decode cX8_areLimits 28 = .ok (.ireturn, 1) := by decide +kernel
theorem dX8_isSizeOf_0 : decode cX8_isSizeOf 0 = .ok (.iload_n 0, 1) := by decide +kernel
theorem dX8_isSizeOf_1 : decode cX8_isSizeOf 1 = .ok (.bipush 6, 2) := by decide +kernel
theorem dX8_isSizeOf_3 : decode cX8_isSizeOf 3 = .ok (.iadd, 1) := by decide +kernel
theorem dX8_isSizeOf_4 : decode cX8_isSizeOf 4 = .ok (.tableswitch 77 6 9 #[32, 42, 32, 59], 32) := by decide +kernel
theorem dX8_isSizeOf_36 : decode cX8_isSizeOf 36 = .ok (.iload_n 1, 1) := by decide +kernel
theorem dX8_isSizeOf_37 : decode cX8_isSizeOf 37 = .ok (.ifCond .ne 7, 3) := by decide +kernel
theorem dX8_isSizeOf_40 : decode cX8_isSizeOf 40 = .ok (.iconst 1, 1) := by decide +kernel
theorem dX8_isSizeOf_41 : decode cX8_isSizeOf 41 = .ok (.goto 4, 3) := by decide +kernel
theorem dX8_isSizeOf_44 : decode cX8_isSizeOf 44 = .ok (.iconst 0, 1) := by decide +kernel
theorem dX8_isSizeOf_45 : decode cX8_isSizeOf 45 = .ok (.ireturn, 1) := by decide +kernel
theorem dX8_isSizeOf_46 : decode cX8_isSizeOf 46 = .ok (.iload_n 1, 1) := by decide +kernel
theorem dX8_isSizeOf_47 : decode cX8_isSizeOf 47 = .ok (.iconst 1, 1) := by decide +kernel
theorem dX8_isSizeOf_48 : decode cX8_isSizeOf 48 = .ok (.if_icmp .lt 13, 3) := by decide +kernel
theorem dX8_isSizeOf_51 : decode cX8_isSizeOf 51 = .ok (.iload_n 1, 1) := by decide +kernel
theorem dX8_isSizeOf_52 : decode cX8_isSizeOf 52 = .ok (.bipush 8, 2) := by decide +kernel
theorem dX8_isSizeOf_54 : decode cX8_isSizeOf 54 = .ok (.if_icmp .gt 7, 3) := by decide +kernel
theorem dX8_isSizeOf_57 : decode cX8_isSizeOf 57 = .ok (.iconst 1, 1) := by decide +kernel
theorem dX8_isSizeOf_58 : decode cX8_isSizeOf 58 = .ok (.goto 4, 3) := by decide +kernel
theorem dX8_isSizeOf_61 : decode cX8_isSizeOf 61 = .ok (.iconst 0, 1) := by decide +kernel
theorem dX8_isSizeOf_62 : decode cX8_isSizeOf 62 = .ok (.ireturn, 1) := by decide +kernel
theorem dX8_isSizeOf_63 : decode cX8_isSizeOf 63 = .ok (.iload_n 1, 1) := by decide +kernel
theorem dX8_isSizeOf_64 : decode cX8_isSizeOf 64 = .ok (.bipush (-99), 2) := by decide +kernel
theorem dX8_isSizeOf_66 : decode cX8_isSizeOf 66 = .ok (.if_icmp .lt 13, 3) := by decide +kernel
theorem dX8_isSizeOf_69 : decode cX8_isSizeOf 69 = .ok (.iload_n 1, 1) := by decide +kernel
theorem dX8_isSizeOf_70 : decode cX8_isSizeOf 70 = .ok (.bipush 99, 2) := by decide +kernel
theorem dX8_isSizeOf_72 : decode cX8_isSizeOf 72 = .ok (.if_icmp .gt 7, 3) := by decide +kernel
theorem dX8_isSizeOf_75 : decode cX8_isSizeOf 75 = .ok (.iconst 1, 1) := by decide +kernel
theorem dX8_isSizeOf_76 : decode cX8_isSizeOf 76 = .ok (.goto 4, 3) := by decide +kernel
theorem dX8_isSizeOf_79 : decode cX8_isSizeOf 79 = .ok (.iconst 0, 1) := by decide +kernel
theorem dX8_isSizeOf_80 : decode cX8_isSizeOf 80 = .ok (.ireturn, 1) := by decide +kernel
theorem dX8_isSizeOf_81 : decode cX8_isSizeOf 81 = .ok (.iconst 0, 1) := by decide +kernel
