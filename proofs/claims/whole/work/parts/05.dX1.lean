set_option maxRecDepth 20000 in
theorem ggX1_init_J7_fill_53178 : GoodIn wsX1_init wsJ7_fill_53178 := goodIn_r _ [20] (by decide +kernel) (by decide +kernel)
set_option maxRecDepth 20000 in
theorem gX1_init_J7_fill_53178 : GoodIn wsX1_init (va_wsS RX1 49 yJ7_fill_53178 wsJ7_fill_53178) := goodIn_app (goodIn_of _ (by decide +kernel)) ggX1_init_J7_fill_53178
theorem dX1_init_0 : decode cX1_init 0 = .ok (.aload_n 0, 1) := by decide +kernel
theorem dX1_init_1 : decode cX1_init 1 = .ok (.invokespecial 3, 3) := by decide +kernel
theorem dX1_init_4 : decode cX1_init 4 = .ok (.aload_n 0, 1) := by decide +kernel
theorem dX1_init_5 : decode cX1_init 5 = .ok (.iconst 1, 1) := by decide +kernel
theorem dX1_init_6 : decode cX1_init 6 = .ok (.putfield 9, 3) := by decide +kernel
theorem dX1_init_9 : decode cX1_init 9 = .ok (.aload_n 0, 1) := by decide +kernel
theorem dX1_init_10 : decode cX1_init 10 = .ok (.bipush 10, 2) := by decide +kernel
theorem dX1_init_12 : decode cX1_init 12 = .ok (.newarray .int, 2) := by decide +kernel
theorem dX1_init_14 : decode cX1_init 14 = .ok (.putfield 15, 3) := by decide +kernel
theorem dX1_init_17 : decode cX1_init 17 = .ok (.aload_n 0, 1) := by decide +kernel
theorem dX1_init_18 : decode cX1_init 18 = .ok (.bipush 10, 2) := by decide +kernel
theorem dX1_init_20 : decode cX1_init 20 = .ok (.newarray .int, 2) := by decide +kernel
theorem dX1_init_22 : decode cX1_init 22 = .ok (.putfield 19, 3) := by decide +kernel
theorem dX1_init_25 : decode cX1_init 25 = .ok (.aload_n 0, 1) := by decide +kernel
theorem dX1_init_26 : decode cX1_init 26 = .ok (.bipush 10, 2) := by decide +kernel
theorem dX1_init_28 : decode cX1_init 28 = .ok (.newarray .int, 2) := by decide +kernel
theorem dX1_init_30 : decode cX1_init 30 = .ok (.putfield 22, 3) := by decide +kernel
theorem dX1_init_33 : decode cX1_init 33 = .ok (.aload_n 0, 1) := by decide +kernel
theorem dX1_init_34 : decode cX1_init 34 = .ok (.bipush 10, 2) := by decide +kernel
theorem dX1_init_36 : decode cX1_init 36 = .ok (.newarray .int, 2) := by decide +kernel
theorem dX1_init_38 : decode cX1_init 38 = .ok (.putfield 25, 3) := by decide +kernel
theorem dX1_init_41 : decode cX1_init 41 = .ok (.aload_n 0, 1) := by decide +kernel
theorem dX1_init_42 : decode cX1_init 42 = .ok (.bipush 10, 2) := by decide +kernel
theorem dX1_init_44 : decode cX1_init 44 = .ok (.newarray .int, 2) := by decide +kernel
theorem dX1_init_46 : decode cX1_init 46 = .ok (.putfield 28, 3) := by decide +kernel
theorem dX1_init_49 : decode cX1_init 49 = .ok (.aload_n 0, 1) := by decide +kernel
theorem dX1_init_50 : decode cX1_init 50 = .ok (.bipush 10, 2) := by decide +kernel
theorem dX1_init_52 : decode cX1_init 52 = .ok (.newarray .int, 2) := by decide +kernel
theorem dX1_init_54 : decode cX1_init 54 = .ok (.putfield 31, 3) := by decide +kernel
theorem dX1_init_57 : decode cX1_init 57 = .ok (.aload_n 0, 1) := by decide +kernel
theorem dX1_init_58 : decode cX1_init 58 = .ok (.sipush 160, 3) := by decide +kernel
theorem dX1_init_61 : decode cX1_init 61 = .ok (.newarray .int, 2) := by decide +kernel
theorem dX1_init_63 : decode cX1_init 63 = .ok (.putfield 34, 3) := by decide +kernel
theorem dX1_init_66 : decode cX1_init 66 = .ok (.aload_n 0, 1) := by decide +kernel
theorem dX1_init_67 : decode cX1_init 67 = .ok (.sipush 160, 3) := by decide +kernel
theorem dX1_init_70 : decode cX1_init 70 = .ok (.newarray .int, 2) := by decide +kernel
theorem dX1_init_72 : decode cX1_init 72 = .ok (.putfield 37, 3) := by decide +kernel
theorem dX1_init_75 : decode cX1_init 75 = .ok (.aload_n 0, 1) := by decide +kernel
theorem dX1_init_76 : decode cX1_init 76 = .ok (.sipush 160, 3) := by decide +kernel
theorem dX1_init_79 : decode cX1_init 79 = .ok (.newarray .int, 2) := by decide +kernel
theorem dX1_init_81 : decode cX1_init 81 = .ok (.putfield 40, 3) := by decide +kernel
theorem dX1_init_84 : decode cX1_init 84 = .ok (.aload_n 0, 1) := by decide +kernel
theorem dX1_init_85 : decode cX1_init 85 = .ok (.bipush 100, 2) := by decide +kernel
theorem dX1_init_87 : decode cX1_init 87 = .ok (.newarray .int, 2) := by decide +kernel
theorem dX1_init_89 : decode cX1_init 89 = .ok (.putfield 43, 3) := by decide +kernel
theorem dX1_init_92 : decode cX1_init 92 = .ok (.aload_n 0, 1) := by decide +kernel
theorem dX1_init_93 : decode cX1_init 93 = .ok (.bipush 100, 2) := by decide +kernel
theorem dX1_init_95 : decode cX1_init 95 = .ok (.newarray .int, 2) := by decide +kernel
theorem dX1_init_97 : decode cX1_init 97 = .ok (.putfield 46, 3) := by decide +kernel
theorem dX1_init_100 : decode cX1_init 100 = .ok (.aload_n 0, 1) := by decide +kernel
theorem dX1_init_101 : decode cX1_init 101 = .ok (.getfield 15, 3) := by decide +kernel
theorem dX1_init_104 : decode cX1_init 104 = .ok (.iconst 0, 1) := by decide +kernel
theorem dX1_init_105 : decode cX1_init 105 = .ok (.iconst (-1), 1) := by decide +kernel
theorem dX1_init_106 : decode cX1_init 106 = .ok (.iastore, 1) := by decide +kernel
theorem dX1_init_107 : decode cX1_init 107 = .ok (.aload_n 0, 1) := by decide +kernel
theorem dX1_init_108 : decode cX1_init 108 = .ok (.getfield 19, 3) := by decide +kernel
theorem dX1_init_111 : decode cX1_init 111 = .ok (.iconst 0, 1) := by decide +kernel
theorem dX1_init_112 : decode cX1_init 112 = .ok (.iconst (-1), 1) := by decide +kernel
theorem dX1_init_113 : decode cX1_init 113 = .ok (.iastore, 1) := by decide +kernel
theorem dX1_init_114 : decode cX1_init 114 = .ok (.aload_n 0, 1) := by decide +kernel
theorem dX1_init_115 : decode cX1_init 115 = .ok (.getfield 31, 3) := by decide +kernel
theorem dX1_init_118 : decode cX1_init 118 = .ok (.iconst (-1), 1) := by decide +kernel
theorem dX1_init_119 : decode cX1_init 119 = .ok (.invokestatic 49, 3) := by decide +kernel
theorem dX1_init_122 : decode cX1_init 122 = .ok (.aload_n 0, 1) := by decide +kernel
theorem dX1_init_123 : decode cX1_init 123 = .ok (.getfield 34, 3) := by decide +kernel
theorem dX1_init_126 : decode cX1_init 126 = .ok (.iconst (-1), 1) := by decide +kernel
theorem dX1_init_127 : decode cX1_init 127 = .ok (.invokestatic 49, 3) := by decide +kernel
theorem dX1_init_130 : decode cX1_init 130 = .ok (.return_, 1) := by decide +kernel
theorem dX1_has_0 : decode cX1_has 0 = .ok (.iload_n 1, 1) := by decide +kernel
theorem dX1_has_1 : decode cX1_has 1 = .ok (.ifCond .lt 15, 3) := by decide +kernel
theorem dX1_has_4 : decode cX1_has 4 = .ok (.iload_n 1, 1) := by decide +kernel
theorem dX1_has_5 : decode cX1_has 5 = .ok (.aload_n 0, 1) := by decide +kernel
theorem dX1_has_6 : decode cX1_has 6 = .ok (.getfield 9, 3) := by decide +kernel
theorem dX1_has_9 : decode cX1_has 9 = .ok (.if_icmp .ge 7, 3) := by decide +kernel
theorem dX1_has_12 : decode cX1_has 12 = .ok (.iconst 1, 1) := by decide +kernel
theorem dX1_has_13 : decode cX1_has 13 = .ok (.goto 4, 3) := by decide +kernel
theorem dX1_has_16 : decode cX1_has 16 = .ok (.iconst 0, 1) := by decide +kernel
theorem dX1_has_17 : decode cX1_has 17 = .ok (.ireturn, 1) := by decide +kernel
theorem dX1_declares_0 : decode cX1_declares 0 = .ok (.aload_n 0, 1) := by decide +kernel
theorem dX1_declares_1 : decode cX1_declares 1 = .ok (.getfield 34, 3) := by decide +kernel
theorem dX1_declares_4 : decode cX1_declares 4 = .ok (.iload_n 1, 1) := by decide +kernel
theorem dX1_declares_5 : decode cX1_declares 5 = .ok (.bipush 16, 2) := by decide +kernel
theorem dX1_declares_7 : decode cX1_declares 7 = .ok (.imul, 1) := by decide +kernel
theorem dX1_declares_8 : decode cX1_declares 8 = .ok (.iload_n 2, 1) := by decide +kernel
theorem dX1_declares_9 : decode cX1_declares 9 = .ok (.iadd, 1) := by decide +kernel
theorem dX1_declares_10 : decode cX1_declares 10 = .ok (.iaload, 1) := by decide +kernel
theorem dX1_declares_11 : decode cX1_declares 11 = .ok (.iconst (-1), 1) := by decide +kernel
theorem dX1_declares_12 : decode cX1_declares 12 = .ok (.if_icmp .eq 7, 3) := by decide +kernel
theorem dX1_declares_15 : decode cX1_declares 15 = .ok (.iconst 1, 1) := by decide +kernel
theorem dX1_declares_16 : decode cX1_declares 16 = .ok (.goto 4, 3) := by decide +kernel
theorem dX1_declares_19 : decode cX1_declares 19 = .ok (.iconst 0, 1) := by decide +kernel
theorem dX1_declares_20 : decode cX1_declares 20 = .ok (.ireturn, 1) := by decide +kernel
set_option maxRecDepth 20000 in
theorem ggX1_takesParameter_X1_declares : GoodIn wsX1_takesParameter wsX1_declares := goodIn_r _ [7, 8, 9, 10, 11, 12, 13, 14, 15, 16, 17, 18, 19, 20] (by decide +kernel) (by decide +kernel)
set_option maxRecDepth 20000 in
theorem gX1_takesParameter_X1_declares : GoodIn wsX1_takesParameter (wsV RX1 55 RX1 yX1_declares wsX1_declares) := goodIn_app (goodIn_of _ (by decide +kernel)) ggX1_takesParameter_X1_declares
theorem dX1_takesParameter_0 : decode cX1_takesParameter 0 = .ok (.aload_n 0, 1) := by decide +kernel
theorem dX1_takesParameter_1 : decode cX1_takesParameter 1 = .ok (.getfield 22, 3) := by decide +kernel
theorem dX1_takesParameter_4 : decode cX1_takesParameter 4 = .ok (.iload_n 1, 1) := by decide +kernel
theorem dX1_takesParameter_5 : decode cX1_takesParameter 5 = .ok (.iaload, 1) := by decide +kernel
theorem dX1_takesParameter_6 : decode cX1_takesParameter 6 = .ok (.iconst 4, 1) := by decide +kernel
theorem dX1_takesParameter_7 : decode cX1_takesParameter 7 = .ok (.if_icmp .ge 25, 3) := by decide +kernel
theorem dX1_takesParameter_10 : decode cX1_takesParameter 10 = .ok (.aload_n 0, 1) := by decide +kernel
theorem dX1_takesParameter_11 : decode cX1_takesParameter 11 = .ok (.getfield 25, 3) := by decide +kernel
theorem dX1_takesParameter_14 : decode cX1_takesParameter 14 = .ok (.iload_n 1, 1) := by decide +kernel
theorem dX1_takesParameter_15 : decode cX1_takesParameter 15 = .ok (.iaload, 1) := by decide +kernel
theorem dX1_takesParameter_16 : decode cX1_takesParameter 16 = .ok (.ifCond .ne 16, 3) := by decide +kernel
theorem dX1_takesParameter_19 : decode cX1_takesParameter 19 = .ok (.aload_n 0, 1) := by decide +kernel
theorem dX1_takesParameter_20 : decode cX1_takesParameter 20 = .ok (.iload_n 1, 1) := by decide +kernel
theorem dX1_takesParameter_21 : decode cX1_takesParameter 21 = .ok (.iload_n 2, 1) := by decide +kernel
theorem dX1_takesParameter_22 : decode cX1_takesParameter 22 = .ok (.invokevirtual 55, 3) := by decide +kernel
theorem dX1_takesParameter_25 : decode cX1_takesParameter 25 = .ok (.ifCond .ne 7, 3) := by decide +kernel
theorem dX1_takesParameter_28 : decode cX1_takesParameter 28 = .ok (.iconst 1, 1) := by decide +kernel
theorem dX1_takesParameter_29 : decode cX1_takesParameter 29 = .ok (.goto 4, 3) := by decide +kernel
theorem dX1_takesParameter_32 : decode cX1_takesParameter 32 = .ok (.iconst 0, 1) := by decide +kernel
theorem dX1_takesParameter_33 : decode cX1_takesParameter 33 = .ok (.ireturn, 1) := by decide +kernel
set_option maxRecDepth 20000 in
theorem ggX1_takesVariable_X1_declares : GoodIn wsX1_takesVariable wsX1_declares := goodIn_r _ [6, 7, 8, 9, 10, 11, 12, 13, 14, 15, 16, 17, 18, 19] (by decide +kernel) (by decide +kernel)
set_option maxRecDepth 20000 in
theorem gX1_takesVariable_X1_declares : GoodIn wsX1_takesVariable (wsV RX1 55 RX1 yX1_declares wsX1_declares) := goodIn_app (goodIn_of _ (by decide +kernel)) ggX1_takesVariable_X1_declares
theorem dX1_takesVariable_0 : decode cX1_takesVariable 0 = .ok (.aload_n 0, 1) := by decide +kernel
theorem dX1_takesVariable_1 : decode cX1_takesVariable 1 = .ok (.getfield 25, 3) := by decide +kernel
theorem dX1_takesVariable_4 : decode cX1_takesVariable 4 = .ok (.iload_n 1, 1) := by decide +kernel
theorem dX1_takesVariable_5 : decode cX1_takesVariable 5 = .ok (.iaload, 1) := by decide +kernel
theorem dX1_takesVariable_6 : decode cX1_takesVariable 6 = .ok (.bipush 6, 2) := by decide +kernel
theorem dX1_takesVariable_8 : decode cX1_takesVariable 8 = .ok (.if_icmp .ge 16, 3) := by decide +kernel
theorem dX1_takesVariable_11 : decode cX1_takesVariable 11 = .ok (.aload_n 0, 1) := by decide +kernel
theorem dX1_takesVariable_12 : decode cX1_takesVariable 12 = .ok (.iload_n 1, 1) := by decide +kernel
theorem dX1_takesVariable_13 : decode cX1_takesVariable 13 = .ok (.iload_n 2, 1) := by decide +kernel
theorem dX1_takesVariable_14 : decode cX1_takesVariable 14 = .ok (.invokevirtual 55, 3) := by decide +kernel
theorem dX1_takesVariable_17 : decode cX1_takesVariable 17 = .ok (.ifCond .ne 7, 3) := by decide +kernel
theorem dX1_takesVariable_20 : decode cX1_takesVariable 20 = .ok (.iconst 1, 1) := by decide +kernel
theorem dX1_takesVariable_21 : decode cX1_takesVariable 21 = .ok (.goto 4, 3) := by decide +kernel
theorem dX1_takesVariable_24 : decode cX1_takesVariable 24 = .ok (.iconst 0, 1) := by decide +kernel
theorem dX1_takesVariable_25 : decode cX1_takesVariable 25 = .ok (.ireturn, 1) := by decide +kernel
set_option maxRecDepth 20000 in
theorem ggX1_addProcedure_X1_declare : GoodIn wsX1_addProcedure wsX1_declare := goodIn_r _ [8, 9, 10, 11, 12, 13, 14, 15, 16, 17, 18, 19, 20, 21, 22, 23] (by decide +kernel) (by decide +kernel)
set_option maxRecDepth 20000 in
theorem gX1_addProcedure_X1_declare : GoodIn wsX1_addProcedure (wsV RX1 59 RX1 yX1_declare wsX1_declare) := goodIn_app (goodIn_of _ (by decide +kernel)) ggX1_addProcedure_X1_declare
theorem dX1_addProcedure_0 : decode cX1_addProcedure 0 = .ok (.aload_n 0, 1) := by decide +kernel
theorem dX1_addProcedure_1 : decode cX1_addProcedure 1 = .ok (.getfield 9, 3) := by decide +kernel
theorem dX1_addProcedure_4 : decode cX1_addProcedure 4 = .ok (.istore_n 3, 1) := by decide +kernel
theorem dX1_addProcedure_5 : decode cX1_addProcedure 5 = .ok (.aload_n 0, 1) := by decide +kernel
theorem dX1_addProcedure_6 : decode cX1_addProcedure 6 = .ok (.dup, 1) := by decide +kernel
theorem dX1_addProcedure_7 : decode cX1_addProcedure 7 = .ok (.getfield 9, 3) := by decide +kernel
theorem dX1_addProcedure_10 : decode cX1_addProcedure 10 = .ok (.iconst 1, 1) := by decide +kernel
theorem dX1_addProcedure_11 : decode cX1_addProcedure 11 = .ok (.iadd, 1) := by decide +kernel
theorem dX1_addProcedure_12 : decode cX1_addProcedure 12 = .ok (.putfield 9, 3) := by decide +kernel
theorem dX1_addProcedure_15 : decode cX1_addProcedure 15 = .ok (.aload_n 0, 1) := by decide +kernel
theorem dX1_addProcedure_16 : decode cX1_addProcedure 16 = .ok (.getfield 15, 3) := by decide +kernel
theorem dX1_addProcedure_19 : decode cX1_addProcedure 19 = .ok (.iload_n 3, 1) := by decide +kernel
theorem dX1_addProcedure_20 : decode cX1_addProcedure 20 = .ok (.iload_n 1, 1) := by decide +kernel
theorem dX1_addProcedure_21 : decode cX1_addProcedure 21 = .ok (.iastore, 1) := by decide +kernel
theorem dX1_addProcedure_22 : decode cX1_addProcedure 22 = .ok (.aload_n 0, 1) := by decide +kernel
theorem dX1_addProcedure_23 : decode cX1_addProcedure 23 = .ok (.getfield 19, 3) := by decide +kernel
theorem dX1_addProcedure_26 : decode cX1_addProcedure 26 = .ok (.iload_n 3, 1) := by decide +kernel
theorem dX1_addProcedure_27 : decode cX1_addProcedure 27 = .ok (.iload_n 2, 1) := by decide +kernel
theorem dX1_addProcedure_28 : decode cX1_addProcedure 28 = .ok (.iastore, 1) := by decide +kernel
theorem dX1_addProcedure_29 : decode cX1_addProcedure 29 = .ok (.aload_n 0, 1) := by decide +kernel
theorem dX1_addProcedure_30 : decode cX1_addProcedure 30 = .ok (.iload_n 1, 1) := by decide +kernel
theorem dX1_addProcedure_31 : decode cX1_addProcedure 31 = .ok (.iload_n 2, 1) := by decide +kernel
theorem dX1_addProcedure_32 : decode cX1_addProcedure 32 = .ok (.bipush 10, 2) := by decide +kernel
theorem dX1_addProcedure_34 : decode cX1_addProcedure 34 = .ok (.iload_n 3, 1) := by decide +kernel
theorem dX1_addProcedure_35 : decode cX1_addProcedure 35 = .ok (.invokevirtual 59, 3) := by decide +kernel
theorem dX1_addProcedure_38 : decode cX1_addProcedure 38 = .ok (.iload_n 3, 1) := by decide +kernel
theorem dX1_addProcedure_39 : decode cX1_addProcedure 39 = .ok (.ireturn, 1) := by decide +kernel
set_option maxRecDepth 20000 in
theorem ggX1_addParameter_X1_declarePlace : GoodIn wsX1_addParameter wsX1_declarePlace := goodIn_r _ [6, 7, 8, 9, 10, 11, 12, 13, 5, 14, 15, 16, 17, 18, 19, 20, 21, 22, 23, 24, 25, 26, 27, 28] (by decide +kernel) (by decide +kernel)
set_option maxRecDepth 20000 in
theorem gX1_addParameter_X1_declarePlace : GoodIn wsX1_addParameter (wsV RX1 63 RX1 yX1_declarePlace wsX1_declarePlace) := goodIn_app (goodIn_of _ (by decide +kernel)) ggX1_addParameter_X1_declarePlace
theorem dX1_addParameter_0 : decode cX1_addParameter 0 = .ok (.aload_n 0, 1) := by decide +kernel
theorem dX1_addParameter_1 : decode cX1_addParameter 1 = .ok (.getfield 22, 3) := by decide +kernel
theorem dX1_addParameter_4 : decode cX1_addParameter 4 = .ok (.iload_n 1, 1) := by decide +kernel
theorem dX1_addParameter_5 : decode cX1_addParameter 5 = .ok (.dup2, 1) := by decide +kernel
theorem dX1_addParameter_6 : decode cX1_addParameter 6 = .ok (.iaload, 1) := by decide +kernel
theorem dX1_addParameter_7 : decode cX1_addParameter 7 = .ok (.iconst 1, 1) := by decide +kernel
theorem dX1_addParameter_8 : decode cX1_addParameter 8 = .ok (.iadd, 1) := by decide +kernel
theorem dX1_addParameter_9 : decode cX1_addParameter 9 = .ok (.iastore, 1) := by decide +kernel
theorem dX1_addParameter_10 : decode cX1_addParameter 10 = .ok (.aload_n 0, 1) := by decide +kernel
theorem dX1_addParameter_11 : decode cX1_addParameter 11 = .ok (.iload_n 1, 1) := by decide +kernel
theorem dX1_addParameter_12 : decode cX1_addParameter 12 = .ok (.iload_n 2, 1) := by decide +kernel
theorem dX1_addParameter_13 : decode cX1_addParameter 13 = .ok (.iload_n 3, 1) := by decide +kernel
theorem dX1_addParameter_14 : decode cX1_addParameter 14 = .ok (.iconst 0, 1) := by decide +kernel
theorem dX1_addParameter_15 : decode cX1_addParameter 15 = .ok (.invokevirtual 63, 3) := by decide +kernel
theorem dX1_addParameter_18 : decode cX1_addParameter 18 = .ok (.ireturn, 1) := by decide +kernel
set_option maxRecDepth 20000 in
theorem ggX1_addVariable_X1_declare : GoodIn wsX1_addVariable wsX1_declare := goodIn_r _ [6, 7, 8, 9, 17, 18, 19, 20, 21, 22, 23, 24, 25, 26, 27, 28] (by decide +kernel) (by decide +kernel)
set_option maxRecDepth 20000 in
theorem gX1_addVariable_X1_declare : GoodIn wsX1_addVariable (wsV RX1 59 RX1 yX1_declare wsX1_declare) := goodIn_app (goodIn_of _ (by decide +kernel)) ggX1_addVariable_X1_declare
set_option maxRecDepth 20000 in
theorem ggX1_addVariable_X1_declarePlace : GoodIn wsX1_addVariable wsX1_declarePlace := goodIn_r _ [13, 14, 8, 15, 16, 2, 3, 4, 5, 6, 7, 9, 17, 18, 19, 20, 21, 22, 23, 24, 25, 26, 27, 28] (by decide +kernel) (by decide +kernel)
set_option maxRecDepth 20000 in
theorem gX1_addVariable_X1_declarePlace : GoodIn wsX1_addVariable (wsV RX1 63 RX1 yX1_declarePlace wsX1_declarePlace) := goodIn_app (goodIn_of _ (by decide +kernel)) ggX1_addVariable_X1_declarePlace
theorem dX1_addVariable_0 : decode cX1_addVariable 0 = .ok (.aload_n 0, 1) := by decide +kernel
theorem dX1_addVariable_1 : decode cX1_addVariable 1 = .ok (.getfield 25, 3) := by decide +kernel
theorem dX1_addVariable_4 : decode cX1_addVariable 4 = .ok (.iload_n 1, 1) := by decide +kernel
theorem dX1_addVariable_5 : decode cX1_addVariable 5 = .ok (.dup2, 1) := by decide +kernel
theorem dX1_addVariable_6 : decode cX1_addVariable 6 = .ok (.iaload, 1) := by decide +kernel
theorem dX1_addVariable_7 : decode cX1_addVariable 7 = .ok (.iconst 1, 1) := by decide +kernel
theorem dX1_addVariable_8 : decode cX1_addVariable 8 = .ok (.iadd, 1) := by decide +kernel
theorem dX1_addVariable_9 : decode cX1_addVariable 9 = .ok (.iastore, 1) := by decide +kernel
theorem dX1_addVariable_10 : decode cX1_addVariable 10 = .ok (.iload_n 3, 1) := by decide +kernel
theorem dX1_addVariable_11 : decode cX1_addVariable 11 = .ok (.bipush 9, 2) := by decide +kernel
theorem dX1_addVariable_13 : decode cX1_addVariable 13 = .ok (.if_icmp .ne 14, 3) := by decide +kernel
theorem dX1_addVariable_16 : decode cX1_addVariable 16 = .ok (.aload_n 0, 1) := by decide +kernel
theorem dX1_addVariable_17 : decode cX1_addVariable 17 = .ok (.iload_n 1, 1) := by decide +kernel
theorem dX1_addVariable_18 : decode cX1_addVariable 18 = .ok (.iload_n 2, 1) := by decide +kernel
theorem dX1_addVariable_19 : decode cX1_addVariable 19 = .ok (.iload_n 3, 1) := by decide +kernel
theorem dX1_addVariable_20 : decode cX1_addVariable 20 = .ok (.iload 4, 2) := by decide +kernel
theorem dX1_addVariable_22 : decode cX1_addVariable 22 = .ok (.invokevirtual 59, 3) := by decide +kernel
theorem dX1_addVariable_25 : decode cX1_addVariable 25 = .ok (.iconst (-1), 1) := by decide +kernel
theorem dX1_addVariable_26 : decode cX1_addVariable 26 = .ok (.ireturn, 1) := by decide +kernel
theorem dX1_addVariable_27 : decode cX1_addVariable 27 = .ok (.aload_n 0, 1) := by decide +kernel
theorem dX1_addVariable_28 : decode cX1_addVariable 28 = .ok (.iload_n 1, 1) := by decide +kernel
theorem dX1_addVariable_29 : decode cX1_addVariable 29 = .ok (.iload_n 2, 1) := by decide +kernel
theorem dX1_addVariable_30 : decode cX1_addVariable 30 = .ok (.iload_n 3, 1) := by decide +kernel
theorem dX1_addVariable_31 : decode cX1_addVariable 31 = .ok (.iload 4, 2) := by decide +kernel
theorem dX1_addVariable_33 : decode cX1_addVariable 33 = .ok (.invokevirtual 63, 3) := by decide +kernel
theorem dX1_addVariable_36 : decode cX1_addVariable 36 = .ok (.ireturn, 1) := by decide +kernel
theorem dX1_declare_0 : decode cX1_declare 0 = .ok (.iload_n 1, 1) := by decide +kernel
theorem dX1_declare_1 : decode cX1_declare 1 = .ok (.bipush 16, 2) := by decide +kernel
theorem dX1_declare_3 : decode cX1_declare 3 = .ok (.imul, 1) := by decide +kernel
theorem dX1_declare_4 : decode cX1_declare 4 = .ok (.iload_n 2, 1) := by decide +kernel
theorem dX1_declare_5 : decode cX1_declare 5 = .ok (.iadd, 1) := by decide +kernel
theorem dX1_declare_6 : decode cX1_declare 6 = .ok (.istore 5, 2) := by decide +kernel
theorem dX1_declare_8 : decode cX1_declare 8 = .ok (.aload_n 0, 1) := by decide +kernel
theorem dX1_declare_9 : decode cX1_declare 9 = .ok (.getfield 34, 3) := by decide +kernel
theorem dX1_declare_12 : decode cX1_declare 12 = .ok (.iload 5, 2) := by decide +kernel
theorem dX1_declare_14 : decode cX1_declare 14 = .ok (.iload_n 3, 1) := by decide +kernel
theorem dX1_declare_15 : decode cX1_declare 15 = .ok (.iastore, 1) := by decide +kernel
theorem dX1_declare_16 : decode cX1_declare 16 = .ok (.aload_n 0, 1) := by decide +kernel
theorem dX1_declare_17 : decode cX1_declare 17 = .ok (.getfield 37, 3) := by decide +kernel
theorem dX1_declare_20 : decode cX1_declare 20 = .ok (.iload 5, 2) := by decide +kernel
theorem dX1_declare_22 : decode cX1_declare 22 = .ok (.iconst (-1), 1) := by decide +kernel
theorem dX1_declare_23 : decode cX1_declare 23 = .ok (.iastore, 1) := by decide +kernel
theorem dX1_declare_24 : decode cX1_declare 24 = .ok (.aload_n 0, 1) := by decide +kernel
theorem dX1_declare_25 : decode cX1_declare 25 = .ok (.getfield 40, 3) := by decide +kernel
theorem dX1_declare_28 : decode cX1_declare 28 = .ok (.iload 5, 2) := by decide +kernel
theorem dX1_declare_30 : decode cX1_declare 30 = .ok (.iload 4, 2) := by decide +kernel
theorem dX1_declare_32 : decode cX1_declare 32 = .ok (.iastore, 1) := by decide +kernel
theorem dX1_declare_33 : decode cX1_declare 33 = .ok (.return_, 1) := by decide +kernel
set_option maxRecDepth 20000 in
theorem ggX1_declarePlace_X1_declare : GoodIn wsX1_declarePlace wsX1_declare := goodIn_r _ [9, 10, 2, 11, 12, 13, 14, 15, 16, 17, 18, 19, 20, 21, 22, 23] (by decide +kernel) (by decide +kernel)
set_option maxRecDepth 20000 in
theorem gX1_declarePlace_X1_declare : GoodIn wsX1_declarePlace (wsV RX1 59 RX1 yX1_declare wsX1_declare) := goodIn_app (goodIn_of _ (by decide +kernel)) ggX1_declarePlace_X1_declare
theorem dX1_declarePlace_0 : decode cX1_declarePlace 0 = .ok (.aload_n 0, 1) := by decide +kernel
theorem dX1_declarePlace_1 : decode cX1_declarePlace 1 = .ok (.getfield 28, 3) := by decide +kernel
theorem dX1_declarePlace_4 : decode cX1_declarePlace 4 = .ok (.iload_n 1, 1) := by decide +kernel
theorem dX1_declarePlace_5 : decode cX1_declarePlace 5 = .ok (.iaload, 1) := by decide +kernel
theorem dX1_declarePlace_6 : decode cX1_declarePlace 6 = .ok (.istore 5, 2) := by decide +kernel
theorem dX1_declarePlace_8 : decode cX1_declarePlace 8 = .ok (.aload_n 0, 1) := by decide +kernel
theorem dX1_declarePlace_9 : decode cX1_declarePlace 9 = .ok (.getfield 28, 3) := by decide +kernel
theorem dX1_declarePlace_12 : decode cX1_declarePlace 12 = .ok (.iload_n 1, 1) := by decide +kernel
theorem dX1_declarePlace_13 : decode cX1_declarePlace 13 = .ok (.dup2, 1) := by decide +kernel
theorem dX1_declarePlace_14 : decode cX1_declarePlace 14 = .ok (.iaload, 1) := by decide +kernel
theorem dX1_declarePlace_15 : decode cX1_declarePlace 15 = .ok (.iconst 1, 1) := by decide +kernel
theorem dX1_declarePlace_16 : decode cX1_declarePlace 16 = .ok (.iadd, 1) := by decide +kernel
theorem dX1_declarePlace_17 : decode cX1_declarePlace 17 = .ok (.iastore, 1) := by decide +kernel
theorem dX1_declarePlace_18 : decode cX1_declarePlace 18 = .ok (.aload_n 0, 1) := by decide +kernel
theorem dX1_declarePlace_19 : decode cX1_declarePlace 19 = .ok (.iload_n 1, 1) := by decide +kernel
theorem dX1_declarePlace_20 : decode cX1_declarePlace 20 = .ok (.iload_n 2, 1) := by decide +kernel
theorem dX1_declarePlace_21 : decode cX1_declarePlace 21 = .ok (.iload_n 3, 1) := by decide +kernel
theorem dX1_declarePlace_22 : decode cX1_declarePlace 22 = .ok (.iload 4, 2) := by decide +kernel
theorem dX1_declarePlace_24 : decode cX1_declarePlace 24 = .ok (.invokevirtual 59, 3) := by decide +kernel
theorem dX1_declarePlace_27 : decode cX1_declarePlace 27 = .ok (.aload_n 0, 1) := by decide +kernel
theorem dX1_declarePlace_28 : decode cX1_declarePlace 28 = .ok (.getfield 37, 3) := by decide +kernel
theorem dX1_declarePlace_31 : decode cX1_declarePlace 31 = .ok (.iload_n 1, 1) := by decide +kernel
theorem dX1_declarePlace_32 : decode cX1_declarePlace 32 = .ok (.bipush 16, 2) := by decide +kernel
theorem dX1_declarePlace_34 : decode cX1_declarePlace 34 = .ok (.imul, 1) := by decide +kernel
theorem dX1_declarePlace_35 : decode cX1_declarePlace 35 = .ok (.iload_n 2, 1) := by decide +kernel
theorem dX1_declarePlace_36 : decode cX1_declarePlace 36 = .ok (.iadd, 1) := by decide +kernel
theorem dX1_declarePlace_37 : decode cX1_declarePlace 37 = .ok (.iload 5, 2) := by decide +kernel
theorem dX1_declarePlace_39 : decode cX1_declarePlace 39 = .ok (.iastore, 1) := by decide +kernel
theorem dX1_declarePlace_40 : decode cX1_declarePlace 40 = .ok (.aload_n 0, 1) := by decide +kernel
theorem dX1_declarePlace_41 : decode cX1_declarePlace 41 = .ok (.getfield 43, 3) := by decide +kernel
theorem dX1_declarePlace_44 : decode cX1_declarePlace 44 = .ok (.iload_n 1, 1) := by decide +kernel
theorem dX1_declarePlace_45 : decode cX1_declarePlace 45 = .ok (.bipush 10, 2) := by decide +kernel
theorem dX1_declarePlace_47 : decode cX1_declarePlace 47 = .ok (.imul, 1) := by decide +kernel
theorem dX1_declarePlace_48 : decode cX1_declarePlace 48 = .ok (.iload 5, 2) := by decide +kernel
theorem dX1_declarePlace_50 : decode cX1_declarePlace 50 = .ok (.iadd, 1) := by decide +kernel
theorem dX1_declarePlace_51 : decode cX1_declarePlace 51 = .ok (.iload_n 3, 1) := by decide +kernel
theorem dX1_declarePlace_52 : decode cX1_declarePlace 52 = .ok (.iastore, 1) := by decide +kernel
theorem dX1_declarePlace_53 : decode cX1_declarePlace 53 = .ok (.aload_n 0, 1) := by decide +kernel
theorem dX1_declarePlace_54 : decode cX1_declarePlace 54 = .ok (.getfield 46, 3) := by decide +kernel
theorem dX1_declarePlace_57 : decode cX1_declarePlace 57 = .ok (.iload_n 1, 1) := by decide +kernel
theorem dX1_declarePlace_58 : decode cX1_declarePlace 58 = .ok (.bipush 10, 2) := by decide +kernel
theorem dX1_declarePlace_60 : decode cX1_declarePlace 60 = .ok (.imul, 1) := by decide +kernel
theorem dX1_declarePlace_61 : decode cX1_declarePlace 61 = .ok (.iload 5, 2) := by decide +kernel
theorem dX1_declarePlace_63 : decode cX1_declarePlace 63 = .ok (.iadd, 1) := by decide +kernel
theorem dX1_declarePlace_64 : decode cX1_declarePlace 64 = .ok (.iload 4, 2) := by decide +kernel
theorem dX1_declarePlace_66 : decode cX1_declarePlace 66 = .ok (.iastore, 1) := by decide +kernel
theorem dX1_declarePlace_67 : decode cX1_declarePlace 67 = .ok (.iload 5, 2) := by decide +kernel
theorem dX1_declarePlace_69 : decode cX1_declarePlace 69 = .ok (.ireturn, 1) := by decide +kernel
set_option maxRecDepth 20000 in
theorem ggX1_declarer_X1_declares : GoodIn wsX1_declarer wsX1_declares := goodIn_r _ [6, 7, 8, 9, 10, 11, 12, 13, 14, 15, 16, 17, 18, 19] (by decide +kernel) (by decide +kernel)
set_option maxRecDepth 20000 in
theorem gX1_declarer_X1_declares : GoodIn wsX1_declarer (wsV RX1 55 RX1 yX1_declares wsX1_declares) := goodIn_app (goodIn_of _ (by decide +kernel)) ggX1_declarer_X1_declares
theorem dX1_declarer_0 : decode cX1_declarer 0 = .ok (.iload_n 1, 1) := by decide +kernel
theorem dX1_declarer_1 : decode cX1_declarer 1 = .ok (.istore_n 3, 1) := by decide +kernel
theorem dX1_declarer_2 : decode cX1_declarer 2 = .ok (.iconst 0, 1) := by decide +kernel
theorem dX1_declarer_3 : decode cX1_declarer 3 = .ok (.istore 4, 2) := by decide +kernel
theorem dX1_declarer_5 : decode cX1_declarer 5 = .ok (.iload 4, 2) := by decide +kernel
theorem dX1_declarer_7 : decode cX1_declarer 7 = .ok (.bipush 10, 2) := by decide +kernel
theorem dX1_declarer_9 : decode cX1_declarer 9 = .ok (.if_icmp .ge 32, 3) := by decide +kernel
theorem dX1_declarer_12 : decode cX1_declarer 12 = .ok (.iload_n 3, 1) := by decide +kernel
theorem dX1_declarer_13 : decode cX1_declarer 13 = .ok (.iconst (-1), 1) := by decide +kernel
theorem dX1_declarer_14 : decode cX1_declarer 14 = .ok (.if_icmp .eq 27, 3) := by decide +kernel
theorem dX1_declarer_17 : decode cX1_declarer 17 = .ok (.aload_n 0, 1) := by decide +kernel
theorem dX1_declarer_18 : decode cX1_declarer 18 = .ok (.iload_n 3, 1) := by decide +kernel
theorem dX1_declarer_19 : decode cX1_declarer 19 = .ok (.iload_n 2, 1) := by decide +kernel
theorem dX1_declarer_20 : decode cX1_declarer 20 = .ok (.invokevirtual 55, 3) := by decide +kernel
theorem dX1_declarer_23 : decode cX1_declarer 23 = .ok (.ifCond .eq 5, 3) := by decide +kernel
theorem dX1_declarer_26 : decode cX1_declarer 26 = .ok (.iload_n 3, 1) := by decide +kernel
theorem dX1_declarer_27 : decode cX1_declarer 27 = .ok (.ireturn, 1) := by decide +kernel
theorem dX1_declarer_28 : decode cX1_declarer 28 = .ok (.aload_n 0, 1) := by decide +kernel
theorem dX1_declarer_29 : decode cX1_declarer 29 = .ok (.getfield 15, 3) := by decide +kernel
theorem dX1_declarer_32 : decode cX1_declarer 32 = .ok (.iload_n 3, 1) := by decide +kernel
theorem dX1_declarer_33 : decode cX1_declarer 33 = .ok (.iaload, 1) := by decide +kernel
theorem dX1_declarer_34 : decode cX1_declarer 34 = .ok (.istore_n 3, 1) := by decide +kernel
theorem dX1_declarer_35 : decode cX1_declarer 35 = .ok (.iinc 4 1, 3) := by decide +kernel
theorem dX1_declarer_38 : decode cX1_declarer 38 = .ok (.goto (-33), 3) := by decide +kernel
theorem dX1_declarer_41 : decode cX1_declarer 41 = .ok (.iconst (-1), 1) := by decide +kernel
theorem dX1_declarer_42 : decode cX1_declarer 42 = .ok (.ireturn, 1) := by decide +kernel
theorem dX1_hopsTo_0 : decode cX1_hopsTo 0 = .ok (.iload_n 2, 1) := by decide +kernel
theorem dX1_hopsTo_1 : decode cX1_hopsTo 1 = .ok (.istore_n 3, 1) := by decide +kernel
theorem dX1_hopsTo_2 : decode cX1_hopsTo 2 = .ok (.iconst 0, 1) := by decide +kernel
theorem dX1_hopsTo_3 : decode cX1_hopsTo 3 = .ok (.istore 4, 2) := by decide +kernel
theorem dX1_hopsTo_5 : decode cX1_hopsTo 5 = .ok (.iload 4, 2) := by decide +kernel
theorem dX1_hopsTo_7 : decode cX1_hopsTo 7 = .ok (.bipush 10, 2) := by decide +kernel
theorem dX1_hopsTo_9 : decode cX1_hopsTo 9 = .ok (.if_icmp .ge 26, 3) := by decide +kernel
theorem dX1_hopsTo_12 : decode cX1_hopsTo 12 = .ok (.iload_n 3, 1) := by decide +kernel
theorem dX1_hopsTo_13 : decode cX1_hopsTo 13 = .ok (.iload_n 1, 1) := by decide +kernel
theorem dX1_hopsTo_14 : decode cX1_hopsTo 14 = .ok (.if_icmp .eq 21, 3) := by decide +kernel
theorem dX1_hopsTo_17 : decode cX1_hopsTo 17 = .ok (.iload_n 3, 1) := by decide +kernel
theorem dX1_hopsTo_18 : decode cX1_hopsTo 18 = .ok (.iconst (-1), 1) := by decide +kernel
theorem dX1_hopsTo_19 : decode cX1_hopsTo 19 = .ok (.if_icmp .eq 16, 3) := by decide +kernel
theorem dX1_hopsTo_22 : decode cX1_hopsTo 22 = .ok (.aload_n 0, 1) := by decide +kernel
theorem dX1_hopsTo_23 : decode cX1_hopsTo 23 = .ok (.getfield 15, 3) := by decide +kernel
theorem dX1_hopsTo_26 : decode cX1_hopsTo 26 = .ok (.iload_n 3, 1) := by decide +kernel
theorem dX1_hopsTo_27 : decode cX1_hopsTo 27 = .ok (.iaload, 1) := by decide +kernel
theorem dX1_hopsTo_28 : decode cX1_hopsTo 28 = .ok (.istore_n 3, 1) := by decide +kernel
theorem dX1_hopsTo_29 : decode cX1_hopsTo 29 = .ok (.iinc 4 1, 3) := by decide +kernel
theorem dX1_hopsTo_32 : decode cX1_hopsTo 32 = .ok (.goto (-27), 3) := by decide +kernel
theorem dX1_hopsTo_35 : decode cX1_hopsTo 35 = .ok (.iload 4, 2) := by decide +kernel
theorem dX1_hopsTo_37 : decode cX1_hopsTo 37 = .ok (.ireturn, 1) := by decide +kernel
theorem dX1_isInside_0 : decode cX1_isInside 0 = .ok (.aload_n 0, 1) := by decide +kernel
theorem dX1_isInside_1 : decode cX1_isInside 1 = .ok (.getfield 15, 3) := by decide +kernel
theorem dX1_isInside_4 : decode cX1_isInside 4 = .ok (.iload_n 1, 1) := by decide +kernel
theorem dX1_isInside_5 : decode cX1_isInside 5 = .ok (.iaload, 1) := by decide +kernel
theorem dX1_isInside_6 : decode cX1_isInside 6 = .ok (.istore_n 3, 1) := by decide +kernel
theorem dX1_isInside_7 : decode cX1_isInside 7 = .ok (.iconst 0, 1) := by decide +kernel
theorem dX1_isInside_8 : decode cX1_isInside 8 = .ok (.istore 4, 2) := by decide +kernel
theorem dX1_isInside_10 : decode cX1_isInside 10 = .ok (.iload 4, 2) := by decide +kernel
theorem dX1_isInside_12 : decode cX1_isInside 12 = .ok (.bipush 10, 2) := by decide +kernel
theorem dX1_isInside_14 : decode cX1_isInside 14 = .ok (.if_icmp .ge 28, 3) := by decide +kernel
theorem dX1_isInside_17 : decode cX1_isInside 17 = .ok (.iload_n 3, 1) := by decide +kernel
theorem dX1_isInside_18 : decode cX1_isInside 18 = .ok (.iconst (-1), 1) := by decide +kernel
theorem dX1_isInside_19 : decode cX1_isInside 19 = .ok (.if_icmp .eq 23, 3) := by decide +kernel
theorem dX1_isInside_22 : decode cX1_isInside 22 = .ok (.iload_n 3, 1) := by decide +kernel
theorem dX1_isInside_23 : decode cX1_isInside 23 = .ok (.iload_n 2, 1) := by decide +kernel
theorem dX1_isInside_24 : decode cX1_isInside 24 = .ok (.if_icmp .ne 5, 3) := by decide +kernel
theorem dX1_isInside_27 : decode cX1_isInside 27 = .ok (.iconst 1, 1) := by decide +kernel
theorem dX1_isInside_28 : decode cX1_isInside 28 = .ok (.ireturn, 1) := by decide +kernel
theorem dX1_isInside_29 : decode cX1_isInside 29 = .ok (.aload_n 0, 1) := by decide +kernel
theorem dX1_isInside_30 : decode cX1_isInside 30 = .ok (.getfield 15, 3) := by decide +kernel
theorem dX1_isInside_33 : decode cX1_isInside 33 = .ok (.iload_n 3, 1) := by decide +kernel
theorem dX1_isInside_34 : decode cX1_isInside 34 = .ok (.iaload, 1) := by decide +kernel
theorem dX1_isInside_35 : decode cX1_isInside 35 = .ok (.istore_n 3, 1) := by decide +kernel
theorem dX1_isInside_36 : decode cX1_isInside 36 = .ok (.iinc 4 1, 3) := by decide +kernel
theorem dX1_isInside_39 : decode cX1_isInside 39 = .ok (.goto (-29), 3) := by decide +kernel
theorem dX1_isInside_42 : decode cX1_isInside 42 = .ok (.iconst 0, 1) := by decide +kernel
theorem dX1_isInside_43 : decode cX1_isInside 43 = .ok (.ireturn, 1) := by decide +kernel
theorem dX1_takesValuesAlone_0 : decode cX1_takesValuesAlone 0 = .ok (.iconst 0, 1) := by decide +kernel
theorem dX1_takesValuesAlone_1 : decode cX1_takesValuesAlone 1 = .ok (.istore_n 2, 1) := by decide +kernel
theorem dX1_takesValuesAlone_2 : decode cX1_takesValuesAlone 2 = .ok (.iload_n 2, 1) := by decide +kernel
theorem dX1_takesValuesAlone_3 : decode cX1_takesValuesAlone 3 = .ok (.aload_n 0, 1) := by decide +kernel
theorem dX1_takesValuesAlone_4 : decode cX1_takesValuesAlone 4 = .ok (.getfield 22, 3) := by decide +kernel
theorem dX1_takesValuesAlone_7 : decode cX1_takesValuesAlone 7 = .ok (.iload_n 1, 1) := by decide +kernel
theorem dX1_takesValuesAlone_8 : decode cX1_takesValuesAlone 8 = .ok (.iaload, 1) := by decide +kernel
theorem dX1_takesValuesAlone_9 : decode cX1_takesValuesAlone 9 = .ok (.if_icmp .ge 25, 3) := by decide +kernel
theorem dX1_takesValuesAlone_12 : decode cX1_takesValuesAlone 12 = .ok (.aload_n 0, 1) := by decide +kernel
theorem dX1_takesValuesAlone_13 : decode cX1_takesValuesAlone 13 = .ok (.getfield 43, 3) := by decide +kernel
theorem dX1_takesValuesAlone_16 : decode cX1_takesValuesAlone 16 = .ok (.iload_n 1, 1) := by decide +kernel
theorem dX1_takesValuesAlone_17 : decode cX1_takesValuesAlone 17 = .ok (.bipush 10, 2) := by decide +kernel
theorem dX1_takesValuesAlone_19 : decode cX1_takesValuesAlone 19 = .ok (.imul, 1) := by decide +kernel
theorem dX1_takesValuesAlone_20 : decode cX1_takesValuesAlone 20 = .ok (.iload_n 2, 1) := by decide +kernel
theorem dX1_takesValuesAlone_21 : decode cX1_takesValuesAlone 21 = .ok (.iadd, 1) := by decide +kernel
theorem dX1_takesValuesAlone_22 : decode cX1_takesValuesAlone 22 = .ok (.iaload, 1) := by decide +kernel
theorem dX1_takesValuesAlone_23 : decode cX1_takesValuesAlone 23 = .ok (.ifCond .eq 5, 3) := by decide +kernel
theorem dX1_takesValuesAlone_26 : decode cX1_takesValuesAlone 26 = .ok (.iconst 0, 1) := by decide +kernel
theorem dX1_takesValuesAlone_27 : decode cX1_takesValuesAlone 27 = .ok (.ireturn, 1) := by decide +kernel
theorem dX1_takesValuesAlone_28 : decode cX1_takesValuesAlone 28 = .ok (.iinc 2 1, 3) := by decide +kernel
theorem dX1_takesValuesAlone_31 : decode cX1_takesValuesAlone 31 = .ok (.goto (-29), 3) := by decide +kernel
theorem dX1_takesValuesAlone_34 : decode cX1_takesValuesAlone 34 = .ok (.iconst 1, 1) := by decide +kernel
theorem dX1_takesValuesAlone_35 : decode cX1_takesValuesAlone 35 = .ok (.ireturn, 1) := by decide +kernel
