theorem dX5_init_0 : decode cX5_init 0 = .ok (.aload_n 0, 1) := by decide +kernel
theorem dX5_init_1 : decode cX5_init 1 = .ok (.invokespecial 3, 3) := by decide +kernel
theorem dX5_init_4 : decode cX5_init 4 = .ok (.aload_n 0, 1) := by decide +kernel
theorem dX5_init_5 : decode cX5_init 5 = .ok (.iconst 0, 1) := by decide +kernel
theorem dX5_init_6 : decode cX5_init 6 = .ok (.putfield 9, 3) := by decide +kernel
theorem dX5_init_9 : decode cX5_init 9 = .ok (.aload_n 0, 1) := by decide +kernel
theorem dX5_init_10 : decode cX5_init 10 = .ok (.bipush 110, 2) := by decide +kernel
theorem dX5_init_12 : decode cX5_init 12 = .ok (.newarray .int, 2) := by decide +kernel
theorem dX5_init_14 : decode cX5_init 14 = .ok (.putfield 15, 3) := by decide +kernel
theorem dX5_init_17 : decode cX5_init 17 = .ok (.aload_n 0, 1) := by decide +kernel
theorem dX5_init_18 : decode cX5_init 18 = .ok (.bipush 110, 2) := by decide +kernel
theorem dX5_init_20 : decode cX5_init 20 = .ok (.newarray .int, 2) := by decide +kernel
theorem dX5_init_22 : decode cX5_init 22 = .ok (.putfield 19, 3) := by decide +kernel
theorem dX5_init_25 : decode cX5_init 25 = .ok (.aload_n 0, 1) := by decide +kernel
theorem dX5_init_26 : decode cX5_init 26 = .ok (.bipush 110, 2) := by decide +kernel
theorem dX5_init_28 : decode cX5_init 28 = .ok (.newarray .int, 2) := by decide +kernel
theorem dX5_init_30 : decode cX5_init 30 = .ok (.putfield 22, 3) := by decide +kernel
theorem dX5_init_33 : decode cX5_init 33 = .ok (.aload_n 0, 1) := by decide +kernel
theorem dX5_init_34 : decode cX5_init 34 = .ok (.bipush 110, 2) := by decide +kernel
theorem dX5_init_36 : decode cX5_init 36 = .ok (.newarray .int, 2) := by decide +kernel
theorem dX5_init_38 : decode cX5_init 38 = .ok (.putfield 25, 3) := by decide +kernel
theorem dX5_init_41 : decode cX5_init 41 = .ok (.aload_n 0, 1) := by decide +kernel
theorem dX5_init_42 : decode cX5_init 42 = .ok (.bipush 110, 2) := by decide +kernel
theorem dX5_init_44 : decode cX5_init 44 = .ok (.newarray .int, 2) := by decide +kernel
theorem dX5_init_46 : decode cX5_init 46 = .ok (.putfield 28, 3) := by decide +kernel
theorem dX5_init_49 : decode cX5_init 49 = .ok (.aload_n 0, 1) := by decide +kernel
theorem dX5_init_50 : decode cX5_init 50 = .ok (.bipush 110, 2) := by decide +kernel
theorem dX5_init_52 : decode cX5_init 52 = .ok (.newarray .int, 2) := by decide +kernel
theorem dX5_init_54 : decode cX5_init 54 = .ok (.putfield 31, 3) := by decide +kernel
theorem dX5_init_57 : decode cX5_init 57 = .ok (.return_, 1) := by decide +kernel
theorem dX5_has_0 : decode cX5_has 0 = .ok (.iload_n 1, 1) := by decide +kernel
theorem dX5_has_1 : decode cX5_has 1 = .ok (.ifCond .lt 15, 3) := by decide +kernel
theorem dX5_has_4 : decode cX5_has 4 = .ok (.iload_n 1, 1) := by decide +kernel
theorem dX5_has_5 : decode cX5_has 5 = .ok (.aload_n 0, 1) := by decide +kernel
theorem dX5_has_6 : decode cX5_has 6 = .ok (.getfield 9, 3) := by decide +kernel
theorem dX5_has_9 : decode cX5_has 9 = .ok (.if_icmp .ge 7, 3) := by decide +kernel
theorem dX5_has_12 : decode cX5_has 12 = .ok (.iconst 1, 1) := by decide +kernel
theorem dX5_has_13 : decode cX5_has 13 = .ok (.goto 4, 3) := by decide +kernel
theorem dX5_has_16 : decode cX5_has 16 = .ok (.iconst 0, 1) := by decide +kernel
theorem dX5_has_17 : decode cX5_has 17 = .ok (.ireturn, 1) := by decide +kernel
theorem dX5_isFree_0 : decode cX5_isFree 0 = .ok (.aload_n 0, 1) := by decide +kernel
theorem dX5_isFree_1 : decode cX5_isFree 1 = .ok (.getfield 28, 3) := by decide +kernel
theorem dX5_isFree_4 : decode cX5_isFree 4 = .ok (.iload_n 1, 1) := by decide +kernel
theorem dX5_isFree_5 : decode cX5_isFree 5 = .ok (.iaload, 1) := by decide +kernel
theorem dX5_isFree_6 : decode cX5_isFree 6 = .ok (.iconst (-1), 1) := by decide +kernel
theorem dX5_isFree_7 : decode cX5_isFree 7 = .ok (.if_icmp .ne 17, 3) := by decide +kernel
theorem dX5_isFree_10 : decode cX5_isFree 10 = .ok (.aload_n 0, 1) := by decide +kernel
theorem dX5_isFree_11 : decode cX5_isFree 11 = .ok (.getfield 31, 3) := by decide +kernel
theorem dX5_isFree_14 : decode cX5_isFree 14 = .ok (.iload_n 1, 1) := by decide +kernel
theorem dX5_isFree_15 : decode cX5_isFree 15 = .ok (.iaload, 1) := by decide +kernel
theorem dX5_isFree_16 : decode cX5_isFree 16 = .ok (.iconst (-1), 1) := by decide +kernel
theorem dX5_isFree_17 : decode cX5_isFree 17 = .ok (.if_icmp .ne 7, 3) := by decide +kernel
theorem dX5_isFree_20 : decode cX5_isFree 20 = .ok (.iconst 1, 1) := by decide +kernel
theorem dX5_isFree_21 : decode cX5_isFree 21 = .ok (.goto 4, 3) := by decide +kernel
theorem dX5_isFree_24 : decode cX5_isFree 24 = .ok (.iconst 0, 1) := by decide +kernel
theorem dX5_isFree_25 : decode cX5_isFree 25 = .ok (.ireturn, 1) := by decide +kernel
theorem dX5_isExpression_0 : decode cX5_isExpression 0 = .ok (.aload_n 0, 1) := by decide +kernel
theorem dX5_isExpression_1 : decode cX5_isExpression 1 = .ok (.getfield 15, 3) := by decide +kernel
theorem dX5_isExpression_4 : decode cX5_isExpression 4 = .ok (.iload_n 1, 1) := by decide +kernel
theorem dX5_isExpression_5 : decode cX5_isExpression 5 = .ok (.iaload, 1) := by decide +kernel
theorem dX5_isExpression_6 : decode cX5_isExpression 6 = .ok (.bipush 8, 2) := by decide +kernel
theorem dX5_isExpression_8 : decode cX5_isExpression 8 = .ok (.if_icmp .gt 7, 3) := by decide +kernel
theorem dX5_isExpression_11 : decode cX5_isExpression 11 = .ok (.iconst 1, 1) := by decide +kernel
theorem dX5_isExpression_12 : decode cX5_isExpression 12 = .ok (.goto 4, 3) := by decide +kernel
theorem dX5_isExpression_15 : decode cX5_isExpression 15 = .ok (.iconst 0, 1) := by decide +kernel
theorem dX5_isExpression_16 : decode cX5_isExpression 16 = .ok (.ireturn, 1) := by decide +kernel
theorem dX5_isStatement_0 : decode cX5_isStatement 0 = .ok (.aload_n 0, 1) := by decide +kernel
theorem dX5_isStatement_1 : decode cX5_isStatement 1 = .ok (.getfield 15, 3) := by decide +kernel
theorem dX5_isStatement_4 : decode cX5_isStatement 4 = .ok (.iload_n 1, 1) := by decide +kernel
theorem dX5_isStatement_5 : decode cX5_isStatement 5 = .ok (.iaload, 1) := by decide +kernel
theorem dX5_isStatement_6 : decode cX5_isStatement 6 = .ok (.bipush 12, 2) := by decide +kernel
theorem dX5_isStatement_8 : decode cX5_isStatement 8 = .ok (.if_icmp .lt 7, 3) := by decide +kernel
theorem dX5_isStatement_11 : decode cX5_isStatement 11 = .ok (.iconst 1, 1) := by decide +kernel
theorem dX5_isStatement_12 : decode cX5_isStatement 12 = .ok (.goto 4, 3) := by decide +kernel
theorem dX5_isStatement_15 : decode cX5_isStatement 15 = .ok (.iconst 0, 1) := by decide +kernel
theorem dX5_isStatement_16 : decode cX5_isStatement 16 = .ok (.ireturn, 1) := by decide +kernel
theorem dX5_argumentsOf_0 : decode cX5_argumentsOf 0 = .ok (.iconst 0, 1) := by decide +kernel
theorem dX5_argumentsOf_1 : decode cX5_argumentsOf 1 = .ok (.istore_n 2, 1) := by decide +kernel
theorem dX5_argumentsOf_2 : decode cX5_argumentsOf 2 = .ok (.aload_n 0, 1) := by decide +kernel
theorem dX5_argumentsOf_3 : decode cX5_argumentsOf 3 = .ok (.getfield 22, 3) := by decide +kernel
theorem dX5_argumentsOf_6 : decode cX5_argumentsOf 6 = .ok (.iload_n 1, 1) := by decide +kernel
theorem dX5_argumentsOf_7 : decode cX5_argumentsOf 7 = .ok (.iaload, 1) := by decide +kernel
theorem dX5_argumentsOf_8 : decode cX5_argumentsOf 8 = .ok (.istore_n 3, 1) := by decide +kernel
theorem dX5_argumentsOf_9 : decode cX5_argumentsOf 9 = .ok (.iload_n 2, 1) := by decide +kernel
theorem dX5_argumentsOf_10 : decode cX5_argumentsOf 10 = .ok (.bipush 110, 2) := by decide +kernel
theorem dX5_argumentsOf_12 : decode cX5_argumentsOf 12 = .ok (.if_icmp .ge 21, 3) := by decide +kernel
theorem dX5_argumentsOf_15 : decode cX5_argumentsOf 15 = .ok (.iload_n 3, 1) := by decide +kernel
theorem dX5_argumentsOf_16 : decode cX5_argumentsOf 16 = .ok (.iconst (-1), 1) := by decide +kernel
theorem dX5_argumentsOf_17 : decode cX5_argumentsOf 17 = .ok (.if_icmp .eq 16, 3) := by decide +kernel
theorem dX5_argumentsOf_20 : decode cX5_argumentsOf 20 = .ok (.aload_n 0, 1) := by decide +kernel
theorem dX5_argumentsOf_21 : decode cX5_argumentsOf 21 = .ok (.getfield 25, 3) := by decide +kernel
theorem dX5_argumentsOf_24 : decode cX5_argumentsOf 24 = .ok (.iload_n 3, 1) := by decide +kernel
theorem dX5_argumentsOf_25 : decode cX5_argumentsOf 25 = .ok (.iaload, 1) := by decide +kernel
theorem dX5_argumentsOf_26 : decode cX5_argumentsOf 26 = .ok (.istore_n 3, 1) := by decide +kernel
theorem dX5_argumentsOf_27 : decode cX5_argumentsOf 27 = .ok (.iinc 2 1, 3) := by decide +kernel
theorem dX5_argumentsOf_30 : decode cX5_argumentsOf 30 = .ok (.goto (-21), 3) := by decide +kernel
theorem dX5_argumentsOf_33 : decode cX5_argumentsOf 33 = .ok (.iload_n 2, 1) := by decide +kernel
theorem dX5_argumentsOf_34 : decode cX5_argumentsOf 34 = .ok (.ireturn, 1) := by decide +kernel
theorem dX5_hasName_0 : decode cX5_hasName 0 = .ok (.getstatic 34, 3) := by decide +kernel
theorem dX5_hasName_3 : decode cX5_hasName 3 = .ok (.aload_n 0, 1) := by decide +kernel
theorem dX5_hasName_4 : decode cX5_hasName 4 = .ok (.getfield 15, 3) := by decide +kernel
theorem dX5_hasName_7 : decode cX5_hasName 7 = .ok (.iload_n 1, 1) := by decide +kernel
theorem dX5_hasName_8 : decode cX5_hasName 8 = .ok (.iaload, 1) := by decide +kernel
theorem dX5_hasName_9 : decode cX5_hasName 9 = .ok (.iaload, 1) := by decide +kernel
theorem dX5_hasName_10 : decode cX5_hasName 10 = .ok (.iconst 2, 1) := by decide +kernel
theorem dX5_hasName_11 : decode cX5_hasName 11 = .ok (.if_icmp .ne 7, 3) := by decide +kernel
theorem dX5_hasName_14 : decode cX5_hasName 14 = .ok (.iconst 1, 1) := by decide +kernel
theorem dX5_hasName_15 : decode cX5_hasName 15 = .ok (.goto 4, 3) := by decide +kernel
theorem dX5_hasName_18 : decode cX5_hasName 18 = .ok (.iconst 0, 1) := by decide +kernel
theorem dX5_hasName_19 : decode cX5_hasName 19 = .ok (.ireturn, 1) := by decide +kernel
theorem dX5_partA_0 : decode cX5_partA 0 = .ok (.getstatic 34, 3) := by decide +kernel
theorem dX5_partA_3 : decode cX5_partA 3 = .ok (.aload_n 0, 1) := by decide +kernel
theorem dX5_partA_4 : decode cX5_partA 4 = .ok (.getfield 15, 3) := by decide +kernel
theorem dX5_partA_7 : decode cX5_partA 7 = .ok (.iload_n 1, 1) := by decide +kernel
theorem dX5_partA_8 : decode cX5_partA 8 = .ok (.iaload, 1) := by decide +kernel
theorem dX5_partA_9 : decode cX5_partA 9 = .ok (.iaload, 1) := by decide +kernel
theorem dX5_partA_10 : decode cX5_partA 10 = .ok (.iconst 4, 1) := by decide +kernel
theorem dX5_partA_11 : decode cX5_partA 11 = .ok (.if_icmp .lt 12, 3) := by decide +kernel
theorem dX5_partA_14 : decode cX5_partA 14 = .ok (.aload_n 0, 1) := by decide +kernel
theorem dX5_partA_15 : decode cX5_partA 15 = .ok (.getfield 19, 3) := by decide +kernel
theorem dX5_partA_18 : decode cX5_partA 18 = .ok (.iload_n 1, 1) := by decide +kernel
theorem dX5_partA_19 : decode cX5_partA 19 = .ok (.iaload, 1) := by decide +kernel
theorem dX5_partA_20 : decode cX5_partA 20 = .ok (.goto 4, 3) := by decide +kernel
theorem dX5_partA_23 : decode cX5_partA 23 = .ok (.iconst (-1), 1) := by decide +kernel
theorem dX5_partA_24 : decode cX5_partA 24 = .ok (.ireturn, 1) := by decide +kernel
theorem dX5_partB_0 : decode cX5_partB 0 = .ok (.getstatic 37, 3) := by decide +kernel
theorem dX5_partB_3 : decode cX5_partB 3 = .ok (.aload_n 0, 1) := by decide +kernel
theorem dX5_partB_4 : decode cX5_partB 4 = .ok (.getfield 15, 3) := by decide +kernel
theorem dX5_partB_7 : decode cX5_partB 7 = .ok (.iload_n 1, 1) := by decide +kernel
theorem dX5_partB_8 : decode cX5_partB 8 = .ok (.iaload, 1) := by decide +kernel
theorem dX5_partB_9 : decode cX5_partB 9 = .ok (.iaload, 1) := by decide +kernel
theorem dX5_partB_10 : decode cX5_partB 10 = .ok (.iconst 4, 1) := by decide +kernel
theorem dX5_partB_11 : decode cX5_partB 11 = .ok (.if_icmp .lt 12, 3) := by decide +kernel
theorem dX5_partB_14 : decode cX5_partB 14 = .ok (.aload_n 0, 1) := by decide +kernel
theorem dX5_partB_15 : decode cX5_partB 15 = .ok (.getfield 22, 3) := by decide +kernel
theorem dX5_partB_18 : decode cX5_partB 18 = .ok (.iload_n 1, 1) := by decide +kernel
theorem dX5_partB_19 : decode cX5_partB 19 = .ok (.iaload, 1) := by decide +kernel
theorem dX5_partB_20 : decode cX5_partB 20 = .ok (.goto 4, 3) := by decide +kernel
theorem dX5_partB_23 : decode cX5_partB 23 = .ok (.iconst (-1), 1) := by decide +kernel
theorem dX5_partB_24 : decode cX5_partB 24 = .ok (.ireturn, 1) := by decide +kernel
theorem dX5_partC_0 : decode cX5_partC 0 = .ok (.getstatic 40, 3) := by decide +kernel
theorem dX5_partC_3 : decode cX5_partC 3 = .ok (.aload_n 0, 1) := by decide +kernel
theorem dX5_partC_4 : decode cX5_partC 4 = .ok (.getfield 15, 3) := by decide +kernel
theorem dX5_partC_7 : decode cX5_partC 7 = .ok (.iload_n 1, 1) := by decide +kernel
theorem dX5_partC_8 : decode cX5_partC 8 = .ok (.iaload, 1) := by decide +kernel
theorem dX5_partC_9 : decode cX5_partC 9 = .ok (.iaload, 1) := by decide +kernel
theorem dX5_partC_10 : decode cX5_partC 10 = .ok (.iconst 4, 1) := by decide +kernel
theorem dX5_partC_11 : decode cX5_partC 11 = .ok (.if_icmp .lt 12, 3) := by decide +kernel
theorem dX5_partC_14 : decode cX5_partC 14 = .ok (.aload_n 0, 1) := by decide +kernel
theorem dX5_partC_15 : decode cX5_partC 15 = .ok (.getfield 25, 3) := by decide +kernel
theorem dX5_partC_18 : decode cX5_partC 18 = .ok (.iload_n 1, 1) := by decide +kernel
theorem dX5_partC_19 : decode cX5_partC 19 = .ok (.iaload, 1) := by decide +kernel
theorem dX5_partC_20 : decode cX5_partC 20 = .ok (.goto 4, 3) := by decide +kernel
theorem dX5_partC_23 : decode cX5_partC 23 = .ok (.iconst (-1), 1) := by decide +kernel
theorem dX5_partC_24 : decode cX5_partC 24 = .ok (.ireturn, 1) := by decide +kernel
set_option maxRecDepth 20000 in
theorem ggX5_suits_X5_fills : GoodIn wsX5_suits wsX5_fills := goodIn_r _ [8, 9, 10, 11, 12, 13, 14, 7, 15, 16, 17, 18, 19, 20, 21, 22, 23, 24, 25, 26, 27, 28, 29, 30, 31, 32, 33, 34, 35, 39, 40, 41, 42, 43, 44, 45] (by decide +kernel) (by decide +kernel)
set_option maxRecDepth 20000 in
theorem gX5_suits_X5_fills : GoodIn wsX5_suits (wsV RX5 43 RX5 yX5_fills wsX5_fills) := goodIn_app (goodIn_of _ (by decide +kernel)) ggX5_suits_X5_fills
set_option maxRecDepth 20000 in
theorem ggX5_suits_X5_isSamePart : GoodIn wsX5_suits wsX5_isSamePart := goodIn_r _ [38] (by decide +kernel) (by decide +kernel)
set_option maxRecDepth 20000 in
theorem gX5_suits_X5_isSamePart : GoodIn wsX5_suits (va_wsS RX5 47 yX5_isSamePart wsX5_isSamePart) := goodIn_app (goodIn_of _ (by decide +kernel)) ggX5_suits_X5_isSamePart
theorem dX5_suits_0 : decode cX5_suits 0 = .ok (.iload_n 1, 1) := by decide +kernel
theorem dX5_suits_1 : decode cX5_suits 1 = .ok (.ifCond .lt 9, 3) := by decide +kernel
theorem dX5_suits_4 : decode cX5_suits 4 = .ok (.iload_n 1, 1) := by decide +kernel
theorem dX5_suits_5 : decode cX5_suits 5 = .ok (.bipush 21, 2) := by decide +kernel
theorem dX5_suits_7 : decode cX5_suits 7 = .ok (.if_icmp .le 5, 3) := by decide +kernel
theorem dX5_suits_10 : decode cX5_suits 10 = .ok (.iconst 0, 1) := by decide +kernel
theorem dX5_suits_11 : decode cX5_suits 11 = .ok (.ireturn, 1) := by decide +kernel
theorem dX5_suits_12 : decode cX5_suits 12 = .ok (.aload_n 0, 1) := by decide +kernel
theorem dX5_suits_13 : decode cX5_suits 13 = .ok (.getstatic 34, 3) := by decide +kernel
theorem dX5_suits_16 : decode cX5_suits 16 = .ok (.iload_n 1, 1) := by decide +kernel
theorem dX5_suits_17 : decode cX5_suits 17 = .ok (.iaload, 1) := by decide +kernel
theorem dX5_suits_18 : decode cX5_suits 18 = .ok (.iload_n 2, 1) := by decide +kernel
theorem dX5_suits_19 : decode cX5_suits 19 = .ok (.invokevirtual 43, 3) := by decide +kernel
theorem dX5_suits_22 : decode cX5_suits 22 = .ok (.ifCond .eq 90, 3) := by decide +kernel
theorem dX5_suits_25 : decode cX5_suits 25 = .ok (.aload_n 0, 1) := by decide +kernel
theorem dX5_suits_26 : decode cX5_suits 26 = .ok (.getstatic 37, 3) := by decide +kernel
theorem dX5_suits_29 : decode cX5_suits 29 = .ok (.iload_n 1, 1) := by decide +kernel
theorem dX5_suits_30 : decode cX5_suits 30 = .ok (.iaload, 1) := by decide +kernel
theorem dX5_suits_31 : decode cX5_suits 31 = .ok (.iload_n 3, 1) := by decide +kernel
theorem dX5_suits_32 : decode cX5_suits 32 = .ok (.invokevirtual 43, 3) := by decide +kernel
theorem dX5_suits_35 : decode cX5_suits 35 = .ok (.ifCond .eq 77, 3) := by decide +kernel
theorem dX5_suits_38 : decode cX5_suits 38 = .ok (.aload_n 0, 1) := by decide +kernel
theorem dX5_suits_39 : decode cX5_suits 39 = .ok (.getstatic 40, 3) := by decide +kernel
theorem dX5_suits_42 : decode cX5_suits 42 = .ok (.iload_n 1, 1) := by decide +kernel
theorem dX5_suits_43 : decode cX5_suits 43 = .ok (.iaload, 1) := by decide +kernel
theorem dX5_suits_44 : decode cX5_suits 44 = .ok (.iload 4, 2) := by decide +kernel
theorem dX5_suits_46 : decode cX5_suits 46 = .ok (.invokevirtual 43, 3) := by decide +kernel
theorem dX5_suits_49 : decode cX5_suits 49 = .ok (.ifCond .eq 63, 3) := by decide +kernel
theorem dX5_suits_52 : decode cX5_suits 52 = .ok (.getstatic 34, 3) := by decide +kernel
theorem dX5_suits_55 : decode cX5_suits 55 = .ok (.iload_n 1, 1) := by decide +kernel
theorem dX5_suits_56 : decode cX5_suits 56 = .ok (.iaload, 1) := by decide +kernel
theorem dX5_suits_57 : decode cX5_suits 57 = .ok (.iload_n 2, 1) := by decide +kernel
theorem dX5_suits_58 : decode cX5_suits 58 = .ok (.getstatic 37, 3) := by decide +kernel
theorem dX5_suits_61 : decode cX5_suits 61 = .ok (.iload_n 1, 1) := by decide +kernel
theorem dX5_suits_62 : decode cX5_suits 62 = .ok (.iaload, 1) := by decide +kernel
theorem dX5_suits_63 : decode cX5_suits 63 = .ok (.iload_n 3, 1) := by decide +kernel
theorem dX5_suits_64 : decode cX5_suits 64 = .ok (.invokestatic 47, 3) := by decide +kernel
theorem dX5_suits_67 : decode cX5_suits 67 = .ok (.ifCond .ne 45, 3) := by decide +kernel
theorem dX5_suits_70 : decode cX5_suits 70 = .ok (.getstatic 34, 3) := by decide +kernel
theorem dX5_suits_73 : decode cX5_suits 73 = .ok (.iload_n 1, 1) := by decide +kernel
theorem dX5_suits_74 : decode cX5_suits 74 = .ok (.iaload, 1) := by decide +kernel
theorem dX5_suits_75 : decode cX5_suits 75 = .ok (.iload_n 2, 1) := by decide +kernel
theorem dX5_suits_76 : decode cX5_suits 76 = .ok (.getstatic 40, 3) := by decide +kernel
theorem dX5_suits_79 : decode cX5_suits 79 = .ok (.iload_n 1, 1) := by decide +kernel
theorem dX5_suits_80 : decode cX5_suits 80 = .ok (.iaload, 1) := by decide +kernel
theorem dX5_suits_81 : decode cX5_suits 81 = .ok (.iload 4, 2) := by decide +kernel
theorem dX5_suits_83 : decode cX5_suits 83 = .ok (.invokestatic 47, 3) := by decide +kernel
theorem dX5_suits_86 : decode cX5_suits 86 = .ok (.ifCond .ne 26, 3) := by decide +kernel
theorem dX5_suits_89 : decode cX5_suits 89 = .ok (.getstatic 37, 3) := by decide +kernel
theorem dX5_suits_92 : decode cX5_suits 92 = .ok (.iload_n 1, 1) := by decide +kernel
theorem dX5_suits_93 : decode cX5_suits 93 = .ok (.iaload, 1) := by decide +kernel
theorem dX5_suits_94 : decode cX5_suits 94 = .ok (.iload_n 3, 1) := by decide +kernel
theorem dX5_suits_95 : decode cX5_suits 95 = .ok (.getstatic 40, 3) := by decide +kernel
theorem dX5_suits_98 : decode cX5_suits 98 = .ok (.iload_n 1, 1) := by decide +kernel
theorem dX5_suits_99 : decode cX5_suits 99 = .ok (.iaload, 1) := by decide +kernel
theorem dX5_suits_100 : decode cX5_suits 100 = .ok (.iload 4, 2) := by decide +kernel
theorem dX5_suits_102 : decode cX5_suits 102 = .ok (.invokestatic 47, 3) := by decide +kernel
theorem dX5_suits_105 : decode cX5_suits 105 = .ok (.ifCond .ne 7, 3) := by decide +kernel
theorem dX5_suits_108 : decode cX5_suits 108 = .ok (.iconst 1, 1) := by decide +kernel
theorem dX5_suits_109 : decode cX5_suits 109 = .ok (.goto 4, 3) := by decide +kernel
theorem dX5_suits_112 : decode cX5_suits 112 = .ok (.iconst 0, 1) := by decide +kernel
theorem dX5_suits_113 : decode cX5_suits 113 = .ok (.ireturn, 1) := by decide +kernel
set_option maxRecDepth 20000 in
theorem ggX5_fills_X8_isName : GoodIn wsX5_fills wsX8_isName := goodIn_r _ [3] (by decide +kernel) (by decide +kernel)
set_option maxRecDepth 20000 in
theorem gX5_fills_X8_isName_n51 : GoodIn wsX5_fills (wsX8_isName) := ggX5_fills_X8_isName
set_option maxRecDepth 20000 in
theorem ggX5_fills_X5_isPartFor : GoodIn wsX5_fills wsX5_isPartFor := goodIn_r _ [8, 9, 10, 11, 12, 7, 13, 14, 15, 16, 17, 18, 19, 20, 21, 22, 23, 24, 25, 26, 27, 28, 29, 30, 31, 32, 33, 34, 35] (by decide +kernel) (by decide +kernel)
set_option maxRecDepth 20000 in
theorem gX5_fills_X5_isPartFor : GoodIn wsX5_fills (wsV RX5 55 RX5 yX5_isPartFor wsX5_isPartFor) := goodIn_app (goodIn_of _ (by decide +kernel)) ggX5_fills_X5_isPartFor
theorem dX5_fills_0 : decode cX5_fills 0 = .ok (.iload_n 1, 1) := by decide +kernel
theorem dX5_fills_1 : decode cX5_fills 1 = .ok (.tableswitch 118 0 7 #[47, 57, 77, 82, 118, 118, 98, 98], 47) := by decide +kernel
theorem dX5_fills_48 : decode cX5_fills 48 = .ok (.iload_n 2, 1) := by decide +kernel
theorem dX5_fills_49 : decode cX5_fills 49 = .ok (.ifCond .ne 7, 3) := by decide +kernel
theorem dX5_fills_52 : decode cX5_fills 52 = .ok (.iconst 1, 1) := by decide +kernel
theorem dX5_fills_53 : decode cX5_fills 53 = .ok (.goto 4, 3) := by decide +kernel
theorem dX5_fills_56 : decode cX5_fills 56 = .ok (.iconst 0, 1) := by decide +kernel
theorem dX5_fills_57 : decode cX5_fills 57 = .ok (.ireturn, 1) := by decide +kernel
theorem dX5_fills_58 : decode cX5_fills 58 = .ok (.iload_n 2, 1) := by decide +kernel
theorem dX5_fills_59 : decode cX5_fills 59 = .ok (.sipush (-999), 3) := by decide +kernel
theorem dX5_fills_62 : decode cX5_fills 62 = .ok (.if_icmp .lt 14, 3) := by decide +kernel
theorem dX5_fills_65 : decode cX5_fills 65 = .ok (.iload_n 2, 1) := by decide +kernel
theorem dX5_fills_66 : decode cX5_fills 66 = .ok (.sipush 999, 3) := by decide +kernel
theorem dX5_fills_69 : decode cX5_fills 69 = .ok (.if_icmp .gt 7, 3) := by decide +kernel
theorem dX5_fills_72 : decode cX5_fills 72 = .ok (.iconst 1, 1) := by decide +kernel
theorem dX5_fills_73 : decode cX5_fills 73 = .ok (.goto 4, 3) := by decide +kernel
theorem dX5_fills_76 : decode cX5_fills 76 = .ok (.iconst 0, 1) := by decide +kernel
theorem dX5_fills_77 : decode cX5_fills 77 = .ok (.ireturn, 1) := by decide +kernel
theorem dX5_fills_78 : decode cX5_fills 78 = .ok (.iload_n 2, 1) := by decide +kernel
theorem dX5_fills_79 : decode cX5_fills 79 = .ok (.invokestatic 51, 3) := by decide +kernel
theorem dX5_fills_82 : decode cX5_fills 82 = .ok (.ireturn, 1) := by decide +kernel
theorem dX5_fills_83 : decode cX5_fills 83 = .ok (.iload_n 2, 1) := by decide +kernel
theorem dX5_fills_84 : decode cX5_fills 84 = .ok (.ifCond .lt 13, 3) := by decide +kernel
theorem dX5_fills_87 : decode cX5_fills 87 = .ok (.iload_n 2, 1) := by decide +kernel
theorem dX5_fills_88 : decode cX5_fills 88 = .ok (.bipush 10, 2) := by decide +kernel
theorem dX5_fills_90 : decode cX5_fills 90 = .ok (.if_icmp .ge 7, 3) := by decide +kernel
theorem dX5_fills_93 : decode cX5_fills 93 = .ok (.iconst 1, 1) := by decide +kernel
theorem dX5_fills_94 : decode cX5_fills 94 = .ok (.goto 4, 3) := by decide +kernel
theorem dX5_fills_97 : decode cX5_fills 97 = .ok (.iconst 0, 1) := by decide +kernel
theorem dX5_fills_98 : decode cX5_fills 98 = .ok (.ireturn, 1) := by decide +kernel
theorem dX5_fills_99 : decode cX5_fills 99 = .ok (.iload_n 2, 1) := by decide +kernel
theorem dX5_fills_100 : decode cX5_fills 100 = .ok (.iconst (-1), 1) := by decide +kernel
theorem dX5_fills_101 : decode cX5_fills 101 = .ok (.if_icmp .eq 12, 3) := by decide +kernel
theorem dX5_fills_104 : decode cX5_fills 104 = .ok (.aload_n 0, 1) := by decide +kernel
theorem dX5_fills_105 : decode cX5_fills 105 = .ok (.iload_n 1, 1) := by decide +kernel
theorem dX5_fills_106 : decode cX5_fills 106 = .ok (.iload_n 2, 1) := by decide +kernel
theorem dX5_fills_107 : decode cX5_fills 107 = .ok (.invokevirtual 55, 3) := by decide +kernel
theorem dX5_fills_110 : decode cX5_fills 110 = .ok (.ifCond .eq 7, 3) := by decide +kernel
theorem dX5_fills_113 : decode cX5_fills 113 = .ok (.iconst 1, 1) := by decide +kernel
theorem dX5_fills_114 : decode cX5_fills 114 = .ok (.goto 4, 3) := by decide +kernel
theorem dX5_fills_117 : decode cX5_fills 117 = .ok (.iconst 0, 1) := by decide +kernel
theorem dX5_fills_118 : decode cX5_fills 118 = .ok (.ireturn, 1) := by decide +kernel
theorem dX5_fills_119 : decode cX5_fills 119 = .ok (.aload_n 0, 1) := by decide +kernel
theorem dX5_fills_120 : decode cX5_fills 120 = .ok (.iload_n 1, 1) := by decide +kernel
theorem dX5_fills_121 : decode cX5_fills 121 = .ok (.iload_n 2, 1) := by decide +kernel
theorem dX5_fills_122 : decode cX5_fills 122 = .ok (.invokevirtual 55, 3) := by decide +kernel
theorem dX5_fills_125 : decode cX5_fills 125 = .ok (.ireturn, 1) := by decide +kernel
set_option maxRecDepth 20000 in
theorem ggX5_isPartFor_X5_has : GoodIn wsX5_isPartFor wsX5_has := goodIn_r _ [6, 7, 22, 23, 24, 25, 26, 27, 28] (by decide +kernel) (by decide +kernel)
set_option maxRecDepth 20000 in
theorem gX5_isPartFor_X5_has : GoodIn wsX5_isPartFor (wsV RX5 58 RX5 yX5_has wsX5_has) := goodIn_app (goodIn_of _ (by decide +kernel)) ggX5_isPartFor_X5_has
set_option maxRecDepth 20000 in
theorem ggX5_isPartFor_X5_isFree : GoodIn wsX5_isPartFor wsX5_isFree := goodIn_r _ [11, 12, 13, 22, 23, 24, 25, 26, 27, 28] (by decide +kernel) (by decide +kernel)
set_option maxRecDepth 20000 in
theorem gX5_isPartFor_X5_isFree : GoodIn wsX5_isPartFor (wsV RX5 61 RX5 yX5_isFree wsX5_isFree) := goodIn_app (goodIn_of _ (by decide +kernel)) ggX5_isPartFor_X5_isFree
set_option maxRecDepth 20000 in
theorem ggX5_isPartFor_X5_isExpression : GoodIn wsX5_isPartFor wsX5_isExpression := goodIn_r _ [17, 1, 22, 23, 24, 25, 26, 27, 28] (by decide +kernel) (by decide +kernel)
set_option maxRecDepth 20000 in
theorem gX5_isPartFor_X5_isExpression : GoodIn wsX5_isPartFor (wsV RX5 64 RX5 yX5_isExpression wsX5_isExpression) := goodIn_app (goodIn_of _ (by decide +kernel)) ggX5_isPartFor_X5_isExpression
set_option maxRecDepth 20000 in
theorem ggX5_isPartFor_X5_isStatement : GoodIn wsX5_isPartFor wsX5_isStatement := goodIn_r _ [21, 1, 22, 23, 24, 25, 26, 27, 28] (by decide +kernel) (by decide +kernel)
set_option maxRecDepth 20000 in
theorem gX5_isPartFor_X5_isStatement : GoodIn wsX5_isPartFor (wsV RX5 67 RX5 yX5_isStatement wsX5_isStatement) := goodIn_app (goodIn_of _ (by decide +kernel)) ggX5_isPartFor_X5_isStatement
theorem dX5_isPartFor_0 : decode cX5_isPartFor 0 = .ok (.aload_n 0, 1) := by decide +kernel
theorem dX5_isPartFor_1 : decode cX5_isPartFor 1 = .ok (.iload_n 2, 1) := by decide +kernel
theorem dX5_isPartFor_2 : decode cX5_isPartFor 2 = .ok (.invokevirtual 58, 3) := by decide +kernel
theorem dX5_isPartFor_5 : decode cX5_isPartFor 5 = .ok (.ifCond .eq 11, 3) := by decide +kernel
theorem dX5_isPartFor_8 : decode cX5_isPartFor 8 = .ok (.aload_n 0, 1) := by decide +kernel
theorem dX5_isPartFor_9 : decode cX5_isPartFor 9 = .ok (.iload_n 2, 1) := by decide +kernel
theorem dX5_isPartFor_10 : decode cX5_isPartFor 10 = .ok (.invokevirtual 61, 3) := by decide +kernel
theorem dX5_isPartFor_13 : decode cX5_isPartFor 13 = .ok (.ifCond .ne 5, 3) := by decide +kernel
theorem dX5_isPartFor_16 : decode cX5_isPartFor 16 = .ok (.iconst 0, 1) := by decide +kernel
theorem dX5_isPartFor_17 : decode cX5_isPartFor 17 = .ok (.ireturn, 1) := by decide +kernel
theorem dX5_isPartFor_18 : decode cX5_isPartFor 18 = .ok (.iload_n 1, 1) := by decide +kernel
theorem dX5_isPartFor_19 : decode cX5_isPartFor 19 = .ok (.tableswitch 119 4 9 #[37, 43, 43, 49, 66, 102], 37) := by decide +kernel
theorem dX5_isPartFor_56 : decode cX5_isPartFor 56 = .ok (.aload_n 0, 1) := by decide +kernel
theorem dX5_isPartFor_57 : decode cX5_isPartFor 57 = .ok (.iload_n 2, 1) := by decide +kernel
theorem dX5_isPartFor_58 : decode cX5_isPartFor 58 = .ok (.invokevirtual 64, 3) := by decide +kernel
theorem dX5_isPartFor_61 : decode cX5_isPartFor 61 = .ok (.ireturn, 1) := by decide +kernel
theorem dX5_isPartFor_62 : decode cX5_isPartFor 62 = .ok (.aload_n 0, 1) := by decide +kernel
theorem dX5_isPartFor_63 : decode cX5_isPartFor 63 = .ok (.iload_n 2, 1) := by decide +kernel
theorem dX5_isPartFor_64 : decode cX5_isPartFor 64 = .ok (.invokevirtual 67, 3) := by decide +kernel
theorem dX5_isPartFor_67 : decode cX5_isPartFor 67 = .ok (.ireturn, 1) := by decide +kernel
theorem dX5_isPartFor_68 : decode cX5_isPartFor 68 = .ok (.aload_n 0, 1) := by decide +kernel
theorem dX5_isPartFor_69 : decode cX5_isPartFor 69 = .ok (.getfield 15, 3) := by decide +kernel
theorem dX5_isPartFor_72 : decode cX5_isPartFor 72 = .ok (.iload_n 2, 1) := by decide +kernel
theorem dX5_isPartFor_73 : decode cX5_isPartFor 73 = .ok (.iaload, 1) := by decide +kernel
theorem dX5_isPartFor_74 : decode cX5_isPartFor 74 = .ok (.bipush 9, 2) := by decide +kernel
theorem dX5_isPartFor_76 : decode cX5_isPartFor 76 = .ok (.if_icmp .ne 7, 3) := by decide +kernel
theorem dX5_isPartFor_79 : decode cX5_isPartFor 79 = .ok (.iconst 1, 1) := by decide +kernel
theorem dX5_isPartFor_80 : decode cX5_isPartFor 80 = .ok (.goto 4, 3) := by decide +kernel
theorem dX5_isPartFor_83 : decode cX5_isPartFor 83 = .ok (.iconst 0, 1) := by decide +kernel
theorem dX5_isPartFor_84 : decode cX5_isPartFor 84 = .ok (.ireturn, 1) := by decide +kernel
theorem dX5_isPartFor_85 : decode cX5_isPartFor 85 = .ok (.aload_n 0, 1) := by decide +kernel
theorem dX5_isPartFor_86 : decode cX5_isPartFor 86 = .ok (.iload_n 2, 1) := by decide +kernel
theorem dX5_isPartFor_87 : decode cX5_isPartFor 87 = .ok (.invokevirtual 64, 3) := by decide +kernel
theorem dX5_isPartFor_90 : decode cX5_isPartFor 90 = .ok (.ifCond .ne 25, 3) := by decide +kernel
theorem dX5_isPartFor_93 : decode cX5_isPartFor 93 = .ok (.aload_n 0, 1) := by decide +kernel
theorem dX5_isPartFor_94 : decode cX5_isPartFor 94 = .ok (.getfield 15, 3) := by decide +kernel
theorem dX5_isPartFor_97 : decode cX5_isPartFor 97 = .ok (.iload_n 2, 1) := by decide +kernel
theorem dX5_isPartFor_98 : decode cX5_isPartFor 98 = .ok (.iaload, 1) := by decide +kernel
theorem dX5_isPartFor_99 : decode cX5_isPartFor 99 = .ok (.bipush 11, 2) := by decide +kernel
theorem dX5_isPartFor_101 : decode cX5_isPartFor 101 = .ok (.if_icmp .eq 14, 3) := by decide +kernel
theorem dX5_isPartFor_104 : decode cX5_isPartFor 104 = .ok (.aload_n 0, 1) := by decide +kernel
theorem dX5_isPartFor_105 : decode cX5_isPartFor 105 = .ok (.getfield 15, 3) := by decide +kernel
theorem dX5_isPartFor_108 : decode cX5_isPartFor 108 = .ok (.iload_n 2, 1) := by decide +kernel
theorem dX5_isPartFor_109 : decode cX5_isPartFor 109 = .ok (.iaload, 1) := by decide +kernel
theorem dX5_isPartFor_110 : decode cX5_isPartFor 110 = .ok (.bipush 10, 2) := by decide +kernel
theorem dX5_isPartFor_112 : decode cX5_isPartFor 112 = .ok (.if_icmp .ne 7, 3) := by decide +kernel
theorem dX5_isPartFor_115 : decode cX5_isPartFor 115 = .ok (.iconst 1, 1) := by decide +kernel
theorem dX5_isPartFor_116 : decode cX5_isPartFor 116 = .ok (.goto 4, 3) := by decide +kernel
theorem dX5_isPartFor_119 : decode cX5_isPartFor 119 = .ok (.iconst 0, 1) := by decide +kernel
theorem dX5_isPartFor_120 : decode cX5_isPartFor 120 = .ok (.ireturn, 1) := by decide +kernel
theorem dX5_isPartFor_121 : decode cX5_isPartFor 121 = .ok (.aload_n 0, 1) := by decide +kernel
theorem dX5_isPartFor_122 : decode cX5_isPartFor 122 = .ok (.getfield 15, 3) := by decide +kernel
theorem dX5_isPartFor_125 : decode cX5_isPartFor 125 = .ok (.iload_n 2, 1) := by decide +kernel
theorem dX5_isPartFor_126 : decode cX5_isPartFor 126 = .ok (.iaload, 1) := by decide +kernel
theorem dX5_isPartFor_127 : decode cX5_isPartFor 127 = .ok (.bipush 8, 2) := by decide +kernel
theorem dX5_isPartFor_129 : decode cX5_isPartFor 129 = .ok (.if_icmp .ne 7, 3) := by decide +kernel
theorem dX5_isPartFor_132 : decode cX5_isPartFor 132 = .ok (.iconst 1, 1) := by decide +kernel
theorem dX5_isPartFor_133 : decode cX5_isPartFor 133 = .ok (.goto 4, 3) := by decide +kernel
theorem dX5_isPartFor_136 : decode cX5_isPartFor 136 = .ok (.iconst 0, 1) := by decide +kernel
theorem dX5_isPartFor_137 : decode cX5_isPartFor 137 = .ok (.ireturn, 1) := by decide +kernel
theorem dX5_isPartFor_138 : decode cX5_isPartFor 138 = .ok (.aload_n 0, 1) := by decide +kernel
theorem dX5_isPartFor_139 : decode cX5_isPartFor 139 = .ok (.getfield 15, 3) := by decide +kernel
theorem dX5_isPartFor_142 : decode cX5_isPartFor 142 = .ok (.iload_n 2, 1) := by decide +kernel
theorem dX5_isPartFor_143 : decode cX5_isPartFor 143 = .ok (.iaload, 1) := by decide +kernel
theorem dX5_isPartFor_144 : decode cX5_isPartFor 144 = .ok (.bipush 10, 2) := by decide +kernel
theorem dX5_isPartFor_146 : decode cX5_isPartFor 146 = .ok (.if_icmp .ne 7, 3) := by decide +kernel
theorem dX5_isPartFor_149 : decode cX5_isPartFor 149 = .ok (.iconst 1, 1) := by decide +kernel
theorem dX5_isPartFor_150 : decode cX5_isPartFor 150 = .ok (.goto 4, 3) := by decide +kernel
theorem dX5_isPartFor_153 : decode cX5_isPartFor 153 = .ok (.iconst 0, 1) := by decide +kernel
theorem dX5_isPartFor_154 : decode cX5_isPartFor 154 = .ok (.ireturn, 1) := by decide +kernel
theorem dX5_isSamePart_0 : decode cX5_isSamePart 0 = .ok (.iload_n 0, 1) := by decide +kernel
theorem dX5_isSamePart_1 : decode cX5_isSamePart 1 = .ok (.iconst 4, 1) := by decide +kernel
theorem dX5_isSamePart_2 : decode cX5_isSamePart 2 = .ok (.if_icmp .lt 22, 3) := by decide +kernel
theorem dX5_isSamePart_5 : decode cX5_isSamePart 5 = .ok (.iload_n 2, 1) := by decide +kernel
theorem dX5_isSamePart_6 : decode cX5_isSamePart 6 = .ok (.iconst 4, 1) := by decide +kernel
theorem dX5_isSamePart_7 : decode cX5_isSamePart 7 = .ok (.if_icmp .lt 17, 3) := by decide +kernel
theorem dX5_isSamePart_10 : decode cX5_isSamePart 10 = .ok (.iload_n 1, 1) := by decide +kernel
theorem dX5_isSamePart_11 : decode cX5_isSamePart 11 = .ok (.iload_n 3, 1) := by decide +kernel
theorem dX5_isSamePart_12 : decode cX5_isSamePart 12 = .ok (.if_icmp .ne 12, 3) := by decide +kernel
theorem dX5_isSamePart_15 : decode cX5_isSamePart 15 = .ok (.iload_n 1, 1) := by decide +kernel
theorem dX5_isSamePart_16 : decode cX5_isSamePart 16 = .ok (.iconst (-1), 1) := by decide +kernel
theorem dX5_isSamePart_17 : decode cX5_isSamePart 17 = .ok (.if_icmp .eq 7, 3) := by decide +kernel
theorem dX5_isSamePart_20 : decode cX5_isSamePart 20 = .ok (.iconst 1, 1) := by decide +kernel
theorem dX5_isSamePart_21 : decode cX5_isSamePart 21 = .ok (.goto 4, 3) := by decide +kernel
theorem dX5_isSamePart_24 : decode cX5_isSamePart 24 = .ok (.iconst 0, 1) := by decide +kernel
theorem dX5_isSamePart_25 : decode cX5_isSamePart 25 = .ok (.ireturn, 1) := by decide +kernel
set_option maxRecDepth 20000 in
theorem ggX5_add_X5_partA : GoodIn wsX5_add wsX5_partA := goodIn_r _ [12, 13, 2, 3, 28, 29, 30, 31, 32, 33, 34] (by decide +kernel) (by decide +kernel)
set_option maxRecDepth 20000 in
theorem gX5_add_X5_partA : GoodIn wsX5_add (wsV RX5 70 RX5 yX5_partA wsX5_partA) := goodIn_app (goodIn_of _ (by decide +kernel)) ggX5_add_X5_partA
set_option maxRecDepth 20000 in
theorem ggX5_add_X5_claim : GoodIn wsX5_add wsX5_claim := goodIn_r _ [17, 6, 28, 29, 30, 31, 32, 33, 34] (by decide +kernel) (by decide +kernel)
set_option maxRecDepth 20000 in
theorem gX5_add_X5_claim : GoodIn wsX5_add (wsV RX5 74 RX5 yX5_claim wsX5_claim) := goodIn_app (goodIn_of _ (by decide +kernel)) ggX5_add_X5_claim
set_option maxRecDepth 20000 in
theorem ggX5_add_X5_partB : GoodIn wsX5_add wsX5_partB := goodIn_r _ [21, 22, 2, 4, 28, 29, 30, 31, 32, 33, 34] (by decide +kernel) (by decide +kernel)
set_option maxRecDepth 20000 in
theorem gX5_add_X5_partB : GoodIn wsX5_add (wsV RX5 78 RX5 yX5_partB wsX5_partB) := goodIn_app (goodIn_of _ (by decide +kernel)) ggX5_add_X5_partB
set_option maxRecDepth 20000 in
theorem ggX5_add_X5_partC : GoodIn wsX5_add wsX5_partC := goodIn_r _ [26, 27, 2, 5, 28, 29, 30, 31, 32, 33, 34] (by decide +kernel) (by decide +kernel)
set_option maxRecDepth 20000 in
theorem gX5_add_X5_partC : GoodIn wsX5_add (wsV RX5 81 RX5 yX5_partC wsX5_partC) := goodIn_app (goodIn_of _ (by decide +kernel)) ggX5_add_X5_partC
theorem dX5_add_0 : decode cX5_add 0 = .ok (.aload_n 0, 1) := by decide +kernel
theorem dX5_add_1 : decode cX5_add 1 = .ok (.getfield 9, 3) := by decide +kernel
theorem dX5_add_4 : decode cX5_add 4 = .ok (.istore 5, 2) := by decide +kernel
theorem dX5_add_6 : decode cX5_add 6 = .ok (.aload_n 0, 1) := by decide +kernel
theorem dX5_add_7 : decode cX5_add 7 = .ok (.dup, 1) := by decide +kernel
theorem dX5_add_8 : decode cX5_add 8 = .ok (.getfield 9, 3) := by decide +kernel
theorem dX5_add_11 : decode cX5_add 11 = .ok (.iconst 1, 1) := by decide +kernel
theorem dX5_add_12 : decode cX5_add 12 = .ok (.iadd, 1) := by decide +kernel
theorem dX5_add_13 : decode cX5_add 13 = .ok (.putfield 9, 3) := by decide +kernel
theorem dX5_add_16 : decode cX5_add 16 = .ok (.aload_n 0, 1) := by decide +kernel
theorem dX5_add_17 : decode cX5_add 17 = .ok (.getfield 15, 3) := by decide +kernel
theorem dX5_add_20 : decode cX5_add 20 = .ok (.iload 5, 2) := by decide +kernel
theorem dX5_add_22 : decode cX5_add 22 = .ok (.iload_n 1, 1) := by decide +kernel
theorem dX5_add_23 : decode cX5_add 23 = .ok (.iastore, 1) := by decide +kernel
theorem dX5_add_24 : decode cX5_add 24 = .ok (.aload_n 0, 1) := by decide +kernel
theorem dX5_add_25 : decode cX5_add 25 = .ok (.getfield 19, 3) := by decide +kernel
theorem dX5_add_28 : decode cX5_add 28 = .ok (.iload 5, 2) := by decide +kernel
theorem dX5_add_30 : decode cX5_add 30 = .ok (.iload_n 2, 1) := by decide +kernel
theorem dX5_add_31 : decode cX5_add 31 = .ok (.iastore, 1) := by decide +kernel
theorem dX5_add_32 : decode cX5_add 32 = .ok (.aload_n 0, 1) := by decide +kernel
theorem dX5_add_33 : decode cX5_add 33 = .ok (.getfield 22, 3) := by decide +kernel
theorem dX5_add_36 : decode cX5_add 36 = .ok (.iload 5, 2) := by decide +kernel
theorem dX5_add_38 : decode cX5_add 38 = .ok (.iload_n 3, 1) := by decide +kernel
theorem dX5_add_39 : decode cX5_add 39 = .ok (.iastore, 1) := by decide +kernel
theorem dX5_add_40 : decode cX5_add 40 = .ok (.aload_n 0, 1) := by decide +kernel
theorem dX5_add_41 : decode cX5_add 41 = .ok (.getfield 25, 3) := by decide +kernel
theorem dX5_add_44 : decode cX5_add 44 = .ok (.iload 5, 2) := by decide +kernel
theorem dX5_add_46 : decode cX5_add 46 = .ok (.iload 4, 2) := by decide +kernel
theorem dX5_add_48 : decode cX5_add 48 = .ok (.iastore, 1) := by decide +kernel
theorem dX5_add_49 : decode cX5_add 49 = .ok (.aload_n 0, 1) := by decide +kernel
theorem dX5_add_50 : decode cX5_add 50 = .ok (.getfield 28, 3) := by decide +kernel
theorem dX5_add_53 : decode cX5_add 53 = .ok (.iload 5, 2) := by decide +kernel
theorem dX5_add_55 : decode cX5_add 55 = .ok (.iconst (-1), 1) := by decide +kernel
theorem dX5_add_56 : decode cX5_add 56 = .ok (.iastore, 1) := by decide +kernel
theorem dX5_add_57 : decode cX5_add 57 = .ok (.aload_n 0, 1) := by decide +kernel
theorem dX5_add_58 : decode cX5_add 58 = .ok (.getfield 31, 3) := by decide +kernel
theorem dX5_add_61 : decode cX5_add 61 = .ok (.iload 5, 2) := by decide +kernel
theorem dX5_add_63 : decode cX5_add 63 = .ok (.iconst (-1), 1) := by decide +kernel
theorem dX5_add_64 : decode cX5_add 64 = .ok (.iastore, 1) := by decide +kernel
theorem dX5_add_65 : decode cX5_add 65 = .ok (.aload_n 0, 1) := by decide +kernel
theorem dX5_add_66 : decode cX5_add 66 = .ok (.aload_n 0, 1) := by decide +kernel
theorem dX5_add_67 : decode cX5_add 67 = .ok (.iload 5, 2) := by decide +kernel
theorem dX5_add_69 : decode cX5_add 69 = .ok (.invokevirtual 70, 3) := by decide +kernel
theorem dX5_add_72 : decode cX5_add 72 = .ok (.iload 5, 2) := by decide +kernel
theorem dX5_add_74 : decode cX5_add 74 = .ok (.invokevirtual 74, 3) := by decide +kernel
theorem dX5_add_77 : decode cX5_add 77 = .ok (.aload_n 0, 1) := by decide +kernel
theorem dX5_add_78 : decode cX5_add 78 = .ok (.aload_n 0, 1) := by decide +kernel
theorem dX5_add_79 : decode cX5_add 79 = .ok (.iload 5, 2) := by decide +kernel
theorem dX5_add_81 : decode cX5_add 81 = .ok (.invokevirtual 78, 3) := by decide +kernel
theorem dX5_add_84 : decode cX5_add 84 = .ok (.iload 5, 2) := by decide +kernel
theorem dX5_add_86 : decode cX5_add 86 = .ok (.invokevirtual 74, 3) := by decide +kernel
theorem dX5_add_89 : decode cX5_add 89 = .ok (.aload_n 0, 1) := by decide +kernel
theorem dX5_add_90 : decode cX5_add 90 = .ok (.aload_n 0, 1) := by decide +kernel
theorem dX5_add_91 : decode cX5_add 91 = .ok (.iload 5, 2) := by decide +kernel
theorem dX5_add_93 : decode cX5_add 93 = .ok (.invokevirtual 81, 3) := by decide +kernel
theorem dX5_add_96 : decode cX5_add 96 = .ok (.iload 5, 2) := by decide +kernel
theorem dX5_add_98 : decode cX5_add 98 = .ok (.invokevirtual 74, 3) := by decide +kernel
theorem dX5_add_101 : decode cX5_add 101 = .ok (.iload 5, 2) := by decide +kernel
theorem dX5_add_103 : decode cX5_add 103 = .ok (.ireturn, 1) := by decide +kernel
theorem dX5_claim_0 : decode cX5_claim 0 = .ok (.iload_n 1, 1) := by decide +kernel
theorem dX5_claim_1 : decode cX5_claim 1 = .ok (.iconst (-1), 1) := by decide +kernel
theorem dX5_claim_2 : decode cX5_claim 2 = .ok (.if_icmp .eq 10, 3) := by decide +kernel
theorem dX5_claim_5 : decode cX5_claim 5 = .ok (.aload_n 0, 1) := by decide +kernel
theorem dX5_claim_6 : decode cX5_claim 6 = .ok (.getfield 28, 3) := by decide +kernel
theorem dX5_claim_9 : decode cX5_claim 9 = .ok (.iload_n 1, 1) := by decide +kernel
theorem dX5_claim_10 : decode cX5_claim 10 = .ok (.iload_n 2, 1) := by decide +kernel
theorem dX5_claim_11 : decode cX5_claim 11 = .ok (.iastore, 1) := by decide +kernel
theorem dX5_claim_12 : decode cX5_claim 12 = .ok (.return_, 1) := by decide +kernel
