theorem dX4_find_45 : decode cX4_find 45 = .ok (.iconst 0, 1) := by decide +kernel
theorem dX4_find_46 : decode cX4_find 46 = .ok (.istore_n 1, 1) := by decide +kernel
theorem dX4_find_47 : decode cX4_find 47 = .ok (.iload_n 1, 1) := by decide +kernel
theorem dX4_find_48 : decode cX4_find 48 = .ok (.aload_n 0, 1) := by decide +kernel
theorem dX4_find_49 : decode cX4_find 49 = .ok (.getfield 69, 3) := by decide +kernel
theorem dX4_find_52 : decode cX4_find 52 = .ok (.getfield 76, 3) := by decide +kernel
theorem dX4_find_55 : decode cX4_find 55 = .ok (.if_icmp .ge 56, 3) := by decide +kernel
theorem dX4_find_58 : decode cX4_find 58 = .ok (.aload_n 0, 1) := by decide +kernel
theorem dX4_find_59 : decode cX4_find 59 = .ok (.getfield 34, 3) := by decide +kernel
theorem dX4_find_62 : decode cX4_find 62 = .ok (.iload_n 1, 1) := by decide +kernel
theorem dX4_find_63 : decode cX4_find 63 = .ok (.aload_n 0, 1) := by decide +kernel
theorem dX4_find_64 : decode cX4_find 64 = .ok (.iload_n 1, 1) := by decide +kernel
theorem dX4_find_65 : decode cX4_find 65 = .ok (.invokevirtual 97, 3) := by decide +kernel
theorem dX4_find_68 : decode cX4_find 68 = .ok (.bastore, 1) := by decide +kernel
theorem dX4_find_69 : decode cX4_find 69 = .ok (.aload_n 0, 1) := by decide +kernel
theorem dX4_find_70 : decode cX4_find 70 = .ok (.getfield 37, 3) := by decide +kernel
theorem dX4_find_73 : decode cX4_find 73 = .ok (.iload_n 1, 1) := by decide +kernel
theorem dX4_find_74 : decode cX4_find 74 = .ok (.iconst 0, 1) := by decide +kernel
theorem dX4_find_75 : decode cX4_find 75 = .ok (.iastore, 1) := by decide +kernel
theorem dX4_find_76 : decode cX4_find 76 = .ok (.aload_n 0, 1) := by decide +kernel
theorem dX4_find_77 : decode cX4_find 77 = .ok (.getfield 40, 3) := by decide +kernel
theorem dX4_find_80 : decode cX4_find 80 = .ok (.iload_n 1, 1) := by decide +kernel
theorem dX4_find_81 : decode cX4_find 81 = .ok (.aload_n 0, 1) := by decide +kernel
theorem dX4_find_82 : decode cX4_find 82 = .ok (.getfield 69, 3) := by decide +kernel
theorem dX4_find_85 : decode cX4_find 85 = .ok (.getfield 101, 3) := by decide +kernel
theorem dX4_find_88 : decode cX4_find 88 = .ok (.iload_n 1, 1) := by decide +kernel
theorem dX4_find_89 : decode cX4_find 89 = .ok (.iaload, 1) := by decide +kernel
theorem dX4_find_90 : decode cX4_find 90 = .ok (.bipush 17, 2) := by decide +kernel
theorem dX4_find_92 : decode cX4_find 92 = .ok (.if_icmp .ne 11, 3) := by decide +kernel
theorem dX4_find_103 : decode cX4_find 103 = .ok (.iconst (-1), 1) := by decide +kernel
theorem dX4_find_104 : decode cX4_find 104 = .ok (.iastore, 1) := by decide +kernel
theorem dX4_find_105 : decode cX4_find 105 = .ok (.iinc 1 1, 3) := by decide +kernel
theorem dX4_find_108 : decode cX4_find 108 = .ok (.goto (-61), 3) := by decide +kernel
theorem dX4_find_95 : decode cX4_find 95 = .ok (.aload_n 0, 1) := by decide +kernel
theorem dX4_find_96 : decode cX4_find 96 = .ok (.iload_n 1, 1) := by decide +kernel
theorem dX4_find_97 : decode cX4_find 97 = .ok (.invokevirtual 104, 3) := by decide +kernel
theorem dX4_find_100 : decode cX4_find 100 = .ok (.goto 4, 3) := by decide +kernel
theorem dX4_find_111 : decode cX4_find 111 = .ok (.aload_n 0, 1) := by decide +kernel
theorem dX4_find_112 : decode cX4_find 112 = .ok (.invokevirtual 108, 3) := by decide +kernel
theorem dX4_find_115 : decode cX4_find 115 = .ok (.aload_n 0, 1) := by decide +kernel
theorem dX4_find_116 : decode cX4_find 116 = .ok (.invokevirtual 111, 3) := by decide +kernel
theorem dX4_find_119 : decode cX4_find 119 = .ok (.return_, 1) := by decide +kernel
theorem dX2_await_0 : decode cX2_await 0 = .ok (.iload_n 1, 1) := by decide +kernel
theorem dX2_await_1 : decode cX2_await 1 = .ok (.iconst (-1), 1) := by decide +kernel
theorem dX2_await_2 : decode cX2_await 2 = .ok (.if_icmp .eq 35, 3) := by decide +kernel
theorem dX2_await_37 : decode cX2_await 37 = .ok (.return_, 1) := by decide +kernel
theorem dX2_await_5 : decode cX2_await 5 = .ok (.aload_n 0, 1) := by decide +kernel
theorem dX2_await_6 : decode cX2_await 6 = .ok (.getfield 28, 3) := by decide +kernel
theorem dX2_await_9 : decode cX2_await 9 = .ok (.aload_n 0, 1) := by decide +kernel
theorem dX2_await_10 : decode cX2_await 10 = .ok (.getfield 25, 3) := by decide +kernel
theorem dX2_await_13 : decode cX2_await 13 = .ok (.arraylength, 1) := by decide +kernel
theorem dX2_await_14 : decode cX2_await 14 = .ok (.if_icmp .ge 23, 3) := by decide +kernel
theorem dX2_await_17 : decode cX2_await 17 = .ok (.aload_n 0, 1) := by decide +kernel
theorem dX2_await_18 : decode cX2_await 18 = .ok (.getfield 25, 3) := by decide +kernel
theorem dX2_await_21 : decode cX2_await 21 = .ok (.aload_n 0, 1) := by decide +kernel
theorem dX2_await_22 : decode cX2_await 22 = .ok (.getfield 28, 3) := by decide +kernel
theorem dX2_await_25 : decode cX2_await 25 = .ok (.iload_n 1, 1) := by decide +kernel
theorem dX2_await_26 : decode cX2_await 26 = .ok (.iastore, 1) := by decide +kernel
theorem dX2_await_27 : decode cX2_await 27 = .ok (.aload_n 0, 1) := by decide +kernel
theorem dX2_await_28 : decode cX2_await 28 = .ok (.dup, 1) := by decide +kernel
theorem dX2_await_29 : decode cX2_await 29 = .ok (.getfield 28, 3) := by decide +kernel
theorem dX2_await_32 : decode cX2_await 32 = .ok (.iconst 1, 1) := by decide +kernel
theorem dX2_await_33 : decode cX2_await 33 = .ok (.iadd, 1) := by decide +kernel
theorem dX2_await_34 : decode cX2_await 34 = .ok (.putfield 28, 3) := by decide +kernel
theorem dX5_argumentsOf_0 : decode cX5_argumentsOf 0 = .ok (.iconst 0, 1) := by decide +kernel
theorem dX5_argumentsOf_1 : decode cX5_argumentsOf 1 = .ok (.istore_n 2, 1) := by decide +kernel
theorem dX5_argumentsOf_2 : decode cX5_argumentsOf 2 = .ok (.aload_n 0, 1) := by decide +kernel
theorem dX5_argumentsOf_3 : decode cX5_argumentsOf 3 = .ok (.getfield 22, 3) := by decide +kernel
theorem dX5_argumentsOf_6 : decode cX5_argumentsOf 6 = .ok (.iload_n 1, 1) := by decide +kernel
theorem dX5_argumentsOf_7 : decode cX5_argumentsOf 7 = .ok (.iaload, 1) := by decide +kernel
theorem dX5_argumentsOf_8 : decode cX5_argumentsOf 8 = .ok (.istore_n 3, 1) := by decide +kernel
theorem dX5_argumentsOf_9 : decode cX5_argumentsOf 9 = .ok (.iload_n 2, 1) := by decide +kernel
theorem dX5_argumentsOf_10 : decode cX5_argumentsOf 10 = .ok (.bipush 110, 2) := by decide +kernel
theorem dX5_argumentsOf_12 : decode cX5_argumentsOf 12 = .ok (.if_icmp .ge 21, 3) := by decide +kernel
theorem dX5_argumentsOf_15 : decode cX5_argumentsOf 15 = .ok (.iload_n 3, 1) := by decide +kernel
theorem dX5_argumentsOf_16 : decode cX5_argumentsOf 16 = .ok (.iconst (-1), 1) := by decide +kernel
theorem dX5_argumentsOf_17 : decode cX5_argumentsOf 17 = .ok (.if_icmp .eq 16, 3) := by decide +kernel
theorem dX5_argumentsOf_20 : decode cX5_argumentsOf 20 = .ok (.aload_n 0, 1) := by decide +kernel
theorem dX5_argumentsOf_21 : decode cX5_argumentsOf 21 = .ok (.getfield 25, 3) := by decide +kernel
theorem dX5_argumentsOf_24 : decode cX5_argumentsOf 24 = .ok (.iload_n 3, 1) := by decide +kernel
theorem dX5_argumentsOf_25 : decode cX5_argumentsOf 25 = .ok (.iaload, 1) := by decide +kernel
theorem dX5_argumentsOf_26 : decode cX5_argumentsOf 26 = .ok (.istore_n 3, 1) := by decide +kernel
theorem dX5_argumentsOf_27 : decode cX5_argumentsOf 27 = .ok (.iinc 2 1, 3) := by decide +kernel
theorem dX5_argumentsOf_30 : decode cX5_argumentsOf 30 = .ok (.goto (-21), 3) := by decide +kernel
theorem dX5_argumentsOf_33 : decode cX5_argumentsOf 33 = .ok (.iload_n 2, 1) := by decide +kernel
theorem dX5_argumentsOf_34 : decode cX5_argumentsOf 34 = .ok (.ireturn, 1) := by decide +kernel
theorem dX2_isToBeSet_0 : decode cX2_isToBeSet 0 = .ok (.iload_n 0, 1) := by decide +kernel
theorem dX2_isToBeSet_1 : decode cX2_isToBeSet 1 = .ok (.bipush 6, 2) := by decide +kernel
theorem dX2_isToBeSet_3 : decode cX2_isToBeSet 3 = .ok (.if_icmp .eq 12, 3) := by decide +kernel
theorem dX2_isToBeSet_15 : decode cX2_isToBeSet 15 = .ok (.iconst 1, 1) := by decide +kernel
theorem dX2_isToBeSet_16 : decode cX2_isToBeSet 16 = .ok (.goto 4, 3) := by decide +kernel
theorem dX2_isToBeSet_20 : decode cX2_isToBeSet 20 = .ok (.ireturn, 1) := by decide +kernel
theorem dX2_isToBeSet_6 : decode cX2_isToBeSet 6 = .ok (.iload_n 0, 1) := by decide +kernel
theorem dX2_isToBeSet_7 : decode cX2_isToBeSet 7 = .ok (.ifCond .eq 8, 3) := by decide +kernel
theorem dX2_isToBeSet_10 : decode cX2_isToBeSet 10 = .ok (.iload_n 0, 1) := by decide +kernel
theorem dX2_isToBeSet_11 : decode cX2_isToBeSet 11 = .ok (.iconst 1, 1) := by decide +kernel
theorem dX2_isToBeSet_12 : decode cX2_isToBeSet 12 = .ok (.if_icmp .ne 7, 3) := by decide +kernel
theorem dX2_isToBeSet_19 : decode cX2_isToBeSet 19 = .ok (.iconst 0, 1) := by decide +kernel
theorem dX5_isExpression_0 : decode cX5_isExpression 0 = .ok (.aload_n 0, 1) := by decide +kernel
theorem dX5_isExpression_1 : decode cX5_isExpression 1 = .ok (.getfield 15, 3) := by decide +kernel
theorem dX5_isExpression_4 : decode cX5_isExpression 4 = .ok (.iload_n 1, 1) := by decide +kernel
theorem dX5_isExpression_5 : decode cX5_isExpression 5 = .ok (.iaload, 1) := by decide +kernel
theorem dX5_isExpression_6 : decode cX5_isExpression 6 = .ok (.bipush 8, 2) := by decide +kernel
theorem dX5_isExpression_8 : decode cX5_isExpression 8 = .ok (.if_icmp .gt 7, 3) := by decide +kernel
theorem dX5_isExpression_15 : decode cX5_isExpression 15 = .ok (.iconst 0, 1) := by decide +kernel
theorem dX5_isExpression_16 : decode cX5_isExpression 16 = .ok (.ireturn, 1) := by decide +kernel
theorem dX5_isExpression_11 : decode cX5_isExpression 11 = .ok (.iconst 1, 1) := by decide +kernel
theorem dX5_isExpression_12 : decode cX5_isExpression 12 = .ok (.goto 4, 3) := by decide +kernel
theorem dX2_suits_0 : decode cX2_suits 0 = .ok (.iload_n 2, 1) := by decide +kernel
theorem dX2_suits_1 : decode cX2_suits 1 = .ok (.tableswitch 122 1 5 #[35, 122, 82, 82, 102], 35) := by decide +kernel
theorem dX2_suits_36 : decode cX2_suits 36 = .ok (.aload_n 0, 1) := by decide +kernel
theorem dX2_suits_37 : decode cX2_suits 37 = .ok (.getfield 35, 3) := by decide +kernel
theorem dX2_suits_40 : decode cX2_suits 40 = .ok (.getfield 72, 3) := by decide +kernel
theorem dX2_suits_43 : decode cX2_suits 43 = .ok (.iload_n 1, 1) := by decide +kernel
theorem dX2_suits_44 : decode cX2_suits 44 = .ok (.iaload, 1) := by decide +kernel
theorem dX2_suits_45 : decode cX2_suits 45 = .ok (.iconst 2, 1) := by decide +kernel
theorem dX2_suits_46 : decode cX2_suits 46 = .ok (.if_icmp .eq 31, 3) := by decide +kernel
theorem dX2_suits_77 : decode cX2_suits 77 = .ok (.iconst 1, 1) := by decide +kernel
theorem dX2_suits_78 : decode cX2_suits 78 = .ok (.goto 4, 3) := by decide +kernel
theorem dX2_suits_82 : decode cX2_suits 82 = .ok (.ireturn, 1) := by decide +kernel
theorem dX2_suits_49 : decode cX2_suits 49 = .ok (.aload_n 0, 1) := by decide +kernel
theorem dX2_suits_50 : decode cX2_suits 50 = .ok (.getfield 35, 3) := by decide +kernel
theorem dX2_suits_53 : decode cX2_suits 53 = .ok (.getfield 72, 3) := by decide +kernel
theorem dX2_suits_56 : decode cX2_suits 56 = .ok (.iload_n 1, 1) := by decide +kernel
theorem dX2_suits_57 : decode cX2_suits 57 = .ok (.iaload, 1) := by decide +kernel
theorem dX2_suits_58 : decode cX2_suits 58 = .ok (.iconst 1, 1) := by decide +kernel
theorem dX2_suits_59 : decode cX2_suits 59 = .ok (.if_icmp .ne 22, 3) := by decide +kernel
theorem dX2_suits_81 : decode cX2_suits 81 = .ok (.iconst 0, 1) := by decide +kernel
theorem dX2_suits_62 : decode cX2_suits 62 = .ok (.aload_n 0, 1) := by decide +kernel
theorem dX2_suits_63 : decode cX2_suits 63 = .ok (.getfield 39, 3) := by decide +kernel
theorem dX2_suits_66 : decode cX2_suits 66 = .ok (.getfield 79, 3) := by decide +kernel
theorem dX2_suits_69 : decode cX2_suits 69 = .ok (.iload_n 1, 1) := by decide +kernel
theorem dX2_suits_70 : decode cX2_suits 70 = .ok (.iaload, 1) := by decide +kernel
theorem dX2_suits_71 : decode cX2_suits 71 = .ok (.invokestatic 93, 3) := by decide +kernel
theorem dX2_suits_74 : decode cX2_suits 74 = .ok (.ifCond .eq 7, 3) := by decide +kernel
theorem dX2_suits_123 : decode cX2_suits 123 = .ok (.aload_n 0, 1) := by decide +kernel
theorem dX2_suits_124 : decode cX2_suits 124 = .ok (.getfield 35, 3) := by decide +kernel
theorem dX2_suits_127 : decode cX2_suits 127 = .ok (.iload_n 1, 1) := by decide +kernel
theorem dX2_suits_128 : decode cX2_suits 128 = .ok (.invokevirtual 124, 3) := by decide +kernel
theorem dX2_suits_131 : decode cX2_suits 131 = .ok (.ireturn, 1) := by decide +kernel
theorem dX2_suits_83 : decode cX2_suits 83 = .ok (.aload_n 0, 1) := by decide +kernel
theorem dX2_suits_84 : decode cX2_suits 84 = .ok (.getfield 35, 3) := by decide +kernel
theorem dX2_suits_87 : decode cX2_suits 87 = .ok (.getfield 72, 3) := by decide +kernel
theorem dX2_suits_90 : decode cX2_suits 90 = .ok (.iload_n 1, 1) := by decide +kernel
theorem dX2_suits_91 : decode cX2_suits 91 = .ok (.iaload, 1) := by decide +kernel
theorem dX2_suits_92 : decode cX2_suits 92 = .ok (.bipush 11, 2) := by decide +kernel
theorem dX2_suits_94 : decode cX2_suits 94 = .ok (.if_icmp .ne 7, 3) := by decide +kernel
theorem dX2_suits_101 : decode cX2_suits 101 = .ok (.iconst 0, 1) := by decide +kernel
theorem dX2_suits_102 : decode cX2_suits 102 = .ok (.ireturn, 1) := by decide +kernel
theorem dX2_suits_97 : decode cX2_suits 97 = .ok (.iconst 1, 1) := by decide +kernel
theorem dX2_suits_98 : decode cX2_suits 98 = .ok (.goto 4, 3) := by decide +kernel
theorem dX2_suits_103 : decode cX2_suits 103 = .ok (.aload_n 0, 1) := by decide +kernel
theorem dX2_suits_104 : decode cX2_suits 104 = .ok (.getfield 35, 3) := by decide +kernel
theorem dX2_suits_107 : decode cX2_suits 107 = .ok (.getfield 72, 3) := by decide +kernel
theorem dX2_suits_110 : decode cX2_suits 110 = .ok (.iload_n 1, 1) := by decide +kernel
theorem dX2_suits_111 : decode cX2_suits 111 = .ok (.iaload, 1) := by decide +kernel
theorem dX2_suits_112 : decode cX2_suits 112 = .ok (.bipush 10, 2) := by decide +kernel
theorem dX2_suits_114 : decode cX2_suits 114 = .ok (.if_icmp .ne 7, 3) := by decide +kernel
theorem dX2_suits_121 : decode cX2_suits 121 = .ok (.iconst 0, 1) := by decide +kernel
theorem dX2_suits_122 : decode cX2_suits 122 = .ok (.ireturn, 1) := by decide +kernel
theorem dX2_suits_117 : decode cX2_suits 117 = .ok (.iconst 1, 1) := by decide +kernel
theorem dX2_suits_118 : decode cX2_suits 118 = .ok (.goto 4, 3) := by decide +kernel
theorem dX2_faultOfArguments_0 : decode cX2_faultOfArguments 0 = .ok (.aload_n 0, 1) := by decide +kernel
theorem dX2_faultOfArguments_1 : decode cX2_faultOfArguments 1 = .ok (.getfield 39, 3) := by decide +kernel
theorem dX2_faultOfArguments_4 : decode cX2_faultOfArguments 4 = .ok (.getfield 79, 3) := by decide +kernel
theorem dX2_faultOfArguments_7 : decode cX2_faultOfArguments 7 = .ok (.iload_n 1, 1) := by decide +kernel
theorem dX2_faultOfArguments_8 : decode cX2_faultOfArguments 8 = .ok (.iaload, 1) := by decide +kernel
theorem dX2_faultOfArguments_9 : decode cX2_faultOfArguments 9 = .ok (.bipush 10, 2) := by decide +kernel
theorem dX2_faultOfArguments_11 : decode cX2_faultOfArguments 11 = .ok (.if_icmp .ne 7, 3) := by decide +kernel
theorem dX2_faultOfArguments_18 : decode cX2_faultOfArguments 18 = .ok (.iconst 0, 1) := by decide +kernel
theorem dX2_faultOfArguments_19 : decode cX2_faultOfArguments 19 = .ok (.istore_n 2, 1) := by decide +kernel
theorem dX2_faultOfArguments_20 : decode cX2_faultOfArguments 20 = .ok (.aload_n 0, 1) := by decide +kernel
theorem dX2_faultOfArguments_21 : decode cX2_faultOfArguments 21 = .ok (.getfield 35, 3) := by decide +kernel
theorem dX2_faultOfArguments_24 : decode cX2_faultOfArguments 24 = .ok (.iload_n 1, 1) := by decide +kernel
theorem dX2_faultOfArguments_25 : decode cX2_faultOfArguments 25 = .ok (.invokevirtual 105, 3) := by decide +kernel
theorem dX2_faultOfArguments_28 : decode cX2_faultOfArguments 28 = .ok (.istore_n 3, 1) := by decide +kernel
theorem dX2_faultOfArguments_29 : decode cX2_faultOfArguments 29 = .ok (.iload_n 2, 1) := by decide +kernel
theorem dX2_faultOfArguments_30 : decode cX2_faultOfArguments 30 = .ok (.ifCond .eq 26, 3) := by decide +kernel
theorem dX2_faultOfArguments_56 : decode cX2_faultOfArguments 56 = .ok (.aload_n 0, 1) := by decide +kernel
theorem dX2_faultOfArguments_57 : decode cX2_faultOfArguments 57 = .ok (.getfield 35, 3) := by decide +kernel
theorem dX2_faultOfArguments_60 : decode cX2_faultOfArguments 60 = .ok (.getfield 111, 3) := by decide +kernel
theorem dX2_faultOfArguments_63 : decode cX2_faultOfArguments 63 = .ok (.iload_n 1, 1) := by decide +kernel
theorem dX2_faultOfArguments_64 : decode cX2_faultOfArguments 64 = .ok (.iaload, 1) := by decide +kernel
theorem dX2_faultOfArguments_65 : decode cX2_faultOfArguments 65 = .ok (.istore 4, 2) := by decide +kernel
theorem dX2_faultOfArguments_67 : decode cX2_faultOfArguments 67 = .ok (.iconst 0, 1) := by decide +kernel
theorem dX2_faultOfArguments_68 : decode cX2_faultOfArguments 68 = .ok (.istore 5, 2) := by decide +kernel
theorem dX2_faultOfArguments_70 : decode cX2_faultOfArguments 70 = .ok (.iload 5, 2) := by decide +kernel
theorem dX2_faultOfArguments_72 : decode cX2_faultOfArguments 72 = .ok (.iload_n 3, 1) := by decide +kernel
theorem dX2_faultOfArguments_73 : decode cX2_faultOfArguments 73 = .ok (.if_icmp .ge 64, 3) := by decide +kernel
theorem dX2_faultOfArguments_76 : decode cX2_faultOfArguments 76 = .ok (.iload 4, 2) := by decide +kernel
theorem dX2_faultOfArguments_78 : decode cX2_faultOfArguments 78 = .ok (.iconst (-1), 1) := by decide +kernel
theorem dX2_faultOfArguments_79 : decode cX2_faultOfArguments 79 = .ok (.if_icmp .eq 58, 3) := by decide +kernel
theorem dX2_faultOfArguments_82 : decode cX2_faultOfArguments 82 = .ok (.aload_n 0, 1) := by decide +kernel
theorem dX2_faultOfArguments_83 : decode cX2_faultOfArguments 83 = .ok (.aload_n 0, 1) := by decide +kernel
theorem dX2_faultOfArguments_84 : decode cX2_faultOfArguments 84 = .ok (.getfield 35, 3) := by decide +kernel
theorem dX2_faultOfArguments_87 : decode cX2_faultOfArguments 87 = .ok (.getfield 111, 3) := by decide +kernel
theorem dX2_faultOfArguments_90 : decode cX2_faultOfArguments 90 = .ok (.iload 4, 2) := by decide +kernel
theorem dX2_faultOfArguments_92 : decode cX2_faultOfArguments 92 = .ok (.iaload, 1) := by decide +kernel
theorem dX2_faultOfArguments_93 : decode cX2_faultOfArguments 93 = .ok (.iload_n 2, 1) := by decide +kernel
theorem dX2_faultOfArguments_94 : decode cX2_faultOfArguments 94 = .ok (.ifCond .eq 16, 3) := by decide +kernel
theorem dX2_faultOfArguments_110 : decode cX2_faultOfArguments 110 = .ok (.iconst 0, 1) := by decide +kernel
theorem dX2_faultOfArguments_111 : decode cX2_faultOfArguments 111 = .ok (.invokevirtual 117, 3) := by decide +kernel
theorem dX2_faultOfArguments_114 : decode cX2_faultOfArguments 114 = .ok (.ifCond .ne 5, 3) := by decide +kernel
theorem dX2_faultOfArguments_119 : decode cX2_faultOfArguments 119 = .ok (.aload_n 0, 1) := by decide +kernel
theorem dX2_faultOfArguments_120 : decode cX2_faultOfArguments 120 = .ok (.getfield 35, 3) := by decide +kernel
theorem dX2_faultOfArguments_123 : decode cX2_faultOfArguments 123 = .ok (.getfield 121, 3) := by decide +kernel
theorem dX2_faultOfArguments_126 : decode cX2_faultOfArguments 126 = .ok (.iload 4, 2) := by decide +kernel
theorem dX2_faultOfArguments_128 : decode cX2_faultOfArguments 128 = .ok (.iaload, 1) := by decide +kernel
theorem dX2_faultOfArguments_129 : decode cX2_faultOfArguments 129 = .ok (.istore 4, 2) := by decide +kernel
theorem dX2_faultOfArguments_131 : decode cX2_faultOfArguments 131 = .ok (.iinc 5 1, 3) := by decide +kernel
theorem dX2_faultOfArguments_134 : decode cX2_faultOfArguments 134 = .ok (.goto (-64), 3) := by decide +kernel
theorem dX2_faultOfArguments_117 : decode cX2_faultOfArguments 117 = .ok (.iconst 5, 1) := by decide +kernel
theorem dX2_faultOfArguments_118 : decode cX2_faultOfArguments 118 = .ok (.ireturn, 1) := by decide +kernel
theorem dX2_faultOfArguments_137 : decode cX2_faultOfArguments 137 = .ok (.iconst 0, 1) := by decide +kernel
theorem dX2_faultOfArguments_138 : decode cX2_faultOfArguments 138 = .ok (.ireturn, 1) := by decide +kernel
theorem dX2_faultOfArguments_14 : decode cX2_faultOfArguments 14 = .ok (.iconst 1, 1) := by decide +kernel
theorem dX2_faultOfArguments_15 : decode cX2_faultOfArguments 15 = .ok (.goto 4, 3) := by decide +kernel
theorem dX2_faultOfArguments_33 : decode cX2_faultOfArguments 33 = .ok (.iload_n 3, 1) := by decide +kernel
theorem dX2_faultOfArguments_34 : decode cX2_faultOfArguments 34 = .ok (.aload_n 0, 1) := by decide +kernel
theorem dX2_faultOfArguments_35 : decode cX2_faultOfArguments 35 = .ok (.getfield 31, 3) := by decide +kernel
theorem dX2_faultOfArguments_38 : decode cX2_faultOfArguments 38 = .ok (.getfield 108, 3) := by decide +kernel
theorem dX2_faultOfArguments_41 : decode cX2_faultOfArguments 41 = .ok (.aload_n 0, 1) := by decide +kernel
theorem dX2_faultOfArguments_42 : decode cX2_faultOfArguments 42 = .ok (.getfield 39, 3) := by decide +kernel
theorem dX2_faultOfArguments_45 : decode cX2_faultOfArguments 45 = .ok (.getfield 99, 3) := by decide +kernel
theorem dX2_faultOfArguments_48 : decode cX2_faultOfArguments 48 = .ok (.iload_n 1, 1) := by decide +kernel
theorem dX2_faultOfArguments_49 : decode cX2_faultOfArguments 49 = .ok (.iaload, 1) := by decide +kernel
theorem dX2_faultOfArguments_50 : decode cX2_faultOfArguments 50 = .ok (.iaload, 1) := by decide +kernel
theorem dX2_faultOfArguments_51 : decode cX2_faultOfArguments 51 = .ok (.if_icmp .eq 5, 3) := by decide +kernel
theorem dX2_faultOfArguments_97 : decode cX2_faultOfArguments 97 = .ok (.aload_n 0, 1) := by decide +kernel
theorem dX2_faultOfArguments_98 : decode cX2_faultOfArguments 98 = .ok (.getfield 39, 3) := by decide +kernel
theorem dX2_faultOfArguments_101 : decode cX2_faultOfArguments 101 = .ok (.getfield 114, 3) := by decide +kernel
theorem dX2_faultOfArguments_104 : decode cX2_faultOfArguments 104 = .ok (.iload 4, 2) := by decide +kernel
theorem dX2_faultOfArguments_106 : decode cX2_faultOfArguments 106 = .ok (.iaload, 1) := by decide +kernel
theorem dX2_faultOfArguments_107 : decode cX2_faultOfArguments 107 = .ok (.goto 4, 3) := by decide +kernel
theorem dX2_faultOfArguments_54 : decode cX2_faultOfArguments 54 = .ok (.iconst 4, 1) := by decide +kernel
theorem dX2_faultOfArguments_55 : decode cX2_faultOfArguments 55 = .ok (.ireturn, 1) := by decide +kernel
theorem dX2_isProc_0 : decode cX2_isProc 0 = .ok (.iload_n 0, 1) := by decide +kernel
theorem dX2_isProc_1 : decode cX2_isProc 1 = .ok (.iconst 5, 1) := by decide +kernel
theorem dX2_isProc_2 : decode cX2_isProc 2 = .ok (.if_icmp .eq 9, 3) := by decide +kernel
theorem dX2_isProc_11 : decode cX2_isProc 11 = .ok (.iconst 1, 1) := by decide +kernel
theorem dX2_isProc_12 : decode cX2_isProc 12 = .ok (.goto 4, 3) := by decide +kernel
theorem dX2_isProc_16 : decode cX2_isProc 16 = .ok (.ireturn, 1) := by decide +kernel
theorem dX2_isProc_5 : decode cX2_isProc 5 = .ok (.iload_n 0, 1) := by decide +kernel
theorem dX2_isProc_6 : decode cX2_isProc 6 = .ok (.bipush 8, 2) := by decide +kernel
theorem dX2_isProc_8 : decode cX2_isProc 8 = .ok (.if_icmp .ne 7, 3) := by decide +kernel
theorem dX2_isProc_15 : decode cX2_isProc 15 = .ok (.iconst 0, 1) := by decide +kernel
theorem dX2_isAsItHasToBe_0 : decode cX2_isAsItHasToBe 0 = .ok (.aload_n 0, 1) := by decide +kernel
theorem dX2_isAsItHasToBe_1 : decode cX2_isAsItHasToBe 1 = .ok (.getfield 39, 3) := by decide +kernel
theorem dX2_isAsItHasToBe_4 : decode cX2_isAsItHasToBe 4 = .ok (.getfield 79, 3) := by decide +kernel
theorem dX2_isAsItHasToBe_7 : decode cX2_isAsItHasToBe 7 = .ok (.iload_n 1, 1) := by decide +kernel
theorem dX2_isAsItHasToBe_8 : decode cX2_isAsItHasToBe 8 = .ok (.iaload, 1) := by decide +kernel
theorem dX2_isAsItHasToBe_9 : decode cX2_isAsItHasToBe 9 = .ok (.istore_n 2, 1) := by decide +kernel
theorem dX2_isAsItHasToBe_10 : decode cX2_isAsItHasToBe 10 = .ok (.aload_n 0, 1) := by decide +kernel
theorem dX2_isAsItHasToBe_11 : decode cX2_isAsItHasToBe 11 = .ok (.getfield 35, 3) := by decide +kernel
theorem dX2_isAsItHasToBe_14 : decode cX2_isAsItHasToBe 14 = .ok (.getfield 72, 3) := by decide +kernel
theorem dX2_isAsItHasToBe_17 : decode cX2_isAsItHasToBe 17 = .ok (.iload_n 1, 1) := by decide +kernel
theorem dX2_isAsItHasToBe_18 : decode cX2_isAsItHasToBe 18 = .ok (.iaload, 1) := by decide +kernel
theorem dX2_isAsItHasToBe_19 : decode cX2_isAsItHasToBe 19 = .ok (.lookupswitch 147 #[(1, 49), (8, 78), (10, 97), (13, 73), (21, 135)], 49) := by decide +kernel
theorem dX2_isAsItHasToBe_68 : decode cX2_isAsItHasToBe 68 = .ok (.iload_n 2, 1) := by decide +kernel
theorem dX2_isAsItHasToBe_69 : decode cX2_isAsItHasToBe 69 = .ok (.invokestatic 93, 3) := by decide +kernel
theorem dX2_isAsItHasToBe_72 : decode cX2_isAsItHasToBe 72 = .ok (.ifCond .ne 14, 3) := by decide +kernel
theorem dX2_isAsItHasToBe_86 : decode cX2_isAsItHasToBe 86 = .ok (.iconst 1, 1) := by decide +kernel
theorem dX2_isAsItHasToBe_87 : decode cX2_isAsItHasToBe 87 = .ok (.goto 4, 3) := by decide +kernel
theorem dX2_isAsItHasToBe_91 : decode cX2_isAsItHasToBe 91 = .ok (.ireturn, 1) := by decide +kernel
theorem dX2_isAsItHasToBe_75 : decode cX2_isAsItHasToBe 75 = .ok (.iload_n 2, 1) := by decide +kernel
theorem dX2_isAsItHasToBe_76 : decode cX2_isAsItHasToBe 76 = .ok (.bipush 9, 2) := by decide +kernel
theorem dX2_isAsItHasToBe_78 : decode cX2_isAsItHasToBe 78 = .ok (.if_icmp .eq 8, 3) := by decide +kernel
theorem dX2_isAsItHasToBe_81 : decode cX2_isAsItHasToBe 81 = .ok (.iload_n 2, 1) := by decide +kernel
theorem dX2_isAsItHasToBe_82 : decode cX2_isAsItHasToBe 82 = .ok (.iconst 2, 1) := by decide +kernel
theorem dX2_isAsItHasToBe_83 : decode cX2_isAsItHasToBe 83 = .ok (.if_icmp .ne 7, 3) := by decide +kernel
theorem dX2_isAsItHasToBe_90 : decode cX2_isAsItHasToBe 90 = .ok (.iconst 0, 1) := by decide +kernel
theorem dX2_isAsItHasToBe_97 : decode cX2_isAsItHasToBe 97 = .ok (.iload_n 2, 1) := by decide +kernel
theorem dX2_isAsItHasToBe_98 : decode cX2_isAsItHasToBe 98 = .ok (.bipush 10, 2) := by decide +kernel
theorem dX2_isAsItHasToBe_100 : decode cX2_isAsItHasToBe 100 = .ok (.if_icmp .eq 10, 3) := by decide +kernel
theorem dX2_isAsItHasToBe_110 : decode cX2_isAsItHasToBe 110 = .ok (.iconst 1, 1) := by decide +kernel
theorem dX2_isAsItHasToBe_111 : decode cX2_isAsItHasToBe 111 = .ok (.goto 4, 3) := by decide +kernel
theorem dX2_isAsItHasToBe_115 : decode cX2_isAsItHasToBe 115 = .ok (.ireturn, 1) := by decide +kernel
theorem dX2_isAsItHasToBe_103 : decode cX2_isAsItHasToBe 103 = .ok (.iload_n 2, 1) := by decide +kernel
theorem dX2_isAsItHasToBe_104 : decode cX2_isAsItHasToBe 104 = .ok (.invokestatic 96, 3) := by decide +kernel
theorem dX2_isAsItHasToBe_107 : decode cX2_isAsItHasToBe 107 = .ok (.ifCond .eq 7, 3) := by decide +kernel
theorem dX2_isAsItHasToBe_114 : decode cX2_isAsItHasToBe 114 = .ok (.iconst 0, 1) := by decide +kernel
theorem dX2_isAsItHasToBe_116 : decode cX2_isAsItHasToBe 116 = .ok (.iload_n 2, 1) := by decide +kernel
theorem dX2_isAsItHasToBe_117 : decode cX2_isAsItHasToBe 117 = .ok (.invokestatic 96, 3) := by decide +kernel
theorem dX2_isAsItHasToBe_120 : decode cX2_isAsItHasToBe 120 = .ok (.ifCond .ne 28, 3) := by decide +kernel
theorem dX2_isAsItHasToBe_148 : decode cX2_isAsItHasToBe 148 = .ok (.iconst 1, 1) := by decide +kernel
theorem dX2_isAsItHasToBe_149 : decode cX2_isAsItHasToBe 149 = .ok (.goto 4, 3) := by decide +kernel
theorem dX2_isAsItHasToBe_153 : decode cX2_isAsItHasToBe 153 = .ok (.ireturn, 1) := by decide +kernel
theorem dX2_isAsItHasToBe_123 : decode cX2_isAsItHasToBe 123 = .ok (.iload_n 2, 1) := by decide +kernel
theorem dX2_isAsItHasToBe_124 : decode cX2_isAsItHasToBe 124 = .ok (.bipush 10, 2) := by decide +kernel
theorem dX2_isAsItHasToBe_126 : decode cX2_isAsItHasToBe 126 = .ok (.if_icmp .ne 26, 3) := by decide +kernel
theorem dX2_isAsItHasToBe_152 : decode cX2_isAsItHasToBe 152 = .ok (.iconst 0, 1) := by decide +kernel
theorem dX2_isAsItHasToBe_129 : decode cX2_isAsItHasToBe 129 = .ok (.aload_n 0, 1) := by decide +kernel
theorem dX2_isAsItHasToBe_130 : decode cX2_isAsItHasToBe 130 = .ok (.getfield 31, 3) := by decide +kernel
theorem dX2_isAsItHasToBe_133 : decode cX2_isAsItHasToBe 133 = .ok (.aload_n 0, 1) := by decide +kernel
theorem dX2_isAsItHasToBe_134 : decode cX2_isAsItHasToBe 134 = .ok (.getfield 39, 3) := by decide +kernel
theorem dX2_isAsItHasToBe_137 : decode cX2_isAsItHasToBe 137 = .ok (.getfield 99, 3) := by decide +kernel
theorem dX2_isAsItHasToBe_140 : decode cX2_isAsItHasToBe 140 = .ok (.iload_n 1, 1) := by decide +kernel
theorem dX2_isAsItHasToBe_141 : decode cX2_isAsItHasToBe 141 = .ok (.iaload, 1) := by decide +kernel
theorem dX2_isAsItHasToBe_142 : decode cX2_isAsItHasToBe 142 = .ok (.invokevirtual 102, 3) := by decide +kernel
theorem dX2_isAsItHasToBe_145 : decode cX2_isAsItHasToBe 145 = .ok (.ifCond .eq 7, 3) := by decide +kernel
theorem dX2_isAsItHasToBe_92 : decode cX2_isAsItHasToBe 92 = .ok (.iload_n 2, 1) := by decide +kernel
theorem dX2_isAsItHasToBe_93 : decode cX2_isAsItHasToBe 93 = .ok (.invokestatic 93, 3) := by decide +kernel
theorem dX2_isAsItHasToBe_96 : decode cX2_isAsItHasToBe 96 = .ok (.ireturn, 1) := by decide +kernel
theorem dX2_isAsItHasToBe_154 : decode cX2_isAsItHasToBe 154 = .ok (.iload_n 2, 1) := by decide +kernel
theorem dX2_isAsItHasToBe_155 : decode cX2_isAsItHasToBe 155 = .ok (.bipush 8, 2) := by decide +kernel
theorem dX2_isAsItHasToBe_157 : decode cX2_isAsItHasToBe 157 = .ok (.if_icmp .ne 7, 3) := by decide +kernel
theorem dX2_isAsItHasToBe_164 : decode cX2_isAsItHasToBe 164 = .ok (.iconst 0, 1) := by decide +kernel
theorem dX2_isAsItHasToBe_165 : decode cX2_isAsItHasToBe 165 = .ok (.ireturn, 1) := by decide +kernel
theorem dX2_isAsItHasToBe_160 : decode cX2_isAsItHasToBe 160 = .ok (.iconst 1, 1) := by decide +kernel
theorem dX2_isAsItHasToBe_161 : decode cX2_isAsItHasToBe 161 = .ok (.goto 4, 3) := by decide +kernel
theorem dX2_isAsItHasToBe_166 : decode cX2_isAsItHasToBe 166 = .ok (.iload_n 2, 1) := by decide +kernel
theorem dX2_isAsItHasToBe_167 : decode cX2_isAsItHasToBe 167 = .ok (.bipush 7, 2) := by decide +kernel
theorem dX2_isAsItHasToBe_169 : decode cX2_isAsItHasToBe 169 = .ok (.if_icmp .eq 13, 3) := by decide +kernel
theorem dX2_isAsItHasToBe_182 : decode cX2_isAsItHasToBe 182 = .ok (.iconst 1, 1) := by decide +kernel
theorem dX2_isAsItHasToBe_183 : decode cX2_isAsItHasToBe 183 = .ok (.goto 4, 3) := by decide +kernel
theorem dX2_isAsItHasToBe_187 : decode cX2_isAsItHasToBe 187 = .ok (.ireturn, 1) := by decide +kernel
theorem dX2_isAsItHasToBe_172 : decode cX2_isAsItHasToBe 172 = .ok (.iload_n 2, 1) := by decide +kernel
theorem dX2_isAsItHasToBe_173 : decode cX2_isAsItHasToBe 173 = .ok (.iconst 3, 1) := by decide +kernel
theorem dX2_isAsItHasToBe_174 : decode cX2_isAsItHasToBe 174 = .ok (.if_icmp .eq 8, 3) := by decide +kernel
theorem dX2_isAsItHasToBe_177 : decode cX2_isAsItHasToBe 177 = .ok (.iload_n 2, 1) := by decide +kernel
theorem dX2_isAsItHasToBe_178 : decode cX2_isAsItHasToBe 178 = .ok (.iconst 4, 1) := by decide +kernel
theorem dX2_isAsItHasToBe_179 : decode cX2_isAsItHasToBe 179 = .ok (.if_icmp .ne 7, 3) := by decide +kernel
theorem dX2_isAsItHasToBe_186 : decode cX2_isAsItHasToBe 186 = .ok (.iconst 0, 1) := by decide +kernel
theorem dX2_faultOf_0 : decode cX2_faultOf 0 = .ok (.aload_n 0, 1) := by decide +kernel
theorem dX2_faultOf_1 : decode cX2_faultOf 1 = .ok (.getfield 35, 3) := by decide +kernel
theorem dX2_faultOf_4 : decode cX2_faultOf 4 = .ok (.getfield 72, 3) := by decide +kernel
theorem dX2_faultOf_7 : decode cX2_faultOf 7 = .ok (.iload_n 1, 1) := by decide +kernel
theorem dX2_faultOf_8 : decode cX2_faultOf 8 = .ok (.iaload, 1) := by decide +kernel
theorem dX2_faultOf_9 : decode cX2_faultOf 9 = .ok (.istore_n 2, 1) := by decide +kernel
theorem dX2_faultOf_10 : decode cX2_faultOf 10 = .ok (.aload_n 0, 1) := by decide +kernel
theorem dX2_faultOf_11 : decode cX2_faultOf 11 = .ok (.getfield 35, 3) := by decide +kernel
theorem dX2_faultOf_14 : decode cX2_faultOf 14 = .ok (.iload_n 1, 1) := by decide +kernel
theorem dX2_faultOf_15 : decode cX2_faultOf 15 = .ok (.invokevirtual 75, 3) := by decide +kernel
theorem dX2_faultOf_18 : decode cX2_faultOf 18 = .ok (.ifCond .eq 49, 3) := by decide +kernel
theorem dX2_faultOf_67 : decode cX2_faultOf 67 = .ok (.iload_n 2, 1) := by decide +kernel
theorem dX2_faultOf_68 : decode cX2_faultOf 68 = .ok (.bipush 8, 2) := by decide +kernel
theorem dX2_faultOf_70 : decode cX2_faultOf 70 = .ok (.if_icmp .ne 9, 3) := by decide +kernel
theorem dX2_faultOf_79 : decode cX2_faultOf 79 = .ok (.iload_n 2, 1) := by decide +kernel
theorem dX2_faultOf_80 : decode cX2_faultOf 80 = .ok (.bipush 17, 2) := by decide +kernel
theorem dX2_faultOf_82 : decode cX2_faultOf 82 = .ok (.if_icmp .ne 21, 3) := by decide +kernel
theorem dX2_faultOf_103 : decode cX2_faultOf 103 = .ok (.iconst 0, 1) := by decide +kernel
theorem dX2_faultOf_104 : decode cX2_faultOf 104 = .ok (.ireturn, 1) := by decide +kernel
theorem dX2_faultOf_85 : decode cX2_faultOf 85 = .ok (.aload_n 0, 1) := by decide +kernel
theorem dX2_faultOf_86 : decode cX2_faultOf 86 = .ok (.getfield 39, 3) := by decide +kernel
theorem dX2_faultOf_89 : decode cX2_faultOf 89 = .ok (.getfield 90, 3) := by decide +kernel
theorem dX2_faultOf_92 : decode cX2_faultOf 92 = .ok (.iload_n 1, 1) := by decide +kernel
theorem dX2_faultOf_93 : decode cX2_faultOf 93 = .ok (.iaload, 1) := by decide +kernel
theorem dX2_faultOf_94 : decode cX2_faultOf 94 = .ok (.iconst (-1), 1) := by decide +kernel
theorem dX2_faultOf_95 : decode cX2_faultOf 95 = .ok (.if_icmp .ne 8, 3) := by decide +kernel
theorem dX2_faultOf_98 : decode cX2_faultOf 98 = .ok (.bipush 6, 2) := by decide +kernel
theorem dX2_faultOf_100 : decode cX2_faultOf 100 = .ok (.goto 4, 3) := by decide +kernel
theorem dX2_faultOf_73 : decode cX2_faultOf 73 = .ok (.aload_n 0, 1) := by decide +kernel
theorem dX2_faultOf_74 : decode cX2_faultOf 74 = .ok (.iload_n 1, 1) := by decide +kernel
theorem dX2_faultOf_75 : decode cX2_faultOf 75 = .ok (.invokevirtual 87, 3) := by decide +kernel
theorem dX2_faultOf_78 : decode cX2_faultOf 78 = .ok (.ireturn, 1) := by decide +kernel
theorem dX2_faultOf_21 : decode cX2_faultOf 21 = .ok (.aload_n 0, 1) := by decide +kernel
theorem dX2_faultOf_22 : decode cX2_faultOf 22 = .ok (.getfield 39, 3) := by decide +kernel
theorem dX2_faultOf_25 : decode cX2_faultOf 25 = .ok (.getfield 79, 3) := by decide +kernel
theorem dX2_faultOf_28 : decode cX2_faultOf 28 = .ok (.iload_n 1, 1) := by decide +kernel
theorem dX2_faultOf_29 : decode cX2_faultOf 29 = .ok (.iaload, 1) := by decide +kernel
theorem dX2_faultOf_30 : decode cX2_faultOf 30 = .ok (.istore_n 3, 1) := by decide +kernel
theorem dX2_faultOf_31 : decode cX2_faultOf 31 = .ok (.iload_n 3, 1) := by decide +kernel
theorem dX2_faultOf_32 : decode cX2_faultOf 32 = .ok (.iconst (-1), 1) := by decide +kernel
theorem dX2_faultOf_33 : decode cX2_faultOf 33 = .ok (.if_icmp .ne 5, 3) := by decide +kernel
theorem dX2_faultOf_38 : decode cX2_faultOf 38 = .ok (.iload_n 2, 1) := by decide +kernel
theorem dX2_faultOf_39 : decode cX2_faultOf 39 = .ok (.bipush 13, 2) := by decide +kernel
theorem dX2_faultOf_41 : decode cX2_faultOf 41 = .ok (.if_icmp .ne 16, 3) := by decide +kernel
theorem dX2_faultOf_57 : decode cX2_faultOf 57 = .ok (.aload_n 0, 1) := by decide +kernel
theorem dX2_faultOf_58 : decode cX2_faultOf 58 = .ok (.iload_n 1, 1) := by decide +kernel
theorem dX2_faultOf_59 : decode cX2_faultOf 59 = .ok (.invokevirtual 84, 3) := by decide +kernel
theorem dX2_faultOf_62 : decode cX2_faultOf 62 = .ok (.ifCond .ne 5, 3) := by decide +kernel
theorem dX2_faultOf_65 : decode cX2_faultOf 65 = .ok (.iconst 2, 1) := by decide +kernel
theorem dX2_faultOf_66 : decode cX2_faultOf 66 = .ok (.ireturn, 1) := by decide +kernel
theorem dX2_faultOf_44 : decode cX2_faultOf 44 = .ok (.iload_n 3, 1) := by decide +kernel
theorem dX2_faultOf_45 : decode cX2_faultOf 45 = .ok (.bipush 9, 2) := by decide +kernel
theorem dX2_faultOf_47 : decode cX2_faultOf 47 = .ok (.if_icmp .eq 8, 3) := by decide +kernel
theorem dX2_faultOf_55 : decode cX2_faultOf 55 = .ok (.iconst 3, 1) := by decide +kernel
theorem dX2_faultOf_56 : decode cX2_faultOf 56 = .ok (.ireturn, 1) := by decide +kernel
theorem dX2_faultOf_50 : decode cX2_faultOf 50 = .ok (.iload_n 3, 1) := by decide +kernel
theorem dX2_faultOf_51 : decode cX2_faultOf 51 = .ok (.iconst 2, 1) := by decide +kernel
theorem dX2_faultOf_52 : decode cX2_faultOf 52 = .ok (.if_icmp .ne 5, 3) := by decide +kernel
theorem dX2_faultOf_36 : decode cX2_faultOf 36 = .ok (.iconst 1, 1) := by decide +kernel
theorem dX2_faultOf_37 : decode cX2_faultOf 37 = .ok (.ireturn, 1) := by decide +kernel
theorem dX2_tell_0 : decode cX2_tell 0 = .ok (.iload_n 1, 1) := by decide +kernel
theorem dX2_tell_1 : decode cX2_tell 1 = .ok (.ifCond .eq 55, 3) := by decide +kernel
theorem dX2_tell_56 : decode cX2_tell 56 = .ok (.return_, 1) := by decide +kernel
theorem dX2_tell_4 : decode cX2_tell 4 = .ok (.aload_n 0, 1) := by decide +kernel
theorem dX2_tell_5 : decode cX2_tell 5 = .ok (.getfield 9, 3) := by decide +kernel
theorem dX2_tell_8 : decode cX2_tell 8 = .ok (.aload_n 0, 1) := by decide +kernel
theorem dX2_tell_9 : decode cX2_tell 9 = .ok (.getfield 15, 3) := by decide +kernel
theorem dX2_tell_12 : decode cX2_tell 12 = .ok (.arraylength, 1) := by decide +kernel
theorem dX2_tell_13 : decode cX2_tell 13 = .ok (.if_icmp .ge 43, 3) := by decide +kernel
theorem dX2_tell_16 : decode cX2_tell 16 = .ok (.aload_n 0, 1) := by decide +kernel
theorem dX2_tell_17 : decode cX2_tell 17 = .ok (.getfield 15, 3) := by decide +kernel
theorem dX2_tell_20 : decode cX2_tell 20 = .ok (.aload_n 0, 1) := by decide +kernel
theorem dX2_tell_21 : decode cX2_tell 21 = .ok (.getfield 9, 3) := by decide +kernel
theorem dX2_tell_24 : decode cX2_tell 24 = .ok (.iload_n 1, 1) := by decide +kernel
theorem dX2_tell_25 : decode cX2_tell 25 = .ok (.iastore, 1) := by decide +kernel
theorem dX2_tell_26 : decode cX2_tell 26 = .ok (.aload_n 0, 1) := by decide +kernel
theorem dX2_tell_27 : decode cX2_tell 27 = .ok (.getfield 19, 3) := by decide +kernel
theorem dX2_tell_30 : decode cX2_tell 30 = .ok (.aload_n 0, 1) := by decide +kernel
theorem dX2_tell_31 : decode cX2_tell 31 = .ok (.getfield 9, 3) := by decide +kernel
theorem dX2_tell_34 : decode cX2_tell 34 = .ok (.iload_n 2, 1) := by decide +kernel
theorem dX2_tell_35 : decode cX2_tell 35 = .ok (.iastore, 1) := by decide +kernel
theorem dX2_tell_36 : decode cX2_tell 36 = .ok (.aload_n 0, 1) := by decide +kernel
theorem dX2_tell_37 : decode cX2_tell 37 = .ok (.getfield 22, 3) := by decide +kernel
theorem dX2_tell_40 : decode cX2_tell 40 = .ok (.aload_n 0, 1) := by decide +kernel
theorem dX2_tell_41 : decode cX2_tell 41 = .ok (.getfield 9, 3) := by decide +kernel
theorem dX2_tell_44 : decode cX2_tell 44 = .ok (.iload_n 3, 1) := by decide +kernel
theorem dX2_tell_45 : decode cX2_tell 45 = .ok (.iastore, 1) := by decide +kernel
theorem dX2_tell_46 : decode cX2_tell 46 = .ok (.aload_n 0, 1) := by decide +kernel
theorem dX2_tell_47 : decode cX2_tell 47 = .ok (.dup, 1) := by decide +kernel
theorem dX2_tell_48 : decode cX2_tell 48 = .ok (.getfield 9, 3) := by decide +kernel
theorem dX2_tell_51 : decode cX2_tell 51 = .ok (.iconst 1, 1) := by decide +kernel
theorem dX2_tell_52 : decode cX2_tell 52 = .ok (.iadd, 1) := by decide +kernel
theorem dX2_tell_53 : decode cX2_tell 53 = .ok (.putfield 9, 3) := by decide +kernel
theorem dX5_partC_0 : decode cX5_partC 0 = .ok (.getstatic 40, 3) := by decide +kernel
theorem dX5_partC_3 : decode cX5_partC 3 = .ok (.aload_n 0, 1) := by decide +kernel
theorem dX5_partC_4 : decode cX5_partC 4 = .ok (.getfield 15, 3) := by decide +kernel
theorem dX5_partC_7 : decode cX5_partC 7 = .ok (.iload_n 1, 1) := by decide +kernel
theorem dX5_partC_8 : decode cX5_partC 8 = .ok (.iaload, 1) := by decide +kernel
theorem dX5_partC_9 : decode cX5_partC 9 = .ok (.iaload, 1) := by decide +kernel
theorem dX5_partC_10 : decode cX5_partC 10 = .ok (.iconst 4, 1) := by decide +kernel
theorem dX5_partC_11 : decode cX5_partC 11 = .ok (.if_icmp .lt 12, 3) := by decide +kernel
theorem dX5_partC_23 : decode cX5_partC 23 = .ok (.iconst (-1), 1) := by decide +kernel
theorem dX5_partC_24 : decode cX5_partC 24 = .ok (.ireturn, 1) := by decide +kernel
theorem dX5_partC_14 : decode cX5_partC 14 = .ok (.aload_n 0, 1) := by decide +kernel
theorem dX5_partC_15 : decode cX5_partC 15 = .ok (.getfield 25, 3) := by decide +kernel
theorem dX5_partC_18 : decode cX5_partC 18 = .ok (.iload_n 1, 1) := by decide +kernel
theorem dX5_partC_19 : decode cX5_partC 19 = .ok (.iaload, 1) := by decide +kernel
theorem dX5_partC_20 : decode cX5_partC 20 = .ok (.goto 4, 3) := by decide +kernel
theorem dX5_partB_0 : decode cX5_partB 0 = .ok (.getstatic 37, 3) := by decide +kernel
theorem dX5_partB_3 : decode cX5_partB 3 = .ok (.aload_n 0, 1) := by decide +kernel
theorem dX5_partB_4 : decode cX5_partB 4 = .ok (.getfield 15, 3) := by decide +kernel
theorem dX5_partB_7 : decode cX5_partB 7 = .ok (.iload_n 1, 1) := by decide +kernel
theorem dX5_partB_8 : decode cX5_partB 8 = .ok (.iaload, 1) := by decide +kernel
theorem dX5_partB_9 : decode cX5_partB 9 = .ok (.iaload, 1) := by decide +kernel
theorem dX5_partB_10 : decode cX5_partB 10 = .ok (.iconst 4, 1) := by decide +kernel
theorem dX5_partB_11 : decode cX5_partB 11 = .ok (.if_icmp .lt 12, 3) := by decide +kernel
theorem dX5_partB_23 : decode cX5_partB 23 = .ok (.iconst (-1), 1) := by decide +kernel
theorem dX5_partB_24 : decode cX5_partB 24 = .ok (.ireturn, 1) := by decide +kernel
theorem dX5_partB_14 : decode cX5_partB 14 = .ok (.aload_n 0, 1) := by decide +kernel
theorem dX5_partB_15 : decode cX5_partB 15 = .ok (.getfield 22, 3) := by decide +kernel
theorem dX5_partB_18 : decode cX5_partB 18 = .ok (.iload_n 1, 1) := by decide +kernel
theorem dX5_partB_19 : decode cX5_partB 19 = .ok (.iaload, 1) := by decide +kernel
theorem dX5_partB_20 : decode cX5_partB 20 = .ok (.goto 4, 3) := by decide +kernel
theorem dX5_partA_0 : decode cX5_partA 0 = .ok (.getstatic 34, 3) := by decide +kernel
theorem dX5_partA_3 : decode cX5_partA 3 = .ok (.aload_n 0, 1) := by decide +kernel
theorem dX5_partA_4 : decode cX5_partA 4 = .ok (.getfield 15, 3) := by decide +kernel
theorem dX5_partA_7 : decode cX5_partA 7 = .ok (.iload_n 1, 1) := by decide +kernel
theorem dX5_partA_8 : decode cX5_partA 8 = .ok (.iaload, 1) := by decide +kernel
theorem dX5_partA_9 : decode cX5_partA 9 = .ok (.iaload, 1) := by decide +kernel
theorem dX5_partA_10 : decode cX5_partA 10 = .ok (.iconst 4, 1) := by decide +kernel
theorem dX5_partA_11 : decode cX5_partA 11 = .ok (.if_icmp .lt 12, 3) := by decide +kernel
theorem dX5_partA_23 : decode cX5_partA 23 = .ok (.iconst (-1), 1) := by decide +kernel
theorem dX5_partA_24 : decode cX5_partA 24 = .ok (.ireturn, 1) := by decide +kernel
theorem dX5_partA_14 : decode cX5_partA 14 = .ok (.aload_n 0, 1) := by decide +kernel
theorem dX5_partA_15 : decode cX5_partA 15 = .ok (.getfield 19, 3) := by decide +kernel
theorem dX5_partA_18 : decode cX5_partA 18 = .ok (.iload_n 1, 1) := by decide +kernel
theorem dX5_partA_19 : decode cX5_partA 19 = .ok (.iaload, 1) := by decide +kernel
theorem dX5_partA_20 : decode cX5_partA 20 = .ok (.goto 4, 3) := by decide +kernel
theorem dX2_find_0 : decode cX2_find 0 = .ok (.aload_n 0, 1) := by decide +kernel
theorem dX2_find_1 : decode cX2_find 1 = .ok (.iconst 0, 1) := by decide +kernel
theorem dX2_find_2 : decode cX2_find 2 = .ok (.putfield 9, 3) := by decide +kernel
theorem dX2_find_5 : decode cX2_find 5 = .ok (.iconst 0, 1) := by decide +kernel
theorem dX2_find_6 : decode cX2_find 6 = .ok (.istore_n 1, 1) := by decide +kernel
theorem dX2_find_7 : decode cX2_find 7 = .ok (.iload_n 1, 1) := by decide +kernel
theorem dX2_find_8 : decode cX2_find 8 = .ok (.aload_n 0, 1) := by decide +kernel
theorem dX2_find_9 : decode cX2_find 9 = .ok (.getfield 31, 3) := by decide +kernel
theorem dX2_find_12 : decode cX2_find 12 = .ok (.getfield 43, 3) := by decide +kernel
theorem dX2_find_15 : decode cX2_find 15 = .ok (.if_icmp .ge 136, 3) := by decide +kernel
theorem dX2_find_18 : decode cX2_find 18 = .ok (.aload_n 0, 1) := by decide +kernel
theorem dX2_find_19 : decode cX2_find 19 = .ok (.getfield 31, 3) := by decide +kernel
theorem dX2_find_22 : decode cX2_find 22 = .ok (.getfield 46, 3) := by decide +kernel
theorem dX2_find_25 : decode cX2_find 25 = .ok (.iload_n 1, 1) := by decide +kernel
theorem dX2_find_26 : decode cX2_find 26 = .ok (.iaload, 1) := by decide +kernel
theorem dX2_find_27 : decode cX2_find 27 = .ok (.iconst (-1), 1) := by decide +kernel
theorem dX2_find_28 : decode cX2_find 28 = .ok (.if_icmp .ne 11, 3) := by decide +kernel
theorem dX2_find_39 : decode cX2_find 39 = .ok (.aload_n 0, 1) := by decide +kernel
theorem dX2_find_40 : decode cX2_find 40 = .ok (.iconst 0, 1) := by decide +kernel
theorem dX2_find_41 : decode cX2_find 41 = .ok (.putfield 28, 3) := by decide +kernel
theorem dX2_find_44 : decode cX2_find 44 = .ok (.aload_n 0, 1) := by decide +kernel
theorem dX2_find_45 : decode cX2_find 45 = .ok (.aload_n 0, 1) := by decide +kernel
theorem dX2_find_46 : decode cX2_find 46 = .ok (.getfield 31, 3) := by decide +kernel
theorem dX2_find_49 : decode cX2_find 49 = .ok (.getfield 46, 3) := by decide +kernel
theorem dX2_find_52 : decode cX2_find 52 = .ok (.iload_n 1, 1) := by decide +kernel
theorem dX2_find_53 : decode cX2_find 53 = .ok (.iaload, 1) := by decide +kernel
theorem dX2_find_54 : decode cX2_find 54 = .ok (.invokevirtual 53, 3) := by decide +kernel
theorem dX2_find_57 : decode cX2_find 57 = .ok (.iconst 0, 1) := by decide +kernel
theorem dX2_find_58 : decode cX2_find 58 = .ok (.istore_n 2, 1) := by decide +kernel
theorem dX2_find_59 : decode cX2_find 59 = .ok (.iload_n 2, 1) := by decide +kernel
theorem dX2_find_60 : decode cX2_find 60 = .ok (.bipush 110, 2) := by decide +kernel
theorem dX2_find_62 : decode cX2_find 62 = .ok (.if_icmp .ge 83, 3) := by decide +kernel
theorem dX2_find_65 : decode cX2_find 65 = .ok (.aload_n 0, 1) := by decide +kernel
theorem dX2_find_66 : decode cX2_find 66 = .ok (.getfield 28, 3) := by decide +kernel
theorem dX2_find_69 : decode cX2_find 69 = .ok (.ifCond .le 76, 3) := by decide +kernel
theorem dX2_find_72 : decode cX2_find 72 = .ok (.aload_n 0, 1) := by decide +kernel
theorem dX2_find_73 : decode cX2_find 73 = .ok (.dup, 1) := by decide +kernel
theorem dX2_find_74 : decode cX2_find 74 = .ok (.getfield 28, 3) := by decide +kernel
theorem dX2_find_77 : decode cX2_find 77 = .ok (.iconst 1, 1) := by decide +kernel
theorem dX2_find_78 : decode cX2_find 78 = .ok (.isub, 1) := by decide +kernel
theorem dX2_find_79 : decode cX2_find 79 = .ok (.putfield 28, 3) := by decide +kernel
theorem dX2_find_82 : decode cX2_find 82 = .ok (.aload_n 0, 1) := by decide +kernel
theorem dX2_find_83 : decode cX2_find 83 = .ok (.getfield 25, 3) := by decide +kernel
theorem dX2_find_86 : decode cX2_find 86 = .ok (.aload_n 0, 1) := by decide +kernel
theorem dX2_find_87 : decode cX2_find 87 = .ok (.getfield 28, 3) := by decide +kernel
theorem dX2_find_90 : decode cX2_find 90 = .ok (.iaload, 1) := by decide +kernel
theorem dX2_find_91 : decode cX2_find 91 = .ok (.istore_n 3, 1) := by decide +kernel
theorem dX2_find_92 : decode cX2_find 92 = .ok (.aload_n 0, 1) := by decide +kernel
theorem dX2_find_93 : decode cX2_find 93 = .ok (.aload_n 0, 1) := by decide +kernel
theorem dX2_find_94 : decode cX2_find 94 = .ok (.iload_n 3, 1) := by decide +kernel
theorem dX2_find_95 : decode cX2_find 95 = .ok (.invokevirtual 57, 3) := by decide +kernel
theorem dX2_find_98 : decode cX2_find 98 = .ok (.iload_n 1, 1) := by decide +kernel
theorem dX2_find_99 : decode cX2_find 99 = .ok (.iload_n 3, 1) := by decide +kernel
theorem dX2_find_100 : decode cX2_find 100 = .ok (.invokevirtual 49, 3) := by decide +kernel
theorem dX2_find_103 : decode cX2_find 103 = .ok (.aload_n 0, 1) := by decide +kernel
theorem dX2_find_104 : decode cX2_find 104 = .ok (.aload_n 0, 1) := by decide +kernel
theorem dX2_find_105 : decode cX2_find 105 = .ok (.getfield 35, 3) := by decide +kernel
theorem dX2_find_108 : decode cX2_find 108 = .ok (.iload_n 3, 1) := by decide +kernel
theorem dX2_find_109 : decode cX2_find 109 = .ok (.invokevirtual 61, 3) := by decide +kernel
theorem dX2_find_112 : decode cX2_find 112 = .ok (.invokevirtual 53, 3) := by decide +kernel
theorem dX2_find_115 : decode cX2_find 115 = .ok (.aload_n 0, 1) := by decide +kernel
theorem dX2_find_116 : decode cX2_find 116 = .ok (.aload_n 0, 1) := by decide +kernel
theorem dX2_find_117 : decode cX2_find 117 = .ok (.getfield 35, 3) := by decide +kernel
theorem dX2_find_120 : decode cX2_find 120 = .ok (.iload_n 3, 1) := by decide +kernel
theorem dX2_find_121 : decode cX2_find 121 = .ok (.invokevirtual 66, 3) := by decide +kernel
theorem dX2_find_124 : decode cX2_find 124 = .ok (.invokevirtual 53, 3) := by decide +kernel
theorem dX2_find_127 : decode cX2_find 127 = .ok (.aload_n 0, 1) := by decide +kernel
theorem dX2_find_128 : decode cX2_find 128 = .ok (.aload_n 0, 1) := by decide +kernel
theorem dX2_find_129 : decode cX2_find 129 = .ok (.getfield 35, 3) := by decide +kernel
theorem dX2_find_132 : decode cX2_find 132 = .ok (.iload_n 3, 1) := by decide +kernel
theorem dX2_find_133 : decode cX2_find 133 = .ok (.invokevirtual 69, 3) := by decide +kernel
theorem dX2_find_136 : decode cX2_find 136 = .ok (.invokevirtual 53, 3) := by decide +kernel
theorem dX2_find_139 : decode cX2_find 139 = .ok (.iinc 2 1, 3) := by decide +kernel
theorem dX2_find_142 : decode cX2_find 142 = .ok (.goto (-83), 3) := by decide +kernel
theorem dX2_find_145 : decode cX2_find 145 = .ok (.iinc 1 1, 3) := by decide +kernel
theorem dX2_find_148 : decode cX2_find 148 = .ok (.goto (-141), 3) := by decide +kernel
theorem dX2_find_31 : decode cX2_find 31 = .ok (.aload_n 0, 1) := by decide +kernel
theorem dX2_find_32 : decode cX2_find 32 = .ok (.bipush 10, 2) := by decide +kernel
theorem dX2_find_34 : decode cX2_find 34 = .ok (.iload_n 1, 1) := by decide +kernel
theorem dX2_find_35 : decode cX2_find 35 = .ok (.iconst (-1), 1) := by decide +kernel
theorem dX2_find_36 : decode cX2_find 36 = .ok (.invokevirtual 49, 3) := by decide +kernel
theorem dX2_find_151 : decode cX2_find 151 = .ok (.return_, 1) := by decide +kernel
theorem dX0_forget_0 : decode cX0_forget 0 = .ok (.aload_n 0, 1) := by decide +kernel
theorem dX0_forget_1 : decode cX0_forget 1 = .ok (.iconst (-1), 1) := by decide +kernel
theorem dX0_forget_2 : decode cX0_forget 2 = .ok (.putfield 9, 3) := by decide +kernel
theorem dX0_forget_5 : decode cX0_forget 5 = .ok (.return_, 1) := by decide +kernel
theorem dX8_refresh_0 : decode cX8_refresh 0 = .ok (.aload_n 0, 1) := by decide +kernel
theorem dX8_refresh_1 : decode cX8_refresh 1 = .ok (.getfield 70, 3) := by decide +kernel
theorem dX8_refresh_4 : decode cX8_refresh 4 = .ok (.ifCond .eq 36, 3) := by decide +kernel
theorem dX8_refresh_40 : decode cX8_refresh 40 = .ok (.return_, 1) := by decide +kernel
theorem dX8_refresh_7 : decode cX8_refresh 7 = .ok (.aload_n 0, 1) := by decide +kernel
theorem dX8_refresh_8 : decode cX8_refresh 8 = .ok (.getfield 28, 3) := by decide +kernel
theorem dX8_refresh_11 : decode cX8_refresh 11 = .ok (.invokevirtual 335, 3) := by decide +kernel
theorem dX8_refresh_14 : decode cX8_refresh 14 = .ok (.aload_n 0, 1) := by decide +kernel
theorem dX8_refresh_15 : decode cX8_refresh 15 = .ok (.getfield 37, 3) := by decide +kernel
theorem dX8_refresh_18 : decode cX8_refresh 18 = .ok (.invokevirtual 338, 3) := by decide +kernel
theorem dX8_refresh_21 : decode cX8_refresh 21 = .ok (.aload_n 0, 1) := by decide +kernel
theorem dX8_refresh_22 : decode cX8_refresh 22 = .ok (.getfield 44, 3) := by decide +kernel
theorem dX8_refresh_25 : decode cX8_refresh 25 = .ok (.invokevirtual 339, 3) := by decide +kernel
theorem dX8_refresh_28 : decode cX8_refresh 28 = .ok (.aload_n 0, 1) := by decide +kernel
theorem dX8_refresh_29 : decode cX8_refresh 29 = .ok (.getfield 48, 3) := by decide +kernel
theorem dX8_refresh_32 : decode cX8_refresh 32 = .ok (.invokevirtual 339, 3) := by decide +kernel
theorem dX8_refresh_35 : decode cX8_refresh 35 = .ok (.aload_n 0, 1) := by decide +kernel
theorem dX8_refresh_36 : decode cX8_refresh 36 = .ok (.iconst 0, 1) := by decide +kernel
theorem dX8_refresh_37 : decode cX8_refresh 37 = .ok (.putfield 70, 3) := by decide +kernel
theorem dX0_isPushed_0 : decode cX0_isPushed 0 = .ok (.aload_n 0, 1) := by decide +kernel
theorem dX0_isPushed_1 : decode cX0_isPushed 1 = .ok (.getfield 64, 3) := by decide +kernel
theorem dX0_isPushed_4 : decode cX0_isPushed 4 = .ok (.getfield 111, 3) := by decide +kernel
theorem dX0_isPushed_7 : decode cX0_isPushed 7 = .ok (.iload_n 1, 1) := by decide +kernel
theorem dX0_isPushed_8 : decode cX0_isPushed 8 = .ok (.baload, 1) := by decide +kernel
theorem dX0_isPushed_9 : decode cX0_isPushed 9 = .ok (.ifCond .eq 16, 3) := by decide +kernel
theorem dX0_isPushed_25 : decode cX0_isPushed 25 = .ok (.iconst 0, 1) := by decide +kernel
theorem dX0_isPushed_26 : decode cX0_isPushed 26 = .ok (.ireturn, 1) := by decide +kernel
theorem dX0_isPushed_12 : decode cX0_isPushed 12 = .ok (.aload_n 0, 1) := by decide +kernel
theorem dX0_isPushed_13 : decode cX0_isPushed 13 = .ok (.getfield 9, 3) := by decide +kernel
theorem dX0_isPushed_16 : decode cX0_isPushed 16 = .ok (.iconst 1, 1) := by decide +kernel
theorem dX0_isPushed_17 : decode cX0_isPushed 17 = .ok (.iand, 1) := by decide +kernel
theorem dX0_isPushed_18 : decode cX0_isPushed 18 = .ok (.ifCond .eq 7, 3) := by decide +kernel
theorem dX0_isPushed_21 : decode cX0_isPushed 21 = .ok (.iconst 1, 1) := by decide +kernel
theorem dX0_isPushed_22 : decode cX0_isPushed 22 = .ok (.goto 4, 3) := by decide +kernel
theorem dX0_lengthOfPart_0 : decode cX0_lengthOfPart 0 = .ok (.iload_n 1, 1) := by decide +kernel
theorem dX0_lengthOfPart_1 : decode cX0_lengthOfPart 1 = .ok (.iconst (-1), 1) := by decide +kernel
theorem dX0_lengthOfPart_2 : decode cX0_lengthOfPart 2 = .ok (.if_icmp .ne 7, 3) := by decide +kernel
theorem dX0_lengthOfPart_9 : decode cX0_lengthOfPart 9 = .ok (.aload_n 0, 1) := by decide +kernel
theorem dX0_lengthOfPart_10 : decode cX0_lengthOfPart 10 = .ok (.getfield 46, 3) := by decide +kernel
theorem dX0_lengthOfPart_13 : decode cX0_lengthOfPart 13 = .ok (.iload_n 1, 1) := by decide +kernel
theorem dX0_lengthOfPart_14 : decode cX0_lengthOfPart 14 = .ok (.iaload, 1) := by decide +kernel
theorem dX0_lengthOfPart_15 : decode cX0_lengthOfPart 15 = .ok (.ireturn, 1) := by decide +kernel
theorem dX0_lengthOfPart_5 : decode cX0_lengthOfPart 5 = .ok (.iconst 0, 1) := by decide +kernel
theorem dX0_lengthOfPart_6 : decode cX0_lengthOfPart 6 = .ok (.goto 9, 3) := by decide +kernel
theorem dX0_isJump_0 : decode cX0_isJump 0 = .ok (.aload_n 0, 1) := by decide +kernel
theorem dX0_isJump_1 : decode cX0_isJump 1 = .ok (.getfield 64, 3) := by decide +kernel
theorem dX0_isJump_4 : decode cX0_isJump 4 = .ok (.getfield 114, 3) := by decide +kernel
theorem dX0_isJump_7 : decode cX0_isJump 7 = .ok (.iload_n 1, 1) := by decide +kernel
theorem dX0_isJump_8 : decode cX0_isJump 8 = .ok (.baload, 1) := by decide +kernel
theorem dX0_isJump_9 : decode cX0_isJump 9 = .ok (.ifCond .eq 16, 3) := by decide +kernel
theorem dX0_isJump_25 : decode cX0_isJump 25 = .ok (.iconst 0, 1) := by decide +kernel
theorem dX0_isJump_26 : decode cX0_isJump 26 = .ok (.ireturn, 1) := by decide +kernel
theorem dX0_isJump_12 : decode cX0_isJump 12 = .ok (.aload_n 0, 1) := by decide +kernel
theorem dX0_isJump_13 : decode cX0_isJump 13 = .ok (.getfield 9, 3) := by decide +kernel
theorem dX0_isJump_16 : decode cX0_isJump 16 = .ok (.iconst 2, 1) := by decide +kernel
theorem dX0_isJump_17 : decode cX0_isJump 17 = .ok (.iand, 1) := by decide +kernel
theorem dX0_isJump_18 : decode cX0_isJump 18 = .ok (.ifCond .eq 7, 3) := by decide +kernel
theorem dX0_isJump_21 : decode cX0_isJump 21 = .ok (.iconst 1, 1) := by decide +kernel
theorem dX0_isJump_22 : decode cX0_isJump 22 = .ok (.goto 4, 3) := by decide +kernel
theorem dX0_ownLength_0 : decode cX0_ownLength 0 = .ok (.aload_n 0, 1) := by decide +kernel
theorem dX0_ownLength_1 : decode cX0_ownLength 1 = .ok (.getfield 60, 3) := by decide +kernel
theorem dX0_ownLength_4 : decode cX0_ownLength 4 = .ok (.getfield 117, 3) := by decide +kernel
theorem dX0_ownLength_7 : decode cX0_ownLength 7 = .ok (.iload_n 1, 1) := by decide +kernel
theorem dX0_ownLength_8 : decode cX0_ownLength 8 = .ok (.iaload, 1) := by decide +kernel
theorem dX0_ownLength_9 : decode cX0_ownLength 9 = .ok (.tableswitch 111 9 18 #[57, 111, 111, 55, 111, 111, 76, 95, 111, 97], 55) := by decide +kernel
theorem dX0_ownLength_66 : decode cX0_ownLength 66 = .ok (.aload_n 0, 1) := by decide +kernel
theorem dX0_ownLength_67 : decode cX0_ownLength 67 = .ok (.getfield 64, 3) := by decide +kernel
theorem dX0_ownLength_70 : decode cX0_ownLength 70 = .ok (.getfield 120, 3) := by decide +kernel
theorem dX0_ownLength_73 : decode cX0_ownLength 73 = .ok (.iload_n 1, 1) := by decide +kernel
theorem dX0_ownLength_74 : decode cX0_ownLength 74 = .ok (.iaload, 1) := by decide +kernel
theorem dX0_ownLength_75 : decode cX0_ownLength 75 = .ok (.iconst 2, 1) := by decide +kernel
theorem dX0_ownLength_76 : decode cX0_ownLength 76 = .ok (.if_icmp .ne 7, 3) := by decide +kernel
theorem dX0_ownLength_83 : decode cX0_ownLength 83 = .ok (.iconst 0, 1) := by decide +kernel
theorem dX0_ownLength_84 : decode cX0_ownLength 84 = .ok (.ireturn, 1) := by decide +kernel
theorem dX0_ownLength_79 : decode cX0_ownLength 79 = .ok (.iconst 2, 1) := by decide +kernel
theorem dX0_ownLength_80 : decode cX0_ownLength 80 = .ok (.goto 4, 3) := by decide +kernel
theorem dX0_ownLength_120 : decode cX0_ownLength 120 = .ok (.iconst 1, 1) := by decide +kernel
theorem dX0_ownLength_121 : decode cX0_ownLength 121 = .ok (.ireturn, 1) := by decide +kernel
theorem dX0_ownLength_64 : decode cX0_ownLength 64 = .ok (.iconst 0, 1) := by decide +kernel
theorem dX0_ownLength_65 : decode cX0_ownLength 65 = .ok (.ireturn, 1) := by decide +kernel
theorem dX0_ownLength_85 : decode cX0_ownLength 85 = .ok (.aload_n 0, 1) := by decide +kernel
theorem dX0_ownLength_86 : decode cX0_ownLength 86 = .ok (.getfield 60, 3) := by decide +kernel
theorem dX0_ownLength_89 : decode cX0_ownLength 89 = .ok (.getfield 123, 3) := by decide +kernel
theorem dX0_ownLength_92 : decode cX0_ownLength 92 = .ok (.iload_n 1, 1) := by decide +kernel
theorem dX0_ownLength_93 : decode cX0_ownLength 93 = .ok (.iaload, 1) := by decide +kernel
theorem dX0_ownLength_94 : decode cX0_ownLength 94 = .ok (.iconst (-1), 1) := by decide +kernel
theorem dX0_ownLength_95 : decode cX0_ownLength 95 = .ok (.if_icmp .ne 7, 3) := by decide +kernel
theorem dX0_ownLength_102 : decode cX0_ownLength 102 = .ok (.iconst 2, 1) := by decide +kernel
theorem dX0_ownLength_103 : decode cX0_ownLength 103 = .ok (.ireturn, 1) := by decide +kernel
theorem dX0_ownLength_98 : decode cX0_ownLength 98 = .ok (.iconst 1, 1) := by decide +kernel
theorem dX0_ownLength_99 : decode cX0_ownLength 99 = .ok (.goto 4, 3) := by decide +kernel
theorem dX0_ownLength_104 : decode cX0_ownLength 104 = .ok (.iconst 4, 1) := by decide +kernel
theorem dX0_ownLength_105 : decode cX0_ownLength 105 = .ok (.ireturn, 1) := by decide +kernel
theorem dX0_ownLength_106 : decode cX0_ownLength 106 = .ok (.aload_n 0, 1) := by decide +kernel
theorem dX0_ownLength_107 : decode cX0_ownLength 107 = .ok (.iload_n 1, 1) := by decide +kernel
theorem dX0_ownLength_108 : decode cX0_ownLength 108 = .ok (.invokevirtual 126, 3) := by decide +kernel
theorem dX0_ownLength_111 : decode cX0_ownLength 111 = .ok (.ifCond .eq 7, 3) := by decide +kernel
theorem dX0_ownLength_118 : decode cX0_ownLength 118 = .ok (.iconst 1, 1) := by decide +kernel
theorem dX0_ownLength_119 : decode cX0_ownLength 119 = .ok (.ireturn, 1) := by decide +kernel
theorem dX0_ownLength_114 : decode cX0_ownLength 114 = .ok (.iconst 0, 1) := by decide +kernel
theorem dX0_ownLength_115 : decode cX0_ownLength 115 = .ok (.goto 4, 3) := by decide +kernel
theorem dX0_clear_0 : decode cX0_clear 0 = .ok (.iload_n 1, 1) := by decide +kernel
theorem dX0_clear_1 : decode cX0_clear 1 = .ok (.istore_n 3, 1) := by decide +kernel
theorem dX0_clear_2 : decode cX0_clear 2 = .ok (.iload_n 3, 1) := by decide +kernel
theorem dX0_clear_3 : decode cX0_clear 3 = .ok (.iload_n 2, 1) := by decide +kernel
theorem dX0_clear_4 : decode cX0_clear 4 = .ok (.if_icmp .ge 30, 3) := by decide +kernel
theorem dX0_clear_7 : decode cX0_clear 7 = .ok (.iload_n 3, 1) := by decide +kernel
theorem dX0_clear_8 : decode cX0_clear 8 = .ok (.sipush 460, 3) := by decide +kernel
theorem dX0_clear_11 : decode cX0_clear 11 = .ok (.if_icmp .ge 23, 3) := by decide +kernel
theorem dX0_clear_14 : decode cX0_clear 14 = .ok (.aload_n 0, 1) := by decide +kernel
theorem dX0_clear_15 : decode cX0_clear 15 = .ok (.getfield 37, 3) := by decide +kernel
theorem dX0_clear_18 : decode cX0_clear 18 = .ok (.iload_n 3, 1) := by decide +kernel
theorem dX0_clear_19 : decode cX0_clear 19 = .ok (.iconst (-1), 1) := by decide +kernel
theorem dX0_clear_20 : decode cX0_clear 20 = .ok (.iastore, 1) := by decide +kernel
theorem dX0_clear_21 : decode cX0_clear 21 = .ok (.aload_n 0, 1) := by decide +kernel
theorem dX0_clear_22 : decode cX0_clear 22 = .ok (.getfield 40, 3) := by decide +kernel
theorem dX0_clear_25 : decode cX0_clear 25 = .ok (.iload_n 3, 1) := by decide +kernel
theorem dX0_clear_26 : decode cX0_clear 26 = .ok (.iconst 0, 1) := by decide +kernel
theorem dX0_clear_27 : decode cX0_clear 27 = .ok (.iastore, 1) := by decide +kernel
theorem dX0_clear_28 : decode cX0_clear 28 = .ok (.iinc 3 1, 3) := by decide +kernel
theorem dX0_clear_31 : decode cX0_clear 31 = .ok (.goto (-29), 3) := by decide +kernel
theorem dX0_clear_34 : decode cX0_clear 34 = .ok (.return_, 1) := by decide +kernel
theorem dX0_put_0 : decode cX0_put 0 = .ok (.iload_n 1, 1) := by decide +kernel
theorem dX0_put_1 : decode cX0_put 1 = .ok (.ifCond .lt 40, 3) := by decide +kernel
theorem dX0_put_41 : decode cX0_put 41 = .ok (.return_, 1) := by decide +kernel
theorem dX0_put_4 : decode cX0_put 4 = .ok (.iload_n 1, 1) := by decide +kernel
theorem dX0_put_5 : decode cX0_put 5 = .ok (.sipush 460, 3) := by decide +kernel
theorem dX0_put_8 : decode cX0_put 8 = .ok (.if_icmp .ge 33, 3) := by decide +kernel
theorem dX0_put_11 : decode cX0_put 11 = .ok (.aload_n 0, 1) := by decide +kernel
theorem dX0_put_12 : decode cX0_put 12 = .ok (.getfield 25, 3) := by decide +kernel
theorem dX0_put_15 : decode cX0_put 15 = .ok (.iload_n 1, 1) := by decide +kernel
theorem dX0_put_16 : decode cX0_put 16 = .ok (.iload_n 2, 1) := by decide +kernel
theorem dX0_put_17 : decode cX0_put 17 = .ok (.iastore, 1) := by decide +kernel
theorem dX0_put_18 : decode cX0_put 18 = .ok (.aload_n 0, 1) := by decide +kernel
theorem dX0_put_19 : decode cX0_put 19 = .ok (.getfield 28, 3) := by decide +kernel
theorem dX0_put_22 : decode cX0_put 22 = .ok (.iload_n 1, 1) := by decide +kernel
theorem dX0_put_23 : decode cX0_put 23 = .ok (.iload_n 3, 1) := by decide +kernel
theorem dX0_put_24 : decode cX0_put 24 = .ok (.iastore, 1) := by decide +kernel
theorem dX0_put_25 : decode cX0_put 25 = .ok (.aload_n 0, 1) := by decide +kernel
theorem dX0_put_26 : decode cX0_put 26 = .ok (.getfield 31, 3) := by decide +kernel
theorem dX0_put_29 : decode cX0_put 29 = .ok (.iload_n 1, 1) := by decide +kernel
theorem dX0_put_30 : decode cX0_put 30 = .ok (.iload 4, 2) := by decide +kernel
theorem dX0_put_32 : decode cX0_put 32 = .ok (.iastore, 1) := by decide +kernel
theorem dX0_put_33 : decode cX0_put 33 = .ok (.aload_n 0, 1) := by decide +kernel
theorem dX0_put_34 : decode cX0_put 34 = .ok (.getfield 34, 3) := by decide +kernel
theorem dX0_put_37 : decode cX0_put 37 = .ok (.iload_n 1, 1) := by decide +kernel
theorem dX0_put_38 : decode cX0_put 38 = .ok (.iload 5, 2) := by decide +kernel
theorem dX0_put_40 : decode cX0_put 40 = .ok (.iastore, 1) := by decide +kernel
theorem dX0_placeProcedures_0 : decode cX0_placeProcedures 0 = .ok (.aload_n 0, 1) := by decide +kernel
theorem dX0_placeProcedures_1 : decode cX0_placeProcedures 1 = .ok (.iconst 0, 1) := by decide +kernel
theorem dX0_placeProcedures_2 : decode cX0_placeProcedures 2 = .ok (.putfield 15, 3) := by decide +kernel
theorem dX0_placeProcedures_5 : decode cX0_placeProcedures 5 = .ok (.iconst 0, 1) := by decide +kernel
theorem dX0_placeProcedures_6 : decode cX0_placeProcedures 6 = .ok (.istore_n 1, 1) := by decide +kernel
theorem dX0_placeProcedures_7 : decode cX0_placeProcedures 7 = .ok (.iload_n 1, 1) := by decide +kernel
theorem dX0_placeProcedures_8 : decode cX0_placeProcedures 8 = .ok (.aload_n 0, 1) := by decide +kernel
theorem dX0_placeProcedures_9 : decode cX0_placeProcedures 9 = .ok (.getfield 56, 3) := by decide +kernel
theorem dX0_placeProcedures_12 : decode cX0_placeProcedures 12 = .ok (.getfield 129, 3) := by decide +kernel
theorem dX0_placeProcedures_15 : decode cX0_placeProcedures 15 = .ok (.if_icmp .ge 117, 3) := by decide +kernel
theorem dX0_placeProcedures_18 : decode cX0_placeProcedures 18 = .ok (.aload_n 0, 1) := by decide +kernel
theorem dX0_placeProcedures_19 : decode cX0_placeProcedures 19 = .ok (.getfield 56, 3) := by decide +kernel
theorem dX0_placeProcedures_22 : decode cX0_placeProcedures 22 = .ok (.getfield 132, 3) := by decide +kernel
theorem dX0_placeProcedures_25 : decode cX0_placeProcedures 25 = .ok (.iload_n 1, 1) := by decide +kernel
theorem dX0_placeProcedures_26 : decode cX0_placeProcedures 26 = .ok (.iaload, 1) := by decide +kernel
theorem dX0_placeProcedures_27 : decode cX0_placeProcedures 27 = .ok (.istore_n 2, 1) := by decide +kernel
theorem dX0_placeProcedures_28 : decode cX0_placeProcedures 28 = .ok (.aload_n 0, 1) := by decide +kernel
theorem dX0_placeProcedures_29 : decode cX0_placeProcedures 29 = .ok (.iload_n 2, 1) := by decide +kernel
theorem dX0_placeProcedures_30 : decode cX0_placeProcedures 30 = .ok (.invokevirtual 81, 3) := by decide +kernel
theorem dX0_placeProcedures_33 : decode cX0_placeProcedures 33 = .ok (.istore_n 3, 1) := by decide +kernel
theorem dX0_placeProcedures_34 : decode cX0_placeProcedures 34 = .ok (.aload_n 0, 1) := by decide +kernel
theorem dX0_placeProcedures_35 : decode cX0_placeProcedures 35 = .ok (.getfield 18, 3) := by decide +kernel
theorem dX0_placeProcedures_38 : decode cX0_placeProcedures 38 = .ok (.iload_n 1, 1) := by decide +kernel
theorem dX0_placeProcedures_39 : decode cX0_placeProcedures 39 = .ok (.aload_n 0, 1) := by decide +kernel
theorem dX0_placeProcedures_40 : decode cX0_placeProcedures 40 = .ok (.getfield 15, 3) := by decide +kernel
theorem dX0_placeProcedures_43 : decode cX0_placeProcedures 43 = .ok (.iastore, 1) := by decide +kernel
theorem dX0_placeProcedures_44 : decode cX0_placeProcedures 44 = .ok (.aload_n 0, 1) := by decide +kernel
theorem dX0_placeProcedures_45 : decode cX0_placeProcedures 45 = .ok (.getfield 22, 3) := by decide +kernel
theorem dX0_placeProcedures_48 : decode cX0_placeProcedures 48 = .ok (.iload_n 1, 1) := by decide +kernel
theorem dX0_placeProcedures_49 : decode cX0_placeProcedures 49 = .ok (.iload_n 3, 1) := by decide +kernel
theorem dX0_placeProcedures_50 : decode cX0_placeProcedures 50 = .ok (.iconst 2, 1) := by decide +kernel
theorem dX0_placeProcedures_51 : decode cX0_placeProcedures 51 = .ok (.iadd, 1) := by decide +kernel
theorem dX0_placeProcedures_52 : decode cX0_placeProcedures 52 = .ok (.iastore, 1) := by decide +kernel
theorem dX0_placeProcedures_53 : decode cX0_placeProcedures 53 = .ok (.iload_n 2, 1) := by decide +kernel
theorem dX0_placeProcedures_54 : decode cX0_placeProcedures 54 = .ok (.iconst (-1), 1) := by decide +kernel
theorem dX0_placeProcedures_55 : decode cX0_placeProcedures 55 = .ok (.if_icmp .eq 13, 3) := by decide +kernel
theorem dX0_placeProcedures_68 : decode cX0_placeProcedures 68 = .ok (.aload_n 0, 1) := by decide +kernel
theorem dX0_placeProcedures_69 : decode cX0_placeProcedures 69 = .ok (.dup, 1) := by decide +kernel
theorem dX0_placeProcedures_70 : decode cX0_placeProcedures 70 = .ok (.getfield 15, 3) := by decide +kernel
theorem dX0_placeProcedures_73 : decode cX0_placeProcedures 73 = .ok (.aload_n 0, 1) := by decide +kernel
theorem dX0_placeProcedures_74 : decode cX0_placeProcedures 74 = .ok (.getfield 22, 3) := by decide +kernel
theorem dX0_placeProcedures_77 : decode cX0_placeProcedures 77 = .ok (.iload_n 1, 1) := by decide +kernel
theorem dX0_placeProcedures_78 : decode cX0_placeProcedures 78 = .ok (.iaload, 1) := by decide +kernel
theorem dX0_placeProcedures_79 : decode cX0_placeProcedures 79 = .ok (.iadd, 1) := by decide +kernel
theorem dX0_placeProcedures_80 : decode cX0_placeProcedures 80 = .ok (.putfield 15, 3) := by decide +kernel
theorem dX0_placeProcedures_83 : decode cX0_placeProcedures 83 = .ok (.aload_n 0, 1) := by decide +kernel
theorem dX0_placeProcedures_84 : decode cX0_placeProcedures 84 = .ok (.aload_n 0, 1) := by decide +kernel
theorem dX0_placeProcedures_85 : decode cX0_placeProcedures 85 = .ok (.getfield 18, 3) := by decide +kernel
theorem dX0_placeProcedures_88 : decode cX0_placeProcedures 88 = .ok (.iload_n 1, 1) := by decide +kernel
theorem dX0_placeProcedures_89 : decode cX0_placeProcedures 89 = .ok (.iaload, 1) := by decide +kernel
theorem dX0_placeProcedures_90 : decode cX0_placeProcedures 90 = .ok (.aload_n 0, 1) := by decide +kernel
theorem dX0_placeProcedures_91 : decode cX0_placeProcedures 91 = .ok (.getfield 15, 3) := by decide +kernel
theorem dX0_placeProcedures_94 : decode cX0_placeProcedures 94 = .ok (.invokevirtual 135, 3) := by decide +kernel
theorem dX0_placeProcedures_97 : decode cX0_placeProcedures 97 = .ok (.aload_n 0, 1) := by decide +kernel
theorem dX0_placeProcedures_98 : decode cX0_placeProcedures 98 = .ok (.aload_n 0, 1) := by decide +kernel
theorem dX0_placeProcedures_99 : decode cX0_placeProcedures 99 = .ok (.getfield 15, 3) := by decide +kernel
theorem dX0_placeProcedures_102 : decode cX0_placeProcedures 102 = .ok (.iconst 2, 1) := by decide +kernel
theorem dX0_placeProcedures_103 : decode cX0_placeProcedures 103 = .ok (.isub, 1) := by decide +kernel
theorem dX0_placeProcedures_104 : decode cX0_placeProcedures 104 = .ok (.iconst 1, 1) := by decide +kernel
theorem dX0_placeProcedures_105 : decode cX0_placeProcedures 105 = .ok (.iconst 0, 1) := by decide +kernel
theorem dX0_placeProcedures_106 : decode cX0_placeProcedures 106 = .ok (.iconst 0, 1) := by decide +kernel
theorem dX0_placeProcedures_107 : decode cX0_placeProcedures 107 = .ok (.iconst (-1), 1) := by decide +kernel
theorem dX0_placeProcedures_108 : decode cX0_placeProcedures 108 = .ok (.invokevirtual 139, 3) := by decide +kernel
theorem dX0_placeProcedures_111 : decode cX0_placeProcedures 111 = .ok (.aload_n 0, 1) := by decide +kernel
theorem dX0_placeProcedures_112 : decode cX0_placeProcedures 112 = .ok (.aload_n 0, 1) := by decide +kernel
theorem dX0_placeProcedures_113 : decode cX0_placeProcedures 113 = .ok (.getfield 15, 3) := by decide +kernel
theorem dX0_placeProcedures_116 : decode cX0_placeProcedures 116 = .ok (.iconst 1, 1) := by decide +kernel
theorem dX0_placeProcedures_117 : decode cX0_placeProcedures 117 = .ok (.isub, 1) := by decide +kernel
theorem dX0_placeProcedures_118 : decode cX0_placeProcedures 118 = .ok (.bipush 15, 2) := by decide +kernel
theorem dX0_placeProcedures_120 : decode cX0_placeProcedures 120 = .ok (.iconst 0, 1) := by decide +kernel
theorem dX0_placeProcedures_121 : decode cX0_placeProcedures 121 = .ok (.iconst 0, 1) := by decide +kernel
theorem dX0_placeProcedures_122 : decode cX0_placeProcedures 122 = .ok (.iconst (-1), 1) := by decide +kernel
theorem dX0_placeProcedures_123 : decode cX0_placeProcedures 123 = .ok (.invokevirtual 139, 3) := by decide +kernel
theorem dX0_placeProcedures_126 : decode cX0_placeProcedures 126 = .ok (.iinc 1 1, 3) := by decide +kernel
theorem dX0_placeProcedures_129 : decode cX0_placeProcedures 129 = .ok (.goto (-122), 3) := by decide +kernel
theorem dX0_placeProcedures_58 : decode cX0_placeProcedures 58 = .ok (.aload_n 0, 1) := by decide +kernel
theorem dX0_placeProcedures_59 : decode cX0_placeProcedures 59 = .ok (.getfield 43, 3) := by decide +kernel
theorem dX0_placeProcedures_62 : decode cX0_placeProcedures 62 = .ok (.iload_n 2, 1) := by decide +kernel
theorem dX0_placeProcedures_63 : decode cX0_placeProcedures 63 = .ok (.aload_n 0, 1) := by decide +kernel
theorem dX0_placeProcedures_64 : decode cX0_placeProcedures 64 = .ok (.getfield 15, 3) := by decide +kernel
theorem dX0_placeProcedures_67 : decode cX0_placeProcedures 67 = .ok (.iastore, 1) := by decide +kernel
theorem dX0_placeProcedures_132 : decode cX0_placeProcedures 132 = .ok (.return_, 1) := by decide +kernel
theorem dX0_swallow_0 : decode cX0_swallow 0 = .ok (.iload_n 1, 1) := by decide +kernel
theorem dX0_swallow_1 : decode cX0_swallow 1 = .ok (.iconst (-1), 1) := by decide +kernel
theorem dX0_swallow_2 : decode cX0_swallow 2 = .ok (.if_icmp .eq 17, 3) := by decide +kernel
theorem dX0_swallow_19 : decode cX0_swallow 19 = .ok (.return_, 1) := by decide +kernel
theorem dX0_swallow_5 : decode cX0_swallow 5 = .ok (.aload_n 0, 1) := by decide +kernel
theorem dX0_swallow_6 : decode cX0_swallow 6 = .ok (.getfield 43, 3) := by decide +kernel
theorem dX0_swallow_9 : decode cX0_swallow 9 = .ok (.iload_n 1, 1) := by decide +kernel
theorem dX0_swallow_10 : decode cX0_swallow 10 = .ok (.iload_n 2, 1) := by decide +kernel
theorem dX0_swallow_11 : decode cX0_swallow 11 = .ok (.iastore, 1) := by decide +kernel
theorem dX0_swallow_12 : decode cX0_swallow 12 = .ok (.aload_n 0, 1) := by decide +kernel
theorem dX0_swallow_13 : decode cX0_swallow 13 = .ok (.getfield 52, 3) := by decide +kernel
theorem dX0_swallow_16 : decode cX0_swallow 16 = .ok (.iload_n 1, 1) := by decide +kernel
theorem dX0_swallow_17 : decode cX0_swallow 17 = .ok (.iconst 1, 1) := by decide +kernel
theorem dX0_swallow_18 : decode cX0_swallow 18 = .ok (.bastore, 1) := by decide +kernel
theorem dX0_place_0 : decode cX0_place 0 = .ok (.iload_n 1, 1) := by decide +kernel
theorem dX0_place_1 : decode cX0_place 1 = .ok (.iconst (-1), 1) := by decide +kernel
theorem dX0_place_2 : decode cX0_place 2 = .ok (.if_icmp .eq 10, 3) := by decide +kernel
theorem dX0_place_12 : decode cX0_place 12 = .ok (.return_, 1) := by decide +kernel
theorem dX0_place_5 : decode cX0_place 5 = .ok (.aload_n 0, 1) := by decide +kernel
theorem dX0_place_6 : decode cX0_place 6 = .ok (.getfield 43, 3) := by decide +kernel
theorem dX0_place_9 : decode cX0_place 9 = .ok (.iload_n 1, 1) := by decide +kernel
theorem dX0_place_10 : decode cX0_place 10 = .ok (.iload_n 2, 1) := by decide +kernel
theorem dX0_place_11 : decode cX0_place 11 = .ok (.iastore, 1) := by decide +kernel
theorem dX0_placeParts_0 : decode cX0_placeParts 0 = .ok (.aload_n 0, 1) := by decide +kernel
theorem dX0_placeParts_1 : decode cX0_placeParts 1 = .ok (.getfield 43, 3) := by decide +kernel
theorem dX0_placeParts_4 : decode cX0_placeParts 4 = .ok (.iload_n 1, 1) := by decide +kernel
theorem dX0_placeParts_5 : decode cX0_placeParts 5 = .ok (.iaload, 1) := by decide +kernel
theorem dX0_placeParts_6 : decode cX0_placeParts 6 = .ok (.istore_n 2, 1) := by decide +kernel
theorem dX0_placeParts_7 : decode cX0_placeParts 7 = .ok (.aload_n 0, 1) := by decide +kernel
theorem dX0_placeParts_8 : decode cX0_placeParts 8 = .ok (.iload_n 1, 1) := by decide +kernel
theorem dX0_placeParts_9 : decode cX0_placeParts 9 = .ok (.invokevirtual 73, 3) := by decide +kernel
theorem dX0_placeParts_12 : decode cX0_placeParts 12 = .ok (.ifCond .ne 12, 3) := by decide +kernel
theorem dX0_placeParts_24 : decode cX0_placeParts 24 = .ok (.aload_n 0, 1) := by decide +kernel
theorem dX0_placeParts_25 : decode cX0_placeParts 25 = .ok (.aload_n 0, 1) := by decide +kernel
theorem dX0_placeParts_26 : decode cX0_placeParts 26 = .ok (.getfield 60, 3) := by decide +kernel
theorem dX0_placeParts_29 : decode cX0_placeParts 29 = .ok (.iload_n 1, 1) := by decide +kernel
theorem dX0_placeParts_30 : decode cX0_placeParts 30 = .ok (.invokevirtual 84, 3) := by decide +kernel
theorem dX0_placeParts_33 : decode cX0_placeParts 33 = .ok (.iload_n 2, 1) := by decide +kernel
theorem dX0_placeParts_34 : decode cX0_placeParts 34 = .ok (.invokevirtual 143, 3) := by decide +kernel
theorem dX0_placeParts_37 : decode cX0_placeParts 37 = .ok (.aload_n 0, 1) := by decide +kernel
theorem dX0_placeParts_38 : decode cX0_placeParts 38 = .ok (.aload_n 0, 1) := by decide +kernel
theorem dX0_placeParts_39 : decode cX0_placeParts 39 = .ok (.getfield 60, 3) := by decide +kernel
theorem dX0_placeParts_42 : decode cX0_placeParts 42 = .ok (.iload_n 1, 1) := by decide +kernel
theorem dX0_placeParts_43 : decode cX0_placeParts 43 = .ok (.invokevirtual 87, 3) := by decide +kernel
theorem dX0_placeParts_46 : decode cX0_placeParts 46 = .ok (.iload_n 2, 1) := by decide +kernel
theorem dX0_placeParts_47 : decode cX0_placeParts 47 = .ok (.invokevirtual 143, 3) := by decide +kernel
theorem dX0_placeParts_50 : decode cX0_placeParts 50 = .ok (.return_, 1) := by decide +kernel
theorem dX0_placeParts_15 : decode cX0_placeParts 15 = .ok (.aload_n 0, 1) := by decide +kernel
theorem dX0_placeParts_16 : decode cX0_placeParts 16 = .ok (.getfield 52, 3) := by decide +kernel
theorem dX0_placeParts_19 : decode cX0_placeParts 19 = .ok (.iload_n 1, 1) := by decide +kernel
theorem dX0_placeParts_20 : decode cX0_placeParts 20 = .ok (.baload, 1) := by decide +kernel
theorem dX0_placeParts_21 : decode cX0_placeParts 21 = .ok (.ifCond .eq 30, 3) := by decide +kernel
theorem dX0_placeParts_51 : decode cX0_placeParts 51 = .ok (.iconst 0, 1) := by decide +kernel
theorem dX0_placeParts_52 : decode cX0_placeParts 52 = .ok (.istore_n 3, 1) := by decide +kernel
theorem dX0_placeParts_53 : decode cX0_placeParts 53 = .ok (.iconst 0, 1) := by decide +kernel
theorem dX0_placeParts_54 : decode cX0_placeParts 54 = .ok (.istore 4, 2) := by decide +kernel
theorem dX0_placeParts_56 : decode cX0_placeParts 56 = .ok (.aload_n 0, 1) := by decide +kernel
theorem dX0_placeParts_57 : decode cX0_placeParts 57 = .ok (.getfield 60, 3) := by decide +kernel
theorem dX0_placeParts_60 : decode cX0_placeParts 60 = .ok (.getfield 117, 3) := by decide +kernel
theorem dX0_placeParts_63 : decode cX0_placeParts 63 = .ok (.iload_n 1, 1) := by decide +kernel
theorem dX0_placeParts_64 : decode cX0_placeParts 64 = .ok (.iaload, 1) := by decide +kernel
theorem dX0_placeParts_65 : decode cX0_placeParts 65 = .ok (.lookupswitch 74 #[(9, 49), (15, 43), (16, 35)], 35) := by decide +kernel
theorem dX0_placeParts_114 : decode cX0_placeParts 114 = .ok (.aload_n 0, 1) := by decide +kernel
theorem dX0_placeParts_115 : decode cX0_placeParts 115 = .ok (.getfield 64, 3) := by decide +kernel
theorem dX0_placeParts_118 : decode cX0_placeParts 118 = .ok (.getfield 120, 3) := by decide +kernel
theorem dX0_placeParts_121 : decode cX0_placeParts 121 = .ok (.iload_n 1, 1) := by decide +kernel
theorem dX0_placeParts_122 : decode cX0_placeParts 122 = .ok (.iaload, 1) := by decide +kernel
theorem dX0_placeParts_123 : decode cX0_placeParts 123 = .ok (.iconst 2, 1) := by decide +kernel
theorem dX0_placeParts_124 : decode cX0_placeParts 124 = .ok (.if_icmp .ne 7, 3) := by decide +kernel
theorem dX0_placeParts_131 : decode cX0_placeParts 131 = .ok (.iconst 0, 1) := by decide +kernel
theorem dX0_placeParts_132 : decode cX0_placeParts 132 = .ok (.istore_n 3, 1) := by decide +kernel
theorem dX0_placeParts_133 : decode cX0_placeParts 133 = .ok (.iload_n 3, 1) := by decide +kernel
theorem dX0_placeParts_134 : decode cX0_placeParts 134 = .ok (.istore 4, 2) := by decide +kernel
theorem dX0_placeParts_136 : decode cX0_placeParts 136 = .ok (.goto 3, 3) := by decide +kernel
theorem dX0_placeParts_139 : decode cX0_placeParts 139 = .ok (.aload_n 0, 1) := by decide +kernel
theorem dX0_placeParts_140 : decode cX0_placeParts 140 = .ok (.getfield 60, 3) := by decide +kernel
theorem dX0_placeParts_143 : decode cX0_placeParts 143 = .ok (.iload_n 1, 1) := by decide +kernel
theorem dX0_placeParts_144 : decode cX0_placeParts 144 = .ok (.invokevirtual 84, 3) := by decide +kernel
theorem dX0_placeParts_147 : decode cX0_placeParts 147 = .ok (.istore 5, 2) := by decide +kernel
theorem dX0_placeParts_149 : decode cX0_placeParts 149 = .ok (.iload_n 2, 1) := by decide +kernel
theorem dX0_placeParts_150 : decode cX0_placeParts 150 = .ok (.iload_n 3, 1) := by decide +kernel
theorem dX0_placeParts_151 : decode cX0_placeParts 151 = .ok (.iadd, 1) := by decide +kernel
theorem dX0_placeParts_152 : decode cX0_placeParts 152 = .ok (.aload_n 0, 1) := by decide +kernel
theorem dX0_placeParts_153 : decode cX0_placeParts 153 = .ok (.iload 5, 2) := by decide +kernel
theorem dX0_placeParts_155 : decode cX0_placeParts 155 = .ok (.invokevirtual 81, 3) := by decide +kernel
theorem dX0_placeParts_158 : decode cX0_placeParts 158 = .ok (.iadd, 1) := by decide +kernel
theorem dX0_placeParts_159 : decode cX0_placeParts 159 = .ok (.iload 4, 2) := by decide +kernel
theorem dX0_placeParts_161 : decode cX0_placeParts 161 = .ok (.iadd, 1) := by decide +kernel
theorem dX0_placeParts_162 : decode cX0_placeParts 162 = .ok (.istore 6, 2) := by decide +kernel
theorem dX0_placeParts_164 : decode cX0_placeParts 164 = .ok (.aload_n 0, 1) := by decide +kernel
theorem dX0_placeParts_165 : decode cX0_placeParts 165 = .ok (.getfield 60, 3) := by decide +kernel
theorem dX0_placeParts_168 : decode cX0_placeParts 168 = .ok (.iload_n 1, 1) := by decide +kernel
theorem dX0_placeParts_169 : decode cX0_placeParts 169 = .ok (.invokevirtual 87, 3) := by decide +kernel
theorem dX0_placeParts_172 : decode cX0_placeParts 172 = .ok (.istore 7, 2) := by decide +kernel
theorem dX0_placeParts_174 : decode cX0_placeParts 174 = .ok (.aload_n 0, 1) := by decide +kernel
theorem dX0_placeParts_175 : decode cX0_placeParts 175 = .ok (.iload 5, 2) := by decide +kernel
theorem dX0_placeParts_177 : decode cX0_placeParts 177 = .ok (.iload_n 2, 1) := by decide +kernel
theorem dX0_placeParts_178 : decode cX0_placeParts 178 = .ok (.iload_n 3, 1) := by decide +kernel
theorem dX0_placeParts_179 : decode cX0_placeParts 179 = .ok (.iadd, 1) := by decide +kernel
theorem dX0_placeParts_180 : decode cX0_placeParts 180 = .ok (.invokevirtual 146, 3) := by decide +kernel
theorem dX0_placeParts_183 : decode cX0_placeParts 183 = .ok (.aload_n 0, 1) := by decide +kernel
theorem dX0_placeParts_184 : decode cX0_placeParts 184 = .ok (.iload 7, 2) := by decide +kernel
theorem dX0_placeParts_186 : decode cX0_placeParts 186 = .ok (.iload 6, 2) := by decide +kernel
theorem dX0_placeParts_188 : decode cX0_placeParts 188 = .ok (.invokevirtual 146, 3) := by decide +kernel
theorem dX0_placeParts_191 : decode cX0_placeParts 191 = .ok (.aload_n 0, 1) := by decide +kernel
theorem dX0_placeParts_192 : decode cX0_placeParts 192 = .ok (.aload_n 0, 1) := by decide +kernel
theorem dX0_placeParts_193 : decode cX0_placeParts 193 = .ok (.getfield 60, 3) := by decide +kernel
theorem dX0_placeParts_196 : decode cX0_placeParts 196 = .ok (.iload_n 1, 1) := by decide +kernel
theorem dX0_placeParts_197 : decode cX0_placeParts 197 = .ok (.invokevirtual 77, 3) := by decide +kernel
theorem dX0_placeParts_200 : decode cX0_placeParts 200 = .ok (.iload 6, 2) := by decide +kernel
theorem dX0_placeParts_202 : decode cX0_placeParts 202 = .ok (.aload_n 0, 1) := by decide +kernel
theorem dX0_placeParts_203 : decode cX0_placeParts 203 = .ok (.iload 7, 2) := by decide +kernel
theorem dX0_placeParts_205 : decode cX0_placeParts 205 = .ok (.invokevirtual 81, 3) := by decide +kernel
theorem dX0_placeParts_208 : decode cX0_placeParts 208 = .ok (.iadd, 1) := by decide +kernel
theorem dX0_placeParts_209 : decode cX0_placeParts 209 = .ok (.iconst 1, 1) := by decide +kernel
theorem dX0_placeParts_210 : decode cX0_placeParts 210 = .ok (.iadd, 1) := by decide +kernel
theorem dX0_placeParts_211 : decode cX0_placeParts 211 = .ok (.invokevirtual 146, 3) := by decide +kernel
theorem dX0_placeParts_214 : decode cX0_placeParts 214 = .ok (.return_, 1) := by decide +kernel
theorem dX0_placeParts_127 : decode cX0_placeParts 127 = .ok (.iconst 1, 1) := by decide +kernel
theorem dX0_placeParts_128 : decode cX0_placeParts 128 = .ok (.goto 4, 3) := by decide +kernel
theorem dX0_placeParts_108 : decode cX0_placeParts 108 = .ok (.iconst 1, 1) := by decide +kernel
theorem dX0_placeParts_109 : decode cX0_placeParts 109 = .ok (.istore 4, 2) := by decide +kernel
theorem dX0_placeParts_111 : decode cX0_placeParts 111 = .ok (.goto 28, 3) := by decide +kernel
theorem dX0_placeParts_100 : decode cX0_placeParts 100 = .ok (.iconst 1, 1) := by decide +kernel
theorem dX0_placeParts_101 : decode cX0_placeParts 101 = .ok (.istore_n 3, 1) := by decide +kernel
theorem dX0_placeParts_102 : decode cX0_placeParts 102 = .ok (.iconst 1, 1) := by decide +kernel
theorem dX0_placeParts_103 : decode cX0_placeParts 103 = .ok (.istore 4, 2) := by decide +kernel
theorem dX0_placeParts_105 : decode cX0_placeParts 105 = .ok (.goto 34, 3) := by decide +kernel
theorem dX0_noteBegin_0 : decode cX0_noteBegin 0 = .ok (.aload_n 0, 1) := by decide +kernel
theorem dX0_noteBegin_1 : decode cX0_noteBegin 1 = .ok (.getfield 43, 3) := by decide +kernel
theorem dX0_noteBegin_4 : decode cX0_noteBegin 4 = .ok (.iload_n 1, 1) := by decide +kernel
theorem dX0_noteBegin_5 : decode cX0_noteBegin 5 = .ok (.iaload, 1) := by decide +kernel
theorem dX0_noteBegin_6 : decode cX0_noteBegin 6 = .ok (.istore_n 2, 1) := by decide +kernel
theorem dX0_noteBegin_7 : decode cX0_noteBegin 7 = .ok (.iload_n 2, 1) := by decide +kernel
theorem dX0_noteBegin_8 : decode cX0_noteBegin 8 = .ok (.ifCond .lt 39, 3) := by decide +kernel
theorem dX0_noteBegin_47 : decode cX0_noteBegin 47 = .ok (.return_, 1) := by decide +kernel
theorem dX0_noteBegin_11 : decode cX0_noteBegin 11 = .ok (.iload_n 2, 1) := by decide +kernel
theorem dX0_noteBegin_12 : decode cX0_noteBegin 12 = .ok (.sipush 460, 3) := by decide +kernel
theorem dX0_noteBegin_15 : decode cX0_noteBegin 15 = .ok (.if_icmp .ge 32, 3) := by decide +kernel
theorem dX0_noteBegin_18 : decode cX0_noteBegin 18 = .ok (.aload_n 0, 1) := by decide +kernel
theorem dX0_noteBegin_19 : decode cX0_noteBegin 19 = .ok (.getfield 49, 3) := by decide +kernel
theorem dX0_noteBegin_22 : decode cX0_noteBegin 22 = .ok (.iload_n 1, 1) := by decide +kernel
theorem dX0_noteBegin_23 : decode cX0_noteBegin 23 = .ok (.aload_n 0, 1) := by decide +kernel
theorem dX0_noteBegin_24 : decode cX0_noteBegin 24 = .ok (.getfield 37, 3) := by decide +kernel
theorem dX0_noteBegin_27 : decode cX0_noteBegin 27 = .ok (.iload_n 2, 1) := by decide +kernel
theorem dX0_noteBegin_28 : decode cX0_noteBegin 28 = .ok (.iaload, 1) := by decide +kernel
theorem dX0_noteBegin_29 : decode cX0_noteBegin 29 = .ok (.iastore, 1) := by decide +kernel
theorem dX0_noteBegin_30 : decode cX0_noteBegin 30 = .ok (.aload_n 0, 1) := by decide +kernel
theorem dX0_noteBegin_31 : decode cX0_noteBegin 31 = .ok (.getfield 37, 3) := by decide +kernel
theorem dX0_noteBegin_34 : decode cX0_noteBegin 34 = .ok (.iload_n 2, 1) := by decide +kernel
theorem dX0_noteBegin_35 : decode cX0_noteBegin 35 = .ok (.iload_n 1, 1) := by decide +kernel
theorem dX0_noteBegin_36 : decode cX0_noteBegin 36 = .ok (.iastore, 1) := by decide +kernel
theorem dX0_noteBegin_37 : decode cX0_noteBegin 37 = .ok (.aload_n 0, 1) := by decide +kernel
theorem dX0_noteBegin_38 : decode cX0_noteBegin 38 = .ok (.getfield 40, 3) := by decide +kernel
theorem dX0_noteBegin_41 : decode cX0_noteBegin 41 = .ok (.iload_n 2, 1) := by decide +kernel
theorem dX0_noteBegin_42 : decode cX0_noteBegin 42 = .ok (.dup2, 1) := by decide +kernel
theorem dX0_noteBegin_43 : decode cX0_noteBegin 43 = .ok (.iaload, 1) := by decide +kernel
theorem dX0_noteBegin_44 : decode cX0_noteBegin 44 = .ok (.iconst 1, 1) := by decide +kernel
theorem dX0_noteBegin_45 : decode cX0_noteBegin 45 = .ok (.iadd, 1) := by decide +kernel
theorem dX0_noteBegin_46 : decode cX0_noteBegin 46 = .ok (.iastore, 1) := by decide +kernel
theorem dX0_putNamed_0 : decode cX0_putNamed 0 = .ok (.aload_n 0, 1) := by decide +kernel
theorem dX0_putNamed_1 : decode cX0_putNamed 1 = .ok (.iload_n 1, 1) := by decide +kernel
theorem dX0_putNamed_2 : decode cX0_putNamed 2 = .ok (.iload_n 2, 1) := by decide +kernel
theorem dX0_putNamed_3 : decode cX0_putNamed 3 = .ok (.aload_n 0, 1) := by decide +kernel
theorem dX0_putNamed_4 : decode cX0_putNamed 4 = .ok (.getfield 64, 3) := by decide +kernel
theorem dX0_putNamed_7 : decode cX0_putNamed 7 = .ok (.getfield 149, 3) := by decide +kernel
theorem dX0_putNamed_10 : decode cX0_putNamed 10 = .ok (.iload_n 3, 1) := by decide +kernel
theorem dX0_putNamed_11 : decode cX0_putNamed 11 = .ok (.iaload, 1) := by decide +kernel
theorem dX0_putNamed_12 : decode cX0_putNamed 12 = .ok (.aload_n 0, 1) := by decide +kernel
theorem dX0_putNamed_13 : decode cX0_putNamed 13 = .ok (.getfield 64, 3) := by decide +kernel
theorem dX0_putNamed_16 : decode cX0_putNamed 16 = .ok (.getfield 152, 3) := by decide +kernel
theorem dX0_putNamed_19 : decode cX0_putNamed 19 = .ok (.iload_n 3, 1) := by decide +kernel
theorem dX0_putNamed_20 : decode cX0_putNamed 20 = .ok (.iaload, 1) := by decide +kernel
theorem dX0_putNamed_21 : decode cX0_putNamed 21 = .ok (.iload_n 3, 1) := by decide +kernel
theorem dX0_putNamed_22 : decode cX0_putNamed 22 = .ok (.invokevirtual 139, 3) := by decide +kernel
theorem dX0_putNamed_25 : decode cX0_putNamed 25 = .ok (.return_, 1) := by decide +kernel
theorem dX0_writeIf_0 : decode cX0_writeIf 0 = .ok (.aload_n 0, 1) := by decide +kernel
theorem dX0_writeIf_1 : decode cX0_writeIf 1 = .ok (.getfield 18, 3) := by decide +kernel
theorem dX0_writeIf_4 : decode cX0_writeIf 4 = .ok (.aload_n 0, 1) := by decide +kernel
theorem dX0_writeIf_5 : decode cX0_writeIf 5 = .ok (.getfield 64, 3) := by decide +kernel
theorem dX0_writeIf_8 : decode cX0_writeIf 8 = .ok (.getfield 96, 3) := by decide +kernel
theorem dX0_writeIf_11 : decode cX0_writeIf 11 = .ok (.iload_n 1, 1) := by decide +kernel
theorem dX0_writeIf_12 : decode cX0_writeIf 12 = .ok (.iaload, 1) := by decide +kernel
theorem dX0_writeIf_13 : decode cX0_writeIf 13 = .ok (.iaload, 1) := by decide +kernel
theorem dX0_writeIf_14 : decode cX0_writeIf 14 = .ok (.istore_n 2, 1) := by decide +kernel
theorem dX0_writeIf_15 : decode cX0_writeIf 15 = .ok (.aload_n 0, 1) := by decide +kernel
theorem dX0_writeIf_16 : decode cX0_writeIf 16 = .ok (.getfield 43, 3) := by decide +kernel
theorem dX0_writeIf_19 : decode cX0_writeIf 19 = .ok (.aload_n 0, 1) := by decide +kernel
theorem dX0_writeIf_20 : decode cX0_writeIf 20 = .ok (.getfield 60, 3) := by decide +kernel
theorem dX0_writeIf_23 : decode cX0_writeIf 23 = .ok (.getfield 192, 3) := by decide +kernel
theorem dX0_writeIf_26 : decode cX0_writeIf 26 = .ok (.iload_n 1, 1) := by decide +kernel
theorem dX0_writeIf_27 : decode cX0_writeIf 27 = .ok (.iaload, 1) := by decide +kernel
theorem dX0_writeIf_28 : decode cX0_writeIf 28 = .ok (.iaload, 1) := by decide +kernel
theorem dX0_writeIf_29 : decode cX0_writeIf 29 = .ok (.aload_n 0, 1) := by decide +kernel
theorem dX0_writeIf_30 : decode cX0_writeIf 30 = .ok (.getfield 46, 3) := by decide +kernel
theorem dX0_writeIf_33 : decode cX0_writeIf 33 = .ok (.aload_n 0, 1) := by decide +kernel
theorem dX0_writeIf_34 : decode cX0_writeIf 34 = .ok (.getfield 60, 3) := by decide +kernel
theorem dX0_writeIf_37 : decode cX0_writeIf 37 = .ok (.getfield 192, 3) := by decide +kernel
theorem dX0_writeIf_40 : decode cX0_writeIf 40 = .ok (.iload_n 1, 1) := by decide +kernel
theorem dX0_writeIf_41 : decode cX0_writeIf 41 = .ok (.iaload, 1) := by decide +kernel
theorem dX0_writeIf_42 : decode cX0_writeIf 42 = .ok (.iaload, 1) := by decide +kernel
theorem dX0_writeIf_43 : decode cX0_writeIf 43 = .ok (.iadd, 1) := by decide +kernel
theorem dX0_writeIf_44 : decode cX0_writeIf 44 = .ok (.istore_n 3, 1) := by decide +kernel
theorem dX0_writeIf_45 : decode cX0_writeIf 45 = .ok (.aload_n 0, 1) := by decide +kernel
theorem dX0_writeIf_46 : decode cX0_writeIf 46 = .ok (.getfield 60, 3) := by decide +kernel
theorem dX0_writeIf_49 : decode cX0_writeIf 49 = .ok (.getfield 123, 3) := by decide +kernel
theorem dX0_writeIf_52 : decode cX0_writeIf 52 = .ok (.iload_n 1, 1) := by decide +kernel
theorem dX0_writeIf_53 : decode cX0_writeIf 53 = .ok (.iaload, 1) := by decide +kernel
theorem dX0_writeIf_54 : decode cX0_writeIf 54 = .ok (.iconst (-1), 1) := by decide +kernel
theorem dX0_writeIf_55 : decode cX0_writeIf 55 = .ok (.if_icmp .eq 7, 3) := by decide +kernel
theorem dX0_writeIf_62 : decode cX0_writeIf 62 = .ok (.iconst 0, 1) := by decide +kernel
theorem dX0_writeIf_63 : decode cX0_writeIf 63 = .ok (.istore 4, 2) := by decide +kernel
theorem dX0_writeIf_65 : decode cX0_writeIf 65 = .ok (.aload_n 0, 1) := by decide +kernel
theorem dX0_writeIf_66 : decode cX0_writeIf 66 = .ok (.aload_n 0, 1) := by decide +kernel
theorem dX0_writeIf_67 : decode cX0_writeIf 67 = .ok (.getfield 43, 3) := by decide +kernel
theorem dX0_writeIf_70 : decode cX0_writeIf 70 = .ok (.aload_n 0, 1) := by decide +kernel
theorem dX0_writeIf_71 : decode cX0_writeIf 71 = .ok (.getfield 60, 3) := by decide +kernel
theorem dX0_writeIf_74 : decode cX0_writeIf 74 = .ok (.getfield 192, 3) := by decide +kernel
theorem dX0_writeIf_77 : decode cX0_writeIf 77 = .ok (.iload_n 1, 1) := by decide +kernel
theorem dX0_writeIf_78 : decode cX0_writeIf 78 = .ok (.iaload, 1) := by decide +kernel
theorem dX0_writeIf_79 : decode cX0_writeIf 79 = .ok (.iaload, 1) := by decide +kernel
theorem dX0_writeIf_80 : decode cX0_writeIf 80 = .ok (.iconst 1, 1) := by decide +kernel
theorem dX0_writeIf_81 : decode cX0_writeIf 81 = .ok (.isub, 1) := by decide +kernel
