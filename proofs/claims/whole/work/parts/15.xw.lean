theorem dX1_has_0 : decode cX1_has 0 = .ok (.iload_n 1, 1) := by decide +kernel
theorem dX1_has_1 : decode cX1_has 1 = .ok (.ifCond .lt 15, 3) := by decide +kernel
theorem dX1_has_16 : decode cX1_has 16 = .ok (.iconst 0, 1) := by decide +kernel
theorem dX1_has_17 : decode cX1_has 17 = .ok (.ireturn, 1) := by decide +kernel
theorem dX1_has_4 : decode cX1_has 4 = .ok (.iload_n 1, 1) := by decide +kernel
theorem dX1_has_5 : decode cX1_has 5 = .ok (.aload_n 0, 1) := by decide +kernel
theorem dX1_has_6 : decode cX1_has 6 = .ok (.getfield 9, 3) := by decide +kernel
theorem dX1_has_9 : decode cX1_has 9 = .ok (.if_icmp .ge 7, 3) := by decide +kernel
theorem dX8_needProcedure_0 : decode cX8_needProcedure 0 = .ok (.aload_n 0, 1) := by decide +kernel
theorem dX8_needProcedure_1 : decode cX8_needProcedure 1 = .ok (.getfield 12, 3) := by decide +kernel
theorem dX8_needProcedure_4 : decode cX8_needProcedure 4 = .ok (.iload_n 1, 1) := by decide +kernel
theorem dX8_needProcedure_5 : decode cX8_needProcedure 5 = .ok (.invokevirtual 351, 3) := by decide +kernel
theorem dX8_needProcedure_8 : decode cX8_needProcedure 8 = .ok (.ifCond .ne 14, 3) := by decide +kernel
theorem dX8_needProcedure_11 : decode cX8_needProcedure 11 = .ok (.new 354, 3) := by decide +kernel
theorem dX8_needProcedure_14 : decode cX8_needProcedure 14 = .ok (.dup, 1) := by decide +kernel
theorem dX8_needProcedure_15 : decode cX8_needProcedure 15 = .ok (.ldc_w 356, 3) := by decide +kernel
theorem dX8_needProcedure_18 : decode cX8_needProcedure 18 = .ok (.invokespecial 358, 3) := by decide +kernel
theorem dX8_needProcedure_21 : decode cX8_needProcedure 21 = .ok (.athrow, 1) := by decide +kernel
theorem dX8_procedure_0 : decode cX8_procedure 0 = .ok (.aload_n 0, 1) := by decide +kernel
theorem dX8_procedure_1 : decode cX8_procedure 1 = .ok (.iload_n 1, 1) := by decide +kernel
theorem dX8_procedure_2 : decode cX8_procedure 2 = .ok (.invokevirtual 87, 3) := by decide +kernel
theorem dX1_has_12 : decode cX1_has 12 = .ok (.iconst 1, 1) := by decide +kernel
theorem dX1_has_13 : decode cX1_has 13 = .ok (.goto 4, 3) := by decide +kernel
theorem dX8_needProcedure_22 : decode cX8_needProcedure 22 = .ok (.return_, 1) := by decide +kernel
theorem dX8_isName_0 : decode cX8_isName 0 = .ok (.iload_n 0, 1) := by decide +kernel
theorem dX8_isName_1 : decode cX8_isName 1 = .ok (.ifCond .lt 13, 3) := by decide +kernel
theorem dX8_isName_14 : decode cX8_isName 14 = .ok (.iconst 0, 1) := by decide +kernel
theorem dX8_isName_15 : decode cX8_isName 15 = .ok (.ireturn, 1) := by decide +kernel
theorem dX8_isName_4 : decode cX8_isName 4 = .ok (.iload_n 0, 1) := by decide +kernel
theorem dX8_isName_5 : decode cX8_isName 5 = .ok (.bipush 16, 2) := by decide +kernel
theorem dX8_isName_7 : decode cX8_isName 7 = .ok (.if_icmp .ge 7, 3) := by decide +kernel
theorem dX8_needArgument_0 : decode cX8_needArgument 0 = .ok (.iload_n 0, 1) := by decide +kernel
theorem dX8_needArgument_1 : decode cX8_needArgument 1 = .ok (.ifCond .ne 14, 3) := by decide +kernel
theorem dX8_needArgument_4 : decode cX8_needArgument 4 = .ok (.new 366, 3) := by decide +kernel
theorem dX8_needArgument_7 : decode cX8_needArgument 7 = .ok (.dup, 1) := by decide +kernel
theorem dX8_needArgument_8 : decode cX8_needArgument 8 = .ok (.ldc_w 368, 3) := by decide +kernel
theorem dX8_needArgument_11 : decode cX8_needArgument 11 = .ok (.invokespecial 370, 3) := by decide +kernel
theorem dX8_needArgument_14 : decode cX8_needArgument 14 = .ok (.athrow, 1) := by decide +kernel
theorem dX8_procedure_5 : decode cX8_procedure 5 = .ok (.iload_n 2, 1) := by decide +kernel
theorem dX8_procedure_6 : decode cX8_procedure 6 = .ok (.invokestatic 91, 3) := by decide +kernel
theorem dX8_procedure_9 : decode cX8_procedure 9 = .ok (.invokestatic 95, 3) := by decide +kernel
theorem dX8_isName_10 : decode cX8_isName 10 = .ok (.iconst 1, 1) := by decide +kernel
theorem dX8_isName_11 : decode cX8_isName 11 = .ok (.goto 4, 3) := by decide +kernel
theorem dX8_needArgument_15 : decode cX8_needArgument 15 = .ok (.return_, 1) := by decide +kernel
theorem dX1_declares_0 : decode cX1_declares 0 = .ok (.aload_n 0, 1) := by decide +kernel
theorem dX1_declares_1 : decode cX1_declares 1 = .ok (.getfield 34, 3) := by decide +kernel
theorem dX1_declares_4 : decode cX1_declares 4 = .ok (.iload_n 1, 1) := by decide +kernel
theorem dX1_declares_5 : decode cX1_declares 5 = .ok (.bipush 16, 2) := by decide +kernel
theorem dX1_declares_7 : decode cX1_declares 7 = .ok (.imul, 1) := by decide +kernel
theorem dX1_declares_8 : decode cX1_declares 8 = .ok (.iload_n 2, 1) := by decide +kernel
theorem dX1_declares_9 : decode cX1_declares 9 = .ok (.iadd, 1) := by decide +kernel
theorem dX1_declares_10 : decode cX1_declares 10 = .ok (.iaload, 1) := by decide +kernel
theorem dX1_declares_11 : decode cX1_declares 11 = .ok (.iconst (-1), 1) := by decide +kernel
theorem dX1_declares_12 : decode cX1_declares 12 = .ok (.if_icmp .eq 7, 3) := by decide +kernel
theorem dX1_declares_19 : decode cX1_declares 19 = .ok (.iconst 0, 1) := by decide +kernel
theorem dX1_declares_20 : decode cX1_declares 20 = .ok (.ireturn, 1) := by decide +kernel
theorem dX8_needState_0 : decode cX8_needState 0 = .ok (.iload_n 0, 1) := by decide +kernel
theorem dX8_needState_1 : decode cX8_needState 1 = .ok (.ifCond .ne 14, 3) := by decide +kernel
theorem dX8_needState_15 : decode cX8_needState 15 = .ok (.return_, 1) := by decide +kernel
theorem dX1_declare_0 : decode cX1_declare 0 = .ok (.iload_n 1, 1) := by decide +kernel
theorem dX1_declare_1 : decode cX1_declare 1 = .ok (.bipush 16, 2) := by decide +kernel
theorem dX1_declare_3 : decode cX1_declare 3 = .ok (.imul, 1) := by decide +kernel
theorem dX1_declare_4 : decode cX1_declare 4 = .ok (.iload_n 2, 1) := by decide +kernel
theorem dX1_declare_5 : decode cX1_declare 5 = .ok (.iadd, 1) := by decide +kernel
theorem dX1_declare_6 : decode cX1_declare 6 = .ok (.istore 5, 2) := by decide +kernel
theorem dX1_declare_8 : decode cX1_declare 8 = .ok (.aload_n 0, 1) := by decide +kernel
theorem dX1_declare_9 : decode cX1_declare 9 = .ok (.getfield 34, 3) := by decide +kernel
theorem dX1_declare_12 : decode cX1_declare 12 = .ok (.iload 5, 2) := by decide +kernel
theorem dX1_declare_14 : decode cX1_declare 14 = .ok (.iload_n 3, 1) := by decide +kernel
theorem dX1_declare_15 : decode cX1_declare 15 = .ok (.iastore, 1) := by decide +kernel
theorem dX1_declare_16 : decode cX1_declare 16 = .ok (.aload_n 0, 1) := by decide +kernel
theorem dX1_declare_17 : decode cX1_declare 17 = .ok (.getfield 37, 3) := by decide +kernel
theorem dX1_declare_20 : decode cX1_declare 20 = .ok (.iload 5, 2) := by decide +kernel
theorem dX1_declare_22 : decode cX1_declare 22 = .ok (.iconst (-1), 1) := by decide +kernel
theorem dX1_declare_23 : decode cX1_declare 23 = .ok (.iastore, 1) := by decide +kernel
theorem dX1_declare_24 : decode cX1_declare 24 = .ok (.aload_n 0, 1) := by decide +kernel
theorem dX1_declare_25 : decode cX1_declare 25 = .ok (.getfield 40, 3) := by decide +kernel
theorem dX1_declare_28 : decode cX1_declare 28 = .ok (.iload 5, 2) := by decide +kernel
theorem dX1_declare_30 : decode cX1_declare 30 = .ok (.iload 4, 2) := by decide +kernel
theorem dX1_declare_32 : decode cX1_declare 32 = .ok (.iastore, 1) := by decide +kernel
theorem dX1_declare_33 : decode cX1_declare 33 = .ok (.return_, 1) := by decide +kernel
theorem dX1_addProcedure_0 : decode cX1_addProcedure 0 = .ok (.aload_n 0, 1) := by decide +kernel
theorem dX1_addProcedure_1 : decode cX1_addProcedure 1 = .ok (.getfield 9, 3) := by decide +kernel
theorem dX1_addProcedure_4 : decode cX1_addProcedure 4 = .ok (.istore_n 3, 1) := by decide +kernel
theorem dX1_addProcedure_5 : decode cX1_addProcedure 5 = .ok (.aload_n 0, 1) := by decide +kernel
theorem dX1_addProcedure_6 : decode cX1_addProcedure 6 = .ok (.dup, 1) := by decide +kernel
theorem dX1_addProcedure_7 : decode cX1_addProcedure 7 = .ok (.getfield 9, 3) := by decide +kernel
theorem dX1_addProcedure_10 : decode cX1_addProcedure 10 = .ok (.iconst 1, 1) := by decide +kernel
theorem dX1_addProcedure_11 : decode cX1_addProcedure 11 = .ok (.iadd, 1) := by decide +kernel
theorem dX1_addProcedure_12 : decode cX1_addProcedure 12 = .ok (.putfield 9, 3) := by decide +kernel
theorem dX1_addProcedure_15 : decode cX1_addProcedure 15 = .ok (.aload_n 0, 1) := by decide +kernel
theorem dX1_addProcedure_16 : decode cX1_addProcedure 16 = .ok (.getfield 15, 3) := by decide +kernel
theorem dX1_addProcedure_19 : decode cX1_addProcedure 19 = .ok (.iload_n 3, 1) := by decide +kernel
theorem dX1_addProcedure_20 : decode cX1_addProcedure 20 = .ok (.iload_n 1, 1) := by decide +kernel
theorem dX1_addProcedure_21 : decode cX1_addProcedure 21 = .ok (.iastore, 1) := by decide +kernel
theorem dX1_addProcedure_22 : decode cX1_addProcedure 22 = .ok (.aload_n 0, 1) := by decide +kernel
theorem dX1_addProcedure_23 : decode cX1_addProcedure 23 = .ok (.getfield 19, 3) := by decide +kernel
theorem dX1_addProcedure_26 : decode cX1_addProcedure 26 = .ok (.iload_n 3, 1) := by decide +kernel
theorem dX1_addProcedure_27 : decode cX1_addProcedure 27 = .ok (.iload_n 2, 1) := by decide +kernel
theorem dX1_addProcedure_28 : decode cX1_addProcedure 28 = .ok (.iastore, 1) := by decide +kernel
theorem dX1_addProcedure_29 : decode cX1_addProcedure 29 = .ok (.aload_n 0, 1) := by decide +kernel
theorem dX1_addProcedure_30 : decode cX1_addProcedure 30 = .ok (.iload_n 1, 1) := by decide +kernel
theorem dX1_addProcedure_31 : decode cX1_addProcedure 31 = .ok (.iload_n 2, 1) := by decide +kernel
theorem dX1_addProcedure_32 : decode cX1_addProcedure 32 = .ok (.bipush 10, 2) := by decide +kernel
theorem dX1_addProcedure_34 : decode cX1_addProcedure 34 = .ok (.iload_n 3, 1) := by decide +kernel
theorem dX1_addProcedure_35 : decode cX1_addProcedure 35 = .ok (.invokevirtual 59, 3) := by decide +kernel
theorem dX1_addProcedure_38 : decode cX1_addProcedure 38 = .ok (.iload_n 3, 1) := by decide +kernel
theorem dX1_addProcedure_39 : decode cX1_addProcedure 39 = .ok (.ireturn, 1) := by decide +kernel
theorem dX8_procedure_12 : decode cX8_procedure 12 = .ok (.aload_n 0, 1) := by decide +kernel
theorem dX8_procedure_13 : decode cX8_procedure 13 = .ok (.getfield 12, 3) := by decide +kernel
theorem dX8_procedure_16 : decode cX8_procedure 16 = .ok (.getfield 99, 3) := by decide +kernel
theorem dX8_procedure_19 : decode cX8_procedure 19 = .ok (.bipush 10, 2) := by decide +kernel
theorem dX8_procedure_21 : decode cX8_procedure 21 = .ok (.if_icmp .ge 19, 3) := by decide +kernel
theorem dX8_procedure_24 : decode cX8_procedure 24 = .ok (.aload_n 0, 1) := by decide +kernel
theorem dX8_procedure_25 : decode cX8_procedure 25 = .ok (.getfield 12, 3) := by decide +kernel
theorem dX8_procedure_28 : decode cX8_procedure 28 = .ok (.iload_n 1, 1) := by decide +kernel
theorem dX8_procedure_29 : decode cX8_procedure 29 = .ok (.iload_n 2, 1) := by decide +kernel
theorem dX8_procedure_30 : decode cX8_procedure 30 = .ok (.invokevirtual 102, 3) := by decide +kernel
theorem dX8_procedure_33 : decode cX8_procedure 33 = .ok (.ifCond .ne 7, 3) := by decide +kernel
theorem dX8_procedure_36 : decode cX8_procedure 36 = .ok (.iconst 1, 1) := by decide +kernel
theorem dX8_procedure_37 : decode cX8_procedure 37 = .ok (.goto 4, 3) := by decide +kernel
theorem dX8_procedure_41 : decode cX8_procedure 41 = .ok (.invokestatic 106, 3) := by decide +kernel
theorem dX8_procedure_44 : decode cX8_procedure 44 = .ok (.aload_n 0, 1) := by decide +kernel
theorem dX8_procedure_45 : decode cX8_procedure 45 = .ok (.iconst 1, 1) := by decide +kernel
theorem dX8_procedure_46 : decode cX8_procedure 46 = .ok (.putfield 70, 3) := by decide +kernel
theorem dX8_procedure_49 : decode cX8_procedure 49 = .ok (.aload_n 0, 1) := by decide +kernel
theorem dX8_procedure_50 : decode cX8_procedure 50 = .ok (.getfield 12, 3) := by decide +kernel
theorem dX8_procedure_53 : decode cX8_procedure 53 = .ok (.iload_n 1, 1) := by decide +kernel
theorem dX8_procedure_54 : decode cX8_procedure 54 = .ok (.iload_n 2, 1) := by decide +kernel
theorem dX8_procedure_55 : decode cX8_procedure 55 = .ok (.invokevirtual 109, 3) := by decide +kernel
theorem dX8_procedure_58 : decode cX8_procedure 58 = .ok (.ireturn, 1) := by decide +kernel
theorem dX8_parameter_0 : decode cX8_parameter 0 = .ok (.aload_n 0, 1) := by decide +kernel
theorem dX8_parameter_1 : decode cX8_parameter 1 = .ok (.iload_n 1, 1) := by decide +kernel
theorem dX8_parameter_2 : decode cX8_parameter 2 = .ok (.invokevirtual 87, 3) := by decide +kernel
theorem dX8_parameter_5 : decode cX8_parameter 5 = .ok (.iload_n 2, 1) := by decide +kernel
theorem dX8_parameter_6 : decode cX8_parameter 6 = .ok (.invokestatic 91, 3) := by decide +kernel
theorem dX8_parameter_9 : decode cX8_parameter 9 = .ok (.ifCond .eq 16, 3) := by decide +kernel
theorem dX8_parameter_25 : decode cX8_parameter 25 = .ok (.iconst 0, 1) := by decide +kernel
theorem dX8_parameter_26 : decode cX8_parameter 26 = .ok (.invokestatic 95, 3) := by decide +kernel
theorem dX8_parameter_12 : decode cX8_parameter 12 = .ok (.iload_n 3, 1) := by decide +kernel
theorem dX8_parameter_13 : decode cX8_parameter 13 = .ok (.ifCond .lt 12, 3) := by decide +kernel
theorem dX8_parameter_16 : decode cX8_parameter 16 = .ok (.iload_n 3, 1) := by decide +kernel
theorem dX8_parameter_17 : decode cX8_parameter 17 = .ok (.iconst 5, 1) := by decide +kernel
theorem dX8_parameter_18 : decode cX8_parameter 18 = .ok (.if_icmp .gt 7, 3) := by decide +kernel
theorem dX8_needState_4 : decode cX8_needState 4 = .ok (.new 371, 3) := by decide +kernel
theorem dX8_needState_7 : decode cX8_needState 7 = .ok (.dup, 1) := by decide +kernel
theorem dX8_needState_8 : decode cX8_needState 8 = .ok (.ldc_w 373, 3) := by decide +kernel
theorem dX8_needState_11 : decode cX8_needState 11 = .ok (.invokespecial 375, 3) := by decide +kernel
theorem dX8_needState_14 : decode cX8_needState 14 = .ok (.athrow, 1) := by decide +kernel
theorem dX8_parameter_21 : decode cX8_parameter 21 = .ok (.iconst 1, 1) := by decide +kernel
theorem dX8_parameter_22 : decode cX8_parameter 22 = .ok (.goto 4, 3) := by decide +kernel
theorem dX8_parameter_29 : decode cX8_parameter 29 = .ok (.iload_n 1, 1) := by decide +kernel
theorem dX8_parameter_30 : decode cX8_parameter 30 = .ok (.ifCond .eq 19, 3) := by decide +kernel
theorem dX8_parameter_49 : decode cX8_parameter 49 = .ok (.iconst 0, 1) := by decide +kernel
theorem dX8_parameter_50 : decode cX8_parameter 50 = .ok (.invokestatic 106, 3) := by decide +kernel
theorem dX8_variable_0 : decode cX8_variable 0 = .ok (.aload_n 0, 1) := by decide +kernel
theorem dX8_variable_1 : decode cX8_variable 1 = .ok (.iload_n 1, 1) := by decide +kernel
theorem dX8_variable_2 : decode cX8_variable 2 = .ok (.invokevirtual 87, 3) := by decide +kernel
theorem dX8_variable_5 : decode cX8_variable 5 = .ok (.iload_n 2, 1) := by decide +kernel
theorem dX8_variable_6 : decode cX8_variable 6 = .ok (.invokestatic 91, 3) := by decide +kernel
theorem dX8_variable_9 : decode cX8_variable 9 = .ok (.ifCond .eq 16, 3) := by decide +kernel
theorem dX8_variable_25 : decode cX8_variable 25 = .ok (.iconst 0, 1) := by decide +kernel
theorem dX8_variable_26 : decode cX8_variable 26 = .ok (.invokestatic 95, 3) := by decide +kernel
theorem dX8_isSizeOf_0 : decode cX8_isSizeOf 0 = .ok (.iload_n 0, 1) := by decide +kernel
theorem dX8_isSizeOf_1 : decode cX8_isSizeOf 1 = .ok (.bipush 6, 2) := by decide +kernel
theorem dX8_isSizeOf_3 : decode cX8_isSizeOf 3 = .ok (.iadd, 1) := by decide +kernel
theorem dX8_isSizeOf_4 : decode cX8_isSizeOf 4 = .ok (.tableswitch 77 6 9 #[32, 42, 32, 59], 32) := by decide +kernel
theorem dX8_isSizeOf_81 : decode cX8_isSizeOf 81 = .ok (.iconst 0, 1) := by decide +kernel
theorem dX8_isSizeOf_82 : decode cX8_isSizeOf 82 = .ok (.ireturn, 1) := by decide +kernel
theorem dX8_variable_12 : decode cX8_variable 12 = .ok (.iload_n 3, 1) := by decide +kernel
theorem dX8_variable_13 : decode cX8_variable 13 = .ok (.iload 4, 2) := by decide +kernel
theorem dX8_variable_15 : decode cX8_variable 15 = .ok (.invokestatic 120, 3) := by decide +kernel
theorem dX8_variable_18 : decode cX8_variable 18 = .ok (.ifCond .eq 7, 3) := by decide +kernel
theorem dX8_isSizeOf_36 : decode cX8_isSizeOf 36 = .ok (.iload_n 1, 1) := by decide +kernel
theorem dX8_isSizeOf_37 : decode cX8_isSizeOf 37 = .ok (.ifCond .ne 7, 3) := by decide +kernel
theorem dX8_isSizeOf_44 : decode cX8_isSizeOf 44 = .ok (.iconst 0, 1) := by decide +kernel
theorem dX8_isSizeOf_45 : decode cX8_isSizeOf 45 = .ok (.ireturn, 1) := by decide +kernel
theorem dX8_isSizeOf_40 : decode cX8_isSizeOf 40 = .ok (.iconst 1, 1) := by decide +kernel
theorem dX8_isSizeOf_41 : decode cX8_isSizeOf 41 = .ok (.goto 4, 3) := by decide +kernel
theorem dX1_takesVariable_0 : decode cX1_takesVariable 0 = .ok (.aload_n 0, 1) := by decide +kernel
theorem dX1_takesVariable_1 : decode cX1_takesVariable 1 = .ok (.getfield 25, 3) := by decide +kernel
theorem dX1_takesVariable_4 : decode cX1_takesVariable 4 = .ok (.iload_n 1, 1) := by decide +kernel
theorem dX1_takesVariable_5 : decode cX1_takesVariable 5 = .ok (.iaload, 1) := by decide +kernel
theorem dX1_takesVariable_6 : decode cX1_takesVariable 6 = .ok (.bipush 6, 2) := by decide +kernel
theorem dX1_takesVariable_8 : decode cX1_takesVariable 8 = .ok (.if_icmp .ge 16, 3) := by decide +kernel
theorem dX1_takesVariable_11 : decode cX1_takesVariable 11 = .ok (.aload_n 0, 1) := by decide +kernel
theorem dX1_takesVariable_12 : decode cX1_takesVariable 12 = .ok (.iload_n 1, 1) := by decide +kernel
theorem dX1_takesVariable_13 : decode cX1_takesVariable 13 = .ok (.iload_n 2, 1) := by decide +kernel
theorem dX1_takesVariable_14 : decode cX1_takesVariable 14 = .ok (.invokevirtual 55, 3) := by decide +kernel
theorem dX1_takesVariable_17 : decode cX1_takesVariable 17 = .ok (.ifCond .ne 7, 3) := by decide +kernel
theorem dX1_takesVariable_20 : decode cX1_takesVariable 20 = .ok (.iconst 1, 1) := by decide +kernel
theorem dX1_takesVariable_21 : decode cX1_takesVariable 21 = .ok (.goto 4, 3) := by decide +kernel
theorem dX1_takesVariable_25 : decode cX1_takesVariable 25 = .ok (.ireturn, 1) := by decide +kernel
theorem dX1_declarePlace_0 : decode cX1_declarePlace 0 = .ok (.aload_n 0, 1) := by decide +kernel
theorem dX1_declarePlace_1 : decode cX1_declarePlace 1 = .ok (.getfield 28, 3) := by decide +kernel
theorem dX1_declarePlace_4 : decode cX1_declarePlace 4 = .ok (.iload_n 1, 1) := by decide +kernel
theorem dX1_declarePlace_5 : decode cX1_declarePlace 5 = .ok (.iaload, 1) := by decide +kernel
theorem dX1_declarePlace_6 : decode cX1_declarePlace 6 = .ok (.istore 5, 2) := by decide +kernel
theorem dX1_declarePlace_8 : decode cX1_declarePlace 8 = .ok (.aload_n 0, 1) := by decide +kernel
theorem dX1_declarePlace_9 : decode cX1_declarePlace 9 = .ok (.getfield 28, 3) := by decide +kernel
theorem dX1_declarePlace_12 : decode cX1_declarePlace 12 = .ok (.iload_n 1, 1) := by decide +kernel
theorem dX1_declarePlace_13 : decode cX1_declarePlace 13 = .ok (.dup2, 1) := by decide +kernel
theorem dX1_declarePlace_14 : decode cX1_declarePlace 14 = .ok (.iaload, 1) := by decide +kernel
theorem dX1_declarePlace_15 : decode cX1_declarePlace 15 = .ok (.iconst 1, 1) := by decide +kernel
theorem dX1_declarePlace_16 : decode cX1_declarePlace 16 = .ok (.iadd, 1) := by decide +kernel
theorem dX1_declarePlace_17 : decode cX1_declarePlace 17 = .ok (.iastore, 1) := by decide +kernel
theorem dX1_declarePlace_18 : decode cX1_declarePlace 18 = .ok (.aload_n 0, 1) := by decide +kernel
theorem dX1_declarePlace_19 : decode cX1_declarePlace 19 = .ok (.iload_n 1, 1) := by decide +kernel
theorem dX1_declarePlace_20 : decode cX1_declarePlace 20 = .ok (.iload_n 2, 1) := by decide +kernel
theorem dX1_declarePlace_21 : decode cX1_declarePlace 21 = .ok (.iload_n 3, 1) := by decide +kernel
theorem dX1_declarePlace_22 : decode cX1_declarePlace 22 = .ok (.iload 4, 2) := by decide +kernel
theorem dX1_declarePlace_24 : decode cX1_declarePlace 24 = .ok (.invokevirtual 59, 3) := by decide +kernel
theorem dX1_declarePlace_27 : decode cX1_declarePlace 27 = .ok (.aload_n 0, 1) := by decide +kernel
theorem dX1_declarePlace_28 : decode cX1_declarePlace 28 = .ok (.getfield 37, 3) := by decide +kernel
theorem dX1_declarePlace_31 : decode cX1_declarePlace 31 = .ok (.iload_n 1, 1) := by decide +kernel
theorem dX1_declarePlace_32 : decode cX1_declarePlace 32 = .ok (.bipush 16, 2) := by decide +kernel
theorem dX1_declarePlace_34 : decode cX1_declarePlace 34 = .ok (.imul, 1) := by decide +kernel
theorem dX1_declarePlace_35 : decode cX1_declarePlace 35 = .ok (.iload_n 2, 1) := by decide +kernel
theorem dX1_declarePlace_36 : decode cX1_declarePlace 36 = .ok (.iadd, 1) := by decide +kernel
theorem dX1_declarePlace_37 : decode cX1_declarePlace 37 = .ok (.iload 5, 2) := by decide +kernel
theorem dX1_declarePlace_39 : decode cX1_declarePlace 39 = .ok (.iastore, 1) := by decide +kernel
theorem dX1_declarePlace_40 : decode cX1_declarePlace 40 = .ok (.aload_n 0, 1) := by decide +kernel
theorem dX1_declarePlace_41 : decode cX1_declarePlace 41 = .ok (.getfield 43, 3) := by decide +kernel
theorem dX1_declarePlace_44 : decode cX1_declarePlace 44 = .ok (.iload_n 1, 1) := by decide +kernel
theorem dX1_declarePlace_45 : decode cX1_declarePlace 45 = .ok (.bipush 10, 2) := by decide +kernel
theorem dX1_declarePlace_47 : decode cX1_declarePlace 47 = .ok (.imul, 1) := by decide +kernel
theorem dX1_declarePlace_48 : decode cX1_declarePlace 48 = .ok (.iload 5, 2) := by decide +kernel
theorem dX1_declarePlace_50 : decode cX1_declarePlace 50 = .ok (.iadd, 1) := by decide +kernel
theorem dX1_declarePlace_51 : decode cX1_declarePlace 51 = .ok (.iload_n 3, 1) := by decide +kernel
theorem dX1_declarePlace_52 : decode cX1_declarePlace 52 = .ok (.iastore, 1) := by decide +kernel
theorem dX1_declarePlace_53 : decode cX1_declarePlace 53 = .ok (.aload_n 0, 1) := by decide +kernel
theorem dX1_declarePlace_54 : decode cX1_declarePlace 54 = .ok (.getfield 46, 3) := by decide +kernel
theorem dX1_declarePlace_57 : decode cX1_declarePlace 57 = .ok (.iload_n 1, 1) := by decide +kernel
theorem dX1_declarePlace_58 : decode cX1_declarePlace 58 = .ok (.bipush 10, 2) := by decide +kernel
theorem dX1_declarePlace_60 : decode cX1_declarePlace 60 = .ok (.imul, 1) := by decide +kernel
theorem dX1_declarePlace_61 : decode cX1_declarePlace 61 = .ok (.iload 5, 2) := by decide +kernel
theorem dX1_declarePlace_63 : decode cX1_declarePlace 63 = .ok (.iadd, 1) := by decide +kernel
theorem dX1_declarePlace_64 : decode cX1_declarePlace 64 = .ok (.iload 4, 2) := by decide +kernel
theorem dX1_declarePlace_66 : decode cX1_declarePlace 66 = .ok (.iastore, 1) := by decide +kernel
theorem dX1_declarePlace_67 : decode cX1_declarePlace 67 = .ok (.iload 5, 2) := by decide +kernel
theorem dX1_declarePlace_69 : decode cX1_declarePlace 69 = .ok (.ireturn, 1) := by decide +kernel
theorem dX1_addVariable_0 : decode cX1_addVariable 0 = .ok (.aload_n 0, 1) := by decide +kernel
theorem dX1_addVariable_1 : decode cX1_addVariable 1 = .ok (.getfield 25, 3) := by decide +kernel
theorem dX1_addVariable_4 : decode cX1_addVariable 4 = .ok (.iload_n 1, 1) := by decide +kernel
theorem dX1_addVariable_5 : decode cX1_addVariable 5 = .ok (.dup2, 1) := by decide +kernel
theorem dX1_addVariable_6 : decode cX1_addVariable 6 = .ok (.iaload, 1) := by decide +kernel
theorem dX1_addVariable_7 : decode cX1_addVariable 7 = .ok (.iconst 1, 1) := by decide +kernel
theorem dX1_addVariable_8 : decode cX1_addVariable 8 = .ok (.iadd, 1) := by decide +kernel
theorem dX1_addVariable_9 : decode cX1_addVariable 9 = .ok (.iastore, 1) := by decide +kernel
theorem dX1_addVariable_10 : decode cX1_addVariable 10 = .ok (.iload_n 3, 1) := by decide +kernel
theorem dX1_addVariable_11 : decode cX1_addVariable 11 = .ok (.bipush 9, 2) := by decide +kernel
theorem dX1_addVariable_13 : decode cX1_addVariable 13 = .ok (.if_icmp .ne 14, 3) := by decide +kernel
theorem dX1_addVariable_27 : decode cX1_addVariable 27 = .ok (.aload_n 0, 1) := by decide +kernel
theorem dX1_addVariable_28 : decode cX1_addVariable 28 = .ok (.iload_n 1, 1) := by decide +kernel
theorem dX1_addVariable_29 : decode cX1_addVariable 29 = .ok (.iload_n 2, 1) := by decide +kernel
theorem dX1_addVariable_30 : decode cX1_addVariable 30 = .ok (.iload_n 3, 1) := by decide +kernel
theorem dX1_addVariable_31 : decode cX1_addVariable 31 = .ok (.iload 4, 2) := by decide +kernel
theorem dX1_addVariable_33 : decode cX1_addVariable 33 = .ok (.invokevirtual 63, 3) := by decide +kernel
theorem dX1_addVariable_36 : decode cX1_addVariable 36 = .ok (.ireturn, 1) := by decide +kernel
theorem dX8_variable_21 : decode cX8_variable 21 = .ok (.iconst 1, 1) := by decide +kernel
theorem dX8_variable_22 : decode cX8_variable 22 = .ok (.goto 4, 3) := by decide +kernel
theorem dX8_variable_29 : decode cX8_variable 29 = .ok (.aload_n 0, 1) := by decide +kernel
theorem dX8_variable_30 : decode cX8_variable 30 = .ok (.getfield 12, 3) := by decide +kernel
theorem dX8_variable_33 : decode cX8_variable 33 = .ok (.iload_n 1, 1) := by decide +kernel
theorem dX8_variable_34 : decode cX8_variable 34 = .ok (.iload_n 2, 1) := by decide +kernel
theorem dX8_variable_35 : decode cX8_variable 35 = .ok (.invokevirtual 123, 3) := by decide +kernel
theorem dX8_variable_38 : decode cX8_variable 38 = .ok (.invokestatic 106, 3) := by decide +kernel
theorem dX8_variable_41 : decode cX8_variable 41 = .ok (.aload_n 0, 1) := by decide +kernel
theorem dX8_variable_42 : decode cX8_variable 42 = .ok (.iconst 1, 1) := by decide +kernel
theorem dX8_variable_43 : decode cX8_variable 43 = .ok (.putfield 70, 3) := by decide +kernel
theorem dX8_variable_46 : decode cX8_variable 46 = .ok (.aload_n 0, 1) := by decide +kernel
theorem dX8_variable_47 : decode cX8_variable 47 = .ok (.getfield 12, 3) := by decide +kernel
theorem dX8_variable_50 : decode cX8_variable 50 = .ok (.iload_n 1, 1) := by decide +kernel
theorem dX8_variable_51 : decode cX8_variable 51 = .ok (.iload_n 2, 1) := by decide +kernel
theorem dX8_variable_52 : decode cX8_variable 52 = .ok (.iload_n 3, 1) := by decide +kernel
theorem dX8_variable_53 : decode cX8_variable 53 = .ok (.bipush 6, 2) := by decide +kernel
theorem dX8_variable_55 : decode cX8_variable 55 = .ok (.iadd, 1) := by decide +kernel
theorem dX8_variable_56 : decode cX8_variable 56 = .ok (.iload 4, 2) := by decide +kernel
theorem dX8_variable_58 : decode cX8_variable 58 = .ok (.invokevirtual 126, 3) := by decide +kernel
theorem dX8_variable_61 : decode cX8_variable 61 = .ok (.ireturn, 1) := by decide +kernel
theorem dX8_isSizeOf_46 : decode cX8_isSizeOf 46 = .ok (.iload_n 1, 1) := by decide +kernel
theorem dX8_isSizeOf_47 : decode cX8_isSizeOf 47 = .ok (.iconst 1, 1) := by decide +kernel
theorem dX8_isSizeOf_48 : decode cX8_isSizeOf 48 = .ok (.if_icmp .lt 13, 3) := by decide +kernel
theorem dX8_isSizeOf_61 : decode cX8_isSizeOf 61 = .ok (.iconst 0, 1) := by decide +kernel
theorem dX8_isSizeOf_62 : decode cX8_isSizeOf 62 = .ok (.ireturn, 1) := by decide +kernel
theorem dX8_isSizeOf_51 : decode cX8_isSizeOf 51 = .ok (.iload_n 1, 1) := by decide +kernel
theorem dX8_isSizeOf_52 : decode cX8_isSizeOf 52 = .ok (.bipush 8, 2) := by decide +kernel
theorem dX8_isSizeOf_54 : decode cX8_isSizeOf 54 = .ok (.if_icmp .gt 7, 3) := by decide +kernel
theorem dX8_isSizeOf_57 : decode cX8_isSizeOf 57 = .ok (.iconst 1, 1) := by decide +kernel
theorem dX8_isSizeOf_58 : decode cX8_isSizeOf 58 = .ok (.goto 4, 3) := by decide +kernel
theorem dX8_isSizeOf_63 : decode cX8_isSizeOf 63 = .ok (.iload_n 1, 1) := by decide +kernel
theorem dX8_isSizeOf_64 : decode cX8_isSizeOf 64 = .ok (.bipush (-99), 2) := by decide +kernel
theorem dX8_isSizeOf_66 : decode cX8_isSizeOf 66 = .ok (.if_icmp .lt 13, 3) := by decide +kernel
theorem dX8_isSizeOf_79 : decode cX8_isSizeOf 79 = .ok (.iconst 0, 1) := by decide +kernel
theorem dX8_isSizeOf_80 : decode cX8_isSizeOf 80 = .ok (.ireturn, 1) := by decide +kernel
theorem dX8_isSizeOf_69 : decode cX8_isSizeOf 69 = .ok (.iload_n 1, 1) := by decide +kernel
theorem dX8_isSizeOf_70 : decode cX8_isSizeOf 70 = .ok (.bipush 99, 2) := by decide +kernel
theorem dX8_isSizeOf_72 : decode cX8_isSizeOf 72 = .ok (.if_icmp .gt 7, 3) := by decide +kernel
theorem dX8_isSizeOf_75 : decode cX8_isSizeOf 75 = .ok (.iconst 1, 1) := by decide +kernel
theorem dX8_isSizeOf_76 : decode cX8_isSizeOf 76 = .ok (.goto 4, 3) := by decide +kernel
theorem dX1_addVariable_16 : decode cX1_addVariable 16 = .ok (.aload_n 0, 1) := by decide +kernel
theorem dX1_addVariable_17 : decode cX1_addVariable 17 = .ok (.iload_n 1, 1) := by decide +kernel
theorem dX1_addVariable_18 : decode cX1_addVariable 18 = .ok (.iload_n 2, 1) := by decide +kernel
theorem dX1_addVariable_19 : decode cX1_addVariable 19 = .ok (.iload_n 3, 1) := by decide +kernel
theorem dX1_addVariable_20 : decode cX1_addVariable 20 = .ok (.iload 4, 2) := by decide +kernel
theorem dX1_addVariable_22 : decode cX1_addVariable 22 = .ok (.invokevirtual 59, 3) := by decide +kernel
theorem dX1_addVariable_25 : decode cX1_addVariable 25 = .ok (.iconst (-1), 1) := by decide +kernel
theorem dX1_addVariable_26 : decode cX1_addVariable 26 = .ok (.ireturn, 1) := by decide +kernel
theorem dX8_ofName_0 : decode cX8_ofName 0 = .ok (.aload_n 0, 1) := by decide +kernel
theorem dX8_ofName_1 : decode cX8_ofName 1 = .ok (.iload_n 1, 1) := by decide +kernel
theorem dX8_ofName_2 : decode cX8_ofName 2 = .ok (.invokevirtual 87, 3) := by decide +kernel
theorem dX8_ofName_5 : decode cX8_ofName 5 = .ok (.iload_n 2, 1) := by decide +kernel
theorem dX8_ofName_6 : decode cX8_ofName 6 = .ok (.invokestatic 91, 3) := by decide +kernel
theorem dX8_ofName_9 : decode cX8_ofName 9 = .ok (.ifCond .eq 16, 3) := by decide +kernel
theorem dX8_ofName_25 : decode cX8_ofName 25 = .ok (.iconst 0, 1) := by decide +kernel
theorem dX8_ofName_26 : decode cX8_ofName 26 = .ok (.invokestatic 95, 3) := by decide +kernel
theorem dX8_ofName_12 : decode cX8_ofName 12 = .ok (.iload_n 3, 1) := by decide +kernel
theorem dX8_ofName_13 : decode cX8_ofName 13 = .ok (.ifCond .lt 12, 3) := by decide +kernel
theorem dX8_ofName_16 : decode cX8_ofName 16 = .ok (.iload_n 3, 1) := by decide +kernel
theorem dX8_ofName_17 : decode cX8_ofName 17 = .ok (.iconst 4, 1) := by decide +kernel
theorem dX8_ofName_18 : decode cX8_ofName 18 = .ok (.if_icmp .gt 7, 3) := by decide +kernel
theorem dX1_declarer_0 : decode cX1_declarer 0 = .ok (.iload_n 1, 1) := by decide +kernel
theorem dX1_declarer_1 : decode cX1_declarer 1 = .ok (.istore_n 3, 1) := by decide +kernel
theorem dX1_declarer_2 : decode cX1_declarer 2 = .ok (.iconst 0, 1) := by decide +kernel
theorem dX1_declarer_3 : decode cX1_declarer 3 = .ok (.istore 4, 2) := by decide +kernel
theorem dX1_declarer_5 : decode cX1_declarer 5 = .ok (.iload 4, 2) := by decide +kernel
theorem dX1_declarer_7 : decode cX1_declarer 7 = .ok (.bipush 10, 2) := by decide +kernel
theorem dX1_declarer_9 : decode cX1_declarer 9 = .ok (.if_icmp .ge 32, 3) := by decide +kernel
theorem dX1_declarer_12 : decode cX1_declarer 12 = .ok (.iload_n 3, 1) := by decide +kernel
theorem dX1_declarer_13 : decode cX1_declarer 13 = .ok (.iconst (-1), 1) := by decide +kernel
theorem dX1_declarer_14 : decode cX1_declarer 14 = .ok (.if_icmp .eq 27, 3) := by decide +kernel
theorem dX1_declarer_17 : decode cX1_declarer 17 = .ok (.aload_n 0, 1) := by decide +kernel
theorem dX1_declarer_18 : decode cX1_declarer 18 = .ok (.iload_n 3, 1) := by decide +kernel
theorem dX1_declarer_19 : decode cX1_declarer 19 = .ok (.iload_n 2, 1) := by decide +kernel
theorem dX1_declarer_20 : decode cX1_declarer 20 = .ok (.invokevirtual 55, 3) := by decide +kernel
theorem dX1_declarer_23 : decode cX1_declarer 23 = .ok (.ifCond .eq 5, 3) := by decide +kernel
theorem dX1_declarer_28 : decode cX1_declarer 28 = .ok (.aload_n 0, 1) := by decide +kernel
theorem dX1_declarer_29 : decode cX1_declarer 29 = .ok (.getfield 15, 3) := by decide +kernel
theorem dX1_declarer_32 : decode cX1_declarer 32 = .ok (.iload_n 3, 1) := by decide +kernel
theorem dX1_declarer_33 : decode cX1_declarer 33 = .ok (.iaload, 1) := by decide +kernel
theorem dX1_declarer_34 : decode cX1_declarer 34 = .ok (.istore_n 3, 1) := by decide +kernel
theorem dX1_declarer_35 : decode cX1_declarer 35 = .ok (.iinc 4 1, 3) := by decide +kernel
theorem dX1_declarer_38 : decode cX1_declarer 38 = .ok (.goto (-33), 3) := by decide +kernel
theorem dX1_declarer_41 : decode cX1_declarer 41 = .ok (.iconst (-1), 1) := by decide +kernel
theorem dX1_declarer_42 : decode cX1_declarer 42 = .ok (.ireturn, 1) := by decide +kernel
theorem dX8_ofName_21 : decode cX8_ofName 21 = .ok (.iconst 1, 1) := by decide +kernel
theorem dX8_ofName_22 : decode cX8_ofName 22 = .ok (.goto 4, 3) := by decide +kernel
theorem dX8_ofName_29 : decode cX8_ofName 29 = .ok (.aload_n 0, 1) := by decide +kernel
theorem dX8_ofName_30 : decode cX8_ofName 30 = .ok (.getfield 12, 3) := by decide +kernel
theorem dX8_ofName_33 : decode cX8_ofName 33 = .ok (.iload_n 1, 1) := by decide +kernel
theorem dX8_ofName_34 : decode cX8_ofName 34 = .ok (.iload_n 2, 1) := by decide +kernel
theorem dX8_ofName_35 : decode cX8_ofName 35 = .ok (.invokevirtual 130, 3) := by decide +kernel
theorem dX8_ofName_38 : decode cX8_ofName 38 = .ok (.istore 4, 2) := by decide +kernel
theorem dX8_ofName_40 : decode cX8_ofName 40 = .ok (.iload 4, 2) := by decide +kernel
theorem dX8_ofName_42 : decode cX8_ofName 42 = .ok (.iconst (-1), 1) := by decide +kernel
theorem dX8_ofName_43 : decode cX8_ofName 43 = .ok (.if_icmp .ne 5, 3) := by decide +kernel
theorem dX8_ofName_46 : decode cX8_ofName 46 = .ok (.iconst (-1), 1) := by decide +kernel
theorem dX8_ofName_47 : decode cX8_ofName 47 = .ok (.ireturn, 1) := by decide +kernel
theorem dX8_ofProcedure_0 : decode cX8_ofProcedure 0 = .ok (.aload_n 0, 1) := by decide +kernel
theorem dX8_ofProcedure_1 : decode cX8_ofProcedure 1 = .ok (.iload_n 1, 1) := by decide +kernel
theorem dX8_ofProcedure_2 : decode cX8_ofProcedure 2 = .ok (.invokevirtual 87, 3) := by decide +kernel
theorem dX8_ofProcedure_5 : decode cX8_ofProcedure 5 = .ok (.iload_n 2, 1) := by decide +kernel
theorem dX8_ofProcedure_6 : decode cX8_ofProcedure 6 = .ok (.ifCond .lt 13, 3) := by decide +kernel
theorem dX8_ofProcedure_19 : decode cX8_ofProcedure 19 = .ok (.iconst 0, 1) := by decide +kernel
theorem dX8_ofProcedure_20 : decode cX8_ofProcedure 20 = .ok (.invokestatic 95, 3) := by decide +kernel
theorem dX8_ofProcedure_9 : decode cX8_ofProcedure 9 = .ok (.iload_n 2, 1) := by decide +kernel
theorem dX8_ofProcedure_10 : decode cX8_ofProcedure 10 = .ok (.bipush 7, 2) := by decide +kernel
theorem dX8_ofProcedure_12 : decode cX8_ofProcedure 12 = .ok (.if_icmp .gt 7, 3) := by decide +kernel
theorem dX4_findWhereNodesAre_0 : decode cX4_findWhereNodesAre 0 = .ok (.aload_n 0, 1) := by decide +kernel
theorem dX4_findWhereNodesAre_1 : decode cX4_findWhereNodesAre 1 = .ok (.getfield 69, 3) := by decide +kernel
theorem dX4_findWhereNodesAre_4 : decode cX4_findWhereNodesAre 4 = .ok (.getfield 76, 3) := by decide +kernel
theorem dX4_findWhereNodesAre_7 : decode cX4_findWhereNodesAre 7 = .ok (.iconst 1, 1) := by decide +kernel
theorem dX4_findWhereNodesAre_8 : decode cX4_findWhereNodesAre 8 = .ok (.isub, 1) := by decide +kernel
theorem dX4_findWhereNodesAre_9 : decode cX4_findWhereNodesAre 9 = .ok (.istore_n 1, 1) := by decide +kernel
theorem dX4_findWhereNodesAre_10 : decode cX4_findWhereNodesAre 10 = .ok (.iload_n 1, 1) := by decide +kernel
theorem dX4_findWhereNodesAre_11 : decode cX4_findWhereNodesAre 11 = .ok (.ifCond .lt 77, 3) := by decide +kernel
theorem dX4_findWhereNodesAre_88 : decode cX4_findWhereNodesAre 88 = .ok (.return_, 1) := by decide +kernel
theorem dX4_findHandedOn_0 : decode cX4_findHandedOn 0 = .ok (.aload_n 0, 1) := by decide +kernel
theorem dX4_findHandedOn_1 : decode cX4_findHandedOn 1 = .ok (.getfield 49, 3) := by decide +kernel
theorem dX4_findHandedOn_4 : decode cX4_findHandedOn 4 = .ok (.iconst 0, 1) := by decide +kernel
theorem dX4_findHandedOn_5 : decode cX4_findHandedOn 5 = .ok (.invokestatic 163, 3) := by decide +kernel
theorem dX4_findHandedOn_8 : decode cX4_findHandedOn 8 = .ok (.iconst 0, 1) := by decide +kernel
theorem dX4_findHandedOn_9 : decode cX4_findHandedOn 9 = .ok (.istore_n 1, 1) := by decide +kernel
theorem dX4_findHandedOn_10 : decode cX4_findHandedOn 10 = .ok (.iload_n 1, 1) := by decide +kernel
theorem dX4_findHandedOn_11 : decode cX4_findHandedOn 11 = .ok (.bipush 10, 2) := by decide +kernel
theorem dX4_findHandedOn_13 : decode cX4_findHandedOn 13 = .ok (.if_icmp .ge 16, 3) := by decide +kernel
theorem dX4_findHandedOn_16 : decode cX4_findHandedOn 16 = .ok (.aload_n 0, 1) := by decide +kernel
theorem dX4_findHandedOn_17 : decode cX4_findHandedOn 17 = .ok (.getfield 46, 3) := by decide +kernel
theorem dX4_findHandedOn_20 : decode cX4_findHandedOn 20 = .ok (.iload_n 1, 1) := by decide +kernel
theorem dX4_findHandedOn_21 : decode cX4_findHandedOn 21 = .ok (.iconst 0, 1) := by decide +kernel
theorem dX4_findHandedOn_22 : decode cX4_findHandedOn 22 = .ok (.bastore, 1) := by decide +kernel
theorem dX4_findHandedOn_23 : decode cX4_findHandedOn 23 = .ok (.iinc 1 1, 3) := by decide +kernel
theorem dX4_findHandedOn_26 : decode cX4_findHandedOn 26 = .ok (.goto (-16), 3) := by decide +kernel
theorem dX4_findHandedOn_29 : decode cX4_findHandedOn 29 = .ok (.iconst 0, 1) := by decide +kernel
theorem dX4_findHandedOn_30 : decode cX4_findHandedOn 30 = .ok (.istore_n 1, 1) := by decide +kernel
theorem dX4_findHandedOn_31 : decode cX4_findHandedOn 31 = .ok (.iload_n 1, 1) := by decide +kernel
theorem dX4_findHandedOn_32 : decode cX4_findHandedOn 32 = .ok (.aload_n 0, 1) := by decide +kernel
theorem dX4_findHandedOn_33 : decode cX4_findHandedOn 33 = .ok (.getfield 69, 3) := by decide +kernel
theorem dX4_findHandedOn_36 : decode cX4_findHandedOn 36 = .ok (.getfield 76, 3) := by decide +kernel
theorem dX4_findHandedOn_39 : decode cX4_findHandedOn 39 = .ok (.if_icmp .ge 46, 3) := by decide +kernel
theorem dX4_findHandedOn_85 : decode cX4_findHandedOn 85 = .ok (.return_, 1) := by decide +kernel
theorem dX4_findEscapes_0 : decode cX4_findEscapes 0 = .ok (.iconst 0, 1) := by decide +kernel
theorem dX4_findEscapes_1 : decode cX4_findEscapes 1 = .ok (.istore_n 1, 1) := by decide +kernel
theorem dX4_findEscapes_2 : decode cX4_findEscapes 2 = .ok (.iload_n 1, 1) := by decide +kernel
theorem dX4_findEscapes_3 : decode cX4_findEscapes 3 = .ok (.aload_n 0, 1) := by decide +kernel
theorem dX4_findEscapes_4 : decode cX4_findEscapes 4 = .ok (.getfield 69, 3) := by decide +kernel
theorem dX4_findEscapes_7 : decode cX4_findEscapes 7 = .ok (.getfield 76, 3) := by decide +kernel
theorem dX4_findEscapes_10 : decode cX4_findEscapes 10 = .ok (.if_icmp .ge 58, 3) := by decide +kernel
theorem dX4_findEscapes_68 : decode cX4_findEscapes 68 = .ok (.return_, 1) := by decide +kernel
theorem dX4_findLabels_0 : decode cX4_findLabels 0 = .ok (.aload_n 0, 1) := by decide +kernel
theorem dX4_findLabels_1 : decode cX4_findLabels 1 = .ok (.getfield 43, 3) := by decide +kernel
theorem dX4_findLabels_4 : decode cX4_findLabels 4 = .ok (.iconst 0, 1) := by decide +kernel
theorem dX4_findLabels_5 : decode cX4_findLabels 5 = .ok (.invokestatic 163, 3) := by decide +kernel
theorem dX4_findLabels_8 : decode cX4_findLabels 8 = .ok (.iconst 0, 1) := by decide +kernel
theorem dX4_findLabels_9 : decode cX4_findLabels 9 = .ok (.istore_n 1, 1) := by decide +kernel
theorem dX4_findLabels_10 : decode cX4_findLabels 10 = .ok (.iload_n 1, 1) := by decide +kernel
theorem dX4_findLabels_11 : decode cX4_findLabels 11 = .ok (.aload_n 0, 1) := by decide +kernel
theorem dX4_findLabels_12 : decode cX4_findLabels 12 = .ok (.getfield 69, 3) := by decide +kernel
theorem dX4_findLabels_15 : decode cX4_findLabels 15 = .ok (.getfield 76, 3) := by decide +kernel
theorem dX4_findLabels_18 : decode cX4_findLabels 18 = .ok (.if_icmp .ge 58, 3) := by decide +kernel
theorem dX4_findLabels_76 : decode cX4_findLabels 76 = .ok (.return_, 1) := by decide +kernel
theorem dX4_findModes_0 : decode cX4_findModes 0 = .ok (.iconst 0, 1) := by decide +kernel
theorem dX4_findModes_1 : decode cX4_findModes 1 = .ok (.istore_n 1, 1) := by decide +kernel
theorem dX4_findModes_2 : decode cX4_findModes 2 = .ok (.iload_n 1, 1) := by decide +kernel
theorem dX4_findModes_3 : decode cX4_findModes 3 = .ok (.aload_n 0, 1) := by decide +kernel
theorem dX4_findModes_4 : decode cX4_findModes 4 = .ok (.getfield 69, 3) := by decide +kernel
theorem dX4_findModes_7 : decode cX4_findModes 7 = .ok (.getfield 76, 3) := by decide +kernel
theorem dX4_findModes_10 : decode cX4_findModes 10 = .ok (.if_icmp .ge 118, 3) := by decide +kernel
theorem dX4_findModes_128 : decode cX4_findModes 128 = .ok (.return_, 1) := by decide +kernel
theorem dJ6_bitCount_0f7a4_0 : decode cJ6_bitCount_0f7a4 0 = .ok (.iload_n 0, 1) := by decide +kernel
theorem dJ6_bitCount_0f7a4_1 : decode cJ6_bitCount_0f7a4 1 = .ok (.iload_n 0, 1) := by decide +kernel
theorem dJ6_bitCount_0f7a4_2 : decode cJ6_bitCount_0f7a4 2 = .ok (.iconst 1, 1) := by decide +kernel
theorem dJ6_bitCount_0f7a4_3 : decode cJ6_bitCount_0f7a4 3 = .ok (.iushr, 1) := by decide +kernel
theorem dJ6_bitCount_0f7a4_4 : decode cJ6_bitCount_0f7a4 4 = .ok (.ldc_w 265, 3) := by decide +kernel
theorem dJ6_bitCount_0f7a4_7 : decode cJ6_bitCount_0f7a4 7 = .ok (.iand, 1) := by decide +kernel
theorem dJ6_bitCount_0f7a4_8 : decode cJ6_bitCount_0f7a4 8 = .ok (.isub, 1) := by decide +kernel
theorem dJ6_bitCount_0f7a4_9 : decode cJ6_bitCount_0f7a4 9 = .ok (.istore_n 0, 1) := by decide +kernel
theorem dJ6_bitCount_0f7a4_10 : decode cJ6_bitCount_0f7a4 10 = .ok (.iload_n 0, 1) := by decide +kernel
theorem dJ6_bitCount_0f7a4_11 : decode cJ6_bitCount_0f7a4 11 = .ok (.ldc_w 266, 3) := by decide +kernel
theorem dJ6_bitCount_0f7a4_14 : decode cJ6_bitCount_0f7a4 14 = .ok (.iand, 1) := by decide +kernel
theorem dJ6_bitCount_0f7a4_15 : decode cJ6_bitCount_0f7a4 15 = .ok (.iload_n 0, 1) := by decide +kernel
theorem dJ6_bitCount_0f7a4_16 : decode cJ6_bitCount_0f7a4 16 = .ok (.iconst 2, 1) := by decide +kernel
theorem dJ6_bitCount_0f7a4_17 : decode cJ6_bitCount_0f7a4 17 = .ok (.iushr, 1) := by decide +kernel
theorem dJ6_bitCount_0f7a4_18 : decode cJ6_bitCount_0f7a4 18 = .ok (.ldc_w 266, 3) := by decide +kernel
theorem dJ6_bitCount_0f7a4_21 : decode cJ6_bitCount_0f7a4 21 = .ok (.iand, 1) := by decide +kernel
theorem dJ6_bitCount_0f7a4_22 : decode cJ6_bitCount_0f7a4 22 = .ok (.iadd, 1) := by decide +kernel
theorem dJ6_bitCount_0f7a4_23 : decode cJ6_bitCount_0f7a4 23 = .ok (.istore_n 0, 1) := by decide +kernel
theorem dJ6_bitCount_0f7a4_24 : decode cJ6_bitCount_0f7a4 24 = .ok (.iload_n 0, 1) := by decide +kernel
theorem dJ6_bitCount_0f7a4_25 : decode cJ6_bitCount_0f7a4 25 = .ok (.iload_n 0, 1) := by decide +kernel
theorem dJ6_bitCount_0f7a4_26 : decode cJ6_bitCount_0f7a4 26 = .ok (.iconst 4, 1) := by decide +kernel
theorem dJ6_bitCount_0f7a4_27 : decode cJ6_bitCount_0f7a4 27 = .ok (.iushr, 1) := by decide +kernel
theorem dJ6_bitCount_0f7a4_28 : decode cJ6_bitCount_0f7a4 28 = .ok (.iadd, 1) := by decide +kernel
theorem dJ6_bitCount_0f7a4_29 : decode cJ6_bitCount_0f7a4 29 = .ok (.ldc_w 267, 3) := by decide +kernel
theorem dJ6_bitCount_0f7a4_32 : decode cJ6_bitCount_0f7a4 32 = .ok (.iand, 1) := by decide +kernel
theorem dJ6_bitCount_0f7a4_33 : decode cJ6_bitCount_0f7a4 33 = .ok (.istore_n 0, 1) := by decide +kernel
theorem dJ6_bitCount_0f7a4_34 : decode cJ6_bitCount_0f7a4 34 = .ok (.iload_n 0, 1) := by decide +kernel
theorem dJ6_bitCount_0f7a4_35 : decode cJ6_bitCount_0f7a4 35 = .ok (.iload_n 0, 1) := by decide +kernel
theorem dJ6_bitCount_0f7a4_36 : decode cJ6_bitCount_0f7a4 36 = .ok (.bipush 8, 2) := by decide +kernel
theorem dJ6_bitCount_0f7a4_38 : decode cJ6_bitCount_0f7a4 38 = .ok (.iushr, 1) := by decide +kernel
theorem dJ6_bitCount_0f7a4_39 : decode cJ6_bitCount_0f7a4 39 = .ok (.iadd, 1) := by decide +kernel
theorem dJ6_bitCount_0f7a4_40 : decode cJ6_bitCount_0f7a4 40 = .ok (.istore_n 0, 1) := by decide +kernel
theorem dJ6_bitCount_0f7a4_41 : decode cJ6_bitCount_0f7a4 41 = .ok (.iload_n 0, 1) := by decide +kernel
theorem dJ6_bitCount_0f7a4_42 : decode cJ6_bitCount_0f7a4 42 = .ok (.iload_n 0, 1) := by decide +kernel
theorem dJ6_bitCount_0f7a4_43 : decode cJ6_bitCount_0f7a4 43 = .ok (.bipush 16, 2) := by decide +kernel
theorem dJ6_bitCount_0f7a4_45 : decode cJ6_bitCount_0f7a4 45 = .ok (.iushr, 1) := by decide +kernel
theorem dJ6_bitCount_0f7a4_46 : decode cJ6_bitCount_0f7a4 46 = .ok (.iadd, 1) := by decide +kernel
theorem dJ6_bitCount_0f7a4_47 : decode cJ6_bitCount_0f7a4 47 = .ok (.istore_n 0, 1) := by decide +kernel
theorem dJ6_bitCount_0f7a4_48 : decode cJ6_bitCount_0f7a4 48 = .ok (.iload_n 0, 1) := by decide +kernel
theorem dJ6_bitCount_0f7a4_49 : decode cJ6_bitCount_0f7a4 49 = .ok (.bipush 63, 2) := by decide +kernel
theorem dJ6_bitCount_0f7a4_51 : decode cJ6_bitCount_0f7a4 51 = .ok (.iand, 1) := by decide +kernel
theorem dJ6_bitCount_0f7a4_52 : decode cJ6_bitCount_0f7a4 52 = .ok (.ireturn, 1) := by decide +kernel
theorem dX4_sumUp_0 : decode cX4_sumUp 0 = .ok (.aload_n 0, 1) := by decide +kernel
theorem dX4_sumUp_1 : decode cX4_sumUp 1 = .ok (.iconst 0, 1) := by decide +kernel
theorem dX4_sumUp_2 : decode cX4_sumUp 2 = .ok (.putfield 52, 3) := by decide +kernel
theorem dX4_sumUp_5 : decode cX4_sumUp 5 = .ok (.aload_n 0, 1) := by decide +kernel
theorem dX4_sumUp_6 : decode cX4_sumUp 6 = .ok (.iconst 0, 1) := by decide +kernel
theorem dX4_sumUp_7 : decode cX4_sumUp 7 = .ok (.putfield 56, 3) := by decide +kernel
theorem dX4_sumUp_10 : decode cX4_sumUp 10 = .ok (.aload_n 0, 1) := by decide +kernel
theorem dX4_sumUp_11 : decode cX4_sumUp 11 = .ok (.iconst 0, 1) := by decide +kernel
theorem dX4_sumUp_12 : decode cX4_sumUp 12 = .ok (.putfield 59, 3) := by decide +kernel
theorem dX4_sumUp_15 : decode cX4_sumUp 15 = .ok (.aload_n 0, 1) := by decide +kernel
theorem dX4_sumUp_16 : decode cX4_sumUp 16 = .ok (.iconst 0, 1) := by decide +kernel
theorem dX4_sumUp_17 : decode cX4_sumUp 17 = .ok (.putfield 62, 3) := by decide +kernel
theorem dX4_sumUp_20 : decode cX4_sumUp 20 = .ok (.iconst 0, 1) := by decide +kernel
theorem dX4_sumUp_21 : decode cX4_sumUp 21 = .ok (.istore_n 1, 1) := by decide +kernel
theorem dX4_sumUp_22 : decode cX4_sumUp 22 = .ok (.iload_n 1, 1) := by decide +kernel
theorem dX4_sumUp_23 : decode cX4_sumUp 23 = .ok (.aload_n 0, 1) := by decide +kernel
theorem dX4_sumUp_24 : decode cX4_sumUp 24 = .ok (.getfield 69, 3) := by decide +kernel
theorem dX4_sumUp_27 : decode cX4_sumUp 27 = .ok (.getfield 76, 3) := by decide +kernel
theorem dX4_sumUp_30 : decode cX4_sumUp 30 = .ok (.if_icmp .ge 78, 3) := by decide +kernel
theorem dX4_sumUp_108 : decode cX4_sumUp 108 = .ok (.iconst 0, 1) := by decide +kernel
theorem dX4_sumUp_109 : decode cX4_sumUp 109 = .ok (.istore_n 1, 1) := by decide +kernel
theorem dX4_sumUp_110 : decode cX4_sumUp 110 = .ok (.iload_n 1, 1) := by decide +kernel
theorem dX4_sumUp_111 : decode cX4_sumUp 111 = .ok (.aload_n 0, 1) := by decide +kernel
theorem dX4_sumUp_112 : decode cX4_sumUp 112 = .ok (.getfield 65, 3) := by decide +kernel
theorem dX4_sumUp_115 : decode cX4_sumUp 115 = .ok (.getfield 191, 3) := by decide +kernel
theorem dX4_sumUp_118 : decode cX4_sumUp 118 = .ok (.if_icmp .ge 27, 3) := by decide +kernel
theorem dX4_sumUp_121 : decode cX4_sumUp 121 = .ok (.aload_n 0, 1) := by decide +kernel
theorem dX4_sumUp_122 : decode cX4_sumUp 122 = .ok (.dup, 1) := by decide +kernel
theorem dX4_sumUp_123 : decode cX4_sumUp 123 = .ok (.getfield 62, 3) := by decide +kernel
theorem dX4_sumUp_126 : decode cX4_sumUp 126 = .ok (.aload_n 0, 1) := by decide +kernel
theorem dX4_sumUp_127 : decode cX4_sumUp 127 = .ok (.getfield 49, 3) := by decide +kernel
theorem dX4_sumUp_130 : decode cX4_sumUp 130 = .ok (.iload_n 1, 1) := by decide +kernel
theorem dX4_sumUp_131 : decode cX4_sumUp 131 = .ok (.iaload, 1) := by decide +kernel
theorem dX4_sumUp_132 : decode cX4_sumUp 132 = .ok (.invokestatic 192, 3) := by decide +kernel
theorem dX4_sumUp_135 : decode cX4_sumUp 135 = .ok (.iadd, 1) := by decide +kernel
theorem dX4_sumUp_136 : decode cX4_sumUp 136 = .ok (.putfield 62, 3) := by decide +kernel
theorem dX4_sumUp_139 : decode cX4_sumUp 139 = .ok (.iinc 1 1, 3) := by decide +kernel
theorem dX4_sumUp_142 : decode cX4_sumUp 142 = .ok (.goto (-32), 3) := by decide +kernel
theorem dX4_sumUp_145 : decode cX4_sumUp 145 = .ok (.return_, 1) := by decide +kernel
theorem dX4_find_0 : decode cX4_find 0 = .ok (.aload_n 0, 1) := by decide +kernel
theorem dX4_find_1 : decode cX4_find 1 = .ok (.invokevirtual 73, 3) := by decide +kernel
theorem dX4_find_4 : decode cX4_find 4 = .ok (.iconst 0, 1) := by decide +kernel
theorem dX4_find_5 : decode cX4_find 5 = .ok (.istore_n 1, 1) := by decide +kernel
theorem dX4_find_6 : decode cX4_find 6 = .ok (.iload_n 1, 1) := by decide +kernel
theorem dX4_find_7 : decode cX4_find 7 = .ok (.aload_n 0, 1) := by decide +kernel
theorem dX4_find_8 : decode cX4_find 8 = .ok (.getfield 69, 3) := by decide +kernel
theorem dX4_find_11 : decode cX4_find 11 = .ok (.getfield 76, 3) := by decide +kernel
theorem dX4_find_14 : decode cX4_find 14 = .ok (.if_icmp .ge 19, 3) := by decide +kernel
theorem dX4_find_33 : decode cX4_find 33 = .ok (.aload_n 0, 1) := by decide +kernel
theorem dX4_find_34 : decode cX4_find 34 = .ok (.invokevirtual 88, 3) := by decide +kernel
theorem dX4_find_37 : decode cX4_find 37 = .ok (.aload_n 0, 1) := by decide +kernel
theorem dX4_find_38 : decode cX4_find 38 = .ok (.invokevirtual 91, 3) := by decide +kernel
theorem dX4_find_41 : decode cX4_find 41 = .ok (.aload_n 0, 1) := by decide +kernel
theorem dX4_find_42 : decode cX4_find 42 = .ok (.invokevirtual 94, 3) := by decide +kernel
theorem dX4_find_45 : decode cX4_find 45 = .ok (.iconst 0, 1) := by decide +kernel
theorem dX4_find_46 : decode cX4_find 46 = .ok (.istore_n 1, 1) := by decide +kernel
theorem dX4_find_47 : decode cX4_find 47 = .ok (.iload_n 1, 1) := by decide +kernel
theorem dX4_find_48 : decode cX4_find 48 = .ok (.aload_n 0, 1) := by decide +kernel
theorem dX4_find_49 : decode cX4_find 49 = .ok (.getfield 69, 3) := by decide +kernel
theorem dX4_find_52 : decode cX4_find 52 = .ok (.getfield 76, 3) := by decide +kernel
theorem dX4_find_55 : decode cX4_find 55 = .ok (.if_icmp .ge 56, 3) := by decide +kernel
theorem dX4_find_111 : decode cX4_find 111 = .ok (.aload_n 0, 1) := by decide +kernel
theorem dX4_find_112 : decode cX4_find 112 = .ok (.invokevirtual 108, 3) := by decide +kernel
theorem dX4_find_115 : decode cX4_find 115 = .ok (.aload_n 0, 1) := by decide +kernel
theorem dX4_find_116 : decode cX4_find 116 = .ok (.invokevirtual 111, 3) := by decide +kernel
theorem dX4_find_119 : decode cX4_find 119 = .ok (.return_, 1) := by decide +kernel
theorem dX2_tell_0 : decode cX2_tell 0 = .ok (.iload_n 1, 1) := by decide +kernel
theorem dX2_tell_1 : decode cX2_tell 1 = .ok (.ifCond .eq 55, 3) := by decide +kernel
theorem dX2_tell_4 : decode cX2_tell 4 = .ok (.aload_n 0, 1) := by decide +kernel
theorem dX2_tell_5 : decode cX2_tell 5 = .ok (.getfield 9, 3) := by decide +kernel
theorem dX2_tell_8 : decode cX2_tell 8 = .ok (.aload_n 0, 1) := by decide +kernel
theorem dX2_tell_9 : decode cX2_tell 9 = .ok (.getfield 15, 3) := by decide +kernel
theorem dX2_tell_12 : decode cX2_tell 12 = .ok (.arraylength, 1) := by decide +kernel
theorem dX2_tell_13 : decode cX2_tell 13 = .ok (.if_icmp .ge 43, 3) := by decide +kernel
theorem dX2_tell_16 : decode cX2_tell 16 = .ok (.aload_n 0, 1) := by decide +kernel
theorem dX2_tell_17 : decode cX2_tell 17 = .ok (.getfield 15, 3) := by decide +kernel
theorem dX2_tell_20 : decode cX2_tell 20 = .ok (.aload_n 0, 1) := by decide +kernel
theorem dX2_tell_21 : decode cX2_tell 21 = .ok (.getfield 9, 3) := by decide +kernel
theorem dX2_tell_24 : decode cX2_tell 24 = .ok (.iload_n 1, 1) := by decide +kernel
theorem dX2_tell_25 : decode cX2_tell 25 = .ok (.iastore, 1) := by decide +kernel
theorem dX2_tell_26 : decode cX2_tell 26 = .ok (.aload_n 0, 1) := by decide +kernel
theorem dX2_tell_27 : decode cX2_tell 27 = .ok (.getfield 19, 3) := by decide +kernel
theorem dX2_tell_30 : decode cX2_tell 30 = .ok (.aload_n 0, 1) := by decide +kernel
theorem dX2_tell_31 : decode cX2_tell 31 = .ok (.getfield 9, 3) := by decide +kernel
theorem dX2_tell_34 : decode cX2_tell 34 = .ok (.iload_n 2, 1) := by decide +kernel
theorem dX2_tell_35 : decode cX2_tell 35 = .ok (.iastore, 1) := by decide +kernel
theorem dX2_tell_36 : decode cX2_tell 36 = .ok (.aload_n 0, 1) := by decide +kernel
theorem dX2_tell_37 : decode cX2_tell 37 = .ok (.getfield 22, 3) := by decide +kernel
theorem dX2_tell_40 : decode cX2_tell 40 = .ok (.aload_n 0, 1) := by decide +kernel
theorem dX2_tell_41 : decode cX2_tell 41 = .ok (.getfield 9, 3) := by decide +kernel
theorem dX2_tell_44 : decode cX2_tell 44 = .ok (.iload_n 3, 1) := by decide +kernel
theorem dX2_tell_45 : decode cX2_tell 45 = .ok (.iastore, 1) := by decide +kernel
theorem dX2_tell_46 : decode cX2_tell 46 = .ok (.aload_n 0, 1) := by decide +kernel
theorem dX2_tell_47 : decode cX2_tell 47 = .ok (.dup, 1) := by decide +kernel
theorem dX2_tell_48 : decode cX2_tell 48 = .ok (.getfield 9, 3) := by decide +kernel
theorem dX2_tell_51 : decode cX2_tell 51 = .ok (.iconst 1, 1) := by decide +kernel
theorem dX2_tell_52 : decode cX2_tell 52 = .ok (.iadd, 1) := by decide +kernel
theorem dX2_tell_53 : decode cX2_tell 53 = .ok (.putfield 9, 3) := by decide +kernel
theorem dX2_tell_56 : decode cX2_tell 56 = .ok (.return_, 1) := by decide +kernel
theorem dX2_await_0 : decode cX2_await 0 = .ok (.iload_n 1, 1) := by decide +kernel
theorem dX2_await_1 : decode cX2_await 1 = .ok (.iconst (-1), 1) := by decide +kernel
theorem dX2_await_2 : decode cX2_await 2 = .ok (.if_icmp .eq 35, 3) := by decide +kernel
theorem dX2_await_37 : decode cX2_await 37 = .ok (.return_, 1) := by decide +kernel
theorem dX2_find_0 : decode cX2_find 0 = .ok (.aload_n 0, 1) := by decide +kernel
theorem dX2_find_1 : decode cX2_find 1 = .ok (.iconst 0, 1) := by decide +kernel
theorem dX2_find_2 : decode cX2_find 2 = .ok (.putfield 9, 3) := by decide +kernel
theorem dX2_find_5 : decode cX2_find 5 = .ok (.iconst 0, 1) := by decide +kernel
theorem dX2_find_6 : decode cX2_find 6 = .ok (.istore_n 1, 1) := by decide +kernel
theorem dX2_find_7 : decode cX2_find 7 = .ok (.iload_n 1, 1) := by decide +kernel
theorem dX2_find_8 : decode cX2_find 8 = .ok (.aload_n 0, 1) := by decide +kernel
theorem dX2_find_9 : decode cX2_find 9 = .ok (.getfield 31, 3) := by decide +kernel
theorem dX2_find_12 : decode cX2_find 12 = .ok (.getfield 43, 3) := by decide +kernel
theorem dX2_find_15 : decode cX2_find 15 = .ok (.if_icmp .ge 136, 3) := by decide +kernel
theorem dX2_find_18 : decode cX2_find 18 = .ok (.aload_n 0, 1) := by decide +kernel
theorem dX2_find_19 : decode cX2_find 19 = .ok (.getfield 31, 3) := by decide +kernel
theorem dX2_find_22 : decode cX2_find 22 = .ok (.getfield 46, 3) := by decide +kernel
theorem dX2_find_25 : decode cX2_find 25 = .ok (.iload_n 1, 1) := by decide +kernel
theorem dX2_find_26 : decode cX2_find 26 = .ok (.iaload, 1) := by decide +kernel
theorem dX2_find_27 : decode cX2_find 27 = .ok (.iconst (-1), 1) := by decide +kernel
theorem dX2_find_28 : decode cX2_find 28 = .ok (.if_icmp .ne 11, 3) := by decide +kernel
theorem dX2_find_31 : decode cX2_find 31 = .ok (.aload_n 0, 1) := by decide +kernel
theorem dX2_find_32 : decode cX2_find 32 = .ok (.bipush 10, 2) := by decide +kernel
theorem dX2_find_34 : decode cX2_find 34 = .ok (.iload_n 1, 1) := by decide +kernel
theorem dX2_find_35 : decode cX2_find 35 = .ok (.iconst (-1), 1) := by decide +kernel
theorem dX2_find_36 : decode cX2_find 36 = .ok (.invokevirtual 49, 3) := by decide +kernel
theorem dX2_find_39 : decode cX2_find 39 = .ok (.aload_n 0, 1) := by decide +kernel
theorem dX2_find_40 : decode cX2_find 40 = .ok (.iconst 0, 1) := by decide +kernel
theorem dX2_find_41 : decode cX2_find 41 = .ok (.putfield 28, 3) := by decide +kernel
theorem dX2_find_44 : decode cX2_find 44 = .ok (.aload_n 0, 1) := by decide +kernel
theorem dX2_find_45 : decode cX2_find 45 = .ok (.aload_n 0, 1) := by decide +kernel
theorem dX2_find_46 : decode cX2_find 46 = .ok (.getfield 31, 3) := by decide +kernel
theorem dX2_find_49 : decode cX2_find 49 = .ok (.getfield 46, 3) := by decide +kernel
theorem dX2_find_52 : decode cX2_find 52 = .ok (.iload_n 1, 1) := by decide +kernel
theorem dX2_find_53 : decode cX2_find 53 = .ok (.iaload, 1) := by decide +kernel
theorem dX2_find_54 : decode cX2_find 54 = .ok (.invokevirtual 53, 3) := by decide +kernel
theorem dX2_find_57 : decode cX2_find 57 = .ok (.iconst 0, 1) := by decide +kernel
theorem dX2_find_58 : decode cX2_find 58 = .ok (.istore_n 2, 1) := by decide +kernel
theorem dX2_find_59 : decode cX2_find 59 = .ok (.iload_n 2, 1) := by decide +kernel
theorem dX2_find_60 : decode cX2_find 60 = .ok (.bipush 110, 2) := by decide +kernel
theorem dX2_find_62 : decode cX2_find 62 = .ok (.if_icmp .ge 83, 3) := by decide +kernel
theorem dX2_find_65 : decode cX2_find 65 = .ok (.aload_n 0, 1) := by decide +kernel
theorem dX2_find_66 : decode cX2_find 66 = .ok (.getfield 28, 3) := by decide +kernel
theorem dX2_find_69 : decode cX2_find 69 = .ok (.ifCond .le 76, 3) := by decide +kernel
theorem dX2_find_145 : decode cX2_find 145 = .ok (.iinc 1 1, 3) := by decide +kernel
theorem dX2_find_148 : decode cX2_find 148 = .ok (.goto (-141), 3) := by decide +kernel
theorem dX2_find_151 : decode cX2_find 151 = .ok (.return_, 1) := by decide +kernel
theorem dX0_forget_0 : decode cX0_forget 0 = .ok (.aload_n 0, 1) := by decide +kernel
theorem dX0_forget_1 : decode cX0_forget 1 = .ok (.iconst (-1), 1) := by decide +kernel
theorem dX0_forget_2 : decode cX0_forget 2 = .ok (.putfield 9, 3) := by decide +kernel
theorem dX0_forget_5 : decode cX0_forget 5 = .ok (.return_, 1) := by decide +kernel
theorem dX8_refresh_0 : decode cX8_refresh 0 = .ok (.aload_n 0, 1) := by decide +kernel
theorem dX8_refresh_1 : decode cX8_refresh 1 = .ok (.getfield 70, 3) := by decide +kernel
theorem dX8_refresh_4 : decode cX8_refresh 4 = .ok (.ifCond .eq 36, 3) := by decide +kernel
theorem dX8_refresh_7 : decode cX8_refresh 7 = .ok (.aload_n 0, 1) := by decide +kernel
theorem dX8_refresh_8 : decode cX8_refresh 8 = .ok (.getfield 28, 3) := by decide +kernel
theorem dX8_refresh_11 : decode cX8_refresh 11 = .ok (.invokevirtual 335, 3) := by decide +kernel
theorem dX8_refresh_14 : decode cX8_refresh 14 = .ok (.aload_n 0, 1) := by decide +kernel
theorem dX8_refresh_15 : decode cX8_refresh 15 = .ok (.getfield 37, 3) := by decide +kernel
theorem dX8_refresh_18 : decode cX8_refresh 18 = .ok (.invokevirtual 338, 3) := by decide +kernel
theorem dX8_refresh_21 : decode cX8_refresh 21 = .ok (.aload_n 0, 1) := by decide +kernel
theorem dX8_refresh_22 : decode cX8_refresh 22 = .ok (.getfield 44, 3) := by decide +kernel
theorem dX8_refresh_25 : decode cX8_refresh 25 = .ok (.invokevirtual 339, 3) := by decide +kernel
theorem dX8_refresh_28 : decode cX8_refresh 28 = .ok (.aload_n 0, 1) := by decide +kernel
theorem dX8_refresh_29 : decode cX8_refresh 29 = .ok (.getfield 48, 3) := by decide +kernel
theorem dX8_refresh_32 : decode cX8_refresh 32 = .ok (.invokevirtual 339, 3) := by decide +kernel
theorem dX8_refresh_35 : decode cX8_refresh 35 = .ok (.aload_n 0, 1) := by decide +kernel
theorem dX8_refresh_36 : decode cX8_refresh 36 = .ok (.iconst 0, 1) := by decide +kernel
theorem dX8_refresh_37 : decode cX8_refresh 37 = .ok (.putfield 70, 3) := by decide +kernel
theorem dX8_refresh_40 : decode cX8_refresh 40 = .ok (.return_, 1) := by decide +kernel
theorem dX8_ofProcedure_15 : decode cX8_ofProcedure 15 = .ok (.iconst 1, 1) := by decide +kernel
theorem dX8_ofProcedure_16 : decode cX8_ofProcedure 16 = .ok (.goto 4, 3) := by decide +kernel
theorem dX8_ofProcedure_23 : decode cX8_ofProcedure 23 = .ok (.aload_n 0, 1) := by decide +kernel
theorem dX8_ofProcedure_24 : decode cX8_ofProcedure 24 = .ok (.invokevirtual 146, 3) := by decide +kernel
theorem dX8_ofProcedure_27 : decode cX8_ofProcedure 27 = .ok (.iload_n 2, 1) := by decide +kernel
theorem dX8_ofProcedure_28 : decode cX8_ofProcedure 28 = .ok (.tableswitch 122 0 6 #[44, 54, 64, 74, 84, 94, 112], 44) := by decide +kernel
theorem dX8_ofProcedure_72 : decode cX8_ofProcedure 72 = .ok (.aload_n 0, 1) := by decide +kernel
theorem dX8_ofProcedure_73 : decode cX8_ofProcedure 73 = .ok (.getfield 12, 3) := by decide +kernel
theorem dX8_ofProcedure_76 : decode cX8_ofProcedure 76 = .ok (.getfield 149, 3) := by decide +kernel
theorem dX8_ofProcedure_79 : decode cX8_ofProcedure 79 = .ok (.iload_n 1, 1) := by decide +kernel
theorem dX8_ofProcedure_80 : decode cX8_ofProcedure 80 = .ok (.iaload, 1) := by decide +kernel
theorem dX8_ofProcedure_81 : decode cX8_ofProcedure 81 = .ok (.ireturn, 1) := by decide +kernel
theorem dX8_ofProcedure_82 : decode cX8_ofProcedure 82 = .ok (.aload_n 0, 1) := by decide +kernel
theorem dX8_ofProcedure_83 : decode cX8_ofProcedure 83 = .ok (.getfield 12, 3) := by decide +kernel
theorem dX8_ofProcedure_86 : decode cX8_ofProcedure 86 = .ok (.getfield 152, 3) := by decide +kernel
theorem dX8_ofProcedure_89 : decode cX8_ofProcedure 89 = .ok (.iload_n 1, 1) := by decide +kernel
theorem dX8_ofProcedure_90 : decode cX8_ofProcedure 90 = .ok (.iaload, 1) := by decide +kernel
theorem dX8_ofProcedure_91 : decode cX8_ofProcedure 91 = .ok (.ireturn, 1) := by decide +kernel
theorem dX8_ofProcedure_92 : decode cX8_ofProcedure 92 = .ok (.aload_n 0, 1) := by decide +kernel
theorem dX8_ofProcedure_93 : decode cX8_ofProcedure 93 = .ok (.getfield 12, 3) := by decide +kernel
theorem dX8_ofProcedure_96 : decode cX8_ofProcedure 96 = .ok (.getfield 155, 3) := by decide +kernel
theorem dX8_ofProcedure_99 : decode cX8_ofProcedure 99 = .ok (.iload_n 1, 1) := by decide +kernel
theorem dX8_ofProcedure_100 : decode cX8_ofProcedure 100 = .ok (.iaload, 1) := by decide +kernel
theorem dX8_ofProcedure_101 : decode cX8_ofProcedure 101 = .ok (.ireturn, 1) := by decide +kernel
theorem dX8_ofProcedure_102 : decode cX8_ofProcedure 102 = .ok (.aload_n 0, 1) := by decide +kernel
theorem dX8_ofProcedure_103 : decode cX8_ofProcedure 103 = .ok (.getfield 12, 3) := by decide +kernel
theorem dX8_ofProcedure_106 : decode cX8_ofProcedure 106 = .ok (.getfield 158, 3) := by decide +kernel
theorem dX8_ofProcedure_109 : decode cX8_ofProcedure 109 = .ok (.iload_n 1, 1) := by decide +kernel
theorem dX8_ofProcedure_110 : decode cX8_ofProcedure 110 = .ok (.iaload, 1) := by decide +kernel
theorem dX8_ofProcedure_111 : decode cX8_ofProcedure 111 = .ok (.ireturn, 1) := by decide +kernel
theorem dX8_ofProcedure_112 : decode cX8_ofProcedure 112 = .ok (.aload_n 0, 1) := by decide +kernel
theorem dX8_ofProcedure_113 : decode cX8_ofProcedure 113 = .ok (.getfield 28, 3) := by decide +kernel
theorem dX8_ofProcedure_116 : decode cX8_ofProcedure 116 = .ok (.getfield 161, 3) := by decide +kernel
theorem dX8_ofProcedure_119 : decode cX8_ofProcedure 119 = .ok (.iload_n 1, 1) := by decide +kernel
theorem dX8_ofProcedure_120 : decode cX8_ofProcedure 120 = .ok (.iaload, 1) := by decide +kernel
theorem dX8_ofProcedure_121 : decode cX8_ofProcedure 121 = .ok (.ireturn, 1) := by decide +kernel
theorem dX8_ofProcedure_122 : decode cX8_ofProcedure 122 = .ok (.aload_n 0, 1) := by decide +kernel
theorem dX8_ofProcedure_123 : decode cX8_ofProcedure 123 = .ok (.getfield 28, 3) := by decide +kernel
theorem dX8_ofProcedure_126 : decode cX8_ofProcedure 126 = .ok (.getfield 164, 3) := by decide +kernel
theorem dX8_ofProcedure_129 : decode cX8_ofProcedure 129 = .ok (.iload_n 1, 1) := by decide +kernel
theorem dX8_ofProcedure_130 : decode cX8_ofProcedure 130 = .ok (.baload, 1) := by decide +kernel
theorem dX8_ofProcedure_131 : decode cX8_ofProcedure 131 = .ok (.ifCond .eq 7, 3) := by decide +kernel
theorem dX8_ofProcedure_138 : decode cX8_ofProcedure 138 = .ok (.iconst 0, 1) := by decide +kernel
theorem dX8_ofProcedure_139 : decode cX8_ofProcedure 139 = .ok (.ireturn, 1) := by decide +kernel
theorem dX8_ofProcedure_140 : decode cX8_ofProcedure 140 = .ok (.aload_n 0, 1) := by decide +kernel
theorem dX8_ofProcedure_141 : decode cX8_ofProcedure 141 = .ok (.getfield 12, 3) := by decide +kernel
theorem dX8_ofProcedure_144 : decode cX8_ofProcedure 144 = .ok (.getfield 168, 3) := by decide +kernel
theorem dX8_ofProcedure_147 : decode cX8_ofProcedure 147 = .ok (.iload_n 1, 1) := by decide +kernel
theorem dX8_ofProcedure_148 : decode cX8_ofProcedure 148 = .ok (.iaload, 1) := by decide +kernel
theorem dX8_ofProcedure_149 : decode cX8_ofProcedure 149 = .ok (.ireturn, 1) := by decide +kernel
theorem dX8_codeLength_0 : decode cX8_codeLength 0 = .ok (.aload_n 0, 1) := by decide +kernel
theorem dX8_codeLength_1 : decode cX8_codeLength 1 = .ok (.getfield 37, 3) := by decide +kernel
theorem dX8_codeLength_4 : decode cX8_codeLength 4 = .ok (.getfield 219, 3) := by decide +kernel
theorem dX8_codeLength_7 : decode cX8_codeLength 7 = .ok (.ifCond .eq 5, 3) := by decide +kernel
theorem dX8_codeLength_10 : decode cX8_codeLength 10 = .ok (.iconst 0, 1) := by decide +kernel
theorem dX8_codeLength_11 : decode cX8_codeLength 11 = .ok (.ireturn, 1) := by decide +kernel
theorem dX8_ofProcedure_150 : decode cX8_ofProcedure 150 = .ok (.aload_n 0, 1) := by decide +kernel
theorem dX8_ofProcedure_151 : decode cX8_ofProcedure 151 = .ok (.iload_n 1, 1) := by decide +kernel
theorem dX8_ofProcedure_152 : decode cX8_ofProcedure 152 = .ok (.invokevirtual 171, 3) := by decide +kernel
theorem dX8_ofProcedure_155 : decode cX8_ofProcedure 155 = .ok (.ireturn, 1) := by decide +kernel
theorem dX5_suits_0 : decode cX5_suits 0 = .ok (.iload_n 1, 1) := by decide +kernel
theorem dX5_suits_1 : decode cX5_suits 1 = .ok (.ifCond .lt 9, 3) := by decide +kernel
theorem dX5_suits_10 : decode cX5_suits 10 = .ok (.iconst 0, 1) := by decide +kernel
theorem dX5_suits_11 : decode cX5_suits 11 = .ok (.ireturn, 1) := by decide +kernel
theorem dX5_suits_4 : decode cX5_suits 4 = .ok (.iload_n 1, 1) := by decide +kernel
theorem dX5_suits_5 : decode cX5_suits 5 = .ok (.bipush 21, 2) := by decide +kernel
theorem dX5_suits_7 : decode cX5_suits 7 = .ok (.if_icmp .le 5, 3) := by decide +kernel
theorem dX8_node_0 : decode cX8_node 0 = .ok (.aload_n 0, 1) := by decide +kernel
theorem dX8_node_1 : decode cX8_node 1 = .ok (.getfield 19, 3) := by decide +kernel
theorem dX8_node_4 : decode cX8_node 4 = .ok (.iload_n 1, 1) := by decide +kernel
theorem dX8_node_5 : decode cX8_node 5 = .ok (.iload_n 2, 1) := by decide +kernel
theorem dX8_node_6 : decode cX8_node 6 = .ok (.iload_n 3, 1) := by decide +kernel
theorem dX8_node_7 : decode cX8_node 7 = .ok (.iload 4, 2) := by decide +kernel
theorem dX8_node_9 : decode cX8_node 9 = .ok (.invokevirtual 175, 3) := by decide +kernel
theorem dX8_node_12 : decode cX8_node 12 = .ok (.invokestatic 95, 3) := by decide +kernel
theorem dX5_fills_0 : decode cX5_fills 0 = .ok (.iload_n 1, 1) := by decide +kernel
theorem dX5_fills_1 : decode cX5_fills 1 = .ok (.tableswitch 118 0 7 #[47, 57, 77, 82, 118, 118, 98, 98], 47) := by decide +kernel
theorem dX5_fills_58 : decode cX5_fills 58 = .ok (.iload_n 2, 1) := by decide +kernel
theorem dX5_fills_59 : decode cX5_fills 59 = .ok (.sipush (-999), 3) := by decide +kernel
theorem dX5_fills_62 : decode cX5_fills 62 = .ok (.if_icmp .lt 14, 3) := by decide +kernel
theorem dX5_fills_76 : decode cX5_fills 76 = .ok (.iconst 0, 1) := by decide +kernel
theorem dX5_fills_77 : decode cX5_fills 77 = .ok (.ireturn, 1) := by decide +kernel
theorem dX5_fills_65 : decode cX5_fills 65 = .ok (.iload_n 2, 1) := by decide +kernel
theorem dX5_fills_66 : decode cX5_fills 66 = .ok (.sipush 999, 3) := by decide +kernel
theorem dX5_fills_69 : decode cX5_fills 69 = .ok (.if_icmp .gt 7, 3) := by decide +kernel
theorem dX5_suits_12 : decode cX5_suits 12 = .ok (.aload_n 0, 1) := by decide +kernel
theorem dX5_suits_13 : decode cX5_suits 13 = .ok (.getstatic 34, 3) := by decide +kernel
theorem dX5_suits_16 : decode cX5_suits 16 = .ok (.iload_n 1, 1) := by decide +kernel
theorem dX5_suits_17 : decode cX5_suits 17 = .ok (.iaload, 1) := by decide +kernel
theorem dX5_suits_18 : decode cX5_suits 18 = .ok (.iload_n 2, 1) := by decide +kernel
theorem dX5_suits_19 : decode cX5_suits 19 = .ok (.invokevirtual 43, 3) := by decide +kernel
theorem dX5_suits_22 : decode cX5_suits 22 = .ok (.ifCond .eq 90, 3) := by decide +kernel
theorem dX5_suits_112 : decode cX5_suits 112 = .ok (.iconst 0, 1) := by decide +kernel
theorem dX5_suits_113 : decode cX5_suits 113 = .ok (.ireturn, 1) := by decide +kernel
theorem dX5_fills_72 : decode cX5_fills 72 = .ok (.iconst 1, 1) := by decide +kernel
theorem dX5_fills_73 : decode cX5_fills 73 = .ok (.goto 4, 3) := by decide +kernel
theorem dX5_fills_48 : decode cX5_fills 48 = .ok (.iload_n 2, 1) := by decide +kernel
theorem dX5_fills_49 : decode cX5_fills 49 = .ok (.ifCond .ne 7, 3) := by decide +kernel
theorem dX5_fills_56 : decode cX5_fills 56 = .ok (.iconst 0, 1) := by decide +kernel
theorem dX5_fills_57 : decode cX5_fills 57 = .ok (.ireturn, 1) := by decide +kernel
theorem dX5_suits_25 : decode cX5_suits 25 = .ok (.aload_n 0, 1) := by decide +kernel
theorem dX5_suits_26 : decode cX5_suits 26 = .ok (.getstatic 37, 3) := by decide +kernel
theorem dX5_suits_29 : decode cX5_suits 29 = .ok (.iload_n 1, 1) := by decide +kernel
theorem dX5_suits_30 : decode cX5_suits 30 = .ok (.iaload, 1) := by decide +kernel
theorem dX5_suits_31 : decode cX5_suits 31 = .ok (.iload_n 3, 1) := by decide +kernel
theorem dX5_suits_32 : decode cX5_suits 32 = .ok (.invokevirtual 43, 3) := by decide +kernel
theorem dX5_suits_35 : decode cX5_suits 35 = .ok (.ifCond .eq 77, 3) := by decide +kernel
theorem dX5_fills_52 : decode cX5_fills 52 = .ok (.iconst 1, 1) := by decide +kernel
theorem dX5_fills_53 : decode cX5_fills 53 = .ok (.goto 4, 3) := by decide +kernel
theorem dX5_suits_38 : decode cX5_suits 38 = .ok (.aload_n 0, 1) := by decide +kernel
theorem dX5_suits_39 : decode cX5_suits 39 = .ok (.getstatic 40, 3) := by decide +kernel
theorem dX5_suits_42 : decode cX5_suits 42 = .ok (.iload_n 1, 1) := by decide +kernel
theorem dX5_suits_43 : decode cX5_suits 43 = .ok (.iaload, 1) := by decide +kernel
theorem dX5_suits_44 : decode cX5_suits 44 = .ok (.iload 4, 2) := by decide +kernel
theorem dX5_suits_46 : decode cX5_suits 46 = .ok (.invokevirtual 43, 3) := by decide +kernel
theorem dX5_suits_49 : decode cX5_suits 49 = .ok (.ifCond .eq 63, 3) := by decide +kernel
theorem dX5_isSamePart_0 : decode cX5_isSamePart 0 = .ok (.iload_n 0, 1) := by decide +kernel
theorem dX5_isSamePart_1 : decode cX5_isSamePart 1 = .ok (.iconst 4, 1) := by decide +kernel
theorem dX5_isSamePart_2 : decode cX5_isSamePart 2 = .ok (.if_icmp .lt 22, 3) := by decide +kernel
theorem dX5_isSamePart_24 : decode cX5_isSamePart 24 = .ok (.iconst 0, 1) := by decide +kernel
theorem dX5_isSamePart_25 : decode cX5_isSamePart 25 = .ok (.ireturn, 1) := by decide +kernel
theorem dX5_suits_52 : decode cX5_suits 52 = .ok (.getstatic 34, 3) := by decide +kernel
theorem dX5_suits_55 : decode cX5_suits 55 = .ok (.iload_n 1, 1) := by decide +kernel
theorem dX5_suits_56 : decode cX5_suits 56 = .ok (.iaload, 1) := by decide +kernel
theorem dX5_suits_57 : decode cX5_suits 57 = .ok (.iload_n 2, 1) := by decide +kernel
theorem dX5_suits_58 : decode cX5_suits 58 = .ok (.getstatic 37, 3) := by decide +kernel
theorem dX5_suits_61 : decode cX5_suits 61 = .ok (.iload_n 1, 1) := by decide +kernel
theorem dX5_suits_62 : decode cX5_suits 62 = .ok (.iaload, 1) := by decide +kernel
theorem dX5_suits_63 : decode cX5_suits 63 = .ok (.iload_n 3, 1) := by decide +kernel
theorem dX5_suits_64 : decode cX5_suits 64 = .ok (.invokestatic 47, 3) := by decide +kernel
theorem dX5_suits_67 : decode cX5_suits 67 = .ok (.ifCond .ne 45, 3) := by decide +kernel
theorem dX5_suits_70 : decode cX5_suits 70 = .ok (.getstatic 34, 3) := by decide +kernel
theorem dX5_suits_73 : decode cX5_suits 73 = .ok (.iload_n 1, 1) := by decide +kernel
theorem dX5_suits_74 : decode cX5_suits 74 = .ok (.iaload, 1) := by decide +kernel
theorem dX5_suits_75 : decode cX5_suits 75 = .ok (.iload_n 2, 1) := by decide +kernel
theorem dX5_suits_76 : decode cX5_suits 76 = .ok (.getstatic 40, 3) := by decide +kernel
theorem dX5_suits_79 : decode cX5_suits 79 = .ok (.iload_n 1, 1) := by decide +kernel
theorem dX5_suits_80 : decode cX5_suits 80 = .ok (.iaload, 1) := by decide +kernel
theorem dX5_suits_81 : decode cX5_suits 81 = .ok (.iload 4, 2) := by decide +kernel
theorem dX5_suits_83 : decode cX5_suits 83 = .ok (.invokestatic 47, 3) := by decide +kernel
theorem dX5_suits_86 : decode cX5_suits 86 = .ok (.ifCond .ne 26, 3) := by decide +kernel
theorem dX5_suits_89 : decode cX5_suits 89 = .ok (.getstatic 37, 3) := by decide +kernel
theorem dX5_suits_92 : decode cX5_suits 92 = .ok (.iload_n 1, 1) := by decide +kernel
theorem dX5_suits_93 : decode cX5_suits 93 = .ok (.iaload, 1) := by decide +kernel
theorem dX5_suits_94 : decode cX5_suits 94 = .ok (.iload_n 3, 1) := by decide +kernel
theorem dX5_suits_95 : decode cX5_suits 95 = .ok (.getstatic 40, 3) := by decide +kernel
theorem dX5_suits_98 : decode cX5_suits 98 = .ok (.iload_n 1, 1) := by decide +kernel
theorem dX5_suits_99 : decode cX5_suits 99 = .ok (.iaload, 1) := by decide +kernel
theorem dX5_suits_100 : decode cX5_suits 100 = .ok (.iload 4, 2) := by decide +kernel
theorem dX5_suits_102 : decode cX5_suits 102 = .ok (.invokestatic 47, 3) := by decide +kernel
theorem dX5_suits_105 : decode cX5_suits 105 = .ok (.ifCond .ne 7, 3) := by decide +kernel
theorem dX5_suits_108 : decode cX5_suits 108 = .ok (.iconst 1, 1) := by decide +kernel
theorem dX5_suits_109 : decode cX5_suits 109 = .ok (.goto 4, 3) := by decide +kernel
theorem dX5_partA_0 : decode cX5_partA 0 = .ok (.getstatic 34, 3) := by decide +kernel
theorem dX5_partA_3 : decode cX5_partA 3 = .ok (.aload_n 0, 1) := by decide +kernel
theorem dX5_partA_4 : decode cX5_partA 4 = .ok (.getfield 15, 3) := by decide +kernel
theorem dX5_partA_7 : decode cX5_partA 7 = .ok (.iload_n 1, 1) := by decide +kernel
theorem dX5_partA_8 : decode cX5_partA 8 = .ok (.iaload, 1) := by decide +kernel
theorem dX5_partA_9 : decode cX5_partA 9 = .ok (.iaload, 1) := by decide +kernel
theorem dX5_partA_10 : decode cX5_partA 10 = .ok (.iconst 4, 1) := by decide +kernel
theorem dX5_partA_11 : decode cX5_partA 11 = .ok (.if_icmp .lt 12, 3) := by decide +kernel
theorem dX5_partA_23 : decode cX5_partA 23 = .ok (.iconst (-1), 1) := by decide +kernel
theorem dX5_partA_24 : decode cX5_partA 24 = .ok (.ireturn, 1) := by decide +kernel
theorem dX5_claim_0 : decode cX5_claim 0 = .ok (.iload_n 1, 1) := by decide +kernel
theorem dX5_claim_1 : decode cX5_claim 1 = .ok (.iconst (-1), 1) := by decide +kernel
theorem dX5_claim_2 : decode cX5_claim 2 = .ok (.if_icmp .eq 10, 3) := by decide +kernel
theorem dX5_claim_12 : decode cX5_claim 12 = .ok (.return_, 1) := by decide +kernel
theorem dX5_partB_0 : decode cX5_partB 0 = .ok (.getstatic 37, 3) := by decide +kernel
theorem dX5_partB_3 : decode cX5_partB 3 = .ok (.aload_n 0, 1) := by decide +kernel
theorem dX5_partB_4 : decode cX5_partB 4 = .ok (.getfield 15, 3) := by decide +kernel
theorem dX5_partB_7 : decode cX5_partB 7 = .ok (.iload_n 1, 1) := by decide +kernel
theorem dX5_partB_8 : decode cX5_partB 8 = .ok (.iaload, 1) := by decide +kernel
theorem dX5_partB_9 : decode cX5_partB 9 = .ok (.iaload, 1) := by decide +kernel
theorem dX5_partB_10 : decode cX5_partB 10 = .ok (.iconst 4, 1) := by decide +kernel
theorem dX5_partB_11 : decode cX5_partB 11 = .ok (.if_icmp .lt 12, 3) := by decide +kernel
theorem dX5_partB_23 : decode cX5_partB 23 = .ok (.iconst (-1), 1) := by decide +kernel
theorem dX5_partB_24 : decode cX5_partB 24 = .ok (.ireturn, 1) := by decide +kernel
theorem dX5_partC_0 : decode cX5_partC 0 = .ok (.getstatic 40, 3) := by decide +kernel
theorem dX5_partC_3 : decode cX5_partC 3 = .ok (.aload_n 0, 1) := by decide +kernel
theorem dX5_partC_4 : decode cX5_partC 4 = .ok (.getfield 15, 3) := by decide +kernel
theorem dX5_partC_7 : decode cX5_partC 7 = .ok (.iload_n 1, 1) := by decide +kernel
theorem dX5_partC_8 : decode cX5_partC 8 = .ok (.iaload, 1) := by decide +kernel
theorem dX5_partC_9 : decode cX5_partC 9 = .ok (.iaload, 1) := by decide +kernel
theorem dX5_partC_10 : decode cX5_partC 10 = .ok (.iconst 4, 1) := by decide +kernel
theorem dX5_partC_11 : decode cX5_partC 11 = .ok (.if_icmp .lt 12, 3) := by decide +kernel
theorem dX5_partC_23 : decode cX5_partC 23 = .ok (.iconst (-1), 1) := by decide +kernel
theorem dX5_partC_24 : decode cX5_partC 24 = .ok (.ireturn, 1) := by decide +kernel
theorem dX5_add_0 : decode cX5_add 0 = .ok (.aload_n 0, 1) := by decide +kernel
theorem dX5_add_1 : decode cX5_add 1 = .ok (.getfield 9, 3) := by decide +kernel
theorem dX5_add_4 : decode cX5_add 4 = .ok (.istore 5, 2) := by decide +kernel
theorem dX5_add_6 : decode cX5_add 6 = .ok (.aload_n 0, 1) := by decide +kernel
theorem dX5_add_7 : decode cX5_add 7 = .ok (.dup, 1) := by decide +kernel
theorem dX5_add_8 : decode cX5_add 8 = .ok (.getfield 9, 3) := by decide +kernel
theorem dX5_add_11 : decode cX5_add 11 = .ok (.iconst 1, 1) := by decide +kernel
theorem dX5_add_12 : decode cX5_add 12 = .ok (.iadd, 1) := by decide +kernel
theorem dX5_add_13 : decode cX5_add 13 = .ok (.putfield 9, 3) := by decide +kernel
theorem dX5_add_16 : decode cX5_add 16 = .ok (.aload_n 0, 1) := by decide +kernel
theorem dX5_add_17 : decode cX5_add 17 = .ok (.getfield 15, 3) := by decide +kernel
theorem dX5_add_20 : decode cX5_add 20 = .ok (.iload 5, 2) := by decide +kernel
theorem dX5_add_22 : decode cX5_add 22 = .ok (.iload_n 1, 1) := by decide +kernel
theorem dX5_add_23 : decode cX5_add 23 = .ok (.iastore, 1) := by decide +kernel
theorem dX5_add_24 : decode cX5_add 24 = .ok (.aload_n 0, 1) := by decide +kernel
theorem dX5_add_25 : decode cX5_add 25 = .ok (.getfield 19, 3) := by decide +kernel
theorem dX5_add_28 : decode cX5_add 28 = .ok (.iload 5, 2) := by decide +kernel
theorem dX5_add_30 : decode cX5_add 30 = .ok (.iload_n 2, 1) := by decide +kernel
theorem dX5_add_31 : decode cX5_add 31 = .ok (.iastore, 1) := by decide +kernel
theorem dX5_add_32 : decode cX5_add 32 = .ok (.aload_n 0, 1) := by decide +kernel
theorem dX5_add_33 : decode cX5_add 33 = .ok (.getfield 22, 3) := by decide +kernel
theorem dX5_add_36 : decode cX5_add 36 = .ok (.iload 5, 2) := by decide +kernel
theorem dX5_add_38 : decode cX5_add 38 = .ok (.iload_n 3, 1) := by decide +kernel
theorem dX5_add_39 : decode cX5_add 39 = .ok (.iastore, 1) := by decide +kernel
theorem dX5_add_40 : decode cX5_add 40 = .ok (.aload_n 0, 1) := by decide +kernel
theorem dX5_add_41 : decode cX5_add 41 = .ok (.getfield 25, 3) := by decide +kernel
theorem dX5_add_44 : decode cX5_add 44 = .ok (.iload 5, 2) := by decide +kernel
theorem dX5_add_46 : decode cX5_add 46 = .ok (.iload 4, 2) := by decide +kernel
theorem dX5_add_48 : decode cX5_add 48 = .ok (.iastore, 1) := by decide +kernel
theorem dX5_add_49 : decode cX5_add 49 = .ok (.aload_n 0, 1) := by decide +kernel
theorem dX5_add_50 : decode cX5_add 50 = .ok (.getfield 28, 3) := by decide +kernel
theorem dX5_add_53 : decode cX5_add 53 = .ok (.iload 5, 2) := by decide +kernel
theorem dX5_add_55 : decode cX5_add 55 = .ok (.iconst (-1), 1) := by decide +kernel
theorem dX5_add_56 : decode cX5_add 56 = .ok (.iastore, 1) := by decide +kernel
theorem dX5_add_57 : decode cX5_add 57 = .ok (.aload_n 0, 1) := by decide +kernel
theorem dX5_add_58 : decode cX5_add 58 = .ok (.getfield 31, 3) := by decide +kernel
theorem dX5_add_61 : decode cX5_add 61 = .ok (.iload 5, 2) := by decide +kernel
theorem dX5_add_63 : decode cX5_add 63 = .ok (.iconst (-1), 1) := by decide +kernel
theorem dX5_add_64 : decode cX5_add 64 = .ok (.iastore, 1) := by decide +kernel
theorem dX5_add_65 : decode cX5_add 65 = .ok (.aload_n 0, 1) := by decide +kernel
theorem dX5_add_66 : decode cX5_add 66 = .ok (.aload_n 0, 1) := by decide +kernel
theorem dX5_add_67 : decode cX5_add 67 = .ok (.iload 5, 2) := by decide +kernel
theorem dX5_add_69 : decode cX5_add 69 = .ok (.invokevirtual 70, 3) := by decide +kernel
theorem dX5_add_72 : decode cX5_add 72 = .ok (.iload 5, 2) := by decide +kernel
theorem dX5_add_74 : decode cX5_add 74 = .ok (.invokevirtual 74, 3) := by decide +kernel
theorem dX5_add_77 : decode cX5_add 77 = .ok (.aload_n 0, 1) := by decide +kernel
theorem dX5_add_78 : decode cX5_add 78 = .ok (.aload_n 0, 1) := by decide +kernel
theorem dX5_add_79 : decode cX5_add 79 = .ok (.iload 5, 2) := by decide +kernel
theorem dX5_add_81 : decode cX5_add 81 = .ok (.invokevirtual 78, 3) := by decide +kernel
theorem dX5_add_84 : decode cX5_add 84 = .ok (.iload 5, 2) := by decide +kernel
theorem dX5_add_86 : decode cX5_add 86 = .ok (.invokevirtual 74, 3) := by decide +kernel
theorem dX5_add_89 : decode cX5_add 89 = .ok (.aload_n 0, 1) := by decide +kernel
theorem dX5_add_90 : decode cX5_add 90 = .ok (.aload_n 0, 1) := by decide +kernel
theorem dX5_add_91 : decode cX5_add 91 = .ok (.iload 5, 2) := by decide +kernel
theorem dX5_add_93 : decode cX5_add 93 = .ok (.invokevirtual 81, 3) := by decide +kernel
theorem dX5_add_96 : decode cX5_add 96 = .ok (.iload 5, 2) := by decide +kernel
theorem dX5_add_98 : decode cX5_add 98 = .ok (.invokevirtual 74, 3) := by decide +kernel
theorem dX5_add_101 : decode cX5_add 101 = .ok (.iload 5, 2) := by decide +kernel
theorem dX5_add_103 : decode cX5_add 103 = .ok (.ireturn, 1) := by decide +kernel
theorem dX8_node_15 : decode cX8_node 15 = .ok (.aload_n 0, 1) := by decide +kernel
theorem dX8_node_16 : decode cX8_node 16 = .ok (.getfield 19, 3) := by decide +kernel
theorem dX8_node_19 : decode cX8_node 19 = .ok (.getfield 179, 3) := by decide +kernel
theorem dX8_node_22 : decode cX8_node 22 = .ok (.bipush 110, 2) := by decide +kernel
theorem dX8_node_24 : decode cX8_node 24 = .ok (.if_icmp .ge 7, 3) := by decide +kernel
theorem dX8_node_27 : decode cX8_node 27 = .ok (.iconst 1, 1) := by decide +kernel
theorem dX8_node_28 : decode cX8_node 28 = .ok (.goto 4, 3) := by decide +kernel
theorem dX8_node_32 : decode cX8_node 32 = .ok (.invokestatic 106, 3) := by decide +kernel
theorem dX8_node_35 : decode cX8_node 35 = .ok (.aload_n 0, 1) := by decide +kernel
theorem dX8_node_36 : decode cX8_node 36 = .ok (.iconst 1, 1) := by decide +kernel
theorem dX8_node_37 : decode cX8_node 37 = .ok (.putfield 70, 3) := by decide +kernel
theorem dX8_node_40 : decode cX8_node 40 = .ok (.aload_n 0, 1) := by decide +kernel
theorem dX8_node_41 : decode cX8_node 41 = .ok (.getfield 19, 3) := by decide +kernel
theorem dX8_node_44 : decode cX8_node 44 = .ok (.iload_n 1, 1) := by decide +kernel
theorem dX8_node_45 : decode cX8_node 45 = .ok (.iload_n 2, 1) := by decide +kernel
theorem dX8_node_46 : decode cX8_node 46 = .ok (.iload_n 3, 1) := by decide +kernel
theorem dX8_node_47 : decode cX8_node 47 = .ok (.iload 4, 2) := by decide +kernel
theorem dX8_node_49 : decode cX8_node 49 = .ok (.invokevirtual 180, 3) := by decide +kernel
theorem dX8_node_52 : decode cX8_node 52 = .ok (.ireturn, 1) := by decide +kernel
theorem dX5_fills_78 : decode cX5_fills 78 = .ok (.iload_n 2, 1) := by decide +kernel
theorem dX5_fills_79 : decode cX5_fills 79 = .ok (.invokestatic 51, 3) := by decide +kernel
theorem dX5_fills_82 : decode cX5_fills 82 = .ok (.ireturn, 1) := by decide +kernel
theorem dX5_has_0 : decode cX5_has 0 = .ok (.iload_n 1, 1) := by decide +kernel
theorem dX5_has_1 : decode cX5_has 1 = .ok (.ifCond .lt 15, 3) := by decide +kernel
theorem dX5_has_16 : decode cX5_has 16 = .ok (.iconst 0, 1) := by decide +kernel
theorem dX5_has_17 : decode cX5_has 17 = .ok (.ireturn, 1) := by decide +kernel
theorem dX5_has_4 : decode cX5_has 4 = .ok (.iload_n 1, 1) := by decide +kernel
theorem dX5_has_5 : decode cX5_has 5 = .ok (.aload_n 0, 1) := by decide +kernel
theorem dX5_has_6 : decode cX5_has 6 = .ok (.getfield 9, 3) := by decide +kernel
theorem dX5_has_9 : decode cX5_has 9 = .ok (.if_icmp .ge 7, 3) := by decide +kernel
theorem dX5_isPartFor_0 : decode cX5_isPartFor 0 = .ok (.aload_n 0, 1) := by decide +kernel
theorem dX5_isPartFor_1 : decode cX5_isPartFor 1 = .ok (.iload_n 2, 1) := by decide +kernel
theorem dX5_isPartFor_2 : decode cX5_isPartFor 2 = .ok (.invokevirtual 58, 3) := by decide +kernel
theorem dX5_isPartFor_5 : decode cX5_isPartFor 5 = .ok (.ifCond .eq 11, 3) := by decide +kernel
theorem dX5_isPartFor_16 : decode cX5_isPartFor 16 = .ok (.iconst 0, 1) := by decide +kernel
theorem dX5_isPartFor_17 : decode cX5_isPartFor 17 = .ok (.ireturn, 1) := by decide +kernel
theorem dX5_fills_99 : decode cX5_fills 99 = .ok (.iload_n 2, 1) := by decide +kernel
theorem dX5_fills_100 : decode cX5_fills 100 = .ok (.iconst (-1), 1) := by decide +kernel
theorem dX5_fills_101 : decode cX5_fills 101 = .ok (.if_icmp .eq 12, 3) := by decide +kernel
theorem dX5_fills_104 : decode cX5_fills 104 = .ok (.aload_n 0, 1) := by decide +kernel
theorem dX5_fills_105 : decode cX5_fills 105 = .ok (.iload_n 1, 1) := by decide +kernel
theorem dX5_fills_106 : decode cX5_fills 106 = .ok (.iload_n 2, 1) := by decide +kernel
theorem dX5_fills_107 : decode cX5_fills 107 = .ok (.invokevirtual 55, 3) := by decide +kernel
theorem dX5_fills_110 : decode cX5_fills 110 = .ok (.ifCond .eq 7, 3) := by decide +kernel
theorem dX5_fills_117 : decode cX5_fills 117 = .ok (.iconst 0, 1) := by decide +kernel
theorem dX5_fills_118 : decode cX5_fills 118 = .ok (.ireturn, 1) := by decide +kernel
theorem dX5_fills_113 : decode cX5_fills 113 = .ok (.iconst 1, 1) := by decide +kernel
theorem dX5_fills_114 : decode cX5_fills 114 = .ok (.goto 4, 3) := by decide +kernel
theorem dX5_isSamePart_5 : decode cX5_isSamePart 5 = .ok (.iload_n 2, 1) := by decide +kernel
theorem dX5_isSamePart_6 : decode cX5_isSamePart 6 = .ok (.iconst 4, 1) := by decide +kernel
theorem dX5_isSamePart_7 : decode cX5_isSamePart 7 = .ok (.if_icmp .lt 17, 3) := by decide +kernel
theorem dX5_partB_14 : decode cX5_partB 14 = .ok (.aload_n 0, 1) := by decide +kernel
theorem dX5_partB_15 : decode cX5_partB 15 = .ok (.getfield 22, 3) := by decide +kernel
theorem dX5_partB_18 : decode cX5_partB 18 = .ok (.iload_n 1, 1) := by decide +kernel
theorem dX5_partB_19 : decode cX5_partB 19 = .ok (.iaload, 1) := by decide +kernel
theorem dX5_partB_20 : decode cX5_partB 20 = .ok (.goto 4, 3) := by decide +kernel
theorem dX5_fills_83 : decode cX5_fills 83 = .ok (.iload_n 2, 1) := by decide +kernel
theorem dX5_fills_84 : decode cX5_fills 84 = .ok (.ifCond .lt 13, 3) := by decide +kernel
theorem dX5_fills_97 : decode cX5_fills 97 = .ok (.iconst 0, 1) := by decide +kernel
theorem dX5_fills_98 : decode cX5_fills 98 = .ok (.ireturn, 1) := by decide +kernel
theorem dX5_fills_87 : decode cX5_fills 87 = .ok (.iload_n 2, 1) := by decide +kernel
theorem dX5_fills_88 : decode cX5_fills 88 = .ok (.bipush 10, 2) := by decide +kernel
theorem dX5_fills_90 : decode cX5_fills 90 = .ok (.if_icmp .ge 7, 3) := by decide +kernel
theorem dX5_fills_93 : decode cX5_fills 93 = .ok (.iconst 1, 1) := by decide +kernel
theorem dX5_fills_94 : decode cX5_fills 94 = .ok (.goto 4, 3) := by decide +kernel
theorem dX5_fills_119 : decode cX5_fills 119 = .ok (.aload_n 0, 1) := by decide +kernel
theorem dX5_fills_120 : decode cX5_fills 120 = .ok (.iload_n 1, 1) := by decide +kernel
theorem dX5_fills_121 : decode cX5_fills 121 = .ok (.iload_n 2, 1) := by decide +kernel
theorem dX5_fills_122 : decode cX5_fills 122 = .ok (.invokevirtual 55, 3) := by decide +kernel
theorem dX5_fills_125 : decode cX5_fills 125 = .ok (.ireturn, 1) := by decide +kernel
theorem dX8_needNode_0 : decode cX8_needNode 0 = .ok (.aload_n 0, 1) := by decide +kernel
theorem dX8_needNode_1 : decode cX8_needNode 1 = .ok (.getfield 19, 3) := by decide +kernel
theorem dX8_needNode_4 : decode cX8_needNode 4 = .ok (.iload_n 1, 1) := by decide +kernel
theorem dX8_needNode_5 : decode cX8_needNode 5 = .ok (.invokevirtual 361, 3) := by decide +kernel
theorem dX8_needNode_8 : decode cX8_needNode 8 = .ok (.ifCond .ne 14, 3) := by decide +kernel
theorem dX8_needNode_11 : decode cX8_needNode 11 = .ok (.new 354, 3) := by decide +kernel
theorem dX8_needNode_14 : decode cX8_needNode 14 = .ok (.dup, 1) := by decide +kernel
theorem dX8_needNode_15 : decode cX8_needNode 15 = .ok (.ldc_w 362, 3) := by decide +kernel
theorem dX8_needNode_18 : decode cX8_needNode 18 = .ok (.invokespecial 358, 3) := by decide +kernel
theorem dX8_needNode_21 : decode cX8_needNode 21 = .ok (.athrow, 1) := by decide +kernel
theorem dX8_body_0 : decode cX8_body 0 = .ok (.aload_n 0, 1) := by decide +kernel
theorem dX8_body_1 : decode cX8_body 1 = .ok (.iload_n 1, 1) := by decide +kernel
theorem dX8_body_2 : decode cX8_body 2 = .ok (.invokevirtual 87, 3) := by decide +kernel
theorem dX8_body_5 : decode cX8_body 5 = .ok (.aload_n 0, 1) := by decide +kernel
theorem dX8_body_6 : decode cX8_body 6 = .ok (.iload_n 2, 1) := by decide +kernel
theorem dX8_body_7 : decode cX8_body 7 = .ok (.invokevirtual 183, 3) := by decide +kernel
theorem dX8_ofNode_0 : decode cX8_ofNode 0 = .ok (.aload_n 0, 1) := by decide +kernel
theorem dX8_ofNode_1 : decode cX8_ofNode 1 = .ok (.iload_n 1, 1) := by decide +kernel
theorem dX8_ofNode_2 : decode cX8_ofNode 2 = .ok (.invokevirtual 183, 3) := by decide +kernel
theorem dX8_needPlace_0 : decode cX8_needPlace 0 = .ok (.iload_n 0, 1) := by decide +kernel
theorem dX8_needPlace_1 : decode cX8_needPlace 1 = .ok (.ifCond .ne 14, 3) := by decide +kernel
theorem dX8_needPlace_4 : decode cX8_needPlace 4 = .ok (.new 354, 3) := by decide +kernel
theorem dX8_needPlace_7 : decode cX8_needPlace 7 = .ok (.dup, 1) := by decide +kernel
theorem dX8_needPlace_8 : decode cX8_needPlace 8 = .ok (.ldc_w 364, 3) := by decide +kernel
theorem dX8_needPlace_11 : decode cX8_needPlace 11 = .ok (.invokespecial 358, 3) := by decide +kernel
theorem dX8_needPlace_14 : decode cX8_needPlace 14 = .ok (.athrow, 1) := by decide +kernel
theorem dX8_fault_0 : decode cX8_fault 0 = .ok (.aload_n 0, 1) := by decide +kernel
theorem dX8_fault_1 : decode cX8_fault 1 = .ok (.invokevirtual 146, 3) := by decide +kernel
theorem dX8_fault_4 : decode cX8_fault 4 = .ok (.iload_n 1, 1) := by decide +kernel
theorem dX8_fault_5 : decode cX8_fault 5 = .ok (.ifCond .lt 18, 3) := by decide +kernel
theorem dX8_fault_23 : decode cX8_fault 23 = .ok (.iconst 0, 1) := by decide +kernel
theorem dX8_fault_24 : decode cX8_fault 24 = .ok (.invokestatic 220, 3) := by decide +kernel
theorem dX8_fault_8 : decode cX8_fault 8 = .ok (.iload_n 1, 1) := by decide +kernel
theorem dX8_fault_9 : decode cX8_fault 9 = .ok (.aload_n 0, 1) := by decide +kernel
theorem dX8_fault_10 : decode cX8_fault 10 = .ok (.getfield 37, 3) := by decide +kernel
theorem dX8_fault_13 : decode cX8_fault 13 = .ok (.getfield 219, 3) := by decide +kernel
theorem dX8_fault_16 : decode cX8_fault 16 = .ok (.if_icmp .ge 7, 3) := by decide +kernel
theorem dX8_needPlace_15 : decode cX8_needPlace 15 = .ok (.return_, 1) := by decide +kernel
theorem dX8_fault_19 : decode cX8_fault 19 = .ok (.iconst 1, 1) := by decide +kernel
theorem dX8_fault_20 : decode cX8_fault 20 = .ok (.goto 4, 3) := by decide +kernel
theorem dX8_fault_27 : decode cX8_fault 27 = .ok (.iload_n 2, 1) := by decide +kernel
theorem dX8_fault_28 : decode cX8_fault 28 = .ok (.ifCond .lt 12, 3) := by decide +kernel
theorem dX8_fault_40 : decode cX8_fault 40 = .ok (.iconst 0, 1) := by decide +kernel
theorem dX8_fault_41 : decode cX8_fault 41 = .ok (.invokestatic 95, 3) := by decide +kernel
theorem dX8_fault_31 : decode cX8_fault 31 = .ok (.iload_n 2, 1) := by decide +kernel
theorem dX8_fault_32 : decode cX8_fault 32 = .ok (.iconst 2, 1) := by decide +kernel
theorem dX8_fault_33 : decode cX8_fault 33 = .ok (.if_icmp .gt 7, 3) := by decide +kernel
theorem dX8_fault_36 : decode cX8_fault 36 = .ok (.iconst 1, 1) := by decide +kernel
theorem dX8_fault_37 : decode cX8_fault 37 = .ok (.goto 4, 3) := by decide +kernel
theorem dX8_fault_44 : decode cX8_fault 44 = .ok (.iload_n 2, 1) := by decide +kernel
theorem dX8_fault_45 : decode cX8_fault 45 = .ok (.lookupswitch 47 #[(0, 27), (1, 37)], 27) := by decide +kernel
theorem dX8_fault_72 : decode cX8_fault 72 = .ok (.aload_n 0, 1) := by decide +kernel
theorem dX8_fault_73 : decode cX8_fault 73 = .ok (.getfield 37, 3) := by decide +kernel
theorem dX8_fault_76 : decode cX8_fault 76 = .ok (.getfield 223, 3) := by decide +kernel
theorem dX8_fault_79 : decode cX8_fault 79 = .ok (.iload_n 1, 1) := by decide +kernel
theorem dX8_fault_80 : decode cX8_fault 80 = .ok (.iaload, 1) := by decide +kernel
theorem dX8_fault_81 : decode cX8_fault 81 = .ok (.ireturn, 1) := by decide +kernel
theorem dX8_fault_82 : decode cX8_fault 82 = .ok (.aload_n 0, 1) := by decide +kernel
theorem dX8_fault_83 : decode cX8_fault 83 = .ok (.getfield 37, 3) := by decide +kernel
theorem dX8_fault_86 : decode cX8_fault 86 = .ok (.getfield 226, 3) := by decide +kernel
theorem dX8_fault_89 : decode cX8_fault 89 = .ok (.iload_n 1, 1) := by decide +kernel
theorem dX8_fault_90 : decode cX8_fault 90 = .ok (.iaload, 1) := by decide +kernel
theorem dX8_fault_91 : decode cX8_fault 91 = .ok (.ireturn, 1) := by decide +kernel
theorem dX8_fault_92 : decode cX8_fault 92 = .ok (.aload_n 0, 1) := by decide +kernel
theorem dX8_fault_93 : decode cX8_fault 93 = .ok (.getfield 37, 3) := by decide +kernel
theorem dX8_fault_96 : decode cX8_fault 96 = .ok (.getfield 229, 3) := by decide +kernel
theorem dX8_fault_99 : decode cX8_fault 99 = .ok (.iload_n 1, 1) := by decide +kernel
theorem dX8_fault_100 : decode cX8_fault 100 = .ok (.iaload, 1) := by decide +kernel
theorem dX8_fault_101 : decode cX8_fault 101 = .ok (.ireturn, 1) := by decide +kernel
theorem dX8_isPasses_0 : decode cX8_isPasses 0 = .ok (.iload_n 0, 1) := by decide +kernel
theorem dX8_isPasses_1 : decode cX8_isPasses 1 = .ok (.ifCond .lt 13, 3) := by decide +kernel
theorem dX8_isPasses_14 : decode cX8_isPasses 14 = .ok (.iconst 0, 1) := by decide +kernel
theorem dX8_isPasses_15 : decode cX8_isPasses 15 = .ok (.ireturn, 1) := by decide +kernel
theorem dX8_isPasses_4 : decode cX8_isPasses 4 = .ok (.iload_n 0, 1) := by decide +kernel
theorem dX8_isPasses_5 : decode cX8_isPasses 5 = .ok (.bipush 7, 2) := by decide +kernel
theorem dX8_isPasses_7 : decode cX8_isPasses 7 = .ok (.if_icmp .gt 7, 3) := by decide +kernel
theorem dX8_passes_0 : decode cX8_passes 0 = .ok (.iload_n 1, 1) := by decide +kernel
theorem dX8_passes_1 : decode cX8_passes 1 = .ok (.invokestatic 232, 3) := by decide +kernel
theorem dX8_passes_4 : decode cX8_passes 4 = .ok (.invokestatic 95, 3) := by decide +kernel
theorem dX8_isPasses_10 : decode cX8_isPasses 10 = .ok (.iconst 1, 1) := by decide +kernel
theorem dX8_isPasses_11 : decode cX8_isPasses 11 = .ok (.goto 4, 3) := by decide +kernel
theorem dX8_passes_7 : decode cX8_passes 7 = .ok (.aload_n 0, 1) := by decide +kernel
theorem dX8_passes_8 : decode cX8_passes 8 = .ok (.getfield 74, 3) := by decide +kernel
theorem dX8_passes_11 : decode cX8_passes 11 = .ok (.istore_n 2, 1) := by decide +kernel
theorem dX8_passes_12 : decode cX8_passes 12 = .ok (.aload_n 0, 1) := by decide +kernel
theorem dX8_passes_13 : decode cX8_passes 13 = .ok (.iload_n 1, 1) := by decide +kernel
theorem dX8_passes_14 : decode cX8_passes 14 = .ok (.putfield 74, 3) := by decide +kernel
theorem dX8_passes_17 : decode cX8_passes 17 = .ok (.iload_n 2, 1) := by decide +kernel
theorem dX8_passes_18 : decode cX8_passes 18 = .ok (.ireturn, 1) := by decide +kernel
theorem dX8_code_0 : decode cX8_code 0 = .ok (.aload_n 0, 1) := by decide +kernel
theorem dX8_code_1 : decode cX8_code 1 = .ok (.iload_n 1, 1) := by decide +kernel
theorem dX8_code_2 : decode cX8_code 2 = .ok (.invokevirtual 87, 3) := by decide +kernel
theorem dX8_code_5 : decode cX8_code 5 = .ok (.aload_n 0, 1) := by decide +kernel
theorem dX8_code_6 : decode cX8_code 6 = .ok (.invokevirtual 146, 3) := by decide +kernel
theorem dX8_code_9 : decode cX8_code 9 = .ok (.iload_n 2, 1) := by decide +kernel
theorem dX8_code_10 : decode cX8_code 10 = .ok (.ifCond .lt 16, 3) := by decide +kernel
theorem dX8_code_26 : decode cX8_code 26 = .ok (.iconst 0, 1) := by decide +kernel
theorem dX8_code_27 : decode cX8_code 27 = .ok (.invokestatic 220, 3) := by decide +kernel
theorem dX8_code_13 : decode cX8_code 13 = .ok (.iload_n 2, 1) := by decide +kernel
theorem dX8_code_14 : decode cX8_code 14 = .ok (.aload_n 0, 1) := by decide +kernel
theorem dX8_code_15 : decode cX8_code 15 = .ok (.iload_n 1, 1) := by decide +kernel
theorem dX8_code_16 : decode cX8_code 16 = .ok (.invokevirtual 171, 3) := by decide +kernel
theorem dX8_code_19 : decode cX8_code 19 = .ok (.if_icmp .ge 7, 3) := by decide +kernel
theorem dX8_areLimits_0 : decode cX8_areLimits 0 = .ok (.iload_n 0, 1) := by decide +kernel
theorem dX8_areLimits_1 : decode cX8_areLimits 1 = .ok (.iconst 1, 1) := by decide +kernel
theorem dX8_areLimits_2 : decode cX8_areLimits 2 = .ok (.if_icmp .lt 25, 3) := by decide +kernel
theorem dX8_areLimits_27 : decode cX8_areLimits 27 = .ok (.iconst 0, 1) := by decide +kernel
theorem dX8_areLimits_28 : decode cX8_areLimits 28 = .ok (.ireturn, 1) := by decide +kernel
theorem dX8_areLimits_5 : decode cX8_areLimits 5 = .ok (.iload_n 0, 1) := by decide +kernel
theorem dX8_areLimits_6 : decode cX8_areLimits 6 = .ok (.sipush 3000, 3) := by decide +kernel
theorem dX8_areLimits_9 : decode cX8_areLimits 9 = .ok (.if_icmp .gt 18, 3) := by decide +kernel
theorem dX8_limits_0 : decode cX8_limits 0 = .ok (.iload_n 1, 1) := by decide +kernel
theorem dX8_limits_1 : decode cX8_limits 1 = .ok (.iload_n 2, 1) := by decide +kernel
theorem dX8_limits_2 : decode cX8_limits 2 = .ok (.invokestatic 250, 3) := by decide +kernel
theorem dX8_limits_5 : decode cX8_limits 5 = .ok (.invokestatic 95, 3) := by decide +kernel
theorem dX8_areLimits_12 : decode cX8_areLimits 12 = .ok (.iload_n 1, 1) := by decide +kernel
theorem dX8_areLimits_13 : decode cX8_areLimits 13 = .ok (.iconst 1, 1) := by decide +kernel
theorem dX8_areLimits_14 : decode cX8_areLimits 14 = .ok (.if_icmp .lt 13, 3) := by decide +kernel
theorem dX8_areLimits_17 : decode cX8_areLimits 17 = .ok (.iload_n 1, 1) := by decide +kernel
theorem dX8_areLimits_18 : decode cX8_areLimits 18 = .ok (.bipush 40, 2) := by decide +kernel
theorem dX8_areLimits_20 : decode cX8_areLimits 20 = .ok (.if_icmp .gt 7, 3) := by decide +kernel
theorem dX8_areLimits_23 : decode cX8_areLimits 23 = .ok (.iconst 1, 1) := by decide +kernel
theorem dX8_areLimits_24 : decode cX8_areLimits 24 = .ok (.goto 4, 3) := by decide +kernel
theorem dX8_limits_8 : decode cX8_limits 8 = .ok (.aload_n 0, 1) := by decide +kernel
theorem dX8_limits_9 : decode cX8_limits 9 = .ok (.getfield 78, 3) := by decide +kernel
theorem dX8_limits_12 : decode cX8_limits 12 = .ok (.istore_n 3, 1) := by decide +kernel
theorem dX8_limits_13 : decode cX8_limits 13 = .ok (.aload_n 0, 1) := by decide +kernel
theorem dX8_limits_14 : decode cX8_limits 14 = .ok (.iload_n 1, 1) := by decide +kernel
theorem dX8_limits_15 : decode cX8_limits 15 = .ok (.putfield 78, 3) := by decide +kernel
theorem dX8_limits_18 : decode cX8_limits 18 = .ok (.aload_n 0, 1) := by decide +kernel
theorem dX8_limits_19 : decode cX8_limits 19 = .ok (.iload_n 2, 1) := by decide +kernel
theorem dX8_limits_20 : decode cX8_limits 20 = .ok (.putfield 81, 3) := by decide +kernel
theorem dX8_limits_23 : decode cX8_limits 23 = .ok (.iload_n 3, 1) := by decide +kernel
theorem dX8_limits_24 : decode cX8_limits 24 = .ok (.ireturn, 1) := by decide +kernel
theorem dX8_run_0 : decode cX8_run 0 = .ok (.aload_n 0, 1) := by decide +kernel
theorem dX8_run_1 : decode cX8_run 1 = .ok (.invokevirtual 146, 3) := by decide +kernel
theorem dX8_run_4 : decode cX8_run 4 = .ok (.aload_n 0, 1) := by decide +kernel
theorem dX8_run_5 : decode cX8_run 5 = .ok (.getfield 37, 3) := by decide +kernel
theorem dX8_run_8 : decode cX8_run 8 = .ok (.getfield 219, 3) := by decide +kernel
theorem dX8_run_11 : decode cX8_run 11 = .ok (.ifCond .ne 7, 3) := by decide +kernel
theorem dX8_run_18 : decode cX8_run 18 = .ok (.iconst 0, 1) := by decide +kernel
theorem dX8_run_19 : decode cX8_run 19 = .ok (.invokestatic 106, 3) := by decide +kernel
theorem dX8_ofRun_0 : decode cX8_ofRun 0 = .ok (.iload_n 1, 1) := by decide +kernel
theorem dX8_ofRun_1 : decode cX8_ofRun 1 = .ok (.ifCond .lt 13, 3) := by decide +kernel
theorem dX8_ofRun_14 : decode cX8_ofRun 14 = .ok (.iconst 0, 1) := by decide +kernel
theorem dX8_ofRun_15 : decode cX8_ofRun 15 = .ok (.invokestatic 95, 3) := by decide +kernel
theorem dX8_ofRun_4 : decode cX8_ofRun 4 = .ok (.iload_n 1, 1) := by decide +kernel
theorem dX8_ofRun_5 : decode cX8_ofRun 5 = .ok (.bipush 10, 2) := by decide +kernel
theorem dX8_ofRun_7 : decode cX8_ofRun 7 = .ok (.if_icmp .gt 7, 3) := by decide +kernel
theorem dX6_answer_0 : decode cX6_answer 0 = .ok (.iload_n 1, 1) := by decide +kernel
theorem dX6_answer_1 : decode cX6_answer 1 = .ok (.tableswitch 96 0 8 #[51, 56, 61, 66, 71, 76, 81, 86, 91], 51) := by decide +kernel
theorem dX6_answer_52 : decode cX6_answer 52 = .ok (.aload_n 0, 1) := by decide +kernel
theorem dX6_answer_53 : decode cX6_answer 53 = .ok (.getfield 9, 3) := by decide +kernel
theorem dX6_answer_56 : decode cX6_answer 56 = .ok (.ireturn, 1) := by decide +kernel
theorem dX8_ofRun_10 : decode cX8_ofRun 10 = .ok (.iconst 1, 1) := by decide +kernel
theorem dX8_ofRun_11 : decode cX8_ofRun 11 = .ok (.goto 4, 3) := by decide +kernel
theorem dX8_ofRun_18 : decode cX8_ofRun 18 = .ok (.iload_n 1, 1) := by decide +kernel
theorem dX8_ofRun_19 : decode cX8_ofRun 19 = .ok (.bipush 10, 2) := by decide +kernel
theorem dX8_ofRun_21 : decode cX8_ofRun 21 = .ok (.if_icmp .ne 10, 3) := by decide +kernel
theorem dX8_ofRun_31 : decode cX8_ofRun 31 = .ok (.aload_n 0, 1) := by decide +kernel
theorem dX8_ofRun_32 : decode cX8_ofRun 32 = .ok (.getfield 63, 3) := by decide +kernel
theorem dX8_ofRun_35 : decode cX8_ofRun 35 = .ok (.iload_n 1, 1) := by decide +kernel
theorem dX8_ofRun_36 : decode cX8_ofRun 36 = .ok (.invokevirtual 260, 3) := by decide +kernel
theorem dX8_ofRun_39 : decode cX8_ofRun 39 = .ok (.ireturn, 1) := by decide +kernel
theorem dX6_answer_57 : decode cX6_answer 57 = .ok (.aload_n 0, 1) := by decide +kernel
theorem dX6_answer_58 : decode cX6_answer 58 = .ok (.getfield 15, 3) := by decide +kernel
theorem dX6_answer_61 : decode cX6_answer 61 = .ok (.ireturn, 1) := by decide +kernel
theorem dX6_answer_62 : decode cX6_answer 62 = .ok (.aload_n 0, 1) := by decide +kernel
theorem dX6_answer_63 : decode cX6_answer 63 = .ok (.getfield 18, 3) := by decide +kernel
theorem dX6_answer_66 : decode cX6_answer 66 = .ok (.ireturn, 1) := by decide +kernel
theorem dX6_answer_67 : decode cX6_answer 67 = .ok (.aload_n 0, 1) := by decide +kernel
theorem dX6_answer_68 : decode cX6_answer 68 = .ok (.getfield 21, 3) := by decide +kernel
theorem dX6_answer_71 : decode cX6_answer 71 = .ok (.ireturn, 1) := by decide +kernel
theorem dX6_answer_72 : decode cX6_answer 72 = .ok (.aload_n 0, 1) := by decide +kernel
theorem dX6_answer_73 : decode cX6_answer 73 = .ok (.getfield 24, 3) := by decide +kernel
theorem dX6_answer_76 : decode cX6_answer 76 = .ok (.ireturn, 1) := by decide +kernel
theorem dX6_answer_77 : decode cX6_answer 77 = .ok (.aload_n 0, 1) := by decide +kernel
theorem dX6_answer_78 : decode cX6_answer 78 = .ok (.getfield 27, 3) := by decide +kernel
theorem dX6_answer_81 : decode cX6_answer 81 = .ok (.ireturn, 1) := by decide +kernel
theorem dX6_answer_82 : decode cX6_answer 82 = .ok (.aload_n 0, 1) := by decide +kernel
theorem dX6_answer_83 : decode cX6_answer 83 = .ok (.getfield 30, 3) := by decide +kernel
theorem dX6_answer_86 : decode cX6_answer 86 = .ok (.ireturn, 1) := by decide +kernel
theorem dX6_answer_87 : decode cX6_answer 87 = .ok (.aload_n 0, 1) := by decide +kernel
theorem dX6_answer_88 : decode cX6_answer 88 = .ok (.getfield 33, 3) := by decide +kernel
theorem dX6_answer_91 : decode cX6_answer 91 = .ok (.ireturn, 1) := by decide +kernel
theorem dX6_answer_92 : decode cX6_answer 92 = .ok (.aload_n 0, 1) := by decide +kernel
theorem dX6_answer_93 : decode cX6_answer 93 = .ok (.getfield 36, 3) := by decide +kernel
theorem dX6_answer_96 : decode cX6_answer 96 = .ok (.ireturn, 1) := by decide +kernel
theorem dX6_answer_97 : decode cX6_answer 97 = .ok (.aload_n 0, 1) := by decide +kernel
theorem dX6_answer_98 : decode cX6_answer 98 = .ok (.getfield 39, 3) := by decide +kernel
theorem dX6_answer_101 : decode cX6_answer 101 = .ok (.ireturn, 1) := by decide +kernel
theorem dX8_ofRun_24 : decode cX8_ofRun 24 = .ok (.aload_n 0, 1) := by decide +kernel
theorem dX8_ofRun_25 : decode cX8_ofRun 25 = .ok (.getfield 84, 3) := by decide +kernel
theorem dX8_ofRun_28 : decode cX8_ofRun 28 = .ok (.goto 11, 3) := by decide +kernel
theorem dX6_kept_0 : decode cX6_kept 0 = .ok (.aload_n 0, 1) := by decide +kernel
theorem dX6_kept_1 : decode cX6_kept 1 = .ok (.getfield 24, 3) := by decide +kernel
theorem dX6_kept_4 : decode cX6_kept 4 = .ok (.bipush 50, 2) := by decide +kernel
theorem dX6_kept_6 : decode cX6_kept 6 = .ok (.if_icmp .ge 10, 3) := by decide +kernel
theorem dX6_kept_9 : decode cX6_kept 9 = .ok (.aload_n 0, 1) := by decide +kernel
theorem dX6_kept_10 : decode cX6_kept 10 = .ok (.getfield 24, 3) := by decide +kernel
theorem dX6_kept_13 : decode cX6_kept 13 = .ok (.goto 5, 3) := by decide +kernel
theorem dX6_kept_18 : decode cX6_kept 18 = .ok (.ireturn, 1) := by decide +kernel
theorem dX8_printed_0 : decode cX8_printed 0 = .ok (.iload_n 1, 1) := by decide +kernel
theorem dX8_printed_1 : decode cX8_printed 1 = .ok (.ifCond .lt 18, 3) := by decide +kernel
theorem dX8_printed_19 : decode cX8_printed 19 = .ok (.iconst 0, 1) := by decide +kernel
theorem dX8_printed_20 : decode cX8_printed 20 = .ok (.invokestatic 220, 3) := by decide +kernel
theorem dX8_printed_4 : decode cX8_printed 4 = .ok (.iload_n 1, 1) := by decide +kernel
theorem dX8_printed_5 : decode cX8_printed 5 = .ok (.aload_n 0, 1) := by decide +kernel
theorem dX8_printed_6 : decode cX8_printed 6 = .ok (.getfield 63, 3) := by decide +kernel
theorem dX8_printed_9 : decode cX8_printed 9 = .ok (.invokevirtual 263, 3) := by decide +kernel
theorem dX8_printed_12 : decode cX8_printed 12 = .ok (.if_icmp .ge 7, 3) := by decide +kernel
theorem dX8_many_0 : decode cX8_many 0 = .ok (.iload_n 1, 1) := by decide +kernel
theorem dX8_many_1 : decode cX8_many 1 = .ok (.ifCond .lt 13, 3) := by decide +kernel
theorem dX8_many_14 : decode cX8_many 14 = .ok (.iconst 0, 1) := by decide +kernel
theorem dX8_many_15 : decode cX8_many 15 = .ok (.invokestatic 95, 3) := by decide +kernel
theorem dX8_many_4 : decode cX8_many 4 = .ok (.iload_n 1, 1) := by decide +kernel
theorem dX8_many_5 : decode cX8_many 5 = .ok (.bipush 10, 2) := by decide +kernel
theorem dX8_many_7 : decode cX8_many 7 = .ok (.if_icmp .gt 7, 3) := by decide +kernel
theorem dX8_many_10 : decode cX8_many 10 = .ok (.iconst 1, 1) := by decide +kernel
theorem dX8_many_11 : decode cX8_many 11 = .ok (.goto 4, 3) := by decide +kernel
theorem dX8_many_18 : decode cX8_many 18 = .ok (.aload_n 0, 1) := by decide +kernel
theorem dX8_many_19 : decode cX8_many 19 = .ok (.invokevirtual 146, 3) := by decide +kernel
theorem dX8_many_22 : decode cX8_many 22 = .ok (.iload_n 1, 1) := by decide +kernel
theorem dX8_many_23 : decode cX8_many 23 = .ok (.tableswitch 124 0 9 #[53, 61, 69, 77, 85, 93, 101, 109, 114, 119], 53) := by decide +kernel
theorem dX8_many_76 : decode cX8_many 76 = .ok (.aload_n 0, 1) := by decide +kernel
theorem dX8_many_77 : decode cX8_many 77 = .ok (.getfield 12, 3) := by decide +kernel
theorem dX8_many_80 : decode cX8_many 80 = .ok (.getfield 99, 3) := by decide +kernel
theorem dX8_many_83 : decode cX8_many 83 = .ok (.ireturn, 1) := by decide +kernel
theorem dX8_many_84 : decode cX8_many 84 = .ok (.aload_n 0, 1) := by decide +kernel
theorem dX8_many_85 : decode cX8_many 85 = .ok (.getfield 19, 3) := by decide +kernel
theorem dX8_many_88 : decode cX8_many 88 = .ok (.getfield 179, 3) := by decide +kernel
theorem dX8_many_91 : decode cX8_many 91 = .ok (.ireturn, 1) := by decide +kernel
theorem dX8_many_92 : decode cX8_many 92 = .ok (.aload_n 0, 1) := by decide +kernel
theorem dX8_many_93 : decode cX8_many 93 = .ok (.getfield 28, 3) := by decide +kernel
theorem dX8_many_96 : decode cX8_many 96 = .ok (.getfield 283, 3) := by decide +kernel
theorem dX8_many_99 : decode cX8_many 99 = .ok (.ireturn, 1) := by decide +kernel
theorem dX8_many_100 : decode cX8_many 100 = .ok (.aload_n 0, 1) := by decide +kernel
theorem dX8_many_101 : decode cX8_many 101 = .ok (.getfield 37, 3) := by decide +kernel
theorem dX8_many_104 : decode cX8_many 104 = .ok (.getfield 219, 3) := by decide +kernel
theorem dX8_many_107 : decode cX8_many 107 = .ok (.ireturn, 1) := by decide +kernel
theorem dX8_many_108 : decode cX8_many 108 = .ok (.aload_n 0, 1) := by decide +kernel
theorem dX8_many_109 : decode cX8_many 109 = .ok (.getfield 28, 3) := by decide +kernel
theorem dX8_many_112 : decode cX8_many 112 = .ok (.getfield 286, 3) := by decide +kernel
theorem dX8_many_115 : decode cX8_many 115 = .ok (.ireturn, 1) := by decide +kernel
theorem dX8_many_116 : decode cX8_many 116 = .ok (.aload_n 0, 1) := by decide +kernel
theorem dX8_many_117 : decode cX8_many 117 = .ok (.getfield 28, 3) := by decide +kernel
theorem dX8_many_120 : decode cX8_many 120 = .ok (.getfield 289, 3) := by decide +kernel
theorem dX8_many_123 : decode cX8_many 123 = .ok (.ireturn, 1) := by decide +kernel
theorem dX8_many_124 : decode cX8_many 124 = .ok (.aload_n 0, 1) := by decide +kernel
theorem dX8_many_125 : decode cX8_many 125 = .ok (.getfield 28, 3) := by decide +kernel
theorem dX8_many_128 : decode cX8_many 128 = .ok (.getfield 292, 3) := by decide +kernel
theorem dX8_many_131 : decode cX8_many 131 = .ok (.ireturn, 1) := by decide +kernel
theorem dX8_many_132 : decode cX8_many 132 = .ok (.aload_n 0, 1) := by decide +kernel
theorem dX8_many_133 : decode cX8_many 133 = .ok (.getfield 74, 3) := by decide +kernel
theorem dX8_many_136 : decode cX8_many 136 = .ok (.ireturn, 1) := by decide +kernel
theorem dX8_many_137 : decode cX8_many 137 = .ok (.aload_n 0, 1) := by decide +kernel
theorem dX8_many_138 : decode cX8_many 138 = .ok (.getfield 78, 3) := by decide +kernel
theorem dX8_many_141 : decode cX8_many 141 = .ok (.ireturn, 1) := by decide +kernel
theorem dX8_many_142 : decode cX8_many 142 = .ok (.aload_n 0, 1) := by decide +kernel
theorem dX8_many_143 : decode cX8_many 143 = .ok (.getfield 81, 3) := by decide +kernel
theorem dX8_many_146 : decode cX8_many 146 = .ok (.ireturn, 1) := by decide +kernel
theorem dX8_wholeCodeLength_0 : decode cX8_wholeCodeLength 0 = .ok (.aload_n 0, 1) := by decide +kernel
theorem dX8_wholeCodeLength_1 : decode cX8_wholeCodeLength 1 = .ok (.getfield 37, 3) := by decide +kernel
theorem dX8_wholeCodeLength_4 : decode cX8_wholeCodeLength 4 = .ok (.getfield 219, 3) := by decide +kernel
theorem dX8_wholeCodeLength_7 : decode cX8_wholeCodeLength 7 = .ok (.ifCond .eq 5, 3) := by decide +kernel
theorem dX8_wholeCodeLength_10 : decode cX8_wholeCodeLength 10 = .ok (.iconst 0, 1) := by decide +kernel
theorem dX8_wholeCodeLength_11 : decode cX8_wholeCodeLength 11 = .ok (.ireturn, 1) := by decide +kernel
theorem dX8_many_147 : decode cX8_many 147 = .ok (.aload_n 0, 1) := by decide +kernel
theorem dX8_many_148 : decode cX8_many 148 = .ok (.aload_n 0, 1) := by decide +kernel
theorem dX8_many_149 : decode cX8_many 149 = .ok (.getfield 74, 3) := by decide +kernel
theorem dX8_many_152 : decode cX8_many 152 = .ok (.invokevirtual 295, 3) := by decide +kernel
theorem dX8_many_155 : decode cX8_many 155 = .ok (.ireturn, 1) := by decide +kernel
theorem dX8_wouldRun_0 : decode cX8_wouldRun 0 = .ok (.iload_n 1, 1) := by decide +kernel
theorem dX8_wouldRun_1 : decode cX8_wouldRun 1 = .ok (.iload_n 2, 1) := by decide +kernel
theorem dX8_wouldRun_2 : decode cX8_wouldRun 2 = .ok (.invokestatic 250, 3) := by decide +kernel
theorem dX8_wouldRun_5 : decode cX8_wouldRun 5 = .ok (.ifCond .eq 17, 3) := by decide +kernel
theorem dX8_wouldRun_22 : decode cX8_wouldRun 22 = .ok (.iconst 0, 1) := by decide +kernel
theorem dX8_wouldRun_23 : decode cX8_wouldRun 23 = .ok (.invokestatic 95, 3) := by decide +kernel
theorem dX8_wouldRun_8 : decode cX8_wouldRun 8 = .ok (.iload_n 3, 1) := by decide +kernel
theorem dX8_wouldRun_9 : decode cX8_wouldRun 9 = .ok (.ifCond .lt 13, 3) := by decide +kernel
theorem dX8_wouldRun_12 : decode cX8_wouldRun 12 = .ok (.iload_n 3, 1) := by decide +kernel
theorem dX8_wouldRun_13 : decode cX8_wouldRun 13 = .ok (.bipush 9, 2) := by decide +kernel
theorem dX8_wouldRun_15 : decode cX8_wouldRun 15 = .ok (.if_icmp .gt 7, 3) := by decide +kernel
theorem dX8_wouldRun_18 : decode cX8_wouldRun 18 = .ok (.iconst 1, 1) := by decide +kernel
theorem dX8_wouldRun_19 : decode cX8_wouldRun 19 = .ok (.goto 4, 3) := by decide +kernel
theorem dX8_wouldRun_26 : decode cX8_wouldRun 26 = .ok (.aload_n 0, 1) := by decide +kernel
theorem dX8_wouldRun_27 : decode cX8_wouldRun 27 = .ok (.invokevirtual 146, 3) := by decide +kernel
theorem dX8_wouldRun_30 : decode cX8_wouldRun 30 = .ok (.aload_n 0, 1) := by decide +kernel
theorem dX8_wouldRun_31 : decode cX8_wouldRun 31 = .ok (.getfield 37, 3) := by decide +kernel
theorem dX8_wouldRun_34 : decode cX8_wouldRun 34 = .ok (.getfield 219, 3) := by decide +kernel
theorem dX8_wouldRun_37 : decode cX8_wouldRun 37 = .ok (.ifCond .ne 7, 3) := by decide +kernel
theorem dX8_wouldRun_44 : decode cX8_wouldRun 44 = .ok (.iconst 0, 1) := by decide +kernel
theorem dX8_wouldRun_45 : decode cX8_wouldRun 45 = .ok (.invokestatic 106, 3) := by decide +kernel
theorem dX8_with_0 : decode cX8_with 0 = .ok (.iload_n 1, 1) := by decide +kernel
theorem dX8_with_1 : decode cX8_with 1 = .ok (.invokestatic 232, 3) := by decide +kernel
theorem dX8_with_4 : decode cX8_with 4 = .ok (.ifCond .eq 16, 3) := by decide +kernel
theorem dX8_with_20 : decode cX8_with 20 = .ok (.iconst 0, 1) := by decide +kernel
theorem dX8_with_21 : decode cX8_with 21 = .ok (.invokestatic 95, 3) := by decide +kernel
theorem dX8_with_7 : decode cX8_with 7 = .ok (.iload_n 2, 1) := by decide +kernel
theorem dX8_with_8 : decode cX8_with 8 = .ok (.ifCond .lt 12, 3) := by decide +kernel
theorem dX8_with_11 : decode cX8_with 11 = .ok (.iload_n 2, 1) := by decide +kernel
theorem dX8_with_12 : decode cX8_with 12 = .ok (.iconst 2, 1) := by decide +kernel
theorem dX8_with_13 : decode cX8_with 13 = .ok (.if_icmp .gt 7, 3) := by decide +kernel
theorem dX8_with_16 : decode cX8_with 16 = .ok (.iconst 1, 1) := by decide +kernel
theorem dX8_with_17 : decode cX8_with 17 = .ok (.goto 4, 3) := by decide +kernel
theorem dX8_with_24 : decode cX8_with 24 = .ok (.aload_n 0, 1) := by decide +kernel
theorem dX8_with_25 : decode cX8_with 25 = .ok (.invokevirtual 146, 3) := by decide +kernel
theorem dX8_with_28 : decode cX8_with 28 = .ok (.aload_n 0, 1) := by decide +kernel
theorem dX8_with_29 : decode cX8_with 29 = .ok (.getfield 37, 3) := by decide +kernel
theorem dX8_with_32 : decode cX8_with 32 = .ok (.getfield 219, 3) := by decide +kernel
theorem dX8_with_35 : decode cX8_with 35 = .ok (.ifCond .ne 7, 3) := by decide +kernel
theorem dX8_with_42 : decode cX8_with 42 = .ok (.iconst 0, 1) := by decide +kernel
theorem dX8_with_43 : decode cX8_with 43 = .ok (.invokestatic 106, 3) := by decide +kernel
theorem dX8_hiddenBy_0 : decode cX8_hiddenBy 0 = .ok (.aload_n 0, 1) := by decide +kernel
theorem dX8_hiddenBy_1 : decode cX8_hiddenBy 1 = .ok (.iload_n 1, 1) := by decide +kernel
theorem dX8_hiddenBy_2 : decode cX8_hiddenBy 2 = .ok (.invokevirtual 87, 3) := by decide +kernel
theorem dX8_hiddenBy_5 : decode cX8_hiddenBy 5 = .ok (.iload_n 2, 1) := by decide +kernel
theorem dX8_hiddenBy_6 : decode cX8_hiddenBy 6 = .ok (.invokestatic 91, 3) := by decide +kernel
theorem dX8_hiddenBy_9 : decode cX8_hiddenBy 9 = .ok (.invokestatic 95, 3) := by decide +kernel
theorem dX4_reaching_0 : decode cX4_reaching 0 = .ok (.iconst 0, 1) := by decide +kernel
theorem dX4_reaching_1 : decode cX4_reaching 1 = .ok (.istore_n 3, 1) := by decide +kernel
theorem dX4_reaching_2 : decode cX4_reaching 2 = .ok (.iconst 0, 1) := by decide +kernel
theorem dX4_reaching_3 : decode cX4_reaching 3 = .ok (.istore 4, 2) := by decide +kernel
theorem dX4_reaching_5 : decode cX4_reaching 5 = .ok (.iload 4, 2) := by decide +kernel
theorem dX4_reaching_7 : decode cX4_reaching 7 = .ok (.aload_n 0, 1) := by decide +kernel
theorem dX4_reaching_8 : decode cX4_reaching 8 = .ok (.getfield 69, 3) := by decide +kernel
theorem dX4_reaching_11 : decode cX4_reaching 11 = .ok (.getfield 76, 3) := by decide +kernel
theorem dX4_reaching_14 : decode cX4_reaching 14 = .ok (.if_icmp .ge 119, 3) := by decide +kernel
theorem dX4_reaching_133 : decode cX4_reaching 133 = .ok (.iload_n 3, 1) := by decide +kernel
theorem dX4_reaching_134 : decode cX4_reaching 134 = .ok (.ireturn, 1) := by decide +kernel
theorem dX8_hiddenBy_12 : decode cX8_hiddenBy 12 = .ok (.aload_n 0, 1) := by decide +kernel
theorem dX8_hiddenBy_13 : decode cX8_hiddenBy 13 = .ok (.invokevirtual 146, 3) := by decide +kernel
theorem dX8_hiddenBy_16 : decode cX8_hiddenBy 16 = .ok (.aload_n 0, 1) := by decide +kernel
theorem dX8_hiddenBy_17 : decode cX8_hiddenBy 17 = .ok (.getfield 12, 3) := by decide +kernel
theorem dX8_hiddenBy_20 : decode cX8_hiddenBy 20 = .ok (.iload_n 1, 1) := by decide +kernel
theorem dX8_hiddenBy_21 : decode cX8_hiddenBy 21 = .ok (.iload_n 2, 1) := by decide +kernel
theorem dX8_hiddenBy_22 : decode cX8_hiddenBy 22 = .ok (.invokevirtual 102, 3) := by decide +kernel
theorem dX8_hiddenBy_25 : decode cX8_hiddenBy 25 = .ok (.ifCond .eq 7, 3) := by decide +kernel
theorem dX8_hiddenBy_32 : decode cX8_hiddenBy 32 = .ok (.aload_n 0, 1) := by decide +kernel
theorem dX8_hiddenBy_33 : decode cX8_hiddenBy 33 = .ok (.getfield 28, 3) := by decide +kernel
theorem dX8_hiddenBy_36 : decode cX8_hiddenBy 36 = .ok (.iload_n 1, 1) := by decide +kernel
theorem dX8_hiddenBy_37 : decode cX8_hiddenBy 37 = .ok (.iload_n 2, 1) := by decide +kernel
theorem dX8_hiddenBy_38 : decode cX8_hiddenBy 38 = .ok (.invokevirtual 304, 3) := by decide +kernel
theorem dX8_hiddenBy_41 : decode cX8_hiddenBy 41 = .ok (.ireturn, 1) := by decide +kernel
theorem dX8_digest_0 : decode cX8_digest 0 = .ok (.aload_n 0, 1) := by decide +kernel
theorem dX8_digest_1 : decode cX8_digest 1 = .ok (.invokevirtual 146, 3) := by decide +kernel
theorem dX8_digest_4 : decode cX8_digest 4 = .ok (.ldc2_w 307, 3) := by decide +kernel
theorem dX8_digest_7 : decode cX8_digest 7 = .ok (.lstore_n 1, 1) := by decide +kernel
theorem dX8_digest_8 : decode cX8_digest 8 = .ok (.iconst 0, 1) := by decide +kernel
theorem dX8_digest_9 : decode cX8_digest 9 = .ok (.istore_n 3, 1) := by decide +kernel
theorem dX8_digest_10 : decode cX8_digest 10 = .ok (.iload_n 3, 1) := by decide +kernel
theorem dX8_digest_11 : decode cX8_digest 11 = .ok (.bipush 10, 2) := by decide +kernel
theorem dX8_digest_13 : decode cX8_digest 13 = .ok (.if_icmp .gt 22, 3) := by decide +kernel
theorem dX8_digest_16 : decode cX8_digest 16 = .ok (.lload_n 1, 1) := by decide +kernel
theorem dX8_digest_17 : decode cX8_digest 17 = .ok (.ldc2_w 309, 3) := by decide +kernel
theorem dX8_digest_20 : decode cX8_digest 20 = .ok (.lmul, 1) := by decide +kernel
theorem dX8_digest_21 : decode cX8_digest 21 = .ok (.aload_n 0, 1) := by decide +kernel
theorem dX8_digest_22 : decode cX8_digest 22 = .ok (.iload_n 3, 1) := by decide +kernel
theorem dX8_digest_23 : decode cX8_digest 23 = .ok (.invokevirtual 311, 3) := by decide +kernel
theorem dX8_digest_26 : decode cX8_digest 26 = .ok (.i2l, 1) := by decide +kernel
theorem dX8_digest_27 : decode cX8_digest 27 = .ok (.ladd, 1) := by decide +kernel
theorem dX8_digest_28 : decode cX8_digest 28 = .ok (.lstore_n 1, 1) := by decide +kernel
theorem dX8_digest_29 : decode cX8_digest 29 = .ok (.iinc 3 1, 3) := by decide +kernel
theorem dX8_digest_32 : decode cX8_digest 32 = .ok (.goto (-22), 3) := by decide +kernel
theorem dX8_digest_35 : decode cX8_digest 35 = .ok (.iconst 0, 1) := by decide +kernel
theorem dX8_digest_36 : decode cX8_digest 36 = .ok (.istore_n 3, 1) := by decide +kernel
theorem dX8_digest_37 : decode cX8_digest 37 = .ok (.iload_n 3, 1) := by decide +kernel
theorem dX8_digest_38 : decode cX8_digest 38 = .ok (.aload_n 0, 1) := by decide +kernel
theorem dX8_digest_39 : decode cX8_digest 39 = .ok (.getfield 12, 3) := by decide +kernel
theorem dX8_digest_42 : decode cX8_digest 42 = .ok (.getfield 99, 3) := by decide +kernel
theorem dX8_digest_45 : decode cX8_digest 45 = .ok (.if_icmp .ge 117, 3) := by decide +kernel
theorem dX8_digest_48 : decode cX8_digest 48 = .ok (.iconst 0, 1) := by decide +kernel
theorem dX8_digest_49 : decode cX8_digest 49 = .ok (.istore 4, 2) := by decide +kernel
theorem dX8_digest_51 : decode cX8_digest 51 = .ok (.iload 4, 2) := by decide +kernel
theorem dX8_digest_53 : decode cX8_digest 53 = .ok (.bipush 7, 2) := by decide +kernel
theorem dX8_digest_55 : decode cX8_digest 55 = .ok (.if_icmp .gt 24, 3) := by decide +kernel
theorem dX8_digest_58 : decode cX8_digest 58 = .ok (.lload_n 1, 1) := by decide +kernel
theorem dX8_digest_59 : decode cX8_digest 59 = .ok (.ldc2_w 309, 3) := by decide +kernel
theorem dX8_digest_62 : decode cX8_digest 62 = .ok (.lmul, 1) := by decide +kernel
theorem dX8_digest_63 : decode cX8_digest 63 = .ok (.aload_n 0, 1) := by decide +kernel
theorem dX8_digest_64 : decode cX8_digest 64 = .ok (.iload_n 3, 1) := by decide +kernel
theorem dX8_digest_65 : decode cX8_digest 65 = .ok (.iload 4, 2) := by decide +kernel
theorem dX8_digest_67 : decode cX8_digest 67 = .ok (.invokevirtual 314, 3) := by decide +kernel
theorem dX8_digest_70 : decode cX8_digest 70 = .ok (.i2l, 1) := by decide +kernel
theorem dX8_digest_71 : decode cX8_digest 71 = .ok (.ladd, 1) := by decide +kernel
theorem dX8_digest_72 : decode cX8_digest 72 = .ok (.lstore_n 1, 1) := by decide +kernel
theorem dX8_digest_73 : decode cX8_digest 73 = .ok (.iinc 4 1, 3) := by decide +kernel
theorem dX8_digest_76 : decode cX8_digest 76 = .ok (.goto (-25), 3) := by decide +kernel
theorem dX8_digest_79 : decode cX8_digest 79 = .ok (.iconst 0, 1) := by decide +kernel
theorem dX8_digest_80 : decode cX8_digest 80 = .ok (.istore 4, 2) := by decide +kernel
theorem dX8_digest_82 : decode cX8_digest 82 = .ok (.iload 4, 2) := by decide +kernel
theorem dX8_digest_84 : decode cX8_digest 84 = .ok (.bipush 7, 2) := by decide +kernel
theorem dX8_digest_86 : decode cX8_digest 86 = .ok (.if_icmp .gt 24, 3) := by decide +kernel
theorem dX8_digest_89 : decode cX8_digest 89 = .ok (.lload_n 1, 1) := by decide +kernel
theorem dX8_digest_90 : decode cX8_digest 90 = .ok (.ldc2_w 309, 3) := by decide +kernel
theorem dX8_digest_93 : decode cX8_digest 93 = .ok (.lmul, 1) := by decide +kernel
theorem dX8_digest_94 : decode cX8_digest 94 = .ok (.aload_n 0, 1) := by decide +kernel
theorem dX8_digest_95 : decode cX8_digest 95 = .ok (.iload_n 3, 1) := by decide +kernel
theorem dX8_digest_96 : decode cX8_digest 96 = .ok (.iload 4, 2) := by decide +kernel
theorem dX8_digest_98 : decode cX8_digest 98 = .ok (.invokevirtual 317, 3) := by decide +kernel
theorem dX8_digest_101 : decode cX8_digest 101 = .ok (.i2l, 1) := by decide +kernel
theorem dX8_digest_102 : decode cX8_digest 102 = .ok (.ladd, 1) := by decide +kernel
theorem dX8_digest_103 : decode cX8_digest 103 = .ok (.lstore_n 1, 1) := by decide +kernel
theorem dX8_digest_104 : decode cX8_digest 104 = .ok (.iinc 4 1, 3) := by decide +kernel
theorem dX8_digest_107 : decode cX8_digest 107 = .ok (.goto (-25), 3) := by decide +kernel
theorem dX8_digest_110 : decode cX8_digest 110 = .ok (.aload_n 0, 1) := by decide +kernel
theorem dX8_digest_111 : decode cX8_digest 111 = .ok (.iload_n 3, 1) := by decide +kernel
theorem dX8_digest_112 : decode cX8_digest 112 = .ok (.invokevirtual 171, 3) := by decide +kernel
theorem dX8_digest_115 : decode cX8_digest 115 = .ok (.istore 4, 2) := by decide +kernel
theorem dX8_digest_117 : decode cX8_digest 117 = .ok (.iconst 0, 1) := by decide +kernel
theorem dX8_digest_118 : decode cX8_digest 118 = .ok (.istore 5, 2) := by decide +kernel
theorem dX8_digest_120 : decode cX8_digest 120 = .ok (.iload 5, 2) := by decide +kernel
theorem dX8_digest_122 : decode cX8_digest 122 = .ok (.iload 4, 2) := by decide +kernel
theorem dX8_digest_124 : decode cX8_digest 124 = .ok (.iconst 4, 1) := by decide +kernel
theorem dX8_digest_125 : decode cX8_digest 125 = .ok (.imul, 1) := by decide +kernel
theorem dX8_digest_126 : decode cX8_digest 126 = .ok (.if_icmp .ge 30, 3) := by decide +kernel
theorem dX8_digest_156 : decode cX8_digest 156 = .ok (.iinc 3 1, 3) := by decide +kernel
theorem dX8_digest_159 : decode cX8_digest 159 = .ok (.goto (-122), 3) := by decide +kernel
theorem dX8_digest_162 : decode cX8_digest 162 = .ok (.iconst 0, 1) := by decide +kernel
theorem dX8_digest_163 : decode cX8_digest 163 = .ok (.istore_n 3, 1) := by decide +kernel
theorem dX8_digest_164 : decode cX8_digest 164 = .ok (.iload_n 3, 1) := by decide +kernel
theorem dX8_digest_165 : decode cX8_digest 165 = .ok (.aload_n 0, 1) := by decide +kernel
theorem dX8_digest_166 : decode cX8_digest 166 = .ok (.getfield 19, 3) := by decide +kernel
theorem dX8_digest_169 : decode cX8_digest 169 = .ok (.getfield 179, 3) := by decide +kernel
theorem dX8_digest_172 : decode cX8_digest 172 = .ok (.iconst 4, 1) := by decide +kernel
theorem dX8_digest_173 : decode cX8_digest 173 = .ok (.imul, 1) := by decide +kernel
theorem dX8_digest_174 : decode cX8_digest 174 = .ok (.if_icmp .ge 29, 3) := by decide +kernel
theorem dX8_digest_203 : decode cX8_digest 203 = .ok (.iconst 0, 1) := by decide +kernel
theorem dX8_digest_204 : decode cX8_digest 204 = .ok (.istore_n 3, 1) := by decide +kernel
theorem dX8_digest_205 : decode cX8_digest 205 = .ok (.iload_n 3, 1) := by decide +kernel
theorem dX8_digest_206 : decode cX8_digest 206 = .ok (.aload_n 0, 1) := by decide +kernel
theorem dX8_digest_207 : decode cX8_digest 207 = .ok (.getfield 37, 3) := by decide +kernel
theorem dX8_digest_210 : decode cX8_digest 210 = .ok (.getfield 219, 3) := by decide +kernel
theorem dX8_digest_213 : decode cX8_digest 213 = .ok (.iconst 3, 1) := by decide +kernel
theorem dX8_digest_214 : decode cX8_digest 214 = .ok (.imul, 1) := by decide +kernel
theorem dX8_digest_215 : decode cX8_digest 215 = .ok (.if_icmp .ge 27, 3) := by decide +kernel
theorem dX8_digest_218 : decode cX8_digest 218 = .ok (.lload_n 1, 1) := by decide +kernel
theorem dX8_digest_219 : decode cX8_digest 219 = .ok (.ldc2_w 309, 3) := by decide +kernel
theorem dX8_digest_222 : decode cX8_digest 222 = .ok (.lmul, 1) := by decide +kernel
theorem dX8_digest_223 : decode cX8_digest 223 = .ok (.aload_n 0, 1) := by decide +kernel
theorem dX8_digest_224 : decode cX8_digest 224 = .ok (.iload_n 3, 1) := by decide +kernel
theorem dX8_digest_225 : decode cX8_digest 225 = .ok (.iconst 3, 1) := by decide +kernel
theorem dX8_digest_226 : decode cX8_digest 226 = .ok (.idiv, 1) := by decide +kernel
theorem dX8_digest_227 : decode cX8_digest 227 = .ok (.iload_n 3, 1) := by decide +kernel
theorem dX8_digest_228 : decode cX8_digest 228 = .ok (.iconst 3, 1) := by decide +kernel
theorem dX8_digest_229 : decode cX8_digest 229 = .ok (.irem, 1) := by decide +kernel
theorem dX8_digest_230 : decode cX8_digest 230 = .ok (.invokevirtual 326, 3) := by decide +kernel
theorem dX8_digest_233 : decode cX8_digest 233 = .ok (.i2l, 1) := by decide +kernel
theorem dX8_digest_234 : decode cX8_digest 234 = .ok (.ladd, 1) := by decide +kernel
theorem dX8_digest_235 : decode cX8_digest 235 = .ok (.lstore_n 1, 1) := by decide +kernel
theorem dX8_digest_236 : decode cX8_digest 236 = .ok (.iinc 3 1, 3) := by decide +kernel
theorem dX8_digest_239 : decode cX8_digest 239 = .ok (.goto (-34), 3) := by decide +kernel
theorem dX8_digest_242 : decode cX8_digest 242 = .ok (.iconst 0, 1) := by decide +kernel
theorem dX8_digest_243 : decode cX8_digest 243 = .ok (.istore_n 3, 1) := by decide +kernel
theorem dX8_digest_244 : decode cX8_digest 244 = .ok (.iload_n 3, 1) := by decide +kernel
theorem dX8_digest_245 : decode cX8_digest 245 = .ok (.bipush 10, 2) := by decide +kernel
theorem dX8_digest_247 : decode cX8_digest 247 = .ok (.if_icmp .gt 22, 3) := by decide +kernel
theorem dX8_digest_250 : decode cX8_digest 250 = .ok (.lload_n 1, 1) := by decide +kernel
theorem dX8_digest_251 : decode cX8_digest 251 = .ok (.ldc2_w 309, 3) := by decide +kernel
theorem dX8_digest_254 : decode cX8_digest 254 = .ok (.lmul, 1) := by decide +kernel
theorem dX8_digest_255 : decode cX8_digest 255 = .ok (.aload_n 0, 1) := by decide +kernel
theorem dX8_digest_256 : decode cX8_digest 256 = .ok (.iload_n 3, 1) := by decide +kernel
theorem dX8_digest_257 : decode cX8_digest 257 = .ok (.invokevirtual 329, 3) := by decide +kernel
theorem dX8_digest_260 : decode cX8_digest 260 = .ok (.i2l, 1) := by decide +kernel
theorem dX8_digest_261 : decode cX8_digest 261 = .ok (.ladd, 1) := by decide +kernel
theorem dX8_digest_262 : decode cX8_digest 262 = .ok (.lstore_n 1, 1) := by decide +kernel
theorem dX8_digest_263 : decode cX8_digest 263 = .ok (.iinc 3 1, 3) := by decide +kernel
theorem dX8_digest_266 : decode cX8_digest 266 = .ok (.goto (-22), 3) := by decide +kernel
theorem dX8_digest_269 : decode cX8_digest 269 = .ok (.iconst 0, 1) := by decide +kernel
theorem dX8_digest_270 : decode cX8_digest 270 = .ok (.istore_n 3, 1) := by decide +kernel
theorem dX8_digest_271 : decode cX8_digest 271 = .ok (.iload_n 3, 1) := by decide +kernel
theorem dX8_digest_272 : decode cX8_digest 272 = .ok (.aload_n 0, 1) := by decide +kernel
theorem dX8_digest_273 : decode cX8_digest 273 = .ok (.getfield 63, 3) := by decide +kernel
theorem dX8_digest_276 : decode cX8_digest 276 = .ok (.invokevirtual 263, 3) := by decide +kernel
theorem dX8_digest_279 : decode cX8_digest 279 = .ok (.iconst 3, 1) := by decide +kernel
theorem dX8_digest_280 : decode cX8_digest 280 = .ok (.imul, 1) := by decide +kernel
theorem dX8_digest_281 : decode cX8_digest 281 = .ok (.if_icmp .ge 27, 3) := by decide +kernel
theorem dX8_digest_308 : decode cX8_digest 308 = .ok (.aload_n 0, 1) := by decide +kernel
theorem dX8_digest_309 : decode cX8_digest 309 = .ok (.getfield 37, 3) := by decide +kernel
theorem dX8_digest_312 : decode cX8_digest 312 = .ok (.getfield 219, 3) := by decide +kernel
theorem dX8_digest_315 : decode cX8_digest 315 = .ok (.ifCond .eq 5, 3) := by decide +kernel
theorem dX8_digest_318 : decode cX8_digest 318 = .ok (.lload_n 1, 1) := by decide +kernel
theorem dX8_digest_319 : decode cX8_digest 319 = .ok (.lreturn, 1) := by decide +kernel
theorem dX8_meanPrinted_0 : decode cX8_meanPrinted 0 = .ok (.aload_n 0, 1) := by decide +kernel
theorem dX8_meanPrinted_1 : decode cX8_meanPrinted 1 = .ok (.getfield 63, 3) := by decide +kernel
theorem dX8_meanPrinted_4 : decode cX8_meanPrinted 4 = .ok (.getfield 276, 3) := by decide +kernel
theorem dX8_meanPrinted_7 : decode cX8_meanPrinted 7 = .ok (.ifCond .ne 5, 3) := by decide +kernel
theorem dX8_meanPrinted_10 : decode cX8_meanPrinted 10 = .ok (.dconst 0, 1) := by decide +kernel
theorem dX8_meanPrinted_11 : decode cX8_meanPrinted 11 = .ok (.dreturn, 1) := by decide +kernel
section XWs
def xW (o : Nat) (u : Nat → Nat) (cI cZ cJ : ClassId) : va_W := (o, .inr (8, xF u)) :: xT u cI cZ cJ
variable {o : Nat} {u : Nat → Nat} {cI cZ cJ : ClassId}
theorem xW_0 : (xW o u cI cZ cJ)[0]? = some (o, .inr (8, (xF u))) := rfl
theorem xW_1 : (xW o u cI cZ cJ)[1]? = some ((u 0), .inr (1, [.int 1, .ref (u 1), .ref (u 2), .ref (u 3), .ref (u 4), .ref (u 5), .ref (u 6), .ref (u 7), .ref (u 8), .ref (u 9), .ref (u 10), .ref (u 11)])) := rfl
theorem xW_2 : (xW o u cI cZ cJ)[2]? = some ((u 1), .inl (cI, 10, .inl (upd (fun _ => 0) (0 : Int32).toNatClampNeg (-1)))) := rfl
theorem xW_3 : (xW o u cI cZ cJ)[3]? = some ((u 2), .inl (cI, 10, .inl (upd (fun _ => 0) (0 : Int32).toNatClampNeg (-1)))) := rfl
theorem xW_4 : (xW o u cI cZ cJ)[4]? = some ((u 3), .inl (cI, 10, .inl (fun _ => 0))) := rfl
theorem xW_5 : (xW o u cI cZ cJ)[5]? = some ((u 4), .inl (cI, 10, .inl (fun _ => 0))) := rfl
theorem xW_6 : (xW o u cI cZ cJ)[6]? = some ((u 5), .inl (cI, 10, .inl (fun _ => 0))) := rfl
theorem xW_7 : (xW o u cI cZ cJ)[7]? = some ((u 6), .inl (cI, 10, .inl (fun _ => (-1)))) := rfl
theorem xW_8 : (xW o u cI cZ cJ)[8]? = some ((u 7), .inl (cI, 160, .inl (fun _ => (-1)))) := rfl
theorem xW_9 : (xW o u cI cZ cJ)[9]? = some ((u 8), .inl (cI, 160, .inl (fun _ => 0))) := rfl
theorem xW_10 : (xW o u cI cZ cJ)[10]? = some ((u 9), .inl (cI, 160, .inl (fun _ => 0))) := rfl
theorem xW_11 : (xW o u cI cZ cJ)[11]? = some ((u 10), .inl (cI, 100, .inl (fun _ => 0))) := rfl
theorem xW_12 : (xW o u cI cZ cJ)[12]? = some ((u 11), .inl (cI, 100, .inl (fun _ => 0))) := rfl
theorem xW_13 : (xW o u cI cZ cJ)[13]? = some ((u 12), .inr (5, [.int 0, .ref (u 13), .ref (u 14), .ref (u 15), .ref (u 16), .ref (u 17), .ref (u 18)])) := rfl
theorem xW_14 : (xW o u cI cZ cJ)[14]? = some ((u 13), .inl (cI, 110, .inl (fun _ => 0))) := rfl
theorem xW_15 : (xW o u cI cZ cJ)[15]? = some ((u 14), .inl (cI, 110, .inl (fun _ => 0))) := rfl
theorem xW_16 : (xW o u cI cZ cJ)[16]? = some ((u 15), .inl (cI, 110, .inl (fun _ => 0))) := rfl
theorem xW_17 : (xW o u cI cZ cJ)[17]? = some ((u 16), .inl (cI, 110, .inl (fun _ => 0))) := rfl
theorem xW_18 : (xW o u cI cZ cJ)[18]? = some ((u 17), .inl (cI, 110, .inl (fun _ => 0))) := rfl
theorem xW_19 : (xW o u cI cZ cJ)[19]? = some ((u 18), .inl (cI, 110, .inl (fun _ => 0))) := rfl
theorem xW_20 : (xW o u cI cZ cJ)[20]? = some ((u 19), .inr (4, [.ref (u 0), .ref (u 12), .ref (u 20), .ref (u 21), .ref (u 22), .ref (u 23), .ref (u 24), .ref (u 25), .ref (u 26), .ref (u 27), .ref (u 28), .ref (u 29), .ref (u 30), .ref (u 31), .ref (u 32), .int 0, .int 0, .int 0, .int 0])) := rfl
theorem xW_21 : (xW o u cI cZ cJ)[21]? = some ((u 20), .inl (cI, 110, .inl (fun _ => 0))) := rfl
theorem xW_22 : (xW o u cI cZ cJ)[22]? = some ((u 21), .inl (cI, 110, .inl (fun _ => 0))) := rfl
theorem xW_23 : (xW o u cI cZ cJ)[23]? = some ((u 22), .inl (cI, 110, .inl (fun _ => 0))) := rfl
theorem xW_24 : (xW o u cI cZ cJ)[24]? = some ((u 23), .inl (cI, 110, .inl (fun _ => 0))) := rfl
theorem xW_25 : (xW o u cI cZ cJ)[25]? = some ((u 24), .inl (cI, 110, .inl (fun _ => 0))) := rfl
theorem xW_26 : (xW o u cI cZ cJ)[26]? = some ((u 25), .inl (cZ, 110, .inl (fun _ => 0))) := rfl
theorem xW_27 : (xW o u cI cZ cJ)[27]? = some ((u 26), .inl (cI, 110, .inl (fun _ => 0))) := rfl
theorem xW_28 : (xW o u cI cZ cJ)[28]? = some ((u 27), .inl (cZ, 110, .inl (fun _ => 0))) := rfl
theorem xW_29 : (xW o u cI cZ cJ)[29]? = some ((u 28), .inl (cI, 110, .inl (fun _ => 0))) := rfl
theorem xW_30 : (xW o u cI cZ cJ)[30]? = some ((u 29), .inl (cI, 110, .inl (fun _ => 0))) := rfl
theorem xW_31 : (xW o u cI cZ cJ)[31]? = some ((u 30), .inl (cI, 10, .inl (fun _ => 0))) := rfl
theorem xW_32 : (xW o u cI cZ cJ)[32]? = some ((u 31), .inl (cZ, 10, .inl (fun _ => 0))) := rfl
theorem xW_33 : (xW o u cI cZ cJ)[33]? = some ((u 32), .inl (cI, 10, .inl (fun _ => 0))) := rfl
theorem xW_34 : (xW o u cI cZ cJ)[34]? = some ((u 33), .inr (2, [.ref (u 0), .ref (u 12), .ref (u 19), .int 0, .ref (u 34), .ref (u 35), .ref (u 36), .ref (u 37), .int 0])) := rfl
theorem xW_35 : (xW o u cI cZ cJ)[35]? = some ((u 34), .inl (cI, 120, .inl (fun _ => 0))) := rfl
theorem xW_36 : (xW o u cI cZ cJ)[36]? = some ((u 35), .inl (cI, 120, .inl (fun _ => 0))) := rfl
theorem xW_37 : (xW o u cI cZ cJ)[37]? = some ((u 36), .inl (cI, 120, .inl (fun _ => 0))) := rfl
theorem xW_38 : (xW o u cI cZ cJ)[38]? = some ((u 37), .inl (cI, 110, .inl (fun _ => 0))) := rfl
theorem xW_39 : (xW o u cI cZ cJ)[39]? = some ((u 38), .inr (0, [.ref (u 0), .ref (u 12), .ref (u 19), .int (-1), .int 0, .ref (u 39), .ref (u 40), .ref (u 41), .ref (u 42), .ref (u 43), .ref (u 44), .ref (u 45), .ref (u 46), .ref (u 47), .ref (u 48), .ref (u 49), .ref (u 50)])) := rfl
theorem xW_40 : (xW o u cI cZ cJ)[40]? = some ((u 39), .inl (cI, 10, .inl (fun _ => 0))) := rfl
theorem xW_41 : (xW o u cI cZ cJ)[41]? = some ((u 40), .inl (cI, 10, .inl (fun _ => 0))) := rfl
theorem xW_42 : (xW o u cI cZ cJ)[42]? = some ((u 41), .inl (cI, 460, .inl (fun _ => 0))) := rfl
theorem xW_43 : (xW o u cI cZ cJ)[43]? = some ((u 42), .inl (cI, 460, .inl (fun _ => 0))) := rfl
theorem xW_44 : (xW o u cI cZ cJ)[44]? = some ((u 43), .inl (cI, 460, .inl (fun _ => 0))) := rfl
theorem xW_45 : (xW o u cI cZ cJ)[45]? = some ((u 44), .inl (cI, 460, .inl (fun _ => 0))) := rfl
theorem xW_46 : (xW o u cI cZ cJ)[46]? = some ((u 45), .inl (cI, 460, .inl (fun _ => 0))) := rfl
theorem xW_47 : (xW o u cI cZ cJ)[47]? = some ((u 46), .inl (cI, 460, .inl (fun _ => 0))) := rfl
theorem xW_48 : (xW o u cI cZ cJ)[48]? = some ((u 47), .inl (cI, 110, .inl (fun _ => 0))) := rfl
theorem xW_49 : (xW o u cI cZ cJ)[49]? = some ((u 48), .inl (cI, 110, .inl (fun _ => 0))) := rfl
theorem xW_50 : (xW o u cI cZ cJ)[50]? = some ((u 49), .inl (cI, 110, .inl (fun _ => 0))) := rfl
theorem xW_51 : (xW o u cI cZ cJ)[51]? = some ((u 50), .inl (cZ, 110, .inl (fun _ => 0))) := rfl
theorem xW_52 : (xW o u cI cZ cJ)[52]? = some ((u 51), .inr (0, [.ref (u 0), .ref (u 12), .ref (u 19), .int (-1), .int 0, .ref (u 52), .ref (u 53), .ref (u 54), .ref (u 55), .ref (u 56), .ref (u 57), .ref (u 58), .ref (u 59), .ref (u 60), .ref (u 61), .ref (u 62), .ref (u 63)])) := rfl
theorem xW_53 : (xW o u cI cZ cJ)[53]? = some ((u 52), .inl (cI, 10, .inl (fun _ => 0))) := rfl
theorem xW_54 : (xW o u cI cZ cJ)[54]? = some ((u 53), .inl (cI, 10, .inl (fun _ => 0))) := rfl
theorem xW_55 : (xW o u cI cZ cJ)[55]? = some ((u 54), .inl (cI, 460, .inl (fun _ => 0))) := rfl
theorem xW_56 : (xW o u cI cZ cJ)[56]? = some ((u 55), .inl (cI, 460, .inl (fun _ => 0))) := rfl
theorem xW_57 : (xW o u cI cZ cJ)[57]? = some ((u 56), .inl (cI, 460, .inl (fun _ => 0))) := rfl
theorem xW_58 : (xW o u cI cZ cJ)[58]? = some ((u 57), .inl (cI, 460, .inl (fun _ => 0))) := rfl
theorem xW_59 : (xW o u cI cZ cJ)[59]? = some ((u 58), .inl (cI, 460, .inl (fun _ => 0))) := rfl
theorem xW_60 : (xW o u cI cZ cJ)[60]? = some ((u 59), .inl (cI, 460, .inl (fun _ => 0))) := rfl
theorem xW_61 : (xW o u cI cZ cJ)[61]? = some ((u 60), .inl (cI, 110, .inl (fun _ => 0))) := rfl
theorem xW_62 : (xW o u cI cZ cJ)[62]? = some ((u 61), .inl (cI, 110, .inl (fun _ => 0))) := rfl
theorem xW_63 : (xW o u cI cZ cJ)[63]? = some ((u 62), .inl (cI, 110, .inl (fun _ => 0))) := rfl
theorem xW_64 : (xW o u cI cZ cJ)[64]? = some ((u 63), .inl (cZ, 110, .inl (fun _ => 0))) := rfl
theorem xW_65 : (xW o u cI cZ cJ)[65]? = some ((u 64), .inr (3, [.ref (u 0), .ref (u 12), .ref (u 19), .ref (u 51), .ref (u 65), .ref (u 67), .ref (u 69), .ref (u 71), .ref (u 73), .ref (u 75), .int 0, .int 0, .int 0, .int (-1), .int 0, .int 0, .int 1])) := rfl
theorem xW_66 : (xW o u cI cZ cJ)[66]? = some ((u 65), .inr (7, [.int 2, .ref (u 66), .int 0])) := rfl
theorem xW_67 : (xW o u cI cZ cJ)[67]? = some ((u 66), .inl (cI, 128, .inl (fun _ => 0))) := rfl
theorem xW_68 : (xW o u cI cZ cJ)[68]? = some ((u 67), .inr (7, [.int 2, .ref (u 68), .int 0])) := rfl
theorem xW_69 : (xW o u cI cZ cJ)[69]? = some ((u 68), .inl (cI, 128, .inl (fun _ => 0))) := rfl
theorem xW_70 : (xW o u cI cZ cJ)[70]? = some ((u 69), .inr (7, [.int 3, .ref (u 70), .int 0])) := rfl
theorem xW_71 : (xW o u cI cZ cJ)[71]? = some ((u 70), .inl (cI, 192, .inl (fun _ => 0))) := rfl
theorem xW_72 : (xW o u cI cZ cJ)[72]? = some ((u 71), .inr (7, [.int 5, .ref (u 72), .int 0])) := rfl
theorem xW_73 : (xW o u cI cZ cJ)[73]? = some ((u 72), .inl (cI, 320, .inl (fun _ => 0))) := rfl
theorem xW_74 : (xW o u cI cZ cJ)[74]? = some ((u 73), .inr (7, [.int 5, .ref (u 74), .int 0])) := rfl
theorem xW_75 : (xW o u cI cZ cJ)[75]? = some ((u 74), .inl (cI, 320, .inl (fun _ => 0))) := rfl
theorem xW_76 : (xW o u cI cZ cJ)[76]? = some ((u 75), .inr (6, [.int 0, .int 0, .int 0, .int 0, .int 0, .int 0, .int 0, .int 0, .int 0, .int 0, .long 0, .ref (u 76), .ref (u 77), .ref (u 78)])) := rfl
theorem xW_77 : (xW o u cI cZ cJ)[77]? = some ((u 76), .inl (cI, 50, .inl (fun _ => 0))) := rfl
theorem xW_78 : (xW o u cI cZ cJ)[78]? = some ((u 77), .inl (cI, 50, .inl (fun _ => 0))) := rfl
theorem xW_79 : (xW o u cI cZ cJ)[79]? = some ((u 78), .inl (cI, 50, .inl (fun _ => 0))) := rfl
theorem xW_80 : (xW o u cI cZ cJ)[80]? = some ((u 79), .inr (6, [.int 0, .int 0, .int 0, .int 0, .int 0, .int 0, .int 0, .int 0, .int 0, .int 0, .long 0, .ref (u 80), .ref (u 81), .ref (u 82)])) := rfl
theorem xW_81 : (xW o u cI cZ cJ)[81]? = some ((u 80), .inl (cI, 50, .inl (fun _ => 0))) := rfl
theorem xW_82 : (xW o u cI cZ cJ)[82]? = some ((u 81), .inl (cI, 50, .inl (fun _ => 0))) := rfl
theorem xW_83 : (xW o u cI cZ cJ)[83]? = some ((u 82), .inl (cI, 50, .inl (fun _ => 0))) := rfl
theorem xW_84 : (xW o u cI cZ cJ)[84]? = some ((u 83), .inr (6, [.int 0, .int 0, .int 0, .int 0, .int 0, .int 0, .int 0, .int 0, .int 0, .int 0, .long 0, .ref (u 84), .ref (u 85), .ref (u 86)])) := rfl
theorem xW_85 : (xW o u cI cZ cJ)[85]? = some ((u 84), .inl (cI, 50, .inl (fun _ => 0))) := rfl
theorem xW_86 : (xW o u cI cZ cJ)[86]? = some ((u 85), .inl (cI, 50, .inl (fun _ => 0))) := rfl
theorem xW_87 : (xW o u cI cZ cJ)[87]? = some ((u 86), .inl (cI, 50, .inl (fun _ => 0))) := rfl
end XWs
