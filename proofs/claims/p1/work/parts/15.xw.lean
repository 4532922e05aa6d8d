theorem dX1_has_0 : decode cX1_has 0 = .ok (.iload_n 1, 1) := by decide +kernel
theorem dX1_has_1 : decode cX1_has 1 = .ok (.ifCond .lt 15, 3) := by decide +kernel
theorem dX1_has_16 : decode cX1_has 16 = .ok (.iconst 0, 1) := by decide +kernel
theorem dX1_has_17 : decode cX1_has 17 = .ok (.ireturn, 1) := by decide +kernel
theorem dX1_has_4 : decode cX1_has 4 = .ok (.iload_n 1, 1) := by decide +kernel
theorem dX1_has_5 : decode cX1_has 5 = .ok (.aload_n 0, 1) := by decide +kernel
theorem dX1_has_6 : decode cX1_has 6 = .ok (.getfield 9, 3) := by decide +kernel
theorem dX1_has_9 : decode cX1_has 9 = .ok (.if_icmp .ge 7, 3) := by decide +kernel
theorem dX1_has_12 : decode cX1_has 12 = .ok (.iconst 1, 1) := by decide +kernel
theorem dX1_has_13 : decode cX1_has 13 = .ok (.goto 4, 3) := by decide +kernel
theorem dX8_needProcedure_0 : decode cX8_needProcedure 0 = .ok (.aload_n 0, 1) := by decide +kernel
theorem dX8_needProcedure_1 : decode cX8_needProcedure 1 = .ok (.getfield 12, 3) := by decide +kernel
theorem dX8_needProcedure_4 : decode cX8_needProcedure 4 = .ok (.iload_n 1, 1) := by decide +kernel
theorem dX8_needProcedure_5 : decode cX8_needProcedure 5 = .ok (.invokevirtual 351, 3) := by decide +kernel
theorem dX8_needProcedure_8 : decode cX8_needProcedure 8 = .ok (.ifCond .ne 14, 3) := by decide +kernel
theorem dX8_needProcedure_11 : decode cX8_needProcedure 11 = .ok (.new 354, 3) := by decide +kernel
theorem dX8_needProcedure_14 : decode cX8_needProcedure 14 = .ok (.dup, 1) := by decide +kernel
theorem dX8_needProcedure_15 : decode cX8_needProcedure 15 = .ok (.ldc_w 356, 3) := by decide +kernel
theorem dX8_needProcedure_18 : decode cX8_needProcedure 18 = .ok (.invokespecial 358, 3) := by decide +kernel
theorem dX8_needProcedure_21 : decode cX8_needProcedure 21 = .ok (.athrow, 1) := by decide +kernel
theorem dX8_needProcedure_22 : decode cX8_needProcedure 22 = .ok (.return_, 1) := by decide +kernel
theorem dX8_isName_0 : decode cX8_isName 0 = .ok (.iload_n 0, 1) := by decide +kernel
theorem dX8_isName_1 : decode cX8_isName 1 = .ok (.ifCond .lt 13, 3) := by decide +kernel
theorem dX8_isName_14 : decode cX8_isName 14 = .ok (.iconst 0, 1) := by decide +kernel
theorem dX8_isName_15 : decode cX8_isName 15 = .ok (.ireturn, 1) := by decide +kernel
theorem dX8_needArgument_0 : decode cX8_needArgument 0 = .ok (.iload_n 0, 1) := by decide +kernel
theorem dX8_needArgument_1 : decode cX8_needArgument 1 = .ok (.ifCond .ne 14, 3) := by decide +kernel
theorem dX8_needArgument_4 : decode cX8_needArgument 4 = .ok (.new 366, 3) := by decide +kernel
theorem dX8_needArgument_7 : decode cX8_needArgument 7 = .ok (.dup, 1) := by decide +kernel
theorem dX8_needArgument_8 : decode cX8_needArgument 8 = .ok (.ldc_w 368, 3) := by decide +kernel
theorem dX8_needArgument_11 : decode cX8_needArgument 11 = .ok (.invokespecial 370, 3) := by decide +kernel
theorem dX8_needArgument_14 : decode cX8_needArgument 14 = .ok (.athrow, 1) := by decide +kernel
theorem dX8_isName_4 : decode cX8_isName 4 = .ok (.iload_n 0, 1) := by decide +kernel
theorem dX8_isName_5 : decode cX8_isName 5 = .ok (.bipush 16, 2) := by decide +kernel
theorem dX8_isName_7 : decode cX8_isName 7 = .ok (.if_icmp .ge 7, 3) := by decide +kernel
theorem dX8_isName_10 : decode cX8_isName 10 = .ok (.iconst 1, 1) := by decide +kernel
theorem dX8_isName_11 : decode cX8_isName 11 = .ok (.goto 4, 3) := by decide +kernel
theorem dX8_needArgument_15 : decode cX8_needArgument 15 = .ok (.return_, 1) := by decide +kernel
theorem dX1_declares_0 : decode cX1_declares 0 = .ok (.aload_n 0, 1) := by decide +kernel
theorem dX1_declares_1 : decode cX1_declares 1 = .ok (.getfield 34, 3) := by decide +kernel
theorem dX1_declares_4 : decode cX1_declares 4 = .ok (.iload_n 1, 1) := by decide +kernel
theorem dX1_declares_5 : decode cX1_declares 5 = .ok (.bipush 16, 2) := by decide +kernel
theorem dX1_declares_7 : decode cX1_declares 7 = .ok (.imul, 1) := by decide +kernel
theorem dX1_declares_8 : decode cX1_declares 8 = .ok (.iload_n 2, 1) := by decide +kernel
theorem dX1_declares_9 : decode cX1_declares 9 = .ok (.iadd, 1) := by decide +kernel
theorem dX1_declares_10 : decode cX1_declares 10 = .ok (.iaload, 1) := by decide +kernel
theorem dX1_declares_11 : decode cX1_declares 11 = .ok (.iconst (-1), 1) := by decide +kernel
theorem dX1_declares_12 : decode cX1_declares 12 = .ok (.if_icmp .eq 7, 3) := by decide +kernel
theorem dX1_declares_19 : decode cX1_declares 19 = .ok (.iconst 0, 1) := by decide +kernel
theorem dX1_declares_20 : decode cX1_declares 20 = .ok (.ireturn, 1) := by decide +kernel
theorem dX8_needState_0 : decode cX8_needState 0 = .ok (.iload_n 0, 1) := by decide +kernel
theorem dX8_needState_1 : decode cX8_needState 1 = .ok (.ifCond .ne 14, 3) := by decide +kernel
theorem dX8_needState_15 : decode cX8_needState 15 = .ok (.return_, 1) := by decide +kernel
theorem dX1_declare_0 : decode cX1_declare 0 = .ok (.iload_n 1, 1) := by decide +kernel
theorem dX1_declare_1 : decode cX1_declare 1 = .ok (.bipush 16, 2) := by decide +kernel
theorem dX1_declare_3 : decode cX1_declare 3 = .ok (.imul, 1) := by decide +kernel
theorem dX1_declare_4 : decode cX1_declare 4 = .ok (.iload_n 2, 1) := by decide +kernel
theorem dX1_declare_5 : decode cX1_declare 5 = .ok (.iadd, 1) := by decide +kernel
theorem dX1_declare_6 : decode cX1_declare 6 = .ok (.istore 5, 2) := by decide +kernel
theorem dX1_declare_8 : decode cX1_declare 8 = .ok (.aload_n 0, 1) := by decide +kernel
theorem dX1_declare_9 : decode cX1_declare 9 = .ok (.getfield 34, 3) := by decide +kernel
theorem dX1_declare_12 : decode cX1_declare 12 = .ok (.iload 5, 2) := by decide +kernel
theorem dX1_declare_14 : decode cX1_declare 14 = .ok (.iload_n 3, 1) := by decide +kernel
theorem dX1_declare_15 : decode cX1_declare 15 = .ok (.iastore, 1) := by decide +kernel
theorem dX1_declare_16 : decode cX1_declare 16 = .ok (.aload_n 0, 1) := by decide +kernel
theorem dX1_declare_17 : decode cX1_declare 17 = .ok (.getfield 37, 3) := by decide +kernel
theorem dX1_declare_20 : decode cX1_declare 20 = .ok (.iload 5, 2) := by decide +kernel
theorem dX1_declare_22 : decode cX1_declare 22 = .ok (.iconst (-1), 1) := by decide +kernel
theorem dX1_declare_23 : decode cX1_declare 23 = .ok (.iastore, 1) := by decide +kernel
theorem dX1_declare_24 : decode cX1_declare 24 = .ok (.aload_n 0, 1) := by decide +kernel
theorem dX1_declare_25 : decode cX1_declare 25 = .ok (.getfield 40, 3) := by decide +kernel
theorem dX1_declare_28 : decode cX1_declare 28 = .ok (.iload 5, 2) := by decide +kernel
theorem dX1_declare_30 : decode cX1_declare 30 = .ok (.iload 4, 2) := by decide +kernel
theorem dX1_declare_32 : decode cX1_declare 32 = .ok (.iastore, 1) := by decide +kernel
theorem dX1_declare_33 : decode cX1_declare 33 = .ok (.return_, 1) := by decide +kernel
theorem dX1_addProcedure_0 : decode cX1_addProcedure 0 = .ok (.aload_n 0, 1) := by decide +kernel
theorem dX1_addProcedure_1 : decode cX1_addProcedure 1 = .ok (.getfield 9, 3) := by decide +kernel
theorem dX1_addProcedure_4 : decode cX1_addProcedure 4 = .ok (.istore_n 3, 1) := by decide +kernel
theorem dX1_addProcedure_5 : decode cX1_addProcedure 5 = .ok (.aload_n 0, 1) := by decide +kernel
theorem dX1_addProcedure_6 : decode cX1_addProcedure 6 = .ok (.dup, 1) := by decide +kernel
theorem dX1_addProcedure_7 : decode cX1_addProcedure 7 = .ok (.getfield 9, 3) := by decide +kernel
theorem dX1_addProcedure_10 : decode cX1_addProcedure 10 = .ok (.iconst 1, 1) := by decide +kernel
theorem dX1_addProcedure_11 : decode cX1_addProcedure 11 = .ok (.iadd, 1) := by decide +kernel
theorem dX1_addProcedure_12 : decode cX1_addProcedure 12 = .ok (.putfield 9, 3) := by decide +kernel
theorem dX1_addProcedure_15 : decode cX1_addProcedure 15 = .ok (.aload_n 0, 1) := by decide +kernel
theorem dX1_addProcedure_16 : decode cX1_addProcedure 16 = .ok (.getfield 15, 3) := by decide +kernel
theorem dX1_addProcedure_19 : decode cX1_addProcedure 19 = .ok (.iload_n 3, 1) := by decide +kernel
theorem dX1_addProcedure_20 : decode cX1_addProcedure 20 = .ok (.iload_n 1, 1) := by decide +kernel
theorem dX1_addProcedure_21 : decode cX1_addProcedure 21 = .ok (.iastore, 1) := by decide +kernel
theorem dX1_addProcedure_22 : decode cX1_addProcedure 22 = .ok (.aload_n 0, 1) := by decide +kernel
theorem dX1_addProcedure_23 : decode cX1_addProcedure 23 = .ok (.getfield 19, 3) := by decide +kernel
theorem dX1_addProcedure_26 : decode cX1_addProcedure 26 = .ok (.iload_n 3, 1) := by decide +kernel
theorem dX1_addProcedure_27 : decode cX1_addProcedure 27 = .ok (.iload_n 2, 1) := by decide +kernel
theorem dX1_addProcedure_28 : decode cX1_addProcedure 28 = .ok (.iastore, 1) := by decide +kernel
theorem dX1_addProcedure_29 : decode cX1_addProcedure 29 = .ok (.aload_n 0, 1) := by decide +kernel
theorem dX1_addProcedure_30 : decode cX1_addProcedure 30 = .ok (.iload_n 1, 1) := by decide +kernel
theorem dX1_addProcedure_31 : decode cX1_addProcedure 31 = .ok (.iload_n 2, 1) := by decide +kernel
theorem dX1_addProcedure_32 : decode cX1_addProcedure 32 = .ok (.bipush 10, 2) := by decide +kernel
theorem dX1_addProcedure_34 : decode cX1_addProcedure 34 = .ok (.iload_n 3, 1) := by decide +kernel
theorem dX1_addProcedure_35 : decode cX1_addProcedure 35 = .ok (.invokevirtual 59, 3) := by decide +kernel
theorem dX1_addProcedure_38 : decode cX1_addProcedure 38 = .ok (.iload_n 3, 1) := by decide +kernel
theorem dX1_addProcedure_39 : decode cX1_addProcedure 39 = .ok (.ireturn, 1) := by decide +kernel
theorem dX8_procedure_0 : decode cX8_procedure 0 = .ok (.aload_n 0, 1) := by decide +kernel
theorem dX8_procedure_1 : decode cX8_procedure 1 = .ok (.iload_n 1, 1) := by decide +kernel
theorem dX8_procedure_2 : decode cX8_procedure 2 = .ok (.invokevirtual 87, 3) := by decide +kernel
theorem dX8_procedure_5 : decode cX8_procedure 5 = .ok (.iload_n 2, 1) := by decide +kernel
theorem dX8_procedure_6 : decode cX8_procedure 6 = .ok (.invokestatic 91, 3) := by decide +kernel
theorem dX8_procedure_9 : decode cX8_procedure 9 = .ok (.invokestatic 95, 3) := by decide +kernel
theorem dX8_procedure_12 : decode cX8_procedure 12 = .ok (.aload_n 0, 1) := by decide +kernel
theorem dX8_procedure_13 : decode cX8_procedure 13 = .ok (.getfield 12, 3) := by decide +kernel
theorem dX8_procedure_16 : decode cX8_procedure 16 = .ok (.getfield 99, 3) := by decide +kernel
theorem dX8_procedure_19 : decode cX8_procedure 19 = .ok (.bipush 10, 2) := by decide +kernel
theorem dX8_procedure_21 : decode cX8_procedure 21 = .ok (.if_icmp .ge 19, 3) := by decide +kernel
theorem dX8_procedure_24 : decode cX8_procedure 24 = .ok (.aload_n 0, 1) := by decide +kernel
theorem dX8_procedure_25 : decode cX8_procedure 25 = .ok (.getfield 12, 3) := by decide +kernel
theorem dX8_procedure_28 : decode cX8_procedure 28 = .ok (.iload_n 1, 1) := by decide +kernel
theorem dX8_procedure_29 : decode cX8_procedure 29 = .ok (.iload_n 2, 1) := by decide +kernel
theorem dX8_procedure_30 : decode cX8_procedure 30 = .ok (.invokevirtual 102, 3) := by decide +kernel
theorem dX8_procedure_33 : decode cX8_procedure 33 = .ok (.ifCond .ne 7, 3) := by decide +kernel
theorem dX8_procedure_36 : decode cX8_procedure 36 = .ok (.iconst 1, 1) := by decide +kernel
theorem dX8_procedure_37 : decode cX8_procedure 37 = .ok (.goto 4, 3) := by decide +kernel
theorem dX8_procedure_41 : decode cX8_procedure 41 = .ok (.invokestatic 106, 3) := by decide +kernel
theorem dX8_procedure_44 : decode cX8_procedure 44 = .ok (.aload_n 0, 1) := by decide +kernel
theorem dX8_procedure_45 : decode cX8_procedure 45 = .ok (.iconst 1, 1) := by decide +kernel
theorem dX8_procedure_46 : decode cX8_procedure 46 = .ok (.putfield 70, 3) := by decide +kernel
theorem dX8_procedure_49 : decode cX8_procedure 49 = .ok (.aload_n 0, 1) := by decide +kernel
theorem dX8_procedure_50 : decode cX8_procedure 50 = .ok (.getfield 12, 3) := by decide +kernel
theorem dX8_procedure_53 : decode cX8_procedure 53 = .ok (.iload_n 1, 1) := by decide +kernel
theorem dX8_procedure_54 : decode cX8_procedure 54 = .ok (.iload_n 2, 1) := by decide +kernel
theorem dX8_procedure_55 : decode cX8_procedure 55 = .ok (.invokevirtual 109, 3) := by decide +kernel
theorem dX8_procedure_58 : decode cX8_procedure 58 = .ok (.ireturn, 1) := by decide +kernel
theorem dL_procedure_0 : decode cL_procedure 0 = .ok (.aload_n 3, 1) := by decide +kernel
theorem dL_procedure_1 : decode cL_procedure 1 = .ok (.iconst 0, 1) := by decide +kernel
theorem dL_procedure_2 : decode cL_procedure 2 = .ok (.aload_n 0, 1) := by decide +kernel
theorem dL_procedure_3 : decode cL_procedure 3 = .ok (.iload_n 1, 1) := by decide +kernel
theorem dL_procedure_4 : decode cL_procedure 4 = .ok (.iload_n 2, 1) := by decide +kernel
theorem dL_procedure_5 : decode cL_procedure 5 = .ok (.invokevirtual 7, 3) := by decide +kernel
theorem dL_procedure_13 : decode cL_procedure 13 = .ok (.astore 4, 2) := by decide +kernel
theorem dL_procedure_15 : decode cL_procedure 15 = .ok (.iconst 1, 1) := by decide +kernel
theorem dL_procedure_16 : decode cL_procedure 16 = .ok (.ireturn, 1) := by decide +kernel
theorem dL_procedure_17 : decode cL_procedure 17 = .ok (.astore 4, 2) := by decide +kernel
theorem dL_procedure_19 : decode cL_procedure 19 = .ok (.iconst 2, 1) := by decide +kernel
theorem dL_procedure_20 : decode cL_procedure 20 = .ok (.ireturn, 1) := by decide +kernel
theorem dL_procedure_8 : decode cL_procedure 8 = .ok (.i2l, 1) := by decide +kernel
theorem dL_procedure_9 : decode cL_procedure 9 = .ok (.lastore, 1) := by decide +kernel
theorem dL_procedure_10 : decode cL_procedure 10 = .ok (.goto 15, 3) := by decide +kernel
theorem dL_procedure_25 : decode cL_procedure 25 = .ok (.iconst 0, 1) := by decide +kernel
theorem dL_procedure_26 : decode cL_procedure 26 = .ok (.ireturn, 1) := by decide +kernel
theorem dX8_needState_4 : decode cX8_needState 4 = .ok (.new 371, 3) := by decide +kernel
theorem dX8_needState_7 : decode cX8_needState 7 = .ok (.dup, 1) := by decide +kernel
theorem dX8_needState_8 : decode cX8_needState 8 = .ok (.ldc_w 373, 3) := by decide +kernel
theorem dX8_needState_11 : decode cX8_needState 11 = .ok (.invokespecial 375, 3) := by decide +kernel
theorem dX8_needState_14 : decode cX8_needState 14 = .ok (.athrow, 1) := by decide +kernel
theorem dX8_parameter_0 : decode cX8_parameter 0 = .ok (.aload_n 0, 1) := by decide +kernel
theorem dX8_parameter_1 : decode cX8_parameter 1 = .ok (.iload_n 1, 1) := by decide +kernel
theorem dX8_parameter_2 : decode cX8_parameter 2 = .ok (.invokevirtual 87, 3) := by decide +kernel
theorem dX8_parameter_5 : decode cX8_parameter 5 = .ok (.iload_n 2, 1) := by decide +kernel
theorem dX8_parameter_6 : decode cX8_parameter 6 = .ok (.invokestatic 91, 3) := by decide +kernel
theorem dX8_parameter_9 : decode cX8_parameter 9 = .ok (.ifCond .eq 16, 3) := by decide +kernel
theorem dX8_parameter_25 : decode cX8_parameter 25 = .ok (.iconst 0, 1) := by decide +kernel
theorem dX8_parameter_26 : decode cX8_parameter 26 = .ok (.invokestatic 95, 3) := by decide +kernel
theorem dX8_parameter_12 : decode cX8_parameter 12 = .ok (.iload_n 3, 1) := by decide +kernel
theorem dX8_parameter_13 : decode cX8_parameter 13 = .ok (.ifCond .lt 12, 3) := by decide +kernel
theorem dX8_parameter_16 : decode cX8_parameter 16 = .ok (.iload_n 3, 1) := by decide +kernel
theorem dX8_parameter_17 : decode cX8_parameter 17 = .ok (.iconst 5, 1) := by decide +kernel
theorem dX8_parameter_18 : decode cX8_parameter 18 = .ok (.if_icmp .gt 7, 3) := by decide +kernel
theorem dX8_parameter_21 : decode cX8_parameter 21 = .ok (.iconst 1, 1) := by decide +kernel
theorem dX8_parameter_22 : decode cX8_parameter 22 = .ok (.goto 4, 3) := by decide +kernel
theorem dX8_parameter_29 : decode cX8_parameter 29 = .ok (.iload_n 1, 1) := by decide +kernel
theorem dX8_parameter_30 : decode cX8_parameter 30 = .ok (.ifCond .eq 19, 3) := by decide +kernel
theorem dX8_parameter_49 : decode cX8_parameter 49 = .ok (.iconst 0, 1) := by decide +kernel
theorem dX8_parameter_50 : decode cX8_parameter 50 = .ok (.invokestatic 106, 3) := by decide +kernel
theorem dL_parameter_0 : decode cL_parameter 0 = .ok (.aload 4, 2) := by decide +kernel
theorem dL_parameter_2 : decode cL_parameter 2 = .ok (.iconst 0, 1) := by decide +kernel
theorem dL_parameter_3 : decode cL_parameter 3 = .ok (.aload_n 0, 1) := by decide +kernel
theorem dL_parameter_4 : decode cL_parameter 4 = .ok (.iload_n 1, 1) := by decide +kernel
theorem dL_parameter_5 : decode cL_parameter 5 = .ok (.iload_n 2, 1) := by decide +kernel
theorem dL_parameter_6 : decode cL_parameter 6 = .ok (.iload_n 3, 1) := by decide +kernel
theorem dL_parameter_7 : decode cL_parameter 7 = .ok (.invokevirtual 19, 3) := by decide +kernel
theorem dL_parameter_15 : decode cL_parameter 15 = .ok (.astore 5, 2) := by decide +kernel
theorem dL_parameter_17 : decode cL_parameter 17 = .ok (.iconst 1, 1) := by decide +kernel
theorem dL_parameter_18 : decode cL_parameter 18 = .ok (.ireturn, 1) := by decide +kernel
theorem dL_parameter_19 : decode cL_parameter 19 = .ok (.astore 5, 2) := by decide +kernel
theorem dL_parameter_21 : decode cL_parameter 21 = .ok (.iconst 2, 1) := by decide +kernel
theorem dL_parameter_22 : decode cL_parameter 22 = .ok (.ireturn, 1) := by decide +kernel
theorem dL_parameter_23 : decode cL_parameter 23 = .ok (.astore 5, 2) := by decide +kernel
theorem dL_parameter_25 : decode cL_parameter 25 = .ok (.iconst 3, 1) := by decide +kernel
theorem dL_parameter_26 : decode cL_parameter 26 = .ok (.ireturn, 1) := by decide +kernel
theorem dX8_isSizeOf_0 : decode cX8_isSizeOf 0 = .ok (.iload_n 0, 1) := by decide +kernel
theorem dX8_isSizeOf_1 : decode cX8_isSizeOf 1 = .ok (.bipush 6, 2) := by decide +kernel
theorem dX8_isSizeOf_3 : decode cX8_isSizeOf 3 = .ok (.iadd, 1) := by decide +kernel
theorem dX8_isSizeOf_4 : decode cX8_isSizeOf 4 = .ok (.tableswitch 77 6 9 #[32, 42, 32, 59], 32) := by decide +kernel
theorem dX8_isSizeOf_81 : decode cX8_isSizeOf 81 = .ok (.iconst 0, 1) := by decide +kernel
theorem dX8_isSizeOf_82 : decode cX8_isSizeOf 82 = .ok (.ireturn, 1) := by decide +kernel
theorem dX8_isSizeOf_36 : decode cX8_isSizeOf 36 = .ok (.iload_n 1, 1) := by decide +kernel
theorem dX8_isSizeOf_37 : decode cX8_isSizeOf 37 = .ok (.ifCond .ne 7, 3) := by decide +kernel
theorem dX8_isSizeOf_40 : decode cX8_isSizeOf 40 = .ok (.iconst 1, 1) := by decide +kernel
theorem dX8_isSizeOf_41 : decode cX8_isSizeOf 41 = .ok (.goto 4, 3) := by decide +kernel
theorem dX8_isSizeOf_45 : decode cX8_isSizeOf 45 = .ok (.ireturn, 1) := by decide +kernel
theorem dX1_takesVariable_0 : decode cX1_takesVariable 0 = .ok (.aload_n 0, 1) := by decide +kernel
theorem dX1_takesVariable_1 : decode cX1_takesVariable 1 = .ok (.getfield 25, 3) := by decide +kernel
theorem dX1_takesVariable_4 : decode cX1_takesVariable 4 = .ok (.iload_n 1, 1) := by decide +kernel
theorem dX1_takesVariable_5 : decode cX1_takesVariable 5 = .ok (.iaload, 1) := by decide +kernel
theorem dX1_takesVariable_6 : decode cX1_takesVariable 6 = .ok (.bipush 6, 2) := by decide +kernel
theorem dX1_takesVariable_8 : decode cX1_takesVariable 8 = .ok (.if_icmp .ge 16, 3) := by decide +kernel
theorem dX1_takesVariable_11 : decode cX1_takesVariable 11 = .ok (.aload_n 0, 1) := by decide +kernel
theorem dX1_takesVariable_12 : decode cX1_takesVariable 12 = .ok (.iload_n 1, 1) := by decide +kernel
theorem dX1_takesVariable_13 : decode cX1_takesVariable 13 = .ok (.iload_n 2, 1) := by decide +kernel
theorem dX1_takesVariable_14 : decode cX1_takesVariable 14 = .ok (.invokevirtual 55, 3) := by decide +kernel
theorem dX1_takesVariable_17 : decode cX1_takesVariable 17 = .ok (.ifCond .ne 7, 3) := by decide +kernel
theorem dX1_takesVariable_20 : decode cX1_takesVariable 20 = .ok (.iconst 1, 1) := by decide +kernel
theorem dX1_takesVariable_21 : decode cX1_takesVariable 21 = .ok (.goto 4, 3) := by decide +kernel
theorem dX1_takesVariable_25 : decode cX1_takesVariable 25 = .ok (.ireturn, 1) := by decide +kernel
theorem dX1_declarePlace_0 : decode cX1_declarePlace 0 = .ok (.aload_n 0, 1) := by decide +kernel
theorem dX1_declarePlace_1 : decode cX1_declarePlace 1 = .ok (.getfield 28, 3) := by decide +kernel
theorem dX1_declarePlace_4 : decode cX1_declarePlace 4 = .ok (.iload_n 1, 1) := by decide +kernel
theorem dX1_declarePlace_5 : decode cX1_declarePlace 5 = .ok (.iaload, 1) := by decide +kernel
theorem dX1_declarePlace_6 : decode cX1_declarePlace 6 = .ok (.istore 5, 2) := by decide +kernel
theorem dX1_declarePlace_8 : decode cX1_declarePlace 8 = .ok (.aload_n 0, 1) := by decide +kernel
theorem dX1_declarePlace_9 : decode cX1_declarePlace 9 = .ok (.getfield 28, 3) := by decide +kernel
theorem dX1_declarePlace_12 : decode cX1_declarePlace 12 = .ok (.iload_n 1, 1) := by decide +kernel
theorem dX1_declarePlace_13 : decode cX1_declarePlace 13 = .ok (.dup2, 1) := by decide +kernel
theorem dX1_declarePlace_14 : decode cX1_declarePlace 14 = .ok (.iaload, 1) := by decide +kernel
theorem dX1_declarePlace_15 : decode cX1_declarePlace 15 = .ok (.iconst 1, 1) := by decide +kernel
theorem dX1_declarePlace_16 : decode cX1_declarePlace 16 = .ok (.iadd, 1) := by decide +kernel
theorem dX1_declarePlace_17 : decode cX1_declarePlace 17 = .ok (.iastore, 1) := by decide +kernel
theorem dX1_declarePlace_18 : decode cX1_declarePlace 18 = .ok (.aload_n 0, 1) := by decide +kernel
theorem dX1_declarePlace_19 : decode cX1_declarePlace 19 = .ok (.iload_n 1, 1) := by decide +kernel
theorem dX1_declarePlace_20 : decode cX1_declarePlace 20 = .ok (.iload_n 2, 1) := by decide +kernel
theorem dX1_declarePlace_21 : decode cX1_declarePlace 21 = .ok (.iload_n 3, 1) := by decide +kernel
theorem dX1_declarePlace_22 : decode cX1_declarePlace 22 = .ok (.iload 4, 2) := by decide +kernel
theorem dX1_declarePlace_24 : decode cX1_declarePlace 24 = .ok (.invokevirtual 59, 3) := by decide +kernel
theorem dX1_declarePlace_27 : decode cX1_declarePlace 27 = .ok (.aload_n 0, 1) := by decide +kernel
theorem dX1_declarePlace_28 : decode cX1_declarePlace 28 = .ok (.getfield 37, 3) := by decide +kernel
theorem dX1_declarePlace_31 : decode cX1_declarePlace 31 = .ok (.iload_n 1, 1) := by decide +kernel
theorem dX1_declarePlace_32 : decode cX1_declarePlace 32 = .ok (.bipush 16, 2) := by decide +kernel
theorem dX1_declarePlace_34 : decode cX1_declarePlace 34 = .ok (.imul, 1) := by decide +kernel
theorem dX1_declarePlace_35 : decode cX1_declarePlace 35 = .ok (.iload_n 2, 1) := by decide +kernel
theorem dX1_declarePlace_36 : decode cX1_declarePlace 36 = .ok (.iadd, 1) := by decide +kernel
theorem dX1_declarePlace_37 : decode cX1_declarePlace 37 = .ok (.iload 5, 2) := by decide +kernel
theorem dX1_declarePlace_39 : decode cX1_declarePlace 39 = .ok (.iastore, 1) := by decide +kernel
theorem dX1_declarePlace_40 : decode cX1_declarePlace 40 = .ok (.aload_n 0, 1) := by decide +kernel
theorem dX1_declarePlace_41 : decode cX1_declarePlace 41 = .ok (.getfield 43, 3) := by decide +kernel
theorem dX1_declarePlace_44 : decode cX1_declarePlace 44 = .ok (.iload_n 1, 1) := by decide +kernel
theorem dX1_declarePlace_45 : decode cX1_declarePlace 45 = .ok (.bipush 10, 2) := by decide +kernel
theorem dX1_declarePlace_47 : decode cX1_declarePlace 47 = .ok (.imul, 1) := by decide +kernel
theorem dX1_declarePlace_48 : decode cX1_declarePlace 48 = .ok (.iload 5, 2) := by decide +kernel
theorem dX1_declarePlace_50 : decode cX1_declarePlace 50 = .ok (.iadd, 1) := by decide +kernel
theorem dX1_declarePlace_51 : decode cX1_declarePlace 51 = .ok (.iload_n 3, 1) := by decide +kernel
theorem dX1_declarePlace_52 : decode cX1_declarePlace 52 = .ok (.iastore, 1) := by decide +kernel
theorem dX1_declarePlace_53 : decode cX1_declarePlace 53 = .ok (.aload_n 0, 1) := by decide +kernel
theorem dX1_declarePlace_54 : decode cX1_declarePlace 54 = .ok (.getfield 46, 3) := by decide +kernel
theorem dX1_declarePlace_57 : decode cX1_declarePlace 57 = .ok (.iload_n 1, 1) := by decide +kernel
theorem dX1_declarePlace_58 : decode cX1_declarePlace 58 = .ok (.bipush 10, 2) := by decide +kernel
theorem dX1_declarePlace_60 : decode cX1_declarePlace 60 = .ok (.imul, 1) := by decide +kernel
theorem dX1_declarePlace_61 : decode cX1_declarePlace 61 = .ok (.iload 5, 2) := by decide +kernel
theorem dX1_declarePlace_63 : decode cX1_declarePlace 63 = .ok (.iadd, 1) := by decide +kernel
theorem dX1_declarePlace_64 : decode cX1_declarePlace 64 = .ok (.iload 4, 2) := by decide +kernel
theorem dX1_declarePlace_66 : decode cX1_declarePlace 66 = .ok (.iastore, 1) := by decide +kernel
theorem dX1_declarePlace_67 : decode cX1_declarePlace 67 = .ok (.iload 5, 2) := by decide +kernel
theorem dX1_declarePlace_69 : decode cX1_declarePlace 69 = .ok (.ireturn, 1) := by decide +kernel
theorem dX1_addVariable_0 : decode cX1_addVariable 0 = .ok (.aload_n 0, 1) := by decide +kernel
theorem dX1_addVariable_1 : decode cX1_addVariable 1 = .ok (.getfield 25, 3) := by decide +kernel
theorem dX1_addVariable_4 : decode cX1_addVariable 4 = .ok (.iload_n 1, 1) := by decide +kernel
theorem dX1_addVariable_5 : decode cX1_addVariable 5 = .ok (.dup2, 1) := by decide +kernel
theorem dX1_addVariable_6 : decode cX1_addVariable 6 = .ok (.iaload, 1) := by decide +kernel
theorem dX1_addVariable_7 : decode cX1_addVariable 7 = .ok (.iconst 1, 1) := by decide +kernel
theorem dX1_addVariable_8 : decode cX1_addVariable 8 = .ok (.iadd, 1) := by decide +kernel
theorem dX1_addVariable_9 : decode cX1_addVariable 9 = .ok (.iastore, 1) := by decide +kernel
theorem dX1_addVariable_10 : decode cX1_addVariable 10 = .ok (.iload_n 3, 1) := by decide +kernel
theorem dX1_addVariable_11 : decode cX1_addVariable 11 = .ok (.bipush 9, 2) := by decide +kernel
theorem dX1_addVariable_13 : decode cX1_addVariable 13 = .ok (.if_icmp .ne 14, 3) := by decide +kernel
theorem dX1_addVariable_27 : decode cX1_addVariable 27 = .ok (.aload_n 0, 1) := by decide +kernel
theorem dX1_addVariable_28 : decode cX1_addVariable 28 = .ok (.iload_n 1, 1) := by decide +kernel
theorem dX1_addVariable_29 : decode cX1_addVariable 29 = .ok (.iload_n 2, 1) := by decide +kernel
theorem dX1_addVariable_30 : decode cX1_addVariable 30 = .ok (.iload_n 3, 1) := by decide +kernel
theorem dX1_addVariable_31 : decode cX1_addVariable 31 = .ok (.iload 4, 2) := by decide +kernel
theorem dX1_addVariable_33 : decode cX1_addVariable 33 = .ok (.invokevirtual 63, 3) := by decide +kernel
theorem dX1_addVariable_36 : decode cX1_addVariable 36 = .ok (.ireturn, 1) := by decide +kernel
theorem dX8_variable_0 : decode cX8_variable 0 = .ok (.aload_n 0, 1) := by decide +kernel
theorem dX8_variable_1 : decode cX8_variable 1 = .ok (.iload_n 1, 1) := by decide +kernel
theorem dX8_variable_2 : decode cX8_variable 2 = .ok (.invokevirtual 87, 3) := by decide +kernel
theorem dX8_variable_5 : decode cX8_variable 5 = .ok (.iload_n 2, 1) := by decide +kernel
theorem dX8_variable_6 : decode cX8_variable 6 = .ok (.invokestatic 91, 3) := by decide +kernel
theorem dX8_variable_9 : decode cX8_variable 9 = .ok (.ifCond .eq 16, 3) := by decide +kernel
theorem dX8_variable_25 : decode cX8_variable 25 = .ok (.iconst 0, 1) := by decide +kernel
theorem dX8_variable_26 : decode cX8_variable 26 = .ok (.invokestatic 95, 3) := by decide +kernel
theorem dX8_variable_12 : decode cX8_variable 12 = .ok (.iload_n 3, 1) := by decide +kernel
theorem dX8_variable_13 : decode cX8_variable 13 = .ok (.iload 4, 2) := by decide +kernel
theorem dX8_variable_15 : decode cX8_variable 15 = .ok (.invokestatic 120, 3) := by decide +kernel
theorem dX8_variable_18 : decode cX8_variable 18 = .ok (.ifCond .eq 7, 3) := by decide +kernel
theorem dX8_isSizeOf_44 : decode cX8_isSizeOf 44 = .ok (.iconst 0, 1) := by decide +kernel
theorem dX8_variable_21 : decode cX8_variable 21 = .ok (.iconst 1, 1) := by decide +kernel
theorem dX8_variable_22 : decode cX8_variable 22 = .ok (.goto 4, 3) := by decide +kernel
theorem dX8_variable_29 : decode cX8_variable 29 = .ok (.aload_n 0, 1) := by decide +kernel
theorem dX8_variable_30 : decode cX8_variable 30 = .ok (.getfield 12, 3) := by decide +kernel
theorem dX8_variable_33 : decode cX8_variable 33 = .ok (.iload_n 1, 1) := by decide +kernel
theorem dX8_variable_34 : decode cX8_variable 34 = .ok (.iload_n 2, 1) := by decide +kernel
theorem dX8_variable_35 : decode cX8_variable 35 = .ok (.invokevirtual 123, 3) := by decide +kernel
theorem dX8_variable_38 : decode cX8_variable 38 = .ok (.invokestatic 106, 3) := by decide +kernel
theorem dX8_variable_41 : decode cX8_variable 41 = .ok (.aload_n 0, 1) := by decide +kernel
theorem dX8_variable_42 : decode cX8_variable 42 = .ok (.iconst 1, 1) := by decide +kernel
theorem dX8_variable_43 : decode cX8_variable 43 = .ok (.putfield 70, 3) := by decide +kernel
theorem dX8_variable_46 : decode cX8_variable 46 = .ok (.aload_n 0, 1) := by decide +kernel
theorem dX8_variable_47 : decode cX8_variable 47 = .ok (.getfield 12, 3) := by decide +kernel
theorem dX8_variable_50 : decode cX8_variable 50 = .ok (.iload_n 1, 1) := by decide +kernel
theorem dX8_variable_51 : decode cX8_variable 51 = .ok (.iload_n 2, 1) := by decide +kernel
theorem dX8_variable_52 : decode cX8_variable 52 = .ok (.iload_n 3, 1) := by decide +kernel
theorem dX8_variable_53 : decode cX8_variable 53 = .ok (.bipush 6, 2) := by decide +kernel
theorem dX8_variable_55 : decode cX8_variable 55 = .ok (.iadd, 1) := by decide +kernel
theorem dX8_variable_56 : decode cX8_variable 56 = .ok (.iload 4, 2) := by decide +kernel
theorem dX8_variable_58 : decode cX8_variable 58 = .ok (.invokevirtual 126, 3) := by decide +kernel
theorem dX8_variable_61 : decode cX8_variable 61 = .ok (.ireturn, 1) := by decide +kernel
theorem dX8_isSizeOf_46 : decode cX8_isSizeOf 46 = .ok (.iload_n 1, 1) := by decide +kernel
theorem dX8_isSizeOf_47 : decode cX8_isSizeOf 47 = .ok (.iconst 1, 1) := by decide +kernel
theorem dX8_isSizeOf_48 : decode cX8_isSizeOf 48 = .ok (.if_icmp .lt 13, 3) := by decide +kernel
theorem dX8_isSizeOf_61 : decode cX8_isSizeOf 61 = .ok (.iconst 0, 1) := by decide +kernel
theorem dX8_isSizeOf_62 : decode cX8_isSizeOf 62 = .ok (.ireturn, 1) := by decide +kernel
theorem dX8_isSizeOf_51 : decode cX8_isSizeOf 51 = .ok (.iload_n 1, 1) := by decide +kernel
theorem dX8_isSizeOf_52 : decode cX8_isSizeOf 52 = .ok (.bipush 8, 2) := by decide +kernel
theorem dX8_isSizeOf_54 : decode cX8_isSizeOf 54 = .ok (.if_icmp .gt 7, 3) := by decide +kernel
theorem dX8_isSizeOf_57 : decode cX8_isSizeOf 57 = .ok (.iconst 1, 1) := by decide +kernel
theorem dX8_isSizeOf_58 : decode cX8_isSizeOf 58 = .ok (.goto 4, 3) := by decide +kernel
theorem dX8_isSizeOf_63 : decode cX8_isSizeOf 63 = .ok (.iload_n 1, 1) := by decide +kernel
theorem dX8_isSizeOf_64 : decode cX8_isSizeOf 64 = .ok (.bipush (-99), 2) := by decide +kernel
theorem dX8_isSizeOf_66 : decode cX8_isSizeOf 66 = .ok (.if_icmp .lt 13, 3) := by decide +kernel
theorem dX8_isSizeOf_79 : decode cX8_isSizeOf 79 = .ok (.iconst 0, 1) := by decide +kernel
theorem dX8_isSizeOf_80 : decode cX8_isSizeOf 80 = .ok (.ireturn, 1) := by decide +kernel
theorem dX8_isSizeOf_69 : decode cX8_isSizeOf 69 = .ok (.iload_n 1, 1) := by decide +kernel
theorem dX8_isSizeOf_70 : decode cX8_isSizeOf 70 = .ok (.bipush 99, 2) := by decide +kernel
theorem dX8_isSizeOf_72 : decode cX8_isSizeOf 72 = .ok (.if_icmp .gt 7, 3) := by decide +kernel
theorem dX8_isSizeOf_75 : decode cX8_isSizeOf 75 = .ok (.iconst 1, 1) := by decide +kernel
theorem dX8_isSizeOf_76 : decode cX8_isSizeOf 76 = .ok (.goto 4, 3) := by decide +kernel
theorem dX1_addVariable_16 : decode cX1_addVariable 16 = .ok (.aload_n 0, 1) := by decide +kernel
theorem dX1_addVariable_17 : decode cX1_addVariable 17 = .ok (.iload_n 1, 1) := by decide +kernel
theorem dX1_addVariable_18 : decode cX1_addVariable 18 = .ok (.iload_n 2, 1) := by decide +kernel
theorem dX1_addVariable_19 : decode cX1_addVariable 19 = .ok (.iload_n 3, 1) := by decide +kernel
theorem dX1_addVariable_20 : decode cX1_addVariable 20 = .ok (.iload 4, 2) := by decide +kernel
theorem dX1_addVariable_22 : decode cX1_addVariable 22 = .ok (.invokevirtual 59, 3) := by decide +kernel
theorem dX1_addVariable_25 : decode cX1_addVariable 25 = .ok (.iconst (-1), 1) := by decide +kernel
theorem dX1_addVariable_26 : decode cX1_addVariable 26 = .ok (.ireturn, 1) := by decide +kernel
theorem dL_variable_0 : decode cL_variable 0 = .ok (.aload 5, 2) := by decide +kernel
theorem dL_variable_2 : decode cL_variable 2 = .ok (.iconst 0, 1) := by decide +kernel
theorem dL_variable_3 : decode cL_variable 3 = .ok (.aload_n 0, 1) := by decide +kernel
theorem dL_variable_4 : decode cL_variable 4 = .ok (.iload_n 1, 1) := by decide +kernel
theorem dL_variable_5 : decode cL_variable 5 = .ok (.iload_n 2, 1) := by decide +kernel
theorem dL_variable_6 : decode cL_variable 6 = .ok (.iload_n 3, 1) := by decide +kernel
theorem dL_variable_7 : decode cL_variable 7 = .ok (.iload 4, 2) := by decide +kernel
theorem dL_variable_9 : decode cL_variable 9 = .ok (.invokevirtual 23, 3) := by decide +kernel
theorem dL_variable_17 : decode cL_variable 17 = .ok (.astore 6, 2) := by decide +kernel
theorem dL_variable_19 : decode cL_variable 19 = .ok (.iconst 1, 1) := by decide +kernel
theorem dL_variable_20 : decode cL_variable 20 = .ok (.ireturn, 1) := by decide +kernel
theorem dL_variable_21 : decode cL_variable 21 = .ok (.astore 6, 2) := by decide +kernel
theorem dL_variable_23 : decode cL_variable 23 = .ok (.iconst 2, 1) := by decide +kernel
theorem dL_variable_24 : decode cL_variable 24 = .ok (.ireturn, 1) := by decide +kernel
theorem dL_variable_12 : decode cL_variable 12 = .ok (.i2l, 1) := by decide +kernel
theorem dL_variable_13 : decode cL_variable 13 = .ok (.lastore, 1) := by decide +kernel
theorem dL_variable_14 : decode cL_variable 14 = .ok (.goto 15, 3) := by decide +kernel
theorem dL_variable_29 : decode cL_variable 29 = .ok (.iconst 0, 1) := by decide +kernel
theorem dL_variable_30 : decode cL_variable 30 = .ok (.ireturn, 1) := by decide +kernel
theorem dX1_declarer_0 : decode cX1_declarer 0 = .ok (.iload_n 1, 1) := by decide +kernel
theorem dX1_declarer_1 : decode cX1_declarer 1 = .ok (.istore_n 3, 1) := by decide +kernel
theorem dX1_declarer_2 : decode cX1_declarer 2 = .ok (.iconst 0, 1) := by decide +kernel
theorem dX1_declarer_3 : decode cX1_declarer 3 = .ok (.istore 4, 2) := by decide +kernel
theorem dX1_declarer_5 : decode cX1_declarer 5 = .ok (.iload 4, 2) := by decide +kernel
theorem dX1_declarer_7 : decode cX1_declarer 7 = .ok (.bipush 10, 2) := by decide +kernel
theorem dX1_declarer_9 : decode cX1_declarer 9 = .ok (.if_icmp .ge 32, 3) := by decide +kernel
theorem dX1_declarer_12 : decode cX1_declarer 12 = .ok (.iload_n 3, 1) := by decide +kernel
theorem dX1_declarer_13 : decode cX1_declarer 13 = .ok (.iconst (-1), 1) := by decide +kernel
theorem dX1_declarer_14 : decode cX1_declarer 14 = .ok (.if_icmp .eq 27, 3) := by decide +kernel
theorem dX1_declarer_17 : decode cX1_declarer 17 = .ok (.aload_n 0, 1) := by decide +kernel
theorem dX1_declarer_18 : decode cX1_declarer 18 = .ok (.iload_n 3, 1) := by decide +kernel
theorem dX1_declarer_19 : decode cX1_declarer 19 = .ok (.iload_n 2, 1) := by decide +kernel
theorem dX1_declarer_20 : decode cX1_declarer 20 = .ok (.invokevirtual 55, 3) := by decide +kernel
theorem dX1_declarer_23 : decode cX1_declarer 23 = .ok (.ifCond .eq 5, 3) := by decide +kernel
theorem dX1_declarer_28 : decode cX1_declarer 28 = .ok (.aload_n 0, 1) := by decide +kernel
theorem dX1_declarer_29 : decode cX1_declarer 29 = .ok (.getfield 15, 3) := by decide +kernel
theorem dX1_declarer_32 : decode cX1_declarer 32 = .ok (.iload_n 3, 1) := by decide +kernel
theorem dX1_declarer_33 : decode cX1_declarer 33 = .ok (.iaload, 1) := by decide +kernel
theorem dX1_declarer_34 : decode cX1_declarer 34 = .ok (.istore_n 3, 1) := by decide +kernel
theorem dX1_declarer_35 : decode cX1_declarer 35 = .ok (.iinc 4 1, 3) := by decide +kernel
theorem dX1_declarer_38 : decode cX1_declarer 38 = .ok (.goto (-33), 3) := by decide +kernel
theorem dX1_declarer_41 : decode cX1_declarer 41 = .ok (.iconst (-1), 1) := by decide +kernel
theorem dX1_declarer_42 : decode cX1_declarer 42 = .ok (.ireturn, 1) := by decide +kernel
theorem dX8_ofName_0 : decode cX8_ofName 0 = .ok (.aload_n 0, 1) := by decide +kernel
theorem dX8_ofName_1 : decode cX8_ofName 1 = .ok (.iload_n 1, 1) := by decide +kernel
theorem dX8_ofName_2 : decode cX8_ofName 2 = .ok (.invokevirtual 87, 3) := by decide +kernel
theorem dX8_ofName_5 : decode cX8_ofName 5 = .ok (.iload_n 2, 1) := by decide +kernel
theorem dX8_ofName_6 : decode cX8_ofName 6 = .ok (.invokestatic 91, 3) := by decide +kernel
theorem dX8_ofName_9 : decode cX8_ofName 9 = .ok (.ifCond .eq 16, 3) := by decide +kernel
theorem dX8_ofName_25 : decode cX8_ofName 25 = .ok (.iconst 0, 1) := by decide +kernel
theorem dX8_ofName_26 : decode cX8_ofName 26 = .ok (.invokestatic 95, 3) := by decide +kernel
theorem dX8_ofName_12 : decode cX8_ofName 12 = .ok (.iload_n 3, 1) := by decide +kernel
theorem dX8_ofName_13 : decode cX8_ofName 13 = .ok (.ifCond .lt 12, 3) := by decide +kernel
theorem dX8_ofName_16 : decode cX8_ofName 16 = .ok (.iload_n 3, 1) := by decide +kernel
theorem dX8_ofName_17 : decode cX8_ofName 17 = .ok (.iconst 4, 1) := by decide +kernel
theorem dX8_ofName_18 : decode cX8_ofName 18 = .ok (.if_icmp .gt 7, 3) := by decide +kernel
theorem dX8_ofName_21 : decode cX8_ofName 21 = .ok (.iconst 1, 1) := by decide +kernel
theorem dX8_ofName_22 : decode cX8_ofName 22 = .ok (.goto 4, 3) := by decide +kernel
theorem dX8_ofName_29 : decode cX8_ofName 29 = .ok (.aload_n 0, 1) := by decide +kernel
theorem dX8_ofName_30 : decode cX8_ofName 30 = .ok (.getfield 12, 3) := by decide +kernel
theorem dX8_ofName_33 : decode cX8_ofName 33 = .ok (.iload_n 1, 1) := by decide +kernel
theorem dX8_ofName_34 : decode cX8_ofName 34 = .ok (.iload_n 2, 1) := by decide +kernel
theorem dX8_ofName_35 : decode cX8_ofName 35 = .ok (.invokevirtual 130, 3) := by decide +kernel
theorem dX8_ofName_38 : decode cX8_ofName 38 = .ok (.istore 4, 2) := by decide +kernel
theorem dX8_ofName_40 : decode cX8_ofName 40 = .ok (.iload 4, 2) := by decide +kernel
theorem dX8_ofName_42 : decode cX8_ofName 42 = .ok (.iconst (-1), 1) := by decide +kernel
theorem dX8_ofName_43 : decode cX8_ofName 43 = .ok (.if_icmp .ne 5, 3) := by decide +kernel
theorem dX8_ofName_46 : decode cX8_ofName 46 = .ok (.iconst (-1), 1) := by decide +kernel
theorem dX8_ofName_47 : decode cX8_ofName 47 = .ok (.ireturn, 1) := by decide +kernel
theorem dL_ofName_0 : decode cL_ofName 0 = .ok (.aload 4, 2) := by decide +kernel
theorem dL_ofName_2 : decode cL_ofName 2 = .ok (.iconst 0, 1) := by decide +kernel
theorem dL_ofName_3 : decode cL_ofName 3 = .ok (.aload_n 0, 1) := by decide +kernel
theorem dL_ofName_4 : decode cL_ofName 4 = .ok (.iload_n 1, 1) := by decide +kernel
theorem dL_ofName_5 : decode cL_ofName 5 = .ok (.iload_n 2, 1) := by decide +kernel
theorem dL_ofName_6 : decode cL_ofName 6 = .ok (.iload_n 3, 1) := by decide +kernel
theorem dL_ofName_7 : decode cL_ofName 7 = .ok (.invokevirtual 27, 3) := by decide +kernel
theorem dL_ofName_15 : decode cL_ofName 15 = .ok (.astore 5, 2) := by decide +kernel
theorem dL_ofName_17 : decode cL_ofName 17 = .ok (.iconst 1, 1) := by decide +kernel
theorem dL_ofName_18 : decode cL_ofName 18 = .ok (.ireturn, 1) := by decide +kernel
theorem dL_ofName_19 : decode cL_ofName 19 = .ok (.astore 5, 2) := by decide +kernel
theorem dL_ofName_21 : decode cL_ofName 21 = .ok (.iconst 2, 1) := by decide +kernel
theorem dL_ofName_22 : decode cL_ofName 22 = .ok (.ireturn, 1) := by decide +kernel
theorem dL_ofName_10 : decode cL_ofName 10 = .ok (.i2l, 1) := by decide +kernel
theorem dL_ofName_11 : decode cL_ofName 11 = .ok (.lastore, 1) := by decide +kernel
theorem dL_ofName_12 : decode cL_ofName 12 = .ok (.goto 11, 3) := by decide +kernel
theorem dL_ofName_23 : decode cL_ofName 23 = .ok (.iconst 0, 1) := by decide +kernel
theorem dL_ofName_24 : decode cL_ofName 24 = .ok (.ireturn, 1) := by decide +kernel
theorem dX4_findWhereNodesAre_0 : decode cX4_findWhereNodesAre 0 = .ok (.aload_n 0, 1) := by decide +kernel
theorem dX4_findWhereNodesAre_1 : decode cX4_findWhereNodesAre 1 = .ok (.getfield 69, 3) := by decide +kernel
theorem dX4_findWhereNodesAre_4 : decode cX4_findWhereNodesAre 4 = .ok (.getfield 76, 3) := by decide +kernel
theorem dX4_findWhereNodesAre_7 : decode cX4_findWhereNodesAre 7 = .ok (.iconst 1, 1) := by decide +kernel
theorem dX4_findWhereNodesAre_8 : decode cX4_findWhereNodesAre 8 = .ok (.isub, 1) := by decide +kernel
theorem dX4_findWhereNodesAre_9 : decode cX4_findWhereNodesAre 9 = .ok (.istore_n 1, 1) := by decide +kernel
theorem dX4_findWhereNodesAre_10 : decode cX4_findWhereNodesAre 10 = .ok (.iload_n 1, 1) := by decide +kernel
theorem dX4_findWhereNodesAre_11 : decode cX4_findWhereNodesAre 11 = .ok (.ifCond .lt 77, 3) := by decide +kernel
theorem dX4_findWhereNodesAre_88 : decode cX4_findWhereNodesAre 88 = .ok (.return_, 1) := by decide +kernel
theorem dX4_findHandedOn_0 : decode cX4_findHandedOn 0 = .ok (.aload_n 0, 1) := by decide +kernel
theorem dX4_findHandedOn_1 : decode cX4_findHandedOn 1 = .ok (.getfield 49, 3) := by decide +kernel
theorem dX4_findHandedOn_4 : decode cX4_findHandedOn 4 = .ok (.iconst 0, 1) := by decide +kernel
theorem dX4_findHandedOn_5 : decode cX4_findHandedOn 5 = .ok (.invokestatic 163, 3) := by decide +kernel
theorem dX4_findHandedOn_8 : decode cX4_findHandedOn 8 = .ok (.iconst 0, 1) := by decide +kernel
theorem dX4_findHandedOn_9 : decode cX4_findHandedOn 9 = .ok (.istore_n 1, 1) := by decide +kernel
theorem dX4_findHandedOn_10 : decode cX4_findHandedOn 10 = .ok (.iload_n 1, 1) := by decide +kernel
theorem dX4_findHandedOn_11 : decode cX4_findHandedOn 11 = .ok (.bipush 10, 2) := by decide +kernel
theorem dX4_findHandedOn_13 : decode cX4_findHandedOn 13 = .ok (.if_icmp .ge 16, 3) := by decide +kernel
theorem dX4_findHandedOn_16 : decode cX4_findHandedOn 16 = .ok (.aload_n 0, 1) := by decide +kernel
theorem dX4_findHandedOn_17 : decode cX4_findHandedOn 17 = .ok (.getfield 46, 3) := by decide +kernel
theorem dX4_findHandedOn_20 : decode cX4_findHandedOn 20 = .ok (.iload_n 1, 1) := by decide +kernel
theorem dX4_findHandedOn_21 : decode cX4_findHandedOn 21 = .ok (.iconst 0, 1) := by decide +kernel
theorem dX4_findHandedOn_22 : decode cX4_findHandedOn 22 = .ok (.bastore, 1) := by decide +kernel
theorem dX4_findHandedOn_23 : decode cX4_findHandedOn 23 = .ok (.iinc 1 1, 3) := by decide +kernel
theorem dX4_findHandedOn_26 : decode cX4_findHandedOn 26 = .ok (.goto (-16), 3) := by decide +kernel
theorem dX4_findHandedOn_29 : decode cX4_findHandedOn 29 = .ok (.iconst 0, 1) := by decide +kernel
theorem dX4_findHandedOn_30 : decode cX4_findHandedOn 30 = .ok (.istore_n 1, 1) := by decide +kernel
theorem dX4_findHandedOn_31 : decode cX4_findHandedOn 31 = .ok (.iload_n 1, 1) := by decide +kernel
theorem dX4_findHandedOn_32 : decode cX4_findHandedOn 32 = .ok (.aload_n 0, 1) := by decide +kernel
theorem dX4_findHandedOn_33 : decode cX4_findHandedOn 33 = .ok (.getfield 69, 3) := by decide +kernel
theorem dX4_findHandedOn_36 : decode cX4_findHandedOn 36 = .ok (.getfield 76, 3) := by decide +kernel
theorem dX4_findHandedOn_39 : decode cX4_findHandedOn 39 = .ok (.if_icmp .ge 46, 3) := by decide +kernel
theorem dX4_findHandedOn_85 : decode cX4_findHandedOn 85 = .ok (.return_, 1) := by decide +kernel
theorem dX4_findEscapes_0 : decode cX4_findEscapes 0 = .ok (.iconst 0, 1) := by decide +kernel
theorem dX4_findEscapes_1 : decode cX4_findEscapes 1 = .ok (.istore_n 1, 1) := by decide +kernel
theorem dX4_findEscapes_2 : decode cX4_findEscapes 2 = .ok (.iload_n 1, 1) := by decide +kernel
theorem dX4_findEscapes_3 : decode cX4_findEscapes 3 = .ok (.aload_n 0, 1) := by decide +kernel
theorem dX4_findEscapes_4 : decode cX4_findEscapes 4 = .ok (.getfield 69, 3) := by decide +kernel
theorem dX4_findEscapes_7 : decode cX4_findEscapes 7 = .ok (.getfield 76, 3) := by decide +kernel
theorem dX4_findEscapes_10 : decode cX4_findEscapes 10 = .ok (.if_icmp .ge 58, 3) := by decide +kernel
theorem dX4_findEscapes_68 : decode cX4_findEscapes 68 = .ok (.return_, 1) := by decide +kernel
theorem dX4_findLabels_0 : decode cX4_findLabels 0 = .ok (.aload_n 0, 1) := by decide +kernel
theorem dX4_findLabels_1 : decode cX4_findLabels 1 = .ok (.getfield 43, 3) := by decide +kernel
theorem dX4_findLabels_4 : decode cX4_findLabels 4 = .ok (.iconst 0, 1) := by decide +kernel
theorem dX4_findLabels_5 : decode cX4_findLabels 5 = .ok (.invokestatic 163, 3) := by decide +kernel
theorem dX4_findLabels_8 : decode cX4_findLabels 8 = .ok (.iconst 0, 1) := by decide +kernel
theorem dX4_findLabels_9 : decode cX4_findLabels 9 = .ok (.istore_n 1, 1) := by decide +kernel
theorem dX4_findLabels_10 : decode cX4_findLabels 10 = .ok (.iload_n 1, 1) := by decide +kernel
theorem dX4_findLabels_11 : decode cX4_findLabels 11 = .ok (.aload_n 0, 1) := by decide +kernel
theorem dX4_findLabels_12 : decode cX4_findLabels 12 = .ok (.getfield 69, 3) := by decide +kernel
theorem dX4_findLabels_15 : decode cX4_findLabels 15 = .ok (.getfield 76, 3) := by decide +kernel
theorem dX4_findLabels_18 : decode cX4_findLabels 18 = .ok (.if_icmp .ge 58, 3) := by decide +kernel
theorem dX4_findLabels_76 : decode cX4_findLabels 76 = .ok (.return_, 1) := by decide +kernel
theorem dX4_findModes_0 : decode cX4_findModes 0 = .ok (.iconst 0, 1) := by decide +kernel
theorem dX4_findModes_1 : decode cX4_findModes 1 = .ok (.istore_n 1, 1) := by decide +kernel
theorem dX4_findModes_2 : decode cX4_findModes 2 = .ok (.iload_n 1, 1) := by decide +kernel
theorem dX4_findModes_3 : decode cX4_findModes 3 = .ok (.aload_n 0, 1) := by decide +kernel
theorem dX4_findModes_4 : decode cX4_findModes 4 = .ok (.getfield 69, 3) := by decide +kernel
theorem dX4_findModes_7 : decode cX4_findModes 7 = .ok (.getfield 76, 3) := by decide +kernel
theorem dX4_findModes_10 : decode cX4_findModes 10 = .ok (.if_icmp .ge 118, 3) := by decide +kernel
theorem dX4_findModes_128 : decode cX4_findModes 128 = .ok (.return_, 1) := by decide +kernel
theorem dJ6_bitCount_0f7a4_0 : decode cJ6_bitCount_0f7a4 0 = .ok (.iload_n 0, 1) := by decide +kernel
theorem dJ6_bitCount_0f7a4_1 : decode cJ6_bitCount_0f7a4 1 = .ok (.iload_n 0, 1) := by decide +kernel
theorem dJ6_bitCount_0f7a4_2 : decode cJ6_bitCount_0f7a4 2 = .ok (.iconst 1, 1) := by decide +kernel
theorem dJ6_bitCount_0f7a4_3 : decode cJ6_bitCount_0f7a4 3 = .ok (.iushr, 1) := by decide +kernel
theorem dJ6_bitCount_0f7a4_4 : decode cJ6_bitCount_0f7a4 4 = .ok (.ldc_w 265, 3) := by decide +kernel
theorem dJ6_bitCount_0f7a4_7 : decode cJ6_bitCount_0f7a4 7 = .ok (.iand, 1) := by decide +kernel
theorem dJ6_bitCount_0f7a4_8 : decode cJ6_bitCount_0f7a4 8 = .ok (.isub, 1) := by decide +kernel
theorem dJ6_bitCount_0f7a4_9 : decode cJ6_bitCount_0f7a4 9 = .ok (.istore_n 0, 1) := by decide +kernel
theorem dJ6_bitCount_0f7a4_10 : decode cJ6_bitCount_0f7a4 10 = .ok (.iload_n 0, 1) := by decide +kernel
theorem dJ6_bitCount_0f7a4_11 : decode cJ6_bitCount_0f7a4 11 = .ok (.ldc_w 266, 3) := by decide +kernel
theorem dJ6_bitCount_0f7a4_14 : decode cJ6_bitCount_0f7a4 14 = .ok (.iand, 1) := by decide +kernel
theorem dJ6_bitCount_0f7a4_15 : decode cJ6_bitCount_0f7a4 15 = .ok (.iload_n 0, 1) := by decide +kernel
theorem dJ6_bitCount_0f7a4_16 : decode cJ6_bitCount_0f7a4 16 = .ok (.iconst 2, 1) := by decide +kernel
theorem dJ6_bitCount_0f7a4_17 : decode cJ6_bitCount_0f7a4 17 = .ok (.iushr, 1) := by decide +kernel
theorem dJ6_bitCount_0f7a4_18 : decode cJ6_bitCount_0f7a4 18 = .ok (.ldc_w 266, 3) := by decide +kernel
theorem dJ6_bitCount_0f7a4_21 : decode cJ6_bitCount_0f7a4 21 = .ok (.iand, 1) := by decide +kernel
theorem dJ6_bitCount_0f7a4_22 : decode cJ6_bitCount_0f7a4 22 = .ok (.iadd, 1) := by decide +kernel
theorem dJ6_bitCount_0f7a4_23 : decode cJ6_bitCount_0f7a4 23 = .ok (.istore_n 0, 1) := by decide +kernel
theorem dJ6_bitCount_0f7a4_24 : decode cJ6_bitCount_0f7a4 24 = .ok (.iload_n 0, 1) := by decide +kernel
theorem dJ6_bitCount_0f7a4_25 : decode cJ6_bitCount_0f7a4 25 = .ok (.iload_n 0, 1) := by decide +kernel
theorem dJ6_bitCount_0f7a4_26 : decode cJ6_bitCount_0f7a4 26 = .ok (.iconst 4, 1) := by decide +kernel
theorem dJ6_bitCount_0f7a4_27 : decode cJ6_bitCount_0f7a4 27 = .ok (.iushr, 1) := by decide +kernel
theorem dJ6_bitCount_0f7a4_28 : decode cJ6_bitCount_0f7a4 28 = .ok (.iadd, 1) := by decide +kernel
theorem dJ6_bitCount_0f7a4_29 : decode cJ6_bitCount_0f7a4 29 = .ok (.ldc_w 267, 3) := by decide +kernel
theorem dJ6_bitCount_0f7a4_32 : decode cJ6_bitCount_0f7a4 32 = .ok (.iand, 1) := by decide +kernel
theorem dJ6_bitCount_0f7a4_33 : decode cJ6_bitCount_0f7a4 33 = .ok (.istore_n 0, 1) := by decide +kernel
theorem dJ6_bitCount_0f7a4_34 : decode cJ6_bitCount_0f7a4 34 = .ok (.iload_n 0, 1) := by decide +kernel
theorem dJ6_bitCount_0f7a4_35 : decode cJ6_bitCount_0f7a4 35 = .ok (.iload_n 0, 1) := by decide +kernel
theorem dJ6_bitCount_0f7a4_36 : decode cJ6_bitCount_0f7a4 36 = .ok (.bipush 8, 2) := by decide +kernel
theorem dJ6_bitCount_0f7a4_38 : decode cJ6_bitCount_0f7a4 38 = .ok (.iushr, 1) := by decide +kernel
theorem dJ6_bitCount_0f7a4_39 : decode cJ6_bitCount_0f7a4 39 = .ok (.iadd, 1) := by decide +kernel
theorem dJ6_bitCount_0f7a4_40 : decode cJ6_bitCount_0f7a4 40 = .ok (.istore_n 0, 1) := by decide +kernel
theorem dJ6_bitCount_0f7a4_41 : decode cJ6_bitCount_0f7a4 41 = .ok (.iload_n 0, 1) := by decide +kernel
theorem dJ6_bitCount_0f7a4_42 : decode cJ6_bitCount_0f7a4 42 = .ok (.iload_n 0, 1) := by decide +kernel
theorem dJ6_bitCount_0f7a4_43 : decode cJ6_bitCount_0f7a4 43 = .ok (.bipush 16, 2) := by decide +kernel
theorem dJ6_bitCount_0f7a4_45 : decode cJ6_bitCount_0f7a4 45 = .ok (.iushr, 1) := by decide +kernel
theorem dJ6_bitCount_0f7a4_46 : decode cJ6_bitCount_0f7a4 46 = .ok (.iadd, 1) := by decide +kernel
theorem dJ6_bitCount_0f7a4_47 : decode cJ6_bitCount_0f7a4 47 = .ok (.istore_n 0, 1) := by decide +kernel
theorem dJ6_bitCount_0f7a4_48 : decode cJ6_bitCount_0f7a4 48 = .ok (.iload_n 0, 1) := by decide +kernel
theorem dJ6_bitCount_0f7a4_49 : decode cJ6_bitCount_0f7a4 49 = .ok (.bipush 63, 2) := by decide +kernel
theorem dJ6_bitCount_0f7a4_51 : decode cJ6_bitCount_0f7a4 51 = .ok (.iand, 1) := by decide +kernel
theorem dJ6_bitCount_0f7a4_52 : decode cJ6_bitCount_0f7a4 52 = .ok (.ireturn, 1) := by decide +kernel
theorem dX4_sumUp_0 : decode cX4_sumUp 0 = .ok (.aload_n 0, 1) := by decide +kernel
theorem dX4_sumUp_1 : decode cX4_sumUp 1 = .ok (.iconst 0, 1) := by decide +kernel
theorem dX4_sumUp_2 : decode cX4_sumUp 2 = .ok (.putfield 52, 3) := by decide +kernel
theorem dX4_sumUp_5 : decode cX4_sumUp 5 = .ok (.aload_n 0, 1) := by decide +kernel
theorem dX4_sumUp_6 : decode cX4_sumUp 6 = .ok (.iconst 0, 1) := by decide +kernel
theorem dX4_sumUp_7 : decode cX4_sumUp 7 = .ok (.putfield 56, 3) := by decide +kernel
theorem dX4_sumUp_10 : decode cX4_sumUp 10 = .ok (.aload_n 0, 1) := by decide +kernel
theorem dX4_sumUp_11 : decode cX4_sumUp 11 = .ok (.iconst 0, 1) := by decide +kernel
theorem dX4_sumUp_12 : decode cX4_sumUp 12 = .ok (.putfield 59, 3) := by decide +kernel
theorem dX4_sumUp_15 : decode cX4_sumUp 15 = .ok (.aload_n 0, 1) := by decide +kernel
theorem dX4_sumUp_16 : decode cX4_sumUp 16 = .ok (.iconst 0, 1) := by decide +kernel
theorem dX4_sumUp_17 : decode cX4_sumUp 17 = .ok (.putfield 62, 3) := by decide +kernel
theorem dX4_sumUp_20 : decode cX4_sumUp 20 = .ok (.iconst 0, 1) := by decide +kernel
theorem dX4_sumUp_21 : decode cX4_sumUp 21 = .ok (.istore_n 1, 1) := by decide +kernel
theorem dX4_sumUp_22 : decode cX4_sumUp 22 = .ok (.iload_n 1, 1) := by decide +kernel
theorem dX4_sumUp_23 : decode cX4_sumUp 23 = .ok (.aload_n 0, 1) := by decide +kernel
theorem dX4_sumUp_24 : decode cX4_sumUp 24 = .ok (.getfield 69, 3) := by decide +kernel
theorem dX4_sumUp_27 : decode cX4_sumUp 27 = .ok (.getfield 76, 3) := by decide +kernel
theorem dX4_sumUp_30 : decode cX4_sumUp 30 = .ok (.if_icmp .ge 78, 3) := by decide +kernel
theorem dX4_sumUp_108 : decode cX4_sumUp 108 = .ok (.iconst 0, 1) := by decide +kernel
theorem dX4_sumUp_109 : decode cX4_sumUp 109 = .ok (.istore_n 1, 1) := by decide +kernel
theorem dX4_sumUp_110 : decode cX4_sumUp 110 = .ok (.iload_n 1, 1) := by decide +kernel
theorem dX4_sumUp_111 : decode cX4_sumUp 111 = .ok (.aload_n 0, 1) := by decide +kernel
theorem dX4_sumUp_112 : decode cX4_sumUp 112 = .ok (.getfield 65, 3) := by decide +kernel
theorem dX4_sumUp_115 : decode cX4_sumUp 115 = .ok (.getfield 191, 3) := by decide +kernel
theorem dX4_sumUp_118 : decode cX4_sumUp 118 = .ok (.if_icmp .ge 27, 3) := by decide +kernel
theorem dX4_sumUp_121 : decode cX4_sumUp 121 = .ok (.aload_n 0, 1) := by decide +kernel
theorem dX4_sumUp_122 : decode cX4_sumUp 122 = .ok (.dup, 1) := by decide +kernel
theorem dX4_sumUp_123 : decode cX4_sumUp 123 = .ok (.getfield 62, 3) := by decide +kernel
theorem dX4_sumUp_126 : decode cX4_sumUp 126 = .ok (.aload_n 0, 1) := by decide +kernel
theorem dX4_sumUp_127 : decode cX4_sumUp 127 = .ok (.getfield 49, 3) := by decide +kernel
theorem dX4_sumUp_130 : decode cX4_sumUp 130 = .ok (.iload_n 1, 1) := by decide +kernel
theorem dX4_sumUp_131 : decode cX4_sumUp 131 = .ok (.iaload, 1) := by decide +kernel
theorem dX4_sumUp_132 : decode cX4_sumUp 132 = .ok (.invokestatic 192, 3) := by decide +kernel
theorem dX4_sumUp_135 : decode cX4_sumUp 135 = .ok (.iadd, 1) := by decide +kernel
theorem dX4_sumUp_136 : decode cX4_sumUp 136 = .ok (.putfield 62, 3) := by decide +kernel
theorem dX4_sumUp_139 : decode cX4_sumUp 139 = .ok (.iinc 1 1, 3) := by decide +kernel
theorem dX4_sumUp_142 : decode cX4_sumUp 142 = .ok (.goto (-32), 3) := by decide +kernel
theorem dX4_sumUp_145 : decode cX4_sumUp 145 = .ok (.return_, 1) := by decide +kernel
theorem dX4_find_0 : decode cX4_find 0 = .ok (.aload_n 0, 1) := by decide +kernel
theorem dX4_find_1 : decode cX4_find 1 = .ok (.invokevirtual 73, 3) := by decide +kernel
theorem dX4_find_4 : decode cX4_find 4 = .ok (.iconst 0, 1) := by decide +kernel
theorem dX4_find_5 : decode cX4_find 5 = .ok (.istore_n 1, 1) := by decide +kernel
theorem dX4_find_6 : decode cX4_find 6 = .ok (.iload_n 1, 1) := by decide +kernel
theorem dX4_find_7 : decode cX4_find 7 = .ok (.aload_n 0, 1) := by decide +kernel
theorem dX4_find_8 : decode cX4_find 8 = .ok (.getfield 69, 3) := by decide +kernel
theorem dX4_find_11 : decode cX4_find 11 = .ok (.getfield 76, 3) := by decide +kernel
theorem dX4_find_14 : decode cX4_find 14 = .ok (.if_icmp .ge 19, 3) := by decide +kernel
theorem dX4_find_33 : decode cX4_find 33 = .ok (.aload_n 0, 1) := by decide +kernel
theorem dX4_find_34 : decode cX4_find 34 = .ok (.invokevirtual 88, 3) := by decide +kernel
theorem dX4_find_37 : decode cX4_find 37 = .ok (.aload_n 0, 1) := by decide +kernel
theorem dX4_find_38 : decode cX4_find 38 = .ok (.invokevirtual 91, 3) := by decide +kernel
theorem dX4_find_41 : decode cX4_find 41 = .ok (.aload_n 0, 1) := by decide +kernel
theorem dX4_find_42 : decode cX4_find 42 = .ok (.invokevirtual 94, 3) := by decide +kernel
theorem dX4_find_45 : decode cX4_find 45 = .ok (.iconst 0, 1) := by decide +kernel
theorem dX4_find_46 : decode cX4_find 46 = .ok (.istore_n 1, 1) := by decide +kernel
theorem dX4_find_47 : decode cX4_find 47 = .ok (.iload_n 1, 1) := by decide +kernel
theorem dX4_find_48 : decode cX4_find 48 = .ok (.aload_n 0, 1) := by decide +kernel
theorem dX4_find_49 : decode cX4_find 49 = .ok (.getfield 69, 3) := by decide +kernel
theorem dX4_find_52 : decode cX4_find 52 = .ok (.getfield 76, 3) := by decide +kernel
theorem dX4_find_55 : decode cX4_find 55 = .ok (.if_icmp .ge 56, 3) := by decide +kernel
theorem dX4_find_111 : decode cX4_find 111 = .ok (.aload_n 0, 1) := by decide +kernel
theorem dX4_find_112 : decode cX4_find 112 = .ok (.invokevirtual 108, 3) := by decide +kernel
theorem dX4_find_115 : decode cX4_find 115 = .ok (.aload_n 0, 1) := by decide +kernel
theorem dX4_find_116 : decode cX4_find 116 = .ok (.invokevirtual 111, 3) := by decide +kernel
theorem dX4_find_119 : decode cX4_find 119 = .ok (.return_, 1) := by decide +kernel
theorem dX2_tell_0 : decode cX2_tell 0 = .ok (.iload_n 1, 1) := by decide +kernel
theorem dX2_tell_1 : decode cX2_tell 1 = .ok (.ifCond .eq 55, 3) := by decide +kernel
theorem dX2_tell_4 : decode cX2_tell 4 = .ok (.aload_n 0, 1) := by decide +kernel
theorem dX2_tell_5 : decode cX2_tell 5 = .ok (.getfield 9, 3) := by decide +kernel
theorem dX2_tell_8 : decode cX2_tell 8 = .ok (.aload_n 0, 1) := by decide +kernel
theorem dX2_tell_9 : decode cX2_tell 9 = .ok (.getfield 15, 3) := by decide +kernel
theorem dX2_tell_12 : decode cX2_tell 12 = .ok (.arraylength, 1) := by decide +kernel
theorem dX2_tell_13 : decode cX2_tell 13 = .ok (.if_icmp .ge 43, 3) := by decide +kernel
theorem dX2_tell_16 : decode cX2_tell 16 = .ok (.aload_n 0, 1) := by decide +kernel
theorem dX2_tell_17 : decode cX2_tell 17 = .ok (.getfield 15, 3) := by decide +kernel
theorem dX2_tell_20 : decode cX2_tell 20 = .ok (.aload_n 0, 1) := by decide +kernel
theorem dX2_tell_21 : decode cX2_tell 21 = .ok (.getfield 9, 3) := by decide +kernel
theorem dX2_tell_24 : decode cX2_tell 24 = .ok (.iload_n 1, 1) := by decide +kernel
theorem dX2_tell_25 : decode cX2_tell 25 = .ok (.iastore, 1) := by decide +kernel
theorem dX2_tell_26 : decode cX2_tell 26 = .ok (.aload_n 0, 1) := by decide +kernel
theorem dX2_tell_27 : decode cX2_tell 27 = .ok (.getfield 19, 3) := by decide +kernel
theorem dX2_tell_30 : decode cX2_tell 30 = .ok (.aload_n 0, 1) := by decide +kernel
theorem dX2_tell_31 : decode cX2_tell 31 = .ok (.getfield 9, 3) := by decide +kernel
theorem dX2_tell_34 : decode cX2_tell 34 = .ok (.iload_n 2, 1) := by decide +kernel
theorem dX2_tell_35 : decode cX2_tell 35 = .ok (.iastore, 1) := by decide +kernel
theorem dX2_tell_36 : decode cX2_tell 36 = .ok (.aload_n 0, 1) := by decide +kernel
theorem dX2_tell_37 : decode cX2_tell 37 = .ok (.getfield 22, 3) := by decide +kernel
theorem dX2_tell_40 : decode cX2_tell 40 = .ok (.aload_n 0, 1) := by decide +kernel
theorem dX2_tell_41 : decode cX2_tell 41 = .ok (.getfield 9, 3) := by decide +kernel
theorem dX2_tell_44 : decode cX2_tell 44 = .ok (.iload_n 3, 1) := by decide +kernel
theorem dX2_tell_45 : decode cX2_tell 45 = .ok (.iastore, 1) := by decide +kernel
theorem dX2_tell_46 : decode cX2_tell 46 = .ok (.aload_n 0, 1) := by decide +kernel
theorem dX2_tell_47 : decode cX2_tell 47 = .ok (.dup, 1) := by decide +kernel
theorem dX2_tell_48 : decode cX2_tell 48 = .ok (.getfield 9, 3) := by decide +kernel
theorem dX2_tell_51 : decode cX2_tell 51 = .ok (.iconst 1, 1) := by decide +kernel
theorem dX2_tell_52 : decode cX2_tell 52 = .ok (.iadd, 1) := by decide +kernel
theorem dX2_tell_53 : decode cX2_tell 53 = .ok (.putfield 9, 3) := by decide +kernel
theorem dX2_tell_56 : decode cX2_tell 56 = .ok (.return_, 1) := by decide +kernel
theorem dX2_await_0 : decode cX2_await 0 = .ok (.iload_n 1, 1) := by decide +kernel
theorem dX2_await_1 : decode cX2_await 1 = .ok (.iconst (-1), 1) := by decide +kernel
theorem dX2_await_2 : decode cX2_await 2 = .ok (.if_icmp .eq 35, 3) := by decide +kernel
theorem dX2_await_37 : decode cX2_await 37 = .ok (.return_, 1) := by decide +kernel
theorem dX2_find_0 : decode cX2_find 0 = .ok (.aload_n 0, 1) := by decide +kernel
theorem dX2_find_1 : decode cX2_find 1 = .ok (.iconst 0, 1) := by decide +kernel
theorem dX2_find_2 : decode cX2_find 2 = .ok (.putfield 9, 3) := by decide +kernel
theorem dX2_find_5 : decode cX2_find 5 = .ok (.iconst 0, 1) := by decide +kernel
theorem dX2_find_6 : decode cX2_find 6 = .ok (.istore_n 1, 1) := by decide +kernel
theorem dX2_find_7 : decode cX2_find 7 = .ok (.iload_n 1, 1) := by decide +kernel
theorem dX2_find_8 : decode cX2_find 8 = .ok (.aload_n 0, 1) := by decide +kernel
theorem dX2_find_9 : decode cX2_find 9 = .ok (.getfield 31, 3) := by decide +kernel
theorem dX2_find_12 : decode cX2_find 12 = .ok (.getfield 43, 3) := by decide +kernel
theorem dX2_find_15 : decode cX2_find 15 = .ok (.if_icmp .ge 136, 3) := by decide +kernel
theorem dX2_find_18 : decode cX2_find 18 = .ok (.aload_n 0, 1) := by decide +kernel
theorem dX2_find_19 : decode cX2_find 19 = .ok (.getfield 31, 3) := by decide +kernel
theorem dX2_find_22 : decode cX2_find 22 = .ok (.getfield 46, 3) := by decide +kernel
theorem dX2_find_25 : decode cX2_find 25 = .ok (.iload_n 1, 1) := by decide +kernel
theorem dX2_find_26 : decode cX2_find 26 = .ok (.iaload, 1) := by decide +kernel
theorem dX2_find_27 : decode cX2_find 27 = .ok (.iconst (-1), 1) := by decide +kernel
theorem dX2_find_28 : decode cX2_find 28 = .ok (.if_icmp .ne 11, 3) := by decide +kernel
theorem dX2_find_31 : decode cX2_find 31 = .ok (.aload_n 0, 1) := by decide +kernel
theorem dX2_find_32 : decode cX2_find 32 = .ok (.bipush 10, 2) := by decide +kernel
theorem dX2_find_34 : decode cX2_find 34 = .ok (.iload_n 1, 1) := by decide +kernel
theorem dX2_find_35 : decode cX2_find 35 = .ok (.iconst (-1), 1) := by decide +kernel
theorem dX2_find_36 : decode cX2_find 36 = .ok (.invokevirtual 49, 3) := by decide +kernel
theorem dX2_find_39 : decode cX2_find 39 = .ok (.aload_n 0, 1) := by decide +kernel
theorem dX2_find_40 : decode cX2_find 40 = .ok (.iconst 0, 1) := by decide +kernel
theorem dX2_find_41 : decode cX2_find 41 = .ok (.putfield 28, 3) := by decide +kernel
theorem dX2_find_44 : decode cX2_find 44 = .ok (.aload_n 0, 1) := by decide +kernel
theorem dX2_find_45 : decode cX2_find 45 = .ok (.aload_n 0, 1) := by decide +kernel
theorem dX2_find_46 : decode cX2_find 46 = .ok (.getfield 31, 3) := by decide +kernel
theorem dX2_find_49 : decode cX2_find 49 = .ok (.getfield 46, 3) := by decide +kernel
theorem dX2_find_52 : decode cX2_find 52 = .ok (.iload_n 1, 1) := by decide +kernel
theorem dX2_find_53 : decode cX2_find 53 = .ok (.iaload, 1) := by decide +kernel
theorem dX2_find_54 : decode cX2_find 54 = .ok (.invokevirtual 53, 3) := by decide +kernel
theorem dX2_find_57 : decode cX2_find 57 = .ok (.iconst 0, 1) := by decide +kernel
theorem dX2_find_58 : decode cX2_find 58 = .ok (.istore_n 2, 1) := by decide +kernel
theorem dX2_find_59 : decode cX2_find 59 = .ok (.iload_n 2, 1) := by decide +kernel
theorem dX2_find_60 : decode cX2_find 60 = .ok (.bipush 110, 2) := by decide +kernel
theorem dX2_find_62 : decode cX2_find 62 = .ok (.if_icmp .ge 83, 3) := by decide +kernel
theorem dX2_find_65 : decode cX2_find 65 = .ok (.aload_n 0, 1) := by decide +kernel
theorem dX2_find_66 : decode cX2_find 66 = .ok (.getfield 28, 3) := by decide +kernel
theorem dX2_find_69 : decode cX2_find 69 = .ok (.ifCond .le 76, 3) := by decide +kernel
theorem dX2_find_145 : decode cX2_find 145 = .ok (.iinc 1 1, 3) := by decide +kernel
theorem dX2_find_148 : decode cX2_find 148 = .ok (.goto (-141), 3) := by decide +kernel
theorem dX2_find_151 : decode cX2_find 151 = .ok (.return_, 1) := by decide +kernel
theorem dX0_forget_0 : decode cX0_forget 0 = .ok (.aload_n 0, 1) := by decide +kernel
theorem dX0_forget_1 : decode cX0_forget 1 = .ok (.iconst (-1), 1) := by decide +kernel
theorem dX0_forget_2 : decode cX0_forget 2 = .ok (.putfield 9, 3) := by decide +kernel
theorem dX0_forget_5 : decode cX0_forget 5 = .ok (.return_, 1) := by decide +kernel
theorem dX8_refresh_0 : decode cX8_refresh 0 = .ok (.aload_n 0, 1) := by decide +kernel
theorem dX8_refresh_1 : decode cX8_refresh 1 = .ok (.getfield 70, 3) := by decide +kernel
theorem dX8_refresh_4 : decode cX8_refresh 4 = .ok (.ifCond .eq 36, 3) := by decide +kernel
theorem dX8_refresh_7 : decode cX8_refresh 7 = .ok (.aload_n 0, 1) := by decide +kernel
theorem dX8_refresh_8 : decode cX8_refresh 8 = .ok (.getfield 28, 3) := by decide +kernel
theorem dX8_refresh_11 : decode cX8_refresh 11 = .ok (.invokevirtual 335, 3) := by decide +kernel
theorem dX8_refresh_14 : decode cX8_refresh 14 = .ok (.aload_n 0, 1) := by decide +kernel
theorem dX8_refresh_15 : decode cX8_refresh 15 = .ok (.getfield 37, 3) := by decide +kernel
theorem dX8_refresh_18 : decode cX8_refresh 18 = .ok (.invokevirtual 338, 3) := by decide +kernel
theorem dX8_refresh_21 : decode cX8_refresh 21 = .ok (.aload_n 0, 1) := by decide +kernel
theorem dX8_refresh_22 : decode cX8_refresh 22 = .ok (.getfield 44, 3) := by decide +kernel
theorem dX8_refresh_25 : decode cX8_refresh 25 = .ok (.invokevirtual 339, 3) := by decide +kernel
theorem dX8_refresh_28 : decode cX8_refresh 28 = .ok (.aload_n 0, 1) := by decide +kernel
theorem dX8_refresh_29 : decode cX8_refresh 29 = .ok (.getfield 48, 3) := by decide +kernel
theorem dX8_refresh_32 : decode cX8_refresh 32 = .ok (.invokevirtual 339, 3) := by decide +kernel
theorem dX8_refresh_35 : decode cX8_refresh 35 = .ok (.aload_n 0, 1) := by decide +kernel
theorem dX8_refresh_36 : decode cX8_refresh 36 = .ok (.iconst 0, 1) := by decide +kernel
theorem dX8_refresh_37 : decode cX8_refresh 37 = .ok (.putfield 70, 3) := by decide +kernel
theorem dX8_refresh_40 : decode cX8_refresh 40 = .ok (.return_, 1) := by decide +kernel
theorem dX8_codeLength_0 : decode cX8_codeLength 0 = .ok (.aload_n 0, 1) := by decide +kernel
theorem dX8_codeLength_1 : decode cX8_codeLength 1 = .ok (.getfield 37, 3) := by decide +kernel
theorem dX8_codeLength_4 : decode cX8_codeLength 4 = .ok (.getfield 219, 3) := by decide +kernel
theorem dX8_codeLength_7 : decode cX8_codeLength 7 = .ok (.ifCond .eq 5, 3) := by decide +kernel
theorem dX8_codeLength_10 : decode cX8_codeLength 10 = .ok (.iconst 0, 1) := by decide +kernel
theorem dX8_codeLength_11 : decode cX8_codeLength 11 = .ok (.ireturn, 1) := by decide +kernel
theorem dX8_ofProcedure_0 : decode cX8_ofProcedure 0 = .ok (.aload_n 0, 1) := by decide +kernel
theorem dX8_ofProcedure_1 : decode cX8_ofProcedure 1 = .ok (.iload_n 1, 1) := by decide +kernel
theorem dX8_ofProcedure_2 : decode cX8_ofProcedure 2 = .ok (.invokevirtual 87, 3) := by decide +kernel
theorem dX8_ofProcedure_5 : decode cX8_ofProcedure 5 = .ok (.iload_n 2, 1) := by decide +kernel
theorem dX8_ofProcedure_6 : decode cX8_ofProcedure 6 = .ok (.ifCond .lt 13, 3) := by decide +kernel
theorem dX8_ofProcedure_9 : decode cX8_ofProcedure 9 = .ok (.iload_n 2, 1) := by decide +kernel
theorem dX8_ofProcedure_10 : decode cX8_ofProcedure 10 = .ok (.bipush 7, 2) := by decide +kernel
theorem dX8_ofProcedure_12 : decode cX8_ofProcedure 12 = .ok (.if_icmp .gt 7, 3) := by decide +kernel
theorem dX8_ofProcedure_19 : decode cX8_ofProcedure 19 = .ok (.iconst 0, 1) := by decide +kernel
theorem dX8_ofProcedure_20 : decode cX8_ofProcedure 20 = .ok (.invokestatic 95, 3) := by decide +kernel
theorem dX8_ofProcedure_15 : decode cX8_ofProcedure 15 = .ok (.iconst 1, 1) := by decide +kernel
theorem dX8_ofProcedure_16 : decode cX8_ofProcedure 16 = .ok (.goto 4, 3) := by decide +kernel
theorem dX8_ofProcedure_23 : decode cX8_ofProcedure 23 = .ok (.aload_n 0, 1) := by decide +kernel
theorem dX8_ofProcedure_24 : decode cX8_ofProcedure 24 = .ok (.invokevirtual 146, 3) := by decide +kernel
theorem dX8_ofProcedure_27 : decode cX8_ofProcedure 27 = .ok (.iload_n 2, 1) := by decide +kernel
theorem dX8_ofProcedure_28 : decode cX8_ofProcedure 28 = .ok (.tableswitch 122 0 6 #[44, 54, 64, 74, 84, 94, 112], 44) := by decide +kernel
theorem dX8_ofProcedure_150 : decode cX8_ofProcedure 150 = .ok (.aload_n 0, 1) := by decide +kernel
theorem dX8_ofProcedure_151 : decode cX8_ofProcedure 151 = .ok (.iload_n 1, 1) := by decide +kernel
theorem dX8_ofProcedure_152 : decode cX8_ofProcedure 152 = .ok (.invokevirtual 171, 3) := by decide +kernel
theorem dX8_ofProcedure_155 : decode cX8_ofProcedure 155 = .ok (.ireturn, 1) := by decide +kernel
theorem dX8_ofProcedure_72 : decode cX8_ofProcedure 72 = .ok (.aload_n 0, 1) := by decide +kernel
theorem dX8_ofProcedure_73 : decode cX8_ofProcedure 73 = .ok (.getfield 12, 3) := by decide +kernel
theorem dX8_ofProcedure_76 : decode cX8_ofProcedure 76 = .ok (.getfield 149, 3) := by decide +kernel
theorem dX8_ofProcedure_79 : decode cX8_ofProcedure 79 = .ok (.iload_n 1, 1) := by decide +kernel
theorem dX8_ofProcedure_80 : decode cX8_ofProcedure 80 = .ok (.iaload, 1) := by decide +kernel
theorem dX8_ofProcedure_81 : decode cX8_ofProcedure 81 = .ok (.ireturn, 1) := by decide +kernel
theorem dX8_ofProcedure_82 : decode cX8_ofProcedure 82 = .ok (.aload_n 0, 1) := by decide +kernel
theorem dX8_ofProcedure_83 : decode cX8_ofProcedure 83 = .ok (.getfield 12, 3) := by decide +kernel
theorem dX8_ofProcedure_86 : decode cX8_ofProcedure 86 = .ok (.getfield 152, 3) := by decide +kernel
theorem dX8_ofProcedure_89 : decode cX8_ofProcedure 89 = .ok (.iload_n 1, 1) := by decide +kernel
theorem dX8_ofProcedure_90 : decode cX8_ofProcedure 90 = .ok (.iaload, 1) := by decide +kernel
theorem dX8_ofProcedure_91 : decode cX8_ofProcedure 91 = .ok (.ireturn, 1) := by decide +kernel
theorem dX8_ofProcedure_92 : decode cX8_ofProcedure 92 = .ok (.aload_n 0, 1) := by decide +kernel
theorem dX8_ofProcedure_93 : decode cX8_ofProcedure 93 = .ok (.getfield 12, 3) := by decide +kernel
theorem dX8_ofProcedure_96 : decode cX8_ofProcedure 96 = .ok (.getfield 155, 3) := by decide +kernel
theorem dX8_ofProcedure_99 : decode cX8_ofProcedure 99 = .ok (.iload_n 1, 1) := by decide +kernel
theorem dX8_ofProcedure_100 : decode cX8_ofProcedure 100 = .ok (.iaload, 1) := by decide +kernel
theorem dX8_ofProcedure_101 : decode cX8_ofProcedure 101 = .ok (.ireturn, 1) := by decide +kernel
theorem dX8_ofProcedure_102 : decode cX8_ofProcedure 102 = .ok (.aload_n 0, 1) := by decide +kernel
theorem dX8_ofProcedure_103 : decode cX8_ofProcedure 103 = .ok (.getfield 12, 3) := by decide +kernel
theorem dX8_ofProcedure_106 : decode cX8_ofProcedure 106 = .ok (.getfield 158, 3) := by decide +kernel
theorem dX8_ofProcedure_109 : decode cX8_ofProcedure 109 = .ok (.iload_n 1, 1) := by decide +kernel
theorem dX8_ofProcedure_110 : decode cX8_ofProcedure 110 = .ok (.iaload, 1) := by decide +kernel
theorem dX8_ofProcedure_111 : decode cX8_ofProcedure 111 = .ok (.ireturn, 1) := by decide +kernel
theorem dX8_ofProcedure_112 : decode cX8_ofProcedure 112 = .ok (.aload_n 0, 1) := by decide +kernel
theorem dX8_ofProcedure_113 : decode cX8_ofProcedure 113 = .ok (.getfield 28, 3) := by decide +kernel
theorem dX8_ofProcedure_116 : decode cX8_ofProcedure 116 = .ok (.getfield 161, 3) := by decide +kernel
theorem dX8_ofProcedure_119 : decode cX8_ofProcedure 119 = .ok (.iload_n 1, 1) := by decide +kernel
theorem dX8_ofProcedure_120 : decode cX8_ofProcedure 120 = .ok (.iaload, 1) := by decide +kernel
theorem dX8_ofProcedure_121 : decode cX8_ofProcedure 121 = .ok (.ireturn, 1) := by decide +kernel
theorem dX8_ofProcedure_122 : decode cX8_ofProcedure 122 = .ok (.aload_n 0, 1) := by decide +kernel
theorem dX8_ofProcedure_123 : decode cX8_ofProcedure 123 = .ok (.getfield 28, 3) := by decide +kernel
theorem dX8_ofProcedure_126 : decode cX8_ofProcedure 126 = .ok (.getfield 164, 3) := by decide +kernel
theorem dX8_ofProcedure_129 : decode cX8_ofProcedure 129 = .ok (.iload_n 1, 1) := by decide +kernel
theorem dX8_ofProcedure_130 : decode cX8_ofProcedure 130 = .ok (.baload, 1) := by decide +kernel
theorem dX8_ofProcedure_131 : decode cX8_ofProcedure 131 = .ok (.ifCond .eq 7, 3) := by decide +kernel
theorem dX8_ofProcedure_138 : decode cX8_ofProcedure 138 = .ok (.iconst 0, 1) := by decide +kernel
theorem dX8_ofProcedure_139 : decode cX8_ofProcedure 139 = .ok (.ireturn, 1) := by decide +kernel
theorem dX8_ofProcedure_140 : decode cX8_ofProcedure 140 = .ok (.aload_n 0, 1) := by decide +kernel
theorem dX8_ofProcedure_141 : decode cX8_ofProcedure 141 = .ok (.getfield 12, 3) := by decide +kernel
theorem dX8_ofProcedure_144 : decode cX8_ofProcedure 144 = .ok (.getfield 168, 3) := by decide +kernel
theorem dX8_ofProcedure_147 : decode cX8_ofProcedure 147 = .ok (.iload_n 1, 1) := by decide +kernel
theorem dX8_ofProcedure_148 : decode cX8_ofProcedure 148 = .ok (.iaload, 1) := by decide +kernel
theorem dX8_ofProcedure_149 : decode cX8_ofProcedure 149 = .ok (.ireturn, 1) := by decide +kernel
theorem dL_ofProcedure_0 : decode cL_ofProcedure 0 = .ok (.aload_n 3, 1) := by decide +kernel
theorem dL_ofProcedure_1 : decode cL_ofProcedure 1 = .ok (.iconst 0, 1) := by decide +kernel
theorem dL_ofProcedure_2 : decode cL_ofProcedure 2 = .ok (.aload_n 0, 1) := by decide +kernel
theorem dL_ofProcedure_3 : decode cL_ofProcedure 3 = .ok (.iload_n 1, 1) := by decide +kernel
theorem dL_ofProcedure_4 : decode cL_ofProcedure 4 = .ok (.iload_n 2, 1) := by decide +kernel
theorem dL_ofProcedure_5 : decode cL_ofProcedure 5 = .ok (.invokevirtual 30, 3) := by decide +kernel
theorem dL_ofProcedure_13 : decode cL_ofProcedure 13 = .ok (.astore 4, 2) := by decide +kernel
theorem dL_ofProcedure_15 : decode cL_ofProcedure 15 = .ok (.iconst 1, 1) := by decide +kernel
theorem dL_ofProcedure_16 : decode cL_ofProcedure 16 = .ok (.ireturn, 1) := by decide +kernel
theorem dL_ofProcedure_17 : decode cL_ofProcedure 17 = .ok (.astore 4, 2) := by decide +kernel
theorem dL_ofProcedure_19 : decode cL_ofProcedure 19 = .ok (.iconst 2, 1) := by decide +kernel
theorem dL_ofProcedure_20 : decode cL_ofProcedure 20 = .ok (.ireturn, 1) := by decide +kernel
theorem dL_ofProcedure_8 : decode cL_ofProcedure 8 = .ok (.i2l, 1) := by decide +kernel
theorem dL_ofProcedure_9 : decode cL_ofProcedure 9 = .ok (.lastore, 1) := by decide +kernel
theorem dL_ofProcedure_10 : decode cL_ofProcedure 10 = .ok (.goto 11, 3) := by decide +kernel
theorem dL_ofProcedure_21 : decode cL_ofProcedure 21 = .ok (.iconst 0, 1) := by decide +kernel
theorem dL_ofProcedure_22 : decode cL_ofProcedure 22 = .ok (.ireturn, 1) := by decide +kernel
theorem dX5_fills_0 : decode cX5_fills 0 = .ok (.iload_n 1, 1) := by decide +kernel
theorem dX5_fills_1 : decode cX5_fills 1 = .ok (.tableswitch 118 0 7 #[47, 57, 77, 82, 118, 118, 98, 98], 47) := by decide +kernel
theorem dX5_fills_58 : decode cX5_fills 58 = .ok (.iload_n 2, 1) := by decide +kernel
theorem dX5_fills_59 : decode cX5_fills 59 = .ok (.sipush (-999), 3) := by decide +kernel
theorem dX5_fills_62 : decode cX5_fills 62 = .ok (.if_icmp .lt 14, 3) := by decide +kernel
theorem dX5_fills_76 : decode cX5_fills 76 = .ok (.iconst 0, 1) := by decide +kernel
theorem dX5_fills_77 : decode cX5_fills 77 = .ok (.ireturn, 1) := by decide +kernel
theorem dX5_fills_65 : decode cX5_fills 65 = .ok (.iload_n 2, 1) := by decide +kernel
theorem dX5_fills_66 : decode cX5_fills 66 = .ok (.sipush 999, 3) := by decide +kernel
theorem dX5_fills_69 : decode cX5_fills 69 = .ok (.if_icmp .gt 7, 3) := by decide +kernel
theorem dX5_fills_72 : decode cX5_fills 72 = .ok (.iconst 1, 1) := by decide +kernel
theorem dX5_fills_73 : decode cX5_fills 73 = .ok (.goto 4, 3) := by decide +kernel
theorem dX5_fills_48 : decode cX5_fills 48 = .ok (.iload_n 2, 1) := by decide +kernel
theorem dX5_fills_49 : decode cX5_fills 49 = .ok (.ifCond .ne 7, 3) := by decide +kernel
theorem dX5_fills_52 : decode cX5_fills 52 = .ok (.iconst 1, 1) := by decide +kernel
theorem dX5_fills_53 : decode cX5_fills 53 = .ok (.goto 4, 3) := by decide +kernel
theorem dX5_fills_57 : decode cX5_fills 57 = .ok (.ireturn, 1) := by decide +kernel
theorem dX5_isSamePart_0 : decode cX5_isSamePart 0 = .ok (.iload_n 0, 1) := by decide +kernel
theorem dX5_isSamePart_1 : decode cX5_isSamePart 1 = .ok (.iconst 4, 1) := by decide +kernel
theorem dX5_isSamePart_2 : decode cX5_isSamePart 2 = .ok (.if_icmp .lt 22, 3) := by decide +kernel
theorem dX5_isSamePart_24 : decode cX5_isSamePart 24 = .ok (.iconst 0, 1) := by decide +kernel
theorem dX5_isSamePart_25 : decode cX5_isSamePart 25 = .ok (.ireturn, 1) := by decide +kernel
theorem dX5_fills_56 : decode cX5_fills 56 = .ok (.iconst 0, 1) := by decide +kernel
theorem dX5_suits_0 : decode cX5_suits 0 = .ok (.iload_n 1, 1) := by decide +kernel
theorem dX5_suits_1 : decode cX5_suits 1 = .ok (.ifCond .lt 9, 3) := by decide +kernel
theorem dX5_suits_4 : decode cX5_suits 4 = .ok (.iload_n 1, 1) := by decide +kernel
theorem dX5_suits_5 : decode cX5_suits 5 = .ok (.bipush 21, 2) := by decide +kernel
theorem dX5_suits_7 : decode cX5_suits 7 = .ok (.if_icmp .le 5, 3) := by decide +kernel
theorem dX5_suits_12 : decode cX5_suits 12 = .ok (.aload_n 0, 1) := by decide +kernel
theorem dX5_suits_13 : decode cX5_suits 13 = .ok (.getstatic 34, 3) := by decide +kernel
theorem dX5_suits_16 : decode cX5_suits 16 = .ok (.iload_n 1, 1) := by decide +kernel
theorem dX5_suits_17 : decode cX5_suits 17 = .ok (.iaload, 1) := by decide +kernel
theorem dX5_suits_18 : decode cX5_suits 18 = .ok (.iload_n 2, 1) := by decide +kernel
theorem dX5_suits_19 : decode cX5_suits 19 = .ok (.invokevirtual 43, 3) := by decide +kernel
theorem dX5_suits_22 : decode cX5_suits 22 = .ok (.ifCond .eq 90, 3) := by decide +kernel
theorem dX5_suits_112 : decode cX5_suits 112 = .ok (.iconst 0, 1) := by decide +kernel
theorem dX5_suits_113 : decode cX5_suits 113 = .ok (.ireturn, 1) := by decide +kernel
theorem dX5_suits_25 : decode cX5_suits 25 = .ok (.aload_n 0, 1) := by decide +kernel
theorem dX5_suits_26 : decode cX5_suits 26 = .ok (.getstatic 37, 3) := by decide +kernel
theorem dX5_suits_29 : decode cX5_suits 29 = .ok (.iload_n 1, 1) := by decide +kernel
theorem dX5_suits_30 : decode cX5_suits 30 = .ok (.iaload, 1) := by decide +kernel
theorem dX5_suits_31 : decode cX5_suits 31 = .ok (.iload_n 3, 1) := by decide +kernel
theorem dX5_suits_32 : decode cX5_suits 32 = .ok (.invokevirtual 43, 3) := by decide +kernel
theorem dX5_suits_35 : decode cX5_suits 35 = .ok (.ifCond .eq 77, 3) := by decide +kernel
theorem dX5_suits_38 : decode cX5_suits 38 = .ok (.aload_n 0, 1) := by decide +kernel
theorem dX5_suits_39 : decode cX5_suits 39 = .ok (.getstatic 40, 3) := by decide +kernel
theorem dX5_suits_42 : decode cX5_suits 42 = .ok (.iload_n 1, 1) := by decide +kernel
theorem dX5_suits_43 : decode cX5_suits 43 = .ok (.iaload, 1) := by decide +kernel
theorem dX5_suits_44 : decode cX5_suits 44 = .ok (.iload 4, 2) := by decide +kernel
theorem dX5_suits_46 : decode cX5_suits 46 = .ok (.invokevirtual 43, 3) := by decide +kernel
theorem dX5_suits_49 : decode cX5_suits 49 = .ok (.ifCond .eq 63, 3) := by decide +kernel
theorem dX5_suits_52 : decode cX5_suits 52 = .ok (.getstatic 34, 3) := by decide +kernel
theorem dX5_suits_55 : decode cX5_suits 55 = .ok (.iload_n 1, 1) := by decide +kernel
theorem dX5_suits_56 : decode cX5_suits 56 = .ok (.iaload, 1) := by decide +kernel
theorem dX5_suits_57 : decode cX5_suits 57 = .ok (.iload_n 2, 1) := by decide +kernel
theorem dX5_suits_58 : decode cX5_suits 58 = .ok (.getstatic 37, 3) := by decide +kernel
theorem dX5_suits_61 : decode cX5_suits 61 = .ok (.iload_n 1, 1) := by decide +kernel
theorem dX5_suits_62 : decode cX5_suits 62 = .ok (.iaload, 1) := by decide +kernel
theorem dX5_suits_63 : decode cX5_suits 63 = .ok (.iload_n 3, 1) := by decide +kernel
theorem dX5_suits_64 : decode cX5_suits 64 = .ok (.invokestatic 47, 3) := by decide +kernel
theorem dX5_suits_67 : decode cX5_suits 67 = .ok (.ifCond .ne 45, 3) := by decide +kernel
theorem dX5_suits_70 : decode cX5_suits 70 = .ok (.getstatic 34, 3) := by decide +kernel
theorem dX5_suits_73 : decode cX5_suits 73 = .ok (.iload_n 1, 1) := by decide +kernel
theorem dX5_suits_74 : decode cX5_suits 74 = .ok (.iaload, 1) := by decide +kernel
theorem dX5_suits_75 : decode cX5_suits 75 = .ok (.iload_n 2, 1) := by decide +kernel
theorem dX5_suits_76 : decode cX5_suits 76 = .ok (.getstatic 40, 3) := by decide +kernel
theorem dX5_suits_79 : decode cX5_suits 79 = .ok (.iload_n 1, 1) := by decide +kernel
theorem dX5_suits_80 : decode cX5_suits 80 = .ok (.iaload, 1) := by decide +kernel
theorem dX5_suits_81 : decode cX5_suits 81 = .ok (.iload 4, 2) := by decide +kernel
theorem dX5_suits_83 : decode cX5_suits 83 = .ok (.invokestatic 47, 3) := by decide +kernel
theorem dX5_suits_86 : decode cX5_suits 86 = .ok (.ifCond .ne 26, 3) := by decide +kernel
theorem dX5_suits_89 : decode cX5_suits 89 = .ok (.getstatic 37, 3) := by decide +kernel
theorem dX5_suits_92 : decode cX5_suits 92 = .ok (.iload_n 1, 1) := by decide +kernel
theorem dX5_suits_93 : decode cX5_suits 93 = .ok (.iaload, 1) := by decide +kernel
theorem dX5_suits_94 : decode cX5_suits 94 = .ok (.iload_n 3, 1) := by decide +kernel
theorem dX5_suits_95 : decode cX5_suits 95 = .ok (.getstatic 40, 3) := by decide +kernel
theorem dX5_suits_98 : decode cX5_suits 98 = .ok (.iload_n 1, 1) := by decide +kernel
theorem dX5_suits_99 : decode cX5_suits 99 = .ok (.iaload, 1) := by decide +kernel
theorem dX5_suits_100 : decode cX5_suits 100 = .ok (.iload 4, 2) := by decide +kernel
theorem dX5_suits_102 : decode cX5_suits 102 = .ok (.invokestatic 47, 3) := by decide +kernel
theorem dX5_suits_105 : decode cX5_suits 105 = .ok (.ifCond .ne 7, 3) := by decide +kernel
theorem dX5_suits_108 : decode cX5_suits 108 = .ok (.iconst 1, 1) := by decide +kernel
theorem dX5_suits_109 : decode cX5_suits 109 = .ok (.goto 4, 3) := by decide +kernel
theorem dX5_partA_0 : decode cX5_partA 0 = .ok (.getstatic 34, 3) := by decide +kernel
theorem dX5_partA_3 : decode cX5_partA 3 = .ok (.aload_n 0, 1) := by decide +kernel
theorem dX5_partA_4 : decode cX5_partA 4 = .ok (.getfield 15, 3) := by decide +kernel
theorem dX5_partA_7 : decode cX5_partA 7 = .ok (.iload_n 1, 1) := by decide +kernel
theorem dX5_partA_8 : decode cX5_partA 8 = .ok (.iaload, 1) := by decide +kernel
theorem dX5_partA_9 : decode cX5_partA 9 = .ok (.iaload, 1) := by decide +kernel
theorem dX5_partA_10 : decode cX5_partA 10 = .ok (.iconst 4, 1) := by decide +kernel
theorem dX5_partA_11 : decode cX5_partA 11 = .ok (.if_icmp .lt 12, 3) := by decide +kernel
theorem dX5_partA_23 : decode cX5_partA 23 = .ok (.iconst (-1), 1) := by decide +kernel
theorem dX5_partA_24 : decode cX5_partA 24 = .ok (.ireturn, 1) := by decide +kernel
theorem dX5_claim_0 : decode cX5_claim 0 = .ok (.iload_n 1, 1) := by decide +kernel
theorem dX5_claim_1 : decode cX5_claim 1 = .ok (.iconst (-1), 1) := by decide +kernel
theorem dX5_claim_2 : decode cX5_claim 2 = .ok (.if_icmp .eq 10, 3) := by decide +kernel
theorem dX5_claim_12 : decode cX5_claim 12 = .ok (.return_, 1) := by decide +kernel
theorem dX5_partB_0 : decode cX5_partB 0 = .ok (.getstatic 37, 3) := by decide +kernel
theorem dX5_partB_3 : decode cX5_partB 3 = .ok (.aload_n 0, 1) := by decide +kernel
theorem dX5_partB_4 : decode cX5_partB 4 = .ok (.getfield 15, 3) := by decide +kernel
theorem dX5_partB_7 : decode cX5_partB 7 = .ok (.iload_n 1, 1) := by decide +kernel
theorem dX5_partB_8 : decode cX5_partB 8 = .ok (.iaload, 1) := by decide +kernel
theorem dX5_partB_9 : decode cX5_partB 9 = .ok (.iaload, 1) := by decide +kernel
theorem dX5_partB_10 : decode cX5_partB 10 = .ok (.iconst 4, 1) := by decide +kernel
theorem dX5_partB_11 : decode cX5_partB 11 = .ok (.if_icmp .lt 12, 3) := by decide +kernel
theorem dX5_partB_23 : decode cX5_partB 23 = .ok (.iconst (-1), 1) := by decide +kernel
theorem dX5_partB_24 : decode cX5_partB 24 = .ok (.ireturn, 1) := by decide +kernel
theorem dX5_partC_0 : decode cX5_partC 0 = .ok (.getstatic 40, 3) := by decide +kernel
theorem dX5_partC_3 : decode cX5_partC 3 = .ok (.aload_n 0, 1) := by decide +kernel
theorem dX5_partC_4 : decode cX5_partC 4 = .ok (.getfield 15, 3) := by decide +kernel
theorem dX5_partC_7 : decode cX5_partC 7 = .ok (.iload_n 1, 1) := by decide +kernel
theorem dX5_partC_8 : decode cX5_partC 8 = .ok (.iaload, 1) := by decide +kernel
theorem dX5_partC_9 : decode cX5_partC 9 = .ok (.iaload, 1) := by decide +kernel
theorem dX5_partC_10 : decode cX5_partC 10 = .ok (.iconst 4, 1) := by decide +kernel
theorem dX5_partC_11 : decode cX5_partC 11 = .ok (.if_icmp .lt 12, 3) := by decide +kernel
theorem dX5_partC_23 : decode cX5_partC 23 = .ok (.iconst (-1), 1) := by decide +kernel
theorem dX5_partC_24 : decode cX5_partC 24 = .ok (.ireturn, 1) := by decide +kernel
theorem dX5_add_0 : decode cX5_add 0 = .ok (.aload_n 0, 1) := by decide +kernel
theorem dX5_add_1 : decode cX5_add 1 = .ok (.getfield 9, 3) := by decide +kernel
theorem dX5_add_4 : decode cX5_add 4 = .ok (.istore 5, 2) := by decide +kernel
theorem dX5_add_6 : decode cX5_add 6 = .ok (.aload_n 0, 1) := by decide +kernel
theorem dX5_add_7 : decode cX5_add 7 = .ok (.dup, 1) := by decide +kernel
theorem dX5_add_8 : decode cX5_add 8 = .ok (.getfield 9, 3) := by decide +kernel
theorem dX5_add_11 : decode cX5_add 11 = .ok (.iconst 1, 1) := by decide +kernel
theorem dX5_add_12 : decode cX5_add 12 = .ok (.iadd, 1) := by decide +kernel
theorem dX5_add_13 : decode cX5_add 13 = .ok (.putfield 9, 3) := by decide +kernel
theorem dX5_add_16 : decode cX5_add 16 = .ok (.aload_n 0, 1) := by decide +kernel
theorem dX5_add_17 : decode cX5_add 17 = .ok (.getfield 15, 3) := by decide +kernel
theorem dX5_add_20 : decode cX5_add 20 = .ok (.iload 5, 2) := by decide +kernel
theorem dX5_add_22 : decode cX5_add 22 = .ok (.iload_n 1, 1) := by decide +kernel
theorem dX5_add_23 : decode cX5_add 23 = .ok (.iastore, 1) := by decide +kernel
theorem dX5_add_24 : decode cX5_add 24 = .ok (.aload_n 0, 1) := by decide +kernel
theorem dX5_add_25 : decode cX5_add 25 = .ok (.getfield 19, 3) := by decide +kernel
theorem dX5_add_28 : decode cX5_add 28 = .ok (.iload 5, 2) := by decide +kernel
theorem dX5_add_30 : decode cX5_add 30 = .ok (.iload_n 2, 1) := by decide +kernel
theorem dX5_add_31 : decode cX5_add 31 = .ok (.iastore, 1) := by decide +kernel
theorem dX5_add_32 : decode cX5_add 32 = .ok (.aload_n 0, 1) := by decide +kernel
theorem dX5_add_33 : decode cX5_add 33 = .ok (.getfield 22, 3) := by decide +kernel
theorem dX5_add_36 : decode cX5_add 36 = .ok (.iload 5, 2) := by decide +kernel
theorem dX5_add_38 : decode cX5_add 38 = .ok (.iload_n 3, 1) := by decide +kernel
theorem dX5_add_39 : decode cX5_add 39 = .ok (.iastore, 1) := by decide +kernel
theorem dX5_add_40 : decode cX5_add 40 = .ok (.aload_n 0, 1) := by decide +kernel
theorem dX5_add_41 : decode cX5_add 41 = .ok (.getfield 25, 3) := by decide +kernel
theorem dX5_add_44 : decode cX5_add 44 = .ok (.iload 5, 2) := by decide +kernel
theorem dX5_add_46 : decode cX5_add 46 = .ok (.iload 4, 2) := by decide +kernel
theorem dX5_add_48 : decode cX5_add 48 = .ok (.iastore, 1) := by decide +kernel
theorem dX5_add_49 : decode cX5_add 49 = .ok (.aload_n 0, 1) := by decide +kernel
theorem dX5_add_50 : decode cX5_add 50 = .ok (.getfield 28, 3) := by decide +kernel
theorem dX5_add_53 : decode cX5_add 53 = .ok (.iload 5, 2) := by decide +kernel
theorem dX5_add_55 : decode cX5_add 55 = .ok (.iconst (-1), 1) := by decide +kernel
theorem dX5_add_56 : decode cX5_add 56 = .ok (.iastore, 1) := by decide +kernel
theorem dX5_add_57 : decode cX5_add 57 = .ok (.aload_n 0, 1) := by decide +kernel
theorem dX5_add_58 : decode cX5_add 58 = .ok (.getfield 31, 3) := by decide +kernel
theorem dX5_add_61 : decode cX5_add 61 = .ok (.iload 5, 2) := by decide +kernel
theorem dX5_add_63 : decode cX5_add 63 = .ok (.iconst (-1), 1) := by decide +kernel
theorem dX5_add_64 : decode cX5_add 64 = .ok (.iastore, 1) := by decide +kernel
theorem dX5_add_65 : decode cX5_add 65 = .ok (.aload_n 0, 1) := by decide +kernel
theorem dX5_add_66 : decode cX5_add 66 = .ok (.aload_n 0, 1) := by decide +kernel
theorem dX5_add_67 : decode cX5_add 67 = .ok (.iload 5, 2) := by decide +kernel
theorem dX5_add_69 : decode cX5_add 69 = .ok (.invokevirtual 70, 3) := by decide +kernel
theorem dX5_add_72 : decode cX5_add 72 = .ok (.iload 5, 2) := by decide +kernel
theorem dX5_add_74 : decode cX5_add 74 = .ok (.invokevirtual 74, 3) := by decide +kernel
theorem dX5_add_77 : decode cX5_add 77 = .ok (.aload_n 0, 1) := by decide +kernel
theorem dX5_add_78 : decode cX5_add 78 = .ok (.aload_n 0, 1) := by decide +kernel
theorem dX5_add_79 : decode cX5_add 79 = .ok (.iload 5, 2) := by decide +kernel
theorem dX5_add_81 : decode cX5_add 81 = .ok (.invokevirtual 78, 3) := by decide +kernel
theorem dX5_add_84 : decode cX5_add 84 = .ok (.iload 5, 2) := by decide +kernel
theorem dX5_add_86 : decode cX5_add 86 = .ok (.invokevirtual 74, 3) := by decide +kernel
theorem dX5_add_89 : decode cX5_add 89 = .ok (.aload_n 0, 1) := by decide +kernel
theorem dX5_add_90 : decode cX5_add 90 = .ok (.aload_n 0, 1) := by decide +kernel
theorem dX5_add_91 : decode cX5_add 91 = .ok (.iload 5, 2) := by decide +kernel
theorem dX5_add_93 : decode cX5_add 93 = .ok (.invokevirtual 81, 3) := by decide +kernel
theorem dX5_add_96 : decode cX5_add 96 = .ok (.iload 5, 2) := by decide +kernel
theorem dX5_add_98 : decode cX5_add 98 = .ok (.invokevirtual 74, 3) := by decide +kernel
theorem dX5_add_101 : decode cX5_add 101 = .ok (.iload 5, 2) := by decide +kernel
theorem dX5_add_103 : decode cX5_add 103 = .ok (.ireturn, 1) := by decide +kernel
theorem dX8_node_0 : decode cX8_node 0 = .ok (.aload_n 0, 1) := by decide +kernel
theorem dX8_node_1 : decode cX8_node 1 = .ok (.getfield 19, 3) := by decide +kernel
theorem dX8_node_4 : decode cX8_node 4 = .ok (.iload_n 1, 1) := by decide +kernel
theorem dX8_node_5 : decode cX8_node 5 = .ok (.iload_n 2, 1) := by decide +kernel
theorem dX8_node_6 : decode cX8_node 6 = .ok (.iload_n 3, 1) := by decide +kernel
theorem dX8_node_7 : decode cX8_node 7 = .ok (.iload 4, 2) := by decide +kernel
theorem dX8_node_9 : decode cX8_node 9 = .ok (.invokevirtual 175, 3) := by decide +kernel
theorem dX8_node_12 : decode cX8_node 12 = .ok (.invokestatic 95, 3) := by decide +kernel
theorem dX8_node_15 : decode cX8_node 15 = .ok (.aload_n 0, 1) := by decide +kernel
theorem dX8_node_16 : decode cX8_node 16 = .ok (.getfield 19, 3) := by decide +kernel
theorem dX8_node_19 : decode cX8_node 19 = .ok (.getfield 179, 3) := by decide +kernel
theorem dX8_node_22 : decode cX8_node 22 = .ok (.bipush 110, 2) := by decide +kernel
theorem dX8_node_24 : decode cX8_node 24 = .ok (.if_icmp .ge 7, 3) := by decide +kernel
theorem dX8_node_27 : decode cX8_node 27 = .ok (.iconst 1, 1) := by decide +kernel
theorem dX8_node_28 : decode cX8_node 28 = .ok (.goto 4, 3) := by decide +kernel
theorem dX8_node_32 : decode cX8_node 32 = .ok (.invokestatic 106, 3) := by decide +kernel
theorem dX8_node_35 : decode cX8_node 35 = .ok (.aload_n 0, 1) := by decide +kernel
theorem dX8_node_36 : decode cX8_node 36 = .ok (.iconst 1, 1) := by decide +kernel
theorem dX8_node_37 : decode cX8_node 37 = .ok (.putfield 70, 3) := by decide +kernel
theorem dX8_node_40 : decode cX8_node 40 = .ok (.aload_n 0, 1) := by decide +kernel
theorem dX8_node_41 : decode cX8_node 41 = .ok (.getfield 19, 3) := by decide +kernel
theorem dX8_node_44 : decode cX8_node 44 = .ok (.iload_n 1, 1) := by decide +kernel
theorem dX8_node_45 : decode cX8_node 45 = .ok (.iload_n 2, 1) := by decide +kernel
theorem dX8_node_46 : decode cX8_node 46 = .ok (.iload_n 3, 1) := by decide +kernel
theorem dX8_node_47 : decode cX8_node 47 = .ok (.iload 4, 2) := by decide +kernel
theorem dX8_node_49 : decode cX8_node 49 = .ok (.invokevirtual 180, 3) := by decide +kernel
theorem dX8_node_52 : decode cX8_node 52 = .ok (.ireturn, 1) := by decide +kernel
theorem dX5_fills_78 : decode cX5_fills 78 = .ok (.iload_n 2, 1) := by decide +kernel
theorem dX5_fills_79 : decode cX5_fills 79 = .ok (.invokestatic 51, 3) := by decide +kernel
theorem dX5_fills_82 : decode cX5_fills 82 = .ok (.ireturn, 1) := by decide +kernel
theorem dX5_has_0 : decode cX5_has 0 = .ok (.iload_n 1, 1) := by decide +kernel
theorem dX5_has_1 : decode cX5_has 1 = .ok (.ifCond .lt 15, 3) := by decide +kernel
theorem dX5_has_16 : decode cX5_has 16 = .ok (.iconst 0, 1) := by decide +kernel
theorem dX5_has_17 : decode cX5_has 17 = .ok (.ireturn, 1) := by decide +kernel
theorem dX5_has_4 : decode cX5_has 4 = .ok (.iload_n 1, 1) := by decide +kernel
theorem dX5_has_5 : decode cX5_has 5 = .ok (.aload_n 0, 1) := by decide +kernel
theorem dX5_has_6 : decode cX5_has 6 = .ok (.getfield 9, 3) := by decide +kernel
theorem dX5_has_9 : decode cX5_has 9 = .ok (.if_icmp .ge 7, 3) := by decide +kernel
theorem dX5_isPartFor_0 : decode cX5_isPartFor 0 = .ok (.aload_n 0, 1) := by decide +kernel
theorem dX5_isPartFor_1 : decode cX5_isPartFor 1 = .ok (.iload_n 2, 1) := by decide +kernel
theorem dX5_isPartFor_2 : decode cX5_isPartFor 2 = .ok (.invokevirtual 58, 3) := by decide +kernel
theorem dX5_isPartFor_5 : decode cX5_isPartFor 5 = .ok (.ifCond .eq 11, 3) := by decide +kernel
theorem dX5_isPartFor_16 : decode cX5_isPartFor 16 = .ok (.iconst 0, 1) := by decide +kernel
theorem dX5_isPartFor_17 : decode cX5_isPartFor 17 = .ok (.ireturn, 1) := by decide +kernel
theorem dX5_fills_119 : decode cX5_fills 119 = .ok (.aload_n 0, 1) := by decide +kernel
theorem dX5_fills_120 : decode cX5_fills 120 = .ok (.iload_n 1, 1) := by decide +kernel
theorem dX5_fills_121 : decode cX5_fills 121 = .ok (.iload_n 2, 1) := by decide +kernel
theorem dX5_fills_122 : decode cX5_fills 122 = .ok (.invokevirtual 55, 3) := by decide +kernel
theorem dX5_fills_125 : decode cX5_fills 125 = .ok (.ireturn, 1) := by decide +kernel
theorem dX5_fills_99 : decode cX5_fills 99 = .ok (.iload_n 2, 1) := by decide +kernel
theorem dX5_fills_100 : decode cX5_fills 100 = .ok (.iconst (-1), 1) := by decide +kernel
theorem dX5_fills_101 : decode cX5_fills 101 = .ok (.if_icmp .eq 12, 3) := by decide +kernel
theorem dX5_fills_113 : decode cX5_fills 113 = .ok (.iconst 1, 1) := by decide +kernel
theorem dX5_fills_114 : decode cX5_fills 114 = .ok (.goto 4, 3) := by decide +kernel
theorem dX5_fills_118 : decode cX5_fills 118 = .ok (.ireturn, 1) := by decide +kernel
theorem dX5_isSamePart_5 : decode cX5_isSamePart 5 = .ok (.iload_n 2, 1) := by decide +kernel
theorem dX5_isSamePart_6 : decode cX5_isSamePart 6 = .ok (.iconst 4, 1) := by decide +kernel
theorem dX5_isSamePart_7 : decode cX5_isSamePart 7 = .ok (.if_icmp .lt 17, 3) := by decide +kernel
theorem dX5_fills_104 : decode cX5_fills 104 = .ok (.aload_n 0, 1) := by decide +kernel
theorem dX5_fills_105 : decode cX5_fills 105 = .ok (.iload_n 1, 1) := by decide +kernel
theorem dX5_fills_106 : decode cX5_fills 106 = .ok (.iload_n 2, 1) := by decide +kernel
theorem dX5_fills_107 : decode cX5_fills 107 = .ok (.invokevirtual 55, 3) := by decide +kernel
theorem dX5_fills_110 : decode cX5_fills 110 = .ok (.ifCond .eq 7, 3) := by decide +kernel
theorem dX5_fills_117 : decode cX5_fills 117 = .ok (.iconst 0, 1) := by decide +kernel
theorem dX5_partB_14 : decode cX5_partB 14 = .ok (.aload_n 0, 1) := by decide +kernel
theorem dX5_partB_15 : decode cX5_partB 15 = .ok (.getfield 22, 3) := by decide +kernel
theorem dX5_partB_18 : decode cX5_partB 18 = .ok (.iload_n 1, 1) := by decide +kernel
theorem dX5_partB_19 : decode cX5_partB 19 = .ok (.iaload, 1) := by decide +kernel
theorem dX5_partB_20 : decode cX5_partB 20 = .ok (.goto 4, 3) := by decide +kernel
theorem dX5_fills_83 : decode cX5_fills 83 = .ok (.iload_n 2, 1) := by decide +kernel
theorem dX5_fills_84 : decode cX5_fills 84 = .ok (.ifCond .lt 13, 3) := by decide +kernel
theorem dX5_fills_97 : decode cX5_fills 97 = .ok (.iconst 0, 1) := by decide +kernel
theorem dX5_fills_98 : decode cX5_fills 98 = .ok (.ireturn, 1) := by decide +kernel
theorem dX5_fills_87 : decode cX5_fills 87 = .ok (.iload_n 2, 1) := by decide +kernel
theorem dX5_fills_88 : decode cX5_fills 88 = .ok (.bipush 10, 2) := by decide +kernel
theorem dX5_fills_90 : decode cX5_fills 90 = .ok (.if_icmp .ge 7, 3) := by decide +kernel
theorem dX5_fills_93 : decode cX5_fills 93 = .ok (.iconst 1, 1) := by decide +kernel
theorem dX5_fills_94 : decode cX5_fills 94 = .ok (.goto 4, 3) := by decide +kernel
theorem dX5_suits_10 : decode cX5_suits 10 = .ok (.iconst 0, 1) := by decide +kernel
theorem dX5_suits_11 : decode cX5_suits 11 = .ok (.ireturn, 1) := by decide +kernel
theorem dL_node_0 : decode cL_node 0 = .ok (.aload 5, 2) := by decide +kernel
theorem dL_node_2 : decode cL_node 2 = .ok (.iconst 0, 1) := by decide +kernel
theorem dL_node_3 : decode cL_node 3 = .ok (.aload_n 0, 1) := by decide +kernel
theorem dL_node_4 : decode cL_node 4 = .ok (.iload_n 1, 1) := by decide +kernel
theorem dL_node_5 : decode cL_node 5 = .ok (.iload_n 2, 1) := by decide +kernel
theorem dL_node_6 : decode cL_node 6 = .ok (.iload_n 3, 1) := by decide +kernel
theorem dL_node_7 : decode cL_node 7 = .ok (.iload 4, 2) := by decide +kernel
theorem dL_node_9 : decode cL_node 9 = .ok (.invokevirtual 33, 3) := by decide +kernel
theorem dL_node_17 : decode cL_node 17 = .ok (.astore 6, 2) := by decide +kernel
theorem dL_node_19 : decode cL_node 19 = .ok (.iconst 1, 1) := by decide +kernel
theorem dL_node_20 : decode cL_node 20 = .ok (.ireturn, 1) := by decide +kernel
theorem dL_node_12 : decode cL_node 12 = .ok (.i2l, 1) := by decide +kernel
theorem dL_node_13 : decode cL_node 13 = .ok (.lastore, 1) := by decide +kernel
theorem dL_node_14 : decode cL_node 14 = .ok (.goto 11, 3) := by decide +kernel
theorem dL_node_25 : decode cL_node 25 = .ok (.iconst 0, 1) := by decide +kernel
theorem dL_node_26 : decode cL_node 26 = .ok (.ireturn, 1) := by decide +kernel
theorem dX8_needNode_0 : decode cX8_needNode 0 = .ok (.aload_n 0, 1) := by decide +kernel
theorem dX8_needNode_1 : decode cX8_needNode 1 = .ok (.getfield 19, 3) := by decide +kernel
theorem dX8_needNode_4 : decode cX8_needNode 4 = .ok (.iload_n 1, 1) := by decide +kernel
theorem dX8_needNode_5 : decode cX8_needNode 5 = .ok (.invokevirtual 361, 3) := by decide +kernel
theorem dX8_needNode_8 : decode cX8_needNode 8 = .ok (.ifCond .ne 14, 3) := by decide +kernel
theorem dX8_needNode_11 : decode cX8_needNode 11 = .ok (.new 354, 3) := by decide +kernel
theorem dX8_needNode_14 : decode cX8_needNode 14 = .ok (.dup, 1) := by decide +kernel
theorem dX8_needNode_15 : decode cX8_needNode 15 = .ok (.ldc_w 362, 3) := by decide +kernel
theorem dX8_needNode_18 : decode cX8_needNode 18 = .ok (.invokespecial 358, 3) := by decide +kernel
theorem dX8_needNode_21 : decode cX8_needNode 21 = .ok (.athrow, 1) := by decide +kernel
theorem dX8_body_0 : decode cX8_body 0 = .ok (.aload_n 0, 1) := by decide +kernel
theorem dX8_body_1 : decode cX8_body 1 = .ok (.iload_n 1, 1) := by decide +kernel
theorem dX8_body_2 : decode cX8_body 2 = .ok (.invokevirtual 87, 3) := by decide +kernel
theorem dX8_body_5 : decode cX8_body 5 = .ok (.aload_n 0, 1) := by decide +kernel
theorem dX8_body_6 : decode cX8_body 6 = .ok (.iload_n 2, 1) := by decide +kernel
theorem dX8_body_7 : decode cX8_body 7 = .ok (.invokevirtual 183, 3) := by decide +kernel
theorem dL_body_0 : decode cL_body 0 = .ok (.aload_n 3, 1) := by decide +kernel
theorem dL_body_1 : decode cL_body 1 = .ok (.iconst 0, 1) := by decide +kernel
theorem dL_body_2 : decode cL_body 2 = .ok (.aload_n 0, 1) := by decide +kernel
theorem dL_body_3 : decode cL_body 3 = .ok (.iload_n 1, 1) := by decide +kernel
theorem dL_body_4 : decode cL_body 4 = .ok (.iload_n 2, 1) := by decide +kernel
theorem dL_body_5 : decode cL_body 5 = .ok (.invokevirtual 36, 3) := by decide +kernel
theorem dL_body_13 : decode cL_body 13 = .ok (.astore 4, 2) := by decide +kernel
theorem dL_body_15 : decode cL_body 15 = .ok (.iconst 1, 1) := by decide +kernel
theorem dL_body_16 : decode cL_body 16 = .ok (.ireturn, 1) := by decide +kernel
theorem dX8_ofNode_0 : decode cX8_ofNode 0 = .ok (.aload_n 0, 1) := by decide +kernel
theorem dX8_ofNode_1 : decode cX8_ofNode 1 = .ok (.iload_n 1, 1) := by decide +kernel
theorem dX8_ofNode_2 : decode cX8_ofNode 2 = .ok (.invokevirtual 183, 3) := by decide +kernel
theorem dL_ofNode_0 : decode cL_ofNode 0 = .ok (.aload_n 3, 1) := by decide +kernel
theorem dL_ofNode_1 : decode cL_ofNode 1 = .ok (.iconst 0, 1) := by decide +kernel
theorem dL_ofNode_2 : decode cL_ofNode 2 = .ok (.aload_n 0, 1) := by decide +kernel
theorem dL_ofNode_3 : decode cL_ofNode 3 = .ok (.iload_n 1, 1) := by decide +kernel
theorem dL_ofNode_4 : decode cL_ofNode 4 = .ok (.iload_n 2, 1) := by decide +kernel
theorem dL_ofNode_5 : decode cL_ofNode 5 = .ok (.invokevirtual 39, 3) := by decide +kernel
theorem dL_ofNode_13 : decode cL_ofNode 13 = .ok (.astore 4, 2) := by decide +kernel
theorem dL_ofNode_15 : decode cL_ofNode 15 = .ok (.iconst 1, 1) := by decide +kernel
theorem dL_ofNode_16 : decode cL_ofNode 16 = .ok (.ireturn, 1) := by decide +kernel
theorem dX8_needPlace_0 : decode cX8_needPlace 0 = .ok (.iload_n 0, 1) := by decide +kernel
theorem dX8_needPlace_1 : decode cX8_needPlace 1 = .ok (.ifCond .ne 14, 3) := by decide +kernel
theorem dX8_needPlace_4 : decode cX8_needPlace 4 = .ok (.new 354, 3) := by decide +kernel
theorem dX8_needPlace_7 : decode cX8_needPlace 7 = .ok (.dup, 1) := by decide +kernel
theorem dX8_needPlace_8 : decode cX8_needPlace 8 = .ok (.ldc_w 364, 3) := by decide +kernel
theorem dX8_needPlace_11 : decode cX8_needPlace 11 = .ok (.invokespecial 358, 3) := by decide +kernel
theorem dX8_needPlace_14 : decode cX8_needPlace 14 = .ok (.athrow, 1) := by decide +kernel
theorem dX8_needPlace_15 : decode cX8_needPlace 15 = .ok (.return_, 1) := by decide +kernel
theorem dX8_fault_0 : decode cX8_fault 0 = .ok (.aload_n 0, 1) := by decide +kernel
theorem dX8_fault_1 : decode cX8_fault 1 = .ok (.invokevirtual 146, 3) := by decide +kernel
theorem dX8_fault_4 : decode cX8_fault 4 = .ok (.iload_n 1, 1) := by decide +kernel
theorem dX8_fault_5 : decode cX8_fault 5 = .ok (.ifCond .lt 18, 3) := by decide +kernel
theorem dX8_fault_23 : decode cX8_fault 23 = .ok (.iconst 0, 1) := by decide +kernel
theorem dX8_fault_24 : decode cX8_fault 24 = .ok (.invokestatic 220, 3) := by decide +kernel
theorem dX8_fault_8 : decode cX8_fault 8 = .ok (.iload_n 1, 1) := by decide +kernel
theorem dX8_fault_9 : decode cX8_fault 9 = .ok (.aload_n 0, 1) := by decide +kernel
theorem dX8_fault_10 : decode cX8_fault 10 = .ok (.getfield 37, 3) := by decide +kernel
theorem dX8_fault_13 : decode cX8_fault 13 = .ok (.getfield 219, 3) := by decide +kernel
theorem dX8_fault_16 : decode cX8_fault 16 = .ok (.if_icmp .ge 7, 3) := by decide +kernel
theorem dX8_fault_19 : decode cX8_fault 19 = .ok (.iconst 1, 1) := by decide +kernel
theorem dX8_fault_20 : decode cX8_fault 20 = .ok (.goto 4, 3) := by decide +kernel
theorem dX8_fault_27 : decode cX8_fault 27 = .ok (.iload_n 2, 1) := by decide +kernel
theorem dX8_fault_28 : decode cX8_fault 28 = .ok (.ifCond .lt 12, 3) := by decide +kernel
theorem dX8_fault_31 : decode cX8_fault 31 = .ok (.iload_n 2, 1) := by decide +kernel
theorem dX8_fault_32 : decode cX8_fault 32 = .ok (.iconst 2, 1) := by decide +kernel
theorem dX8_fault_33 : decode cX8_fault 33 = .ok (.if_icmp .gt 7, 3) := by decide +kernel
theorem dX8_fault_36 : decode cX8_fault 36 = .ok (.iconst 1, 1) := by decide +kernel
theorem dX8_fault_37 : decode cX8_fault 37 = .ok (.goto 4, 3) := by decide +kernel
theorem dX8_fault_41 : decode cX8_fault 41 = .ok (.invokestatic 95, 3) := by decide +kernel
theorem dX8_fault_44 : decode cX8_fault 44 = .ok (.iload_n 2, 1) := by decide +kernel
theorem dX8_fault_45 : decode cX8_fault 45 = .ok (.lookupswitch 47 #[(0, 27), (1, 37)], 27) := by decide +kernel
theorem dX8_fault_72 : decode cX8_fault 72 = .ok (.aload_n 0, 1) := by decide +kernel
theorem dX8_fault_73 : decode cX8_fault 73 = .ok (.getfield 37, 3) := by decide +kernel
theorem dX8_fault_76 : decode cX8_fault 76 = .ok (.getfield 223, 3) := by decide +kernel
theorem dX8_fault_79 : decode cX8_fault 79 = .ok (.iload_n 1, 1) := by decide +kernel
theorem dX8_fault_80 : decode cX8_fault 80 = .ok (.iaload, 1) := by decide +kernel
theorem dX8_fault_81 : decode cX8_fault 81 = .ok (.ireturn, 1) := by decide +kernel
theorem dX8_fault_82 : decode cX8_fault 82 = .ok (.aload_n 0, 1) := by decide +kernel
theorem dX8_fault_83 : decode cX8_fault 83 = .ok (.getfield 37, 3) := by decide +kernel
theorem dX8_fault_86 : decode cX8_fault 86 = .ok (.getfield 226, 3) := by decide +kernel
theorem dX8_fault_89 : decode cX8_fault 89 = .ok (.iload_n 1, 1) := by decide +kernel
theorem dX8_fault_90 : decode cX8_fault 90 = .ok (.iaload, 1) := by decide +kernel
theorem dX8_fault_91 : decode cX8_fault 91 = .ok (.ireturn, 1) := by decide +kernel
theorem dX8_fault_40 : decode cX8_fault 40 = .ok (.iconst 0, 1) := by decide +kernel
theorem dX8_fault_92 : decode cX8_fault 92 = .ok (.aload_n 0, 1) := by decide +kernel
theorem dX8_fault_93 : decode cX8_fault 93 = .ok (.getfield 37, 3) := by decide +kernel
theorem dX8_fault_96 : decode cX8_fault 96 = .ok (.getfield 229, 3) := by decide +kernel
theorem dX8_fault_99 : decode cX8_fault 99 = .ok (.iload_n 1, 1) := by decide +kernel
theorem dX8_fault_100 : decode cX8_fault 100 = .ok (.iaload, 1) := by decide +kernel
theorem dX8_fault_101 : decode cX8_fault 101 = .ok (.ireturn, 1) := by decide +kernel
theorem dL_fault_0 : decode cL_fault 0 = .ok (.aload_n 3, 1) := by decide +kernel
theorem dL_fault_1 : decode cL_fault 1 = .ok (.iconst 0, 1) := by decide +kernel
theorem dL_fault_2 : decode cL_fault 2 = .ok (.aload_n 0, 1) := by decide +kernel
theorem dL_fault_3 : decode cL_fault 3 = .ok (.iload_n 1, 1) := by decide +kernel
theorem dL_fault_4 : decode cL_fault 4 = .ok (.iload_n 2, 1) := by decide +kernel
theorem dL_fault_5 : decode cL_fault 5 = .ok (.invokevirtual 42, 3) := by decide +kernel
theorem dL_fault_13 : decode cL_fault 13 = .ok (.astore 4, 2) := by decide +kernel
theorem dL_fault_15 : decode cL_fault 15 = .ok (.iconst 1, 1) := by decide +kernel
theorem dL_fault_16 : decode cL_fault 16 = .ok (.ireturn, 1) := by decide +kernel
theorem dL_fault_8 : decode cL_fault 8 = .ok (.i2l, 1) := by decide +kernel
theorem dL_fault_9 : decode cL_fault 9 = .ok (.lastore, 1) := by decide +kernel
theorem dL_fault_10 : decode cL_fault 10 = .ok (.goto 11, 3) := by decide +kernel
theorem dL_fault_21 : decode cL_fault 21 = .ok (.iconst 0, 1) := by decide +kernel
theorem dL_fault_22 : decode cL_fault 22 = .ok (.ireturn, 1) := by decide +kernel
theorem dL_fault_17 : decode cL_fault 17 = .ok (.astore 4, 2) := by decide +kernel
theorem dL_fault_19 : decode cL_fault 19 = .ok (.iconst 2, 1) := by decide +kernel
theorem dL_fault_20 : decode cL_fault 20 = .ok (.ireturn, 1) := by decide +kernel
theorem dX8_isPasses_0 : decode cX8_isPasses 0 = .ok (.iload_n 0, 1) := by decide +kernel
theorem dX8_isPasses_1 : decode cX8_isPasses 1 = .ok (.ifCond .lt 13, 3) := by decide +kernel
theorem dX8_isPasses_14 : decode cX8_isPasses 14 = .ok (.iconst 0, 1) := by decide +kernel
theorem dX8_isPasses_15 : decode cX8_isPasses 15 = .ok (.ireturn, 1) := by decide +kernel
theorem dX8_isPasses_4 : decode cX8_isPasses 4 = .ok (.iload_n 0, 1) := by decide +kernel
theorem dX8_isPasses_5 : decode cX8_isPasses 5 = .ok (.bipush 7, 2) := by decide +kernel
theorem dX8_isPasses_7 : decode cX8_isPasses 7 = .ok (.if_icmp .gt 7, 3) := by decide +kernel
theorem dX8_isPasses_10 : decode cX8_isPasses 10 = .ok (.iconst 1, 1) := by decide +kernel
theorem dX8_isPasses_11 : decode cX8_isPasses 11 = .ok (.goto 4, 3) := by decide +kernel
theorem dX8_passes_0 : decode cX8_passes 0 = .ok (.iload_n 1, 1) := by decide +kernel
theorem dX8_passes_1 : decode cX8_passes 1 = .ok (.invokestatic 232, 3) := by decide +kernel
theorem dX8_passes_4 : decode cX8_passes 4 = .ok (.invokestatic 95, 3) := by decide +kernel
theorem dX8_passes_7 : decode cX8_passes 7 = .ok (.aload_n 0, 1) := by decide +kernel
theorem dX8_passes_8 : decode cX8_passes 8 = .ok (.getfield 74, 3) := by decide +kernel
theorem dX8_passes_11 : decode cX8_passes 11 = .ok (.istore_n 2, 1) := by decide +kernel
theorem dX8_passes_12 : decode cX8_passes 12 = .ok (.aload_n 0, 1) := by decide +kernel
theorem dX8_passes_13 : decode cX8_passes 13 = .ok (.iload_n 1, 1) := by decide +kernel
theorem dX8_passes_14 : decode cX8_passes 14 = .ok (.putfield 74, 3) := by decide +kernel
theorem dX8_passes_17 : decode cX8_passes 17 = .ok (.iload_n 2, 1) := by decide +kernel
theorem dX8_passes_18 : decode cX8_passes 18 = .ok (.ireturn, 1) := by decide +kernel
theorem dL_passes_0 : decode cL_passes 0 = .ok (.aload_n 2, 1) := by decide +kernel
theorem dL_passes_1 : decode cL_passes 1 = .ok (.iconst 0, 1) := by decide +kernel
theorem dL_passes_2 : decode cL_passes 2 = .ok (.aload_n 0, 1) := by decide +kernel
theorem dL_passes_3 : decode cL_passes 3 = .ok (.iload_n 1, 1) := by decide +kernel
theorem dL_passes_4 : decode cL_passes 4 = .ok (.invokevirtual 45, 3) := by decide +kernel
theorem dL_passes_12 : decode cL_passes 12 = .ok (.astore_n 3, 1) := by decide +kernel
theorem dL_passes_13 : decode cL_passes 13 = .ok (.iconst 1, 1) := by decide +kernel
theorem dL_passes_14 : decode cL_passes 14 = .ok (.ireturn, 1) := by decide +kernel
theorem dL_passes_7 : decode cL_passes 7 = .ok (.i2l, 1) := by decide +kernel
theorem dL_passes_8 : decode cL_passes 8 = .ok (.lastore, 1) := by decide +kernel
theorem dL_passes_9 : decode cL_passes 9 = .ok (.goto 6, 3) := by decide +kernel
theorem dL_passes_15 : decode cL_passes 15 = .ok (.iconst 0, 1) := by decide +kernel
theorem dL_passes_16 : decode cL_passes 16 = .ok (.ireturn, 1) := by decide +kernel
theorem dX8_code_0 : decode cX8_code 0 = .ok (.aload_n 0, 1) := by decide +kernel
theorem dX8_code_1 : decode cX8_code 1 = .ok (.iload_n 1, 1) := by decide +kernel
theorem dX8_code_2 : decode cX8_code 2 = .ok (.invokevirtual 87, 3) := by decide +kernel
theorem dX8_code_5 : decode cX8_code 5 = .ok (.aload_n 0, 1) := by decide +kernel
theorem dX8_code_6 : decode cX8_code 6 = .ok (.invokevirtual 146, 3) := by decide +kernel
theorem dX8_code_9 : decode cX8_code 9 = .ok (.iload_n 2, 1) := by decide +kernel
theorem dX8_code_10 : decode cX8_code 10 = .ok (.ifCond .lt 16, 3) := by decide +kernel
theorem dX8_code_26 : decode cX8_code 26 = .ok (.iconst 0, 1) := by decide +kernel
theorem dX8_code_27 : decode cX8_code 27 = .ok (.invokestatic 220, 3) := by decide +kernel
theorem dX8_code_13 : decode cX8_code 13 = .ok (.iload_n 2, 1) := by decide +kernel
theorem dX8_code_14 : decode cX8_code 14 = .ok (.aload_n 0, 1) := by decide +kernel
theorem dX8_code_15 : decode cX8_code 15 = .ok (.iload_n 1, 1) := by decide +kernel
theorem dX8_code_16 : decode cX8_code 16 = .ok (.invokevirtual 171, 3) := by decide +kernel
theorem dX8_code_19 : decode cX8_code 19 = .ok (.if_icmp .ge 7, 3) := by decide +kernel
theorem dL_code_0 : decode cL_code 0 = .ok (.aload 4, 2) := by decide +kernel
theorem dL_code_2 : decode cL_code 2 = .ok (.iconst 0, 1) := by decide +kernel
theorem dL_code_3 : decode cL_code 3 = .ok (.aload_n 0, 1) := by decide +kernel
theorem dL_code_4 : decode cL_code 4 = .ok (.iload_n 1, 1) := by decide +kernel
theorem dL_code_5 : decode cL_code 5 = .ok (.iload_n 2, 1) := by decide +kernel
theorem dL_code_6 : decode cL_code 6 = .ok (.iload_n 3, 1) := by decide +kernel
theorem dL_code_7 : decode cL_code 7 = .ok (.invokevirtual 49, 3) := by decide +kernel
theorem dL_code_15 : decode cL_code 15 = .ok (.astore 5, 2) := by decide +kernel
theorem dL_code_17 : decode cL_code 17 = .ok (.iconst 1, 1) := by decide +kernel
theorem dL_code_18 : decode cL_code 18 = .ok (.ireturn, 1) := by decide +kernel
theorem dX8_areLimits_0 : decode cX8_areLimits 0 = .ok (.iload_n 0, 1) := by decide +kernel
theorem dX8_areLimits_1 : decode cX8_areLimits 1 = .ok (.iconst 1, 1) := by decide +kernel
theorem dX8_areLimits_2 : decode cX8_areLimits 2 = .ok (.if_icmp .lt 25, 3) := by decide +kernel
theorem dX8_areLimits_27 : decode cX8_areLimits 27 = .ok (.iconst 0, 1) := by decide +kernel
theorem dX8_areLimits_28 : decode cX8_areLimits 28 = .ok (.ireturn, 1) := by decide +kernel
theorem dX8_areLimits_5 : decode cX8_areLimits 5 = .ok (.iload_n 0, 1) := by decide +kernel
theorem dX8_areLimits_6 : decode cX8_areLimits 6 = .ok (.sipush 3000, 3) := by decide +kernel
theorem dX8_areLimits_9 : decode cX8_areLimits 9 = .ok (.if_icmp .gt 18, 3) := by decide +kernel
theorem dX8_areLimits_12 : decode cX8_areLimits 12 = .ok (.iload_n 1, 1) := by decide +kernel
theorem dX8_areLimits_13 : decode cX8_areLimits 13 = .ok (.iconst 1, 1) := by decide +kernel
theorem dX8_areLimits_14 : decode cX8_areLimits 14 = .ok (.if_icmp .lt 13, 3) := by decide +kernel
theorem dX8_areLimits_17 : decode cX8_areLimits 17 = .ok (.iload_n 1, 1) := by decide +kernel
theorem dX8_areLimits_18 : decode cX8_areLimits 18 = .ok (.bipush 40, 2) := by decide +kernel
theorem dX8_areLimits_20 : decode cX8_areLimits 20 = .ok (.if_icmp .gt 7, 3) := by decide +kernel
theorem dX8_areLimits_23 : decode cX8_areLimits 23 = .ok (.iconst 1, 1) := by decide +kernel
theorem dX8_areLimits_24 : decode cX8_areLimits 24 = .ok (.goto 4, 3) := by decide +kernel
theorem dX8_limits_0 : decode cX8_limits 0 = .ok (.iload_n 1, 1) := by decide +kernel
theorem dX8_limits_1 : decode cX8_limits 1 = .ok (.iload_n 2, 1) := by decide +kernel
theorem dX8_limits_2 : decode cX8_limits 2 = .ok (.invokestatic 250, 3) := by decide +kernel
theorem dX8_limits_5 : decode cX8_limits 5 = .ok (.invokestatic 95, 3) := by decide +kernel
theorem dX8_limits_8 : decode cX8_limits 8 = .ok (.aload_n 0, 1) := by decide +kernel
theorem dX8_limits_9 : decode cX8_limits 9 = .ok (.getfield 78, 3) := by decide +kernel
theorem dX8_limits_12 : decode cX8_limits 12 = .ok (.istore_n 3, 1) := by decide +kernel
theorem dX8_limits_13 : decode cX8_limits 13 = .ok (.aload_n 0, 1) := by decide +kernel
theorem dX8_limits_14 : decode cX8_limits 14 = .ok (.iload_n 1, 1) := by decide +kernel
theorem dX8_limits_15 : decode cX8_limits 15 = .ok (.putfield 78, 3) := by decide +kernel
theorem dX8_limits_18 : decode cX8_limits 18 = .ok (.aload_n 0, 1) := by decide +kernel
theorem dX8_limits_19 : decode cX8_limits 19 = .ok (.iload_n 2, 1) := by decide +kernel
theorem dX8_limits_20 : decode cX8_limits 20 = .ok (.putfield 81, 3) := by decide +kernel
theorem dX8_limits_23 : decode cX8_limits 23 = .ok (.iload_n 3, 1) := by decide +kernel
theorem dX8_limits_24 : decode cX8_limits 24 = .ok (.ireturn, 1) := by decide +kernel
theorem dL_limits_0 : decode cL_limits 0 = .ok (.aload_n 3, 1) := by decide +kernel
theorem dL_limits_1 : decode cL_limits 1 = .ok (.iconst 0, 1) := by decide +kernel
theorem dL_limits_2 : decode cL_limits 2 = .ok (.aload_n 0, 1) := by decide +kernel
theorem dL_limits_3 : decode cL_limits 3 = .ok (.iload_n 1, 1) := by decide +kernel
theorem dL_limits_4 : decode cL_limits 4 = .ok (.iload_n 2, 1) := by decide +kernel
theorem dL_limits_5 : decode cL_limits 5 = .ok (.invokevirtual 52, 3) := by decide +kernel
theorem dL_limits_13 : decode cL_limits 13 = .ok (.astore 4, 2) := by decide +kernel
theorem dL_limits_15 : decode cL_limits 15 = .ok (.iconst 1, 1) := by decide +kernel
theorem dL_limits_16 : decode cL_limits 16 = .ok (.ireturn, 1) := by decide +kernel
theorem dL_limits_8 : decode cL_limits 8 = .ok (.i2l, 1) := by decide +kernel
theorem dL_limits_9 : decode cL_limits 9 = .ok (.lastore, 1) := by decide +kernel
theorem dL_limits_10 : decode cL_limits 10 = .ok (.goto 7, 3) := by decide +kernel
theorem dL_limits_17 : decode cL_limits 17 = .ok (.iconst 0, 1) := by decide +kernel
theorem dL_limits_18 : decode cL_limits 18 = .ok (.ireturn, 1) := by decide +kernel
theorem dX8_run_0 : decode cX8_run 0 = .ok (.aload_n 0, 1) := by decide +kernel
theorem dX8_run_1 : decode cX8_run 1 = .ok (.invokevirtual 146, 3) := by decide +kernel
theorem dX8_run_4 : decode cX8_run 4 = .ok (.aload_n 0, 1) := by decide +kernel
theorem dX8_run_5 : decode cX8_run 5 = .ok (.getfield 37, 3) := by decide +kernel
theorem dX8_run_8 : decode cX8_run 8 = .ok (.getfield 219, 3) := by decide +kernel
theorem dX8_run_11 : decode cX8_run 11 = .ok (.ifCond .ne 7, 3) := by decide +kernel
theorem dX8_run_18 : decode cX8_run 18 = .ok (.iconst 0, 1) := by decide +kernel
theorem dX8_run_19 : decode cX8_run 19 = .ok (.invokestatic 106, 3) := by decide +kernel
theorem dL_run_0 : decode cL_run 0 = .ok (.aload_n 1, 1) := by decide +kernel
theorem dL_run_1 : decode cL_run 1 = .ok (.iconst 0, 1) := by decide +kernel
theorem dL_run_2 : decode cL_run 2 = .ok (.aload_n 0, 1) := by decide +kernel
theorem dL_run_3 : decode cL_run 3 = .ok (.invokevirtual 55, 3) := by decide +kernel
theorem dL_run_11 : decode cL_run 11 = .ok (.astore_n 2, 1) := by decide +kernel
theorem dL_run_12 : decode cL_run 12 = .ok (.iconst 1, 1) := by decide +kernel
theorem dL_run_13 : decode cL_run 13 = .ok (.ireturn, 1) := by decide +kernel
theorem dX6_answer_0 : decode cX6_answer 0 = .ok (.iload_n 1, 1) := by decide +kernel
theorem dX6_answer_1 : decode cX6_answer 1 = .ok (.tableswitch 96 0 8 #[51, 56, 61, 66, 71, 76, 81, 86, 91], 51) := by decide +kernel
theorem dX6_answer_97 : decode cX6_answer 97 = .ok (.aload_n 0, 1) := by decide +kernel
theorem dX6_answer_98 : decode cX6_answer 98 = .ok (.getfield 39, 3) := by decide +kernel
theorem dX6_answer_101 : decode cX6_answer 101 = .ok (.ireturn, 1) := by decide +kernel
theorem dX8_ofRun_0 : decode cX8_ofRun 0 = .ok (.iload_n 1, 1) := by decide +kernel
theorem dX8_ofRun_1 : decode cX8_ofRun 1 = .ok (.ifCond .lt 13, 3) := by decide +kernel
theorem dX8_ofRun_14 : decode cX8_ofRun 14 = .ok (.iconst 0, 1) := by decide +kernel
theorem dX8_ofRun_15 : decode cX8_ofRun 15 = .ok (.invokestatic 95, 3) := by decide +kernel
theorem dX8_ofRun_4 : decode cX8_ofRun 4 = .ok (.iload_n 1, 1) := by decide +kernel
theorem dX8_ofRun_5 : decode cX8_ofRun 5 = .ok (.bipush 10, 2) := by decide +kernel
theorem dX8_ofRun_7 : decode cX8_ofRun 7 = .ok (.if_icmp .gt 7, 3) := by decide +kernel
theorem dX6_answer_52 : decode cX6_answer 52 = .ok (.aload_n 0, 1) := by decide +kernel
theorem dX6_answer_53 : decode cX6_answer 53 = .ok (.getfield 9, 3) := by decide +kernel
theorem dX6_answer_56 : decode cX6_answer 56 = .ok (.ireturn, 1) := by decide +kernel
theorem dX6_answer_57 : decode cX6_answer 57 = .ok (.aload_n 0, 1) := by decide +kernel
theorem dX6_answer_58 : decode cX6_answer 58 = .ok (.getfield 15, 3) := by decide +kernel
theorem dX6_answer_61 : decode cX6_answer 61 = .ok (.ireturn, 1) := by decide +kernel
theorem dX6_answer_62 : decode cX6_answer 62 = .ok (.aload_n 0, 1) := by decide +kernel
theorem dX6_answer_63 : decode cX6_answer 63 = .ok (.getfield 18, 3) := by decide +kernel
theorem dX6_answer_66 : decode cX6_answer 66 = .ok (.ireturn, 1) := by decide +kernel
theorem dX6_answer_67 : decode cX6_answer 67 = .ok (.aload_n 0, 1) := by decide +kernel
theorem dX6_answer_68 : decode cX6_answer 68 = .ok (.getfield 21, 3) := by decide +kernel
theorem dX6_answer_71 : decode cX6_answer 71 = .ok (.ireturn, 1) := by decide +kernel
theorem dX6_answer_72 : decode cX6_answer 72 = .ok (.aload_n 0, 1) := by decide +kernel
theorem dX6_answer_73 : decode cX6_answer 73 = .ok (.getfield 24, 3) := by decide +kernel
theorem dX6_answer_76 : decode cX6_answer 76 = .ok (.ireturn, 1) := by decide +kernel
theorem dX6_answer_77 : decode cX6_answer 77 = .ok (.aload_n 0, 1) := by decide +kernel
theorem dX6_answer_78 : decode cX6_answer 78 = .ok (.getfield 27, 3) := by decide +kernel
theorem dX6_answer_81 : decode cX6_answer 81 = .ok (.ireturn, 1) := by decide +kernel
theorem dX6_answer_82 : decode cX6_answer 82 = .ok (.aload_n 0, 1) := by decide +kernel
theorem dX6_answer_83 : decode cX6_answer 83 = .ok (.getfield 30, 3) := by decide +kernel
theorem dX6_answer_86 : decode cX6_answer 86 = .ok (.ireturn, 1) := by decide +kernel
theorem dX6_answer_87 : decode cX6_answer 87 = .ok (.aload_n 0, 1) := by decide +kernel
theorem dX6_answer_88 : decode cX6_answer 88 = .ok (.getfield 33, 3) := by decide +kernel
theorem dX6_answer_91 : decode cX6_answer 91 = .ok (.ireturn, 1) := by decide +kernel
theorem dX6_answer_92 : decode cX6_answer 92 = .ok (.aload_n 0, 1) := by decide +kernel
theorem dX6_answer_93 : decode cX6_answer 93 = .ok (.getfield 36, 3) := by decide +kernel
theorem dX6_answer_96 : decode cX6_answer 96 = .ok (.ireturn, 1) := by decide +kernel
theorem dX8_ofRun_10 : decode cX8_ofRun 10 = .ok (.iconst 1, 1) := by decide +kernel
theorem dX8_ofRun_11 : decode cX8_ofRun 11 = .ok (.goto 4, 3) := by decide +kernel
theorem dX8_ofRun_18 : decode cX8_ofRun 18 = .ok (.iload_n 1, 1) := by decide +kernel
theorem dX8_ofRun_19 : decode cX8_ofRun 19 = .ok (.bipush 10, 2) := by decide +kernel
theorem dX8_ofRun_21 : decode cX8_ofRun 21 = .ok (.if_icmp .ne 10, 3) := by decide +kernel
theorem dX8_ofRun_31 : decode cX8_ofRun 31 = .ok (.aload_n 0, 1) := by decide +kernel
theorem dX8_ofRun_32 : decode cX8_ofRun 32 = .ok (.getfield 63, 3) := by decide +kernel
theorem dX8_ofRun_35 : decode cX8_ofRun 35 = .ok (.iload_n 1, 1) := by decide +kernel
theorem dX8_ofRun_36 : decode cX8_ofRun 36 = .ok (.invokevirtual 260, 3) := by decide +kernel
theorem dX8_ofRun_39 : decode cX8_ofRun 39 = .ok (.ireturn, 1) := by decide +kernel
theorem dX8_ofRun_24 : decode cX8_ofRun 24 = .ok (.aload_n 0, 1) := by decide +kernel
theorem dX8_ofRun_25 : decode cX8_ofRun 25 = .ok (.getfield 84, 3) := by decide +kernel
theorem dX8_ofRun_28 : decode cX8_ofRun 28 = .ok (.goto 11, 3) := by decide +kernel
theorem dL_ofRun_0 : decode cL_ofRun 0 = .ok (.aload_n 2, 1) := by decide +kernel
theorem dL_ofRun_1 : decode cL_ofRun 1 = .ok (.iconst 0, 1) := by decide +kernel
theorem dL_ofRun_2 : decode cL_ofRun 2 = .ok (.aload_n 0, 1) := by decide +kernel
theorem dL_ofRun_3 : decode cL_ofRun 3 = .ok (.iload_n 1, 1) := by decide +kernel
theorem dL_ofRun_4 : decode cL_ofRun 4 = .ok (.invokevirtual 59, 3) := by decide +kernel
theorem dL_ofRun_12 : decode cL_ofRun 12 = .ok (.astore_n 3, 1) := by decide +kernel
theorem dL_ofRun_13 : decode cL_ofRun 13 = .ok (.iconst 1, 1) := by decide +kernel
theorem dL_ofRun_14 : decode cL_ofRun 14 = .ok (.ireturn, 1) := by decide +kernel
theorem dL_ofRun_7 : decode cL_ofRun 7 = .ok (.i2l, 1) := by decide +kernel
theorem dL_ofRun_8 : decode cL_ofRun 8 = .ok (.lastore, 1) := by decide +kernel
theorem dL_ofRun_9 : decode cL_ofRun 9 = .ok (.goto 6, 3) := by decide +kernel
theorem dL_ofRun_15 : decode cL_ofRun 15 = .ok (.iconst 0, 1) := by decide +kernel
theorem dL_ofRun_16 : decode cL_ofRun 16 = .ok (.ireturn, 1) := by decide +kernel
theorem dX6_kept_0 : decode cX6_kept 0 = .ok (.aload_n 0, 1) := by decide +kernel
theorem dX6_kept_1 : decode cX6_kept 1 = .ok (.getfield 24, 3) := by decide +kernel
theorem dX6_kept_4 : decode cX6_kept 4 = .ok (.bipush 50, 2) := by decide +kernel
theorem dX6_kept_6 : decode cX6_kept 6 = .ok (.if_icmp .ge 10, 3) := by decide +kernel
theorem dX6_kept_9 : decode cX6_kept 9 = .ok (.aload_n 0, 1) := by decide +kernel
theorem dX6_kept_10 : decode cX6_kept 10 = .ok (.getfield 24, 3) := by decide +kernel
theorem dX6_kept_13 : decode cX6_kept 13 = .ok (.goto 5, 3) := by decide +kernel
theorem dX6_kept_18 : decode cX6_kept 18 = .ok (.ireturn, 1) := by decide +kernel
theorem dX8_printed_0 : decode cX8_printed 0 = .ok (.iload_n 1, 1) := by decide +kernel
theorem dX8_printed_1 : decode cX8_printed 1 = .ok (.ifCond .lt 18, 3) := by decide +kernel
theorem dX8_printed_19 : decode cX8_printed 19 = .ok (.iconst 0, 1) := by decide +kernel
theorem dX8_printed_20 : decode cX8_printed 20 = .ok (.invokestatic 220, 3) := by decide +kernel
theorem dX8_printed_4 : decode cX8_printed 4 = .ok (.iload_n 1, 1) := by decide +kernel
theorem dX8_printed_5 : decode cX8_printed 5 = .ok (.aload_n 0, 1) := by decide +kernel
theorem dX8_printed_6 : decode cX8_printed 6 = .ok (.getfield 63, 3) := by decide +kernel
theorem dX8_printed_9 : decode cX8_printed 9 = .ok (.invokevirtual 263, 3) := by decide +kernel
theorem dX8_printed_12 : decode cX8_printed 12 = .ok (.if_icmp .ge 7, 3) := by decide +kernel
theorem dL_printed_0 : decode cL_printed 0 = .ok (.aload_n 3, 1) := by decide +kernel
theorem dL_printed_1 : decode cL_printed 1 = .ok (.iconst 0, 1) := by decide +kernel
theorem dL_printed_2 : decode cL_printed 2 = .ok (.aload_n 0, 1) := by decide +kernel
theorem dL_printed_3 : decode cL_printed 3 = .ok (.iload_n 1, 1) := by decide +kernel
theorem dL_printed_4 : decode cL_printed 4 = .ok (.iload_n 2, 1) := by decide +kernel
theorem dL_printed_5 : decode cL_printed 5 = .ok (.invokevirtual 62, 3) := by decide +kernel
theorem dL_printed_13 : decode cL_printed 13 = .ok (.astore 4, 2) := by decide +kernel
theorem dL_printed_15 : decode cL_printed 15 = .ok (.iconst 1, 1) := by decide +kernel
theorem dL_printed_16 : decode cL_printed 16 = .ok (.ireturn, 1) := by decide +kernel
theorem dX8_meanPrinted_0 : decode cX8_meanPrinted 0 = .ok (.aload_n 0, 1) := by decide +kernel
theorem dX8_meanPrinted_1 : decode cX8_meanPrinted 1 = .ok (.getfield 63, 3) := by decide +kernel
theorem dX8_meanPrinted_4 : decode cX8_meanPrinted 4 = .ok (.getfield 276, 3) := by decide +kernel
theorem dX8_meanPrinted_7 : decode cX8_meanPrinted 7 = .ok (.ifCond .ne 5, 3) := by decide +kernel
theorem dX8_meanPrinted_10 : decode cX8_meanPrinted 10 = .ok (.dconst 0, 1) := by decide +kernel
theorem dX8_meanPrinted_11 : decode cX8_meanPrinted 11 = .ok (.dreturn, 1) := by decide +kernel
theorem dX8_wholeCodeLength_0 : decode cX8_wholeCodeLength 0 = .ok (.aload_n 0, 1) := by decide +kernel
theorem dX8_wholeCodeLength_1 : decode cX8_wholeCodeLength 1 = .ok (.getfield 37, 3) := by decide +kernel
theorem dX8_wholeCodeLength_4 : decode cX8_wholeCodeLength 4 = .ok (.getfield 219, 3) := by decide +kernel
theorem dX8_wholeCodeLength_7 : decode cX8_wholeCodeLength 7 = .ok (.ifCond .eq 5, 3) := by decide +kernel
theorem dX8_wholeCodeLength_10 : decode cX8_wholeCodeLength 10 = .ok (.iconst 0, 1) := by decide +kernel
theorem dX8_wholeCodeLength_11 : decode cX8_wholeCodeLength 11 = .ok (.ireturn, 1) := by decide +kernel
theorem dX8_many_0 : decode cX8_many 0 = .ok (.iload_n 1, 1) := by decide +kernel
theorem dX8_many_1 : decode cX8_many 1 = .ok (.ifCond .lt 13, 3) := by decide +kernel
theorem dX8_many_4 : decode cX8_many 4 = .ok (.iload_n 1, 1) := by decide +kernel
theorem dX8_many_5 : decode cX8_many 5 = .ok (.bipush 10, 2) := by decide +kernel
theorem dX8_many_7 : decode cX8_many 7 = .ok (.if_icmp .gt 7, 3) := by decide +kernel
theorem dX8_many_14 : decode cX8_many 14 = .ok (.iconst 0, 1) := by decide +kernel
theorem dX8_many_15 : decode cX8_many 15 = .ok (.invokestatic 95, 3) := by decide +kernel
theorem dX8_many_10 : decode cX8_many 10 = .ok (.iconst 1, 1) := by decide +kernel
theorem dX8_many_11 : decode cX8_many 11 = .ok (.goto 4, 3) := by decide +kernel
theorem dX8_many_18 : decode cX8_many 18 = .ok (.aload_n 0, 1) := by decide +kernel
theorem dX8_many_19 : decode cX8_many 19 = .ok (.invokevirtual 146, 3) := by decide +kernel
theorem dX8_many_22 : decode cX8_many 22 = .ok (.iload_n 1, 1) := by decide +kernel
theorem dX8_many_23 : decode cX8_many 23 = .ok (.tableswitch 124 0 9 #[53, 61, 69, 77, 85, 93, 101, 109, 114, 119], 53) := by decide +kernel
theorem dX8_many_147 : decode cX8_many 147 = .ok (.aload_n 0, 1) := by decide +kernel
theorem dX8_many_148 : decode cX8_many 148 = .ok (.aload_n 0, 1) := by decide +kernel
theorem dX8_many_149 : decode cX8_many 149 = .ok (.getfield 74, 3) := by decide +kernel
theorem dX8_many_152 : decode cX8_many 152 = .ok (.invokevirtual 295, 3) := by decide +kernel
theorem dX8_many_155 : decode cX8_many 155 = .ok (.ireturn, 1) := by decide +kernel
theorem dX8_many_76 : decode cX8_many 76 = .ok (.aload_n 0, 1) := by decide +kernel
theorem dX8_many_77 : decode cX8_many 77 = .ok (.getfield 12, 3) := by decide +kernel
theorem dX8_many_80 : decode cX8_many 80 = .ok (.getfield 99, 3) := by decide +kernel
theorem dX8_many_83 : decode cX8_many 83 = .ok (.ireturn, 1) := by decide +kernel
theorem dX8_many_84 : decode cX8_many 84 = .ok (.aload_n 0, 1) := by decide +kernel
theorem dX8_many_85 : decode cX8_many 85 = .ok (.getfield 19, 3) := by decide +kernel
theorem dX8_many_88 : decode cX8_many 88 = .ok (.getfield 179, 3) := by decide +kernel
theorem dX8_many_91 : decode cX8_many 91 = .ok (.ireturn, 1) := by decide +kernel
theorem dX8_many_92 : decode cX8_many 92 = .ok (.aload_n 0, 1) := by decide +kernel
theorem dX8_many_93 : decode cX8_many 93 = .ok (.getfield 28, 3) := by decide +kernel
theorem dX8_many_96 : decode cX8_many 96 = .ok (.getfield 283, 3) := by decide +kernel
theorem dX8_many_99 : decode cX8_many 99 = .ok (.ireturn, 1) := by decide +kernel
theorem dX8_many_100 : decode cX8_many 100 = .ok (.aload_n 0, 1) := by decide +kernel
theorem dX8_many_101 : decode cX8_many 101 = .ok (.getfield 37, 3) := by decide +kernel
theorem dX8_many_104 : decode cX8_many 104 = .ok (.getfield 219, 3) := by decide +kernel
theorem dX8_many_107 : decode cX8_many 107 = .ok (.ireturn, 1) := by decide +kernel
theorem dX8_many_108 : decode cX8_many 108 = .ok (.aload_n 0, 1) := by decide +kernel
theorem dX8_many_109 : decode cX8_many 109 = .ok (.getfield 28, 3) := by decide +kernel
theorem dX8_many_112 : decode cX8_many 112 = .ok (.getfield 286, 3) := by decide +kernel
theorem dX8_many_115 : decode cX8_many 115 = .ok (.ireturn, 1) := by decide +kernel
theorem dX8_many_116 : decode cX8_many 116 = .ok (.aload_n 0, 1) := by decide +kernel
theorem dX8_many_117 : decode cX8_many 117 = .ok (.getfield 28, 3) := by decide +kernel
theorem dX8_many_120 : decode cX8_many 120 = .ok (.getfield 289, 3) := by decide +kernel
theorem dX8_many_123 : decode cX8_many 123 = .ok (.ireturn, 1) := by decide +kernel
theorem dX8_many_124 : decode cX8_many 124 = .ok (.aload_n 0, 1) := by decide +kernel
theorem dX8_many_125 : decode cX8_many 125 = .ok (.getfield 28, 3) := by decide +kernel
theorem dX8_many_128 : decode cX8_many 128 = .ok (.getfield 292, 3) := by decide +kernel
theorem dX8_many_131 : decode cX8_many 131 = .ok (.ireturn, 1) := by decide +kernel
theorem dX8_many_132 : decode cX8_many 132 = .ok (.aload_n 0, 1) := by decide +kernel
theorem dX8_many_133 : decode cX8_many 133 = .ok (.getfield 74, 3) := by decide +kernel
theorem dX8_many_136 : decode cX8_many 136 = .ok (.ireturn, 1) := by decide +kernel
theorem dX8_many_137 : decode cX8_many 137 = .ok (.aload_n 0, 1) := by decide +kernel
theorem dX8_many_138 : decode cX8_many 138 = .ok (.getfield 78, 3) := by decide +kernel
theorem dX8_many_141 : decode cX8_many 141 = .ok (.ireturn, 1) := by decide +kernel
theorem dX8_many_142 : decode cX8_many 142 = .ok (.aload_n 0, 1) := by decide +kernel
theorem dX8_many_143 : decode cX8_many 143 = .ok (.getfield 81, 3) := by decide +kernel
theorem dX8_many_146 : decode cX8_many 146 = .ok (.ireturn, 1) := by decide +kernel
theorem dL_many_0 : decode cL_many 0 = .ok (.aload_n 2, 1) := by decide +kernel
theorem dL_many_1 : decode cL_many 1 = .ok (.iconst 0, 1) := by decide +kernel
theorem dL_many_2 : decode cL_many 2 = .ok (.aload_n 0, 1) := by decide +kernel
theorem dL_many_3 : decode cL_many 3 = .ok (.iload_n 1, 1) := by decide +kernel
theorem dL_many_4 : decode cL_many 4 = .ok (.invokevirtual 65, 3) := by decide +kernel
theorem dL_many_12 : decode cL_many 12 = .ok (.astore_n 3, 1) := by decide +kernel
theorem dL_many_13 : decode cL_many 13 = .ok (.iconst 1, 1) := by decide +kernel
theorem dL_many_14 : decode cL_many 14 = .ok (.ireturn, 1) := by decide +kernel
theorem dL_many_7 : decode cL_many 7 = .ok (.i2l, 1) := by decide +kernel
theorem dL_many_8 : decode cL_many 8 = .ok (.lastore, 1) := by decide +kernel
theorem dL_many_9 : decode cL_many 9 = .ok (.goto 6, 3) := by decide +kernel
theorem dL_many_15 : decode cL_many 15 = .ok (.iconst 0, 1) := by decide +kernel
theorem dL_many_16 : decode cL_many 16 = .ok (.ireturn, 1) := by decide +kernel
theorem dX8_wouldRun_0 : decode cX8_wouldRun 0 = .ok (.iload_n 1, 1) := by decide +kernel
theorem dX8_wouldRun_1 : decode cX8_wouldRun 1 = .ok (.iload_n 2, 1) := by decide +kernel
theorem dX8_wouldRun_2 : decode cX8_wouldRun 2 = .ok (.invokestatic 250, 3) := by decide +kernel
theorem dX8_wouldRun_5 : decode cX8_wouldRun 5 = .ok (.ifCond .eq 17, 3) := by decide +kernel
theorem dX8_wouldRun_22 : decode cX8_wouldRun 22 = .ok (.iconst 0, 1) := by decide +kernel
theorem dX8_wouldRun_23 : decode cX8_wouldRun 23 = .ok (.invokestatic 95, 3) := by decide +kernel
theorem dX8_wouldRun_8 : decode cX8_wouldRun 8 = .ok (.iload_n 3, 1) := by decide +kernel
theorem dX8_wouldRun_9 : decode cX8_wouldRun 9 = .ok (.ifCond .lt 13, 3) := by decide +kernel
theorem dX8_wouldRun_12 : decode cX8_wouldRun 12 = .ok (.iload_n 3, 1) := by decide +kernel
theorem dX8_wouldRun_13 : decode cX8_wouldRun 13 = .ok (.bipush 9, 2) := by decide +kernel
theorem dX8_wouldRun_15 : decode cX8_wouldRun 15 = .ok (.if_icmp .gt 7, 3) := by decide +kernel
theorem dX8_wouldRun_18 : decode cX8_wouldRun 18 = .ok (.iconst 1, 1) := by decide +kernel
theorem dX8_wouldRun_19 : decode cX8_wouldRun 19 = .ok (.goto 4, 3) := by decide +kernel
theorem dX8_wouldRun_26 : decode cX8_wouldRun 26 = .ok (.aload_n 0, 1) := by decide +kernel
theorem dX8_wouldRun_27 : decode cX8_wouldRun 27 = .ok (.invokevirtual 146, 3) := by decide +kernel
theorem dX8_wouldRun_30 : decode cX8_wouldRun 30 = .ok (.aload_n 0, 1) := by decide +kernel
theorem dX8_wouldRun_31 : decode cX8_wouldRun 31 = .ok (.getfield 37, 3) := by decide +kernel
theorem dX8_wouldRun_34 : decode cX8_wouldRun 34 = .ok (.getfield 219, 3) := by decide +kernel
theorem dX8_wouldRun_37 : decode cX8_wouldRun 37 = .ok (.ifCond .ne 7, 3) := by decide +kernel
theorem dX8_wouldRun_44 : decode cX8_wouldRun 44 = .ok (.iconst 0, 1) := by decide +kernel
theorem dX8_wouldRun_45 : decode cX8_wouldRun 45 = .ok (.invokestatic 106, 3) := by decide +kernel
theorem dL_wouldRun_0 : decode cL_wouldRun 0 = .ok (.aload 4, 2) := by decide +kernel
theorem dL_wouldRun_2 : decode cL_wouldRun 2 = .ok (.iconst 0, 1) := by decide +kernel
theorem dL_wouldRun_3 : decode cL_wouldRun 3 = .ok (.aload_n 0, 1) := by decide +kernel
theorem dL_wouldRun_4 : decode cL_wouldRun 4 = .ok (.iload_n 1, 1) := by decide +kernel
theorem dL_wouldRun_5 : decode cL_wouldRun 5 = .ok (.iload_n 2, 1) := by decide +kernel
theorem dL_wouldRun_6 : decode cL_wouldRun 6 = .ok (.iload_n 3, 1) := by decide +kernel
theorem dL_wouldRun_7 : decode cL_wouldRun 7 = .ok (.invokevirtual 68, 3) := by decide +kernel
theorem dL_wouldRun_15 : decode cL_wouldRun 15 = .ok (.astore 5, 2) := by decide +kernel
theorem dL_wouldRun_17 : decode cL_wouldRun 17 = .ok (.iconst 1, 1) := by decide +kernel
theorem dL_wouldRun_18 : decode cL_wouldRun 18 = .ok (.ireturn, 1) := by decide +kernel
theorem dL_wouldRun_19 : decode cL_wouldRun 19 = .ok (.astore 5, 2) := by decide +kernel
theorem dL_wouldRun_21 : decode cL_wouldRun 21 = .ok (.iconst 2, 1) := by decide +kernel
theorem dL_wouldRun_22 : decode cL_wouldRun 22 = .ok (.ireturn, 1) := by decide +kernel
theorem dX8_with_0 : decode cX8_with 0 = .ok (.iload_n 1, 1) := by decide +kernel
theorem dX8_with_1 : decode cX8_with 1 = .ok (.invokestatic 232, 3) := by decide +kernel
theorem dX8_with_4 : decode cX8_with 4 = .ok (.ifCond .eq 16, 3) := by decide +kernel
theorem dX8_with_20 : decode cX8_with 20 = .ok (.iconst 0, 1) := by decide +kernel
theorem dX8_with_21 : decode cX8_with 21 = .ok (.invokestatic 95, 3) := by decide +kernel
theorem dX8_with_7 : decode cX8_with 7 = .ok (.iload_n 2, 1) := by decide +kernel
theorem dX8_with_8 : decode cX8_with 8 = .ok (.ifCond .lt 12, 3) := by decide +kernel
theorem dX8_with_11 : decode cX8_with 11 = .ok (.iload_n 2, 1) := by decide +kernel
theorem dX8_with_12 : decode cX8_with 12 = .ok (.iconst 2, 1) := by decide +kernel
theorem dX8_with_13 : decode cX8_with 13 = .ok (.if_icmp .gt 7, 3) := by decide +kernel
theorem dX8_with_16 : decode cX8_with 16 = .ok (.iconst 1, 1) := by decide +kernel
theorem dX8_with_17 : decode cX8_with 17 = .ok (.goto 4, 3) := by decide +kernel
theorem dX8_with_24 : decode cX8_with 24 = .ok (.aload_n 0, 1) := by decide +kernel
theorem dX8_with_25 : decode cX8_with 25 = .ok (.invokevirtual 146, 3) := by decide +kernel
theorem dX8_with_28 : decode cX8_with 28 = .ok (.aload_n 0, 1) := by decide +kernel
theorem dX8_with_29 : decode cX8_with 29 = .ok (.getfield 37, 3) := by decide +kernel
theorem dX8_with_32 : decode cX8_with 32 = .ok (.getfield 219, 3) := by decide +kernel
theorem dX8_with_35 : decode cX8_with 35 = .ok (.ifCond .ne 7, 3) := by decide +kernel
theorem dX8_with_42 : decode cX8_with 42 = .ok (.iconst 0, 1) := by decide +kernel
theorem dX8_with_43 : decode cX8_with 43 = .ok (.invokestatic 106, 3) := by decide +kernel
theorem dL_with_0 : decode cL_with 0 = .ok (.aload_n 3, 1) := by decide +kernel
theorem dL_with_1 : decode cL_with 1 = .ok (.iconst 0, 1) := by decide +kernel
theorem dL_with_2 : decode cL_with 2 = .ok (.aload_n 0, 1) := by decide +kernel
theorem dL_with_3 : decode cL_with 3 = .ok (.iload_n 1, 1) := by decide +kernel
theorem dL_with_4 : decode cL_with 4 = .ok (.iload_n 2, 1) := by decide +kernel
theorem dL_with_5 : decode cL_with 5 = .ok (.invokevirtual 71, 3) := by decide +kernel
theorem dL_with_13 : decode cL_with 13 = .ok (.astore 4, 2) := by decide +kernel
theorem dL_with_15 : decode cL_with 15 = .ok (.iconst 1, 1) := by decide +kernel
theorem dL_with_16 : decode cL_with 16 = .ok (.ireturn, 1) := by decide +kernel
theorem dL_with_17 : decode cL_with 17 = .ok (.astore 4, 2) := by decide +kernel
theorem dL_with_19 : decode cL_with 19 = .ok (.iconst 2, 1) := by decide +kernel
theorem dL_with_20 : decode cL_with 20 = .ok (.ireturn, 1) := by decide +kernel
theorem dX4_reaching_0 : decode cX4_reaching 0 = .ok (.iconst 0, 1) := by decide +kernel
theorem dX4_reaching_1 : decode cX4_reaching 1 = .ok (.istore_n 3, 1) := by decide +kernel
theorem dX4_reaching_2 : decode cX4_reaching 2 = .ok (.iconst 0, 1) := by decide +kernel
theorem dX4_reaching_3 : decode cX4_reaching 3 = .ok (.istore 4, 2) := by decide +kernel
theorem dX4_reaching_5 : decode cX4_reaching 5 = .ok (.iload 4, 2) := by decide +kernel
theorem dX4_reaching_7 : decode cX4_reaching 7 = .ok (.aload_n 0, 1) := by decide +kernel
theorem dX4_reaching_8 : decode cX4_reaching 8 = .ok (.getfield 69, 3) := by decide +kernel
theorem dX4_reaching_11 : decode cX4_reaching 11 = .ok (.getfield 76, 3) := by decide +kernel
theorem dX4_reaching_14 : decode cX4_reaching 14 = .ok (.if_icmp .ge 119, 3) := by decide +kernel
theorem dX4_reaching_133 : decode cX4_reaching 133 = .ok (.iload_n 3, 1) := by decide +kernel
theorem dX4_reaching_134 : decode cX4_reaching 134 = .ok (.ireturn, 1) := by decide +kernel
theorem dX8_hiddenBy_0 : decode cX8_hiddenBy 0 = .ok (.aload_n 0, 1) := by decide +kernel
theorem dX8_hiddenBy_1 : decode cX8_hiddenBy 1 = .ok (.iload_n 1, 1) := by decide +kernel
theorem dX8_hiddenBy_2 : decode cX8_hiddenBy 2 = .ok (.invokevirtual 87, 3) := by decide +kernel
theorem dX8_hiddenBy_5 : decode cX8_hiddenBy 5 = .ok (.iload_n 2, 1) := by decide +kernel
theorem dX8_hiddenBy_6 : decode cX8_hiddenBy 6 = .ok (.invokestatic 91, 3) := by decide +kernel
theorem dX8_hiddenBy_9 : decode cX8_hiddenBy 9 = .ok (.invokestatic 95, 3) := by decide +kernel
theorem dX8_hiddenBy_12 : decode cX8_hiddenBy 12 = .ok (.aload_n 0, 1) := by decide +kernel
theorem dX8_hiddenBy_13 : decode cX8_hiddenBy 13 = .ok (.invokevirtual 146, 3) := by decide +kernel
theorem dX8_hiddenBy_16 : decode cX8_hiddenBy 16 = .ok (.aload_n 0, 1) := by decide +kernel
theorem dX8_hiddenBy_17 : decode cX8_hiddenBy 17 = .ok (.getfield 12, 3) := by decide +kernel
theorem dX8_hiddenBy_20 : decode cX8_hiddenBy 20 = .ok (.iload_n 1, 1) := by decide +kernel
theorem dX8_hiddenBy_21 : decode cX8_hiddenBy 21 = .ok (.iload_n 2, 1) := by decide +kernel
theorem dX8_hiddenBy_22 : decode cX8_hiddenBy 22 = .ok (.invokevirtual 102, 3) := by decide +kernel
theorem dX8_hiddenBy_25 : decode cX8_hiddenBy 25 = .ok (.ifCond .eq 7, 3) := by decide +kernel
theorem dX8_hiddenBy_32 : decode cX8_hiddenBy 32 = .ok (.aload_n 0, 1) := by decide +kernel
theorem dX8_hiddenBy_33 : decode cX8_hiddenBy 33 = .ok (.getfield 28, 3) := by decide +kernel
theorem dX8_hiddenBy_36 : decode cX8_hiddenBy 36 = .ok (.iload_n 1, 1) := by decide +kernel
theorem dX8_hiddenBy_37 : decode cX8_hiddenBy 37 = .ok (.iload_n 2, 1) := by decide +kernel
theorem dX8_hiddenBy_38 : decode cX8_hiddenBy 38 = .ok (.invokevirtual 304, 3) := by decide +kernel
theorem dX8_hiddenBy_41 : decode cX8_hiddenBy 41 = .ok (.ireturn, 1) := by decide +kernel
theorem dL_hiddenBy_0 : decode cL_hiddenBy 0 = .ok (.aload_n 3, 1) := by decide +kernel
theorem dL_hiddenBy_1 : decode cL_hiddenBy 1 = .ok (.iconst 0, 1) := by decide +kernel
theorem dL_hiddenBy_2 : decode cL_hiddenBy 2 = .ok (.aload_n 0, 1) := by decide +kernel
theorem dL_hiddenBy_3 : decode cL_hiddenBy 3 = .ok (.iload_n 1, 1) := by decide +kernel
theorem dL_hiddenBy_4 : decode cL_hiddenBy 4 = .ok (.iload_n 2, 1) := by decide +kernel
theorem dL_hiddenBy_5 : decode cL_hiddenBy 5 = .ok (.invokevirtual 74, 3) := by decide +kernel
theorem dL_hiddenBy_13 : decode cL_hiddenBy 13 = .ok (.astore 4, 2) := by decide +kernel
theorem dL_hiddenBy_15 : decode cL_hiddenBy 15 = .ok (.iconst 1, 1) := by decide +kernel
theorem dL_hiddenBy_16 : decode cL_hiddenBy 16 = .ok (.ireturn, 1) := by decide +kernel
theorem dL_hiddenBy_17 : decode cL_hiddenBy 17 = .ok (.astore 4, 2) := by decide +kernel
theorem dL_hiddenBy_19 : decode cL_hiddenBy 19 = .ok (.iconst 2, 1) := by decide +kernel
theorem dL_hiddenBy_20 : decode cL_hiddenBy 20 = .ok (.ireturn, 1) := by decide +kernel
theorem dL_hiddenBy_8 : decode cL_hiddenBy 8 = .ok (.i2l, 1) := by decide +kernel
theorem dL_hiddenBy_9 : decode cL_hiddenBy 9 = .ok (.lastore, 1) := by decide +kernel
theorem dL_hiddenBy_10 : decode cL_hiddenBy 10 = .ok (.goto 11, 3) := by decide +kernel
theorem dL_hiddenBy_21 : decode cL_hiddenBy 21 = .ok (.iconst 0, 1) := by decide +kernel
theorem dL_hiddenBy_22 : decode cL_hiddenBy 22 = .ok (.ireturn, 1) := by decide +kernel
theorem dX8_digest_0 : decode cX8_digest 0 = .ok (.aload_n 0, 1) := by decide +kernel
theorem dX8_digest_1 : decode cX8_digest 1 = .ok (.invokevirtual 146, 3) := by decide +kernel
theorem dX8_digest_4 : decode cX8_digest 4 = .ok (.ldc2_w 307, 3) := by decide +kernel
theorem dX8_digest_7 : decode cX8_digest 7 = .ok (.lstore_n 1, 1) := by decide +kernel
theorem dX8_digest_8 : decode cX8_digest 8 = .ok (.iconst 0, 1) := by decide +kernel
theorem dX8_digest_9 : decode cX8_digest 9 = .ok (.istore_n 3, 1) := by decide +kernel
theorem dX8_digest_10 : decode cX8_digest 10 = .ok (.iload_n 3, 1) := by decide +kernel
theorem dX8_digest_11 : decode cX8_digest 11 = .ok (.bipush 10, 2) := by decide +kernel
theorem dX8_digest_13 : decode cX8_digest 13 = .ok (.if_icmp .gt 22, 3) := by decide +kernel
theorem dX8_digest_16 : decode cX8_digest 16 = .ok (.lload_n 1, 1) := by decide +kernel
theorem dX8_digest_17 : decode cX8_digest 17 = .ok (.ldc2_w 309, 3) := by decide +kernel
theorem dX8_digest_20 : decode cX8_digest 20 = .ok (.lmul, 1) := by decide +kernel
theorem dX8_digest_21 : decode cX8_digest 21 = .ok (.aload_n 0, 1) := by decide +kernel
theorem dX8_digest_22 : decode cX8_digest 22 = .ok (.iload_n 3, 1) := by decide +kernel
theorem dX8_digest_23 : decode cX8_digest 23 = .ok (.invokevirtual 311, 3) := by decide +kernel
theorem dX8_digest_26 : decode cX8_digest 26 = .ok (.i2l, 1) := by decide +kernel
theorem dX8_digest_27 : decode cX8_digest 27 = .ok (.ladd, 1) := by decide +kernel
theorem dX8_digest_28 : decode cX8_digest 28 = .ok (.lstore_n 1, 1) := by decide +kernel
theorem dX8_digest_29 : decode cX8_digest 29 = .ok (.iinc 3 1, 3) := by decide +kernel
theorem dX8_digest_32 : decode cX8_digest 32 = .ok (.goto (-22), 3) := by decide +kernel
theorem dX8_digest_35 : decode cX8_digest 35 = .ok (.iconst 0, 1) := by decide +kernel
theorem dX8_digest_36 : decode cX8_digest 36 = .ok (.istore_n 3, 1) := by decide +kernel
theorem dX8_digest_37 : decode cX8_digest 37 = .ok (.iload_n 3, 1) := by decide +kernel
theorem dX8_digest_38 : decode cX8_digest 38 = .ok (.aload_n 0, 1) := by decide +kernel
theorem dX8_digest_39 : decode cX8_digest 39 = .ok (.getfield 12, 3) := by decide +kernel
theorem dX8_digest_42 : decode cX8_digest 42 = .ok (.getfield 99, 3) := by decide +kernel
theorem dX8_digest_45 : decode cX8_digest 45 = .ok (.if_icmp .ge 117, 3) := by decide +kernel
theorem dX8_digest_48 : decode cX8_digest 48 = .ok (.iconst 0, 1) := by decide +kernel
theorem dX8_digest_49 : decode cX8_digest 49 = .ok (.istore 4, 2) := by decide +kernel
theorem dX8_digest_51 : decode cX8_digest 51 = .ok (.iload 4, 2) := by decide +kernel
theorem dX8_digest_53 : decode cX8_digest 53 = .ok (.bipush 7, 2) := by decide +kernel
theorem dX8_digest_55 : decode cX8_digest 55 = .ok (.if_icmp .gt 24, 3) := by decide +kernel
theorem dX8_digest_58 : decode cX8_digest 58 = .ok (.lload_n 1, 1) := by decide +kernel
theorem dX8_digest_59 : decode cX8_digest 59 = .ok (.ldc2_w 309, 3) := by decide +kernel
theorem dX8_digest_62 : decode cX8_digest 62 = .ok (.lmul, 1) := by decide +kernel
theorem dX8_digest_63 : decode cX8_digest 63 = .ok (.aload_n 0, 1) := by decide +kernel
theorem dX8_digest_64 : decode cX8_digest 64 = .ok (.iload_n 3, 1) := by decide +kernel
theorem dX8_digest_65 : decode cX8_digest 65 = .ok (.iload 4, 2) := by decide +kernel
theorem dX8_digest_67 : decode cX8_digest 67 = .ok (.invokevirtual 314, 3) := by decide +kernel
theorem dX8_digest_70 : decode cX8_digest 70 = .ok (.i2l, 1) := by decide +kernel
theorem dX8_digest_71 : decode cX8_digest 71 = .ok (.ladd, 1) := by decide +kernel
theorem dX8_digest_72 : decode cX8_digest 72 = .ok (.lstore_n 1, 1) := by decide +kernel
theorem dX8_digest_73 : decode cX8_digest 73 = .ok (.iinc 4 1, 3) := by decide +kernel
theorem dX8_digest_76 : decode cX8_digest 76 = .ok (.goto (-25), 3) := by decide +kernel
theorem dX8_digest_79 : decode cX8_digest 79 = .ok (.iconst 0, 1) := by decide +kernel
theorem dX8_digest_80 : decode cX8_digest 80 = .ok (.istore 4, 2) := by decide +kernel
theorem dX8_digest_82 : decode cX8_digest 82 = .ok (.iload 4, 2) := by decide +kernel
theorem dX8_digest_84 : decode cX8_digest 84 = .ok (.bipush 7, 2) := by decide +kernel
theorem dX8_digest_86 : decode cX8_digest 86 = .ok (.if_icmp .gt 24, 3) := by decide +kernel
theorem dX8_digest_89 : decode cX8_digest 89 = .ok (.lload_n 1, 1) := by decide +kernel
theorem dX8_digest_90 : decode cX8_digest 90 = .ok (.ldc2_w 309, 3) := by decide +kernel
theorem dX8_digest_93 : decode cX8_digest 93 = .ok (.lmul, 1) := by decide +kernel
theorem dX8_digest_94 : decode cX8_digest 94 = .ok (.aload_n 0, 1) := by decide +kernel
theorem dX8_digest_95 : decode cX8_digest 95 = .ok (.iload_n 3, 1) := by decide +kernel
theorem dX8_digest_96 : decode cX8_digest 96 = .ok (.iload 4, 2) := by decide +kernel
theorem dX8_digest_98 : decode cX8_digest 98 = .ok (.invokevirtual 317, 3) := by decide +kernel
theorem dX8_digest_101 : decode cX8_digest 101 = .ok (.i2l, 1) := by decide +kernel
theorem dX8_digest_102 : decode cX8_digest 102 = .ok (.ladd, 1) := by decide +kernel
theorem dX8_digest_103 : decode cX8_digest 103 = .ok (.lstore_n 1, 1) := by decide +kernel
theorem dX8_digest_104 : decode cX8_digest 104 = .ok (.iinc 4 1, 3) := by decide +kernel
theorem dX8_digest_107 : decode cX8_digest 107 = .ok (.goto (-25), 3) := by decide +kernel
theorem dX8_digest_110 : decode cX8_digest 110 = .ok (.aload_n 0, 1) := by decide +kernel
theorem dX8_digest_111 : decode cX8_digest 111 = .ok (.iload_n 3, 1) := by decide +kernel
theorem dX8_digest_112 : decode cX8_digest 112 = .ok (.invokevirtual 171, 3) := by decide +kernel
theorem dX8_digest_115 : decode cX8_digest 115 = .ok (.istore 4, 2) := by decide +kernel
theorem dX8_digest_117 : decode cX8_digest 117 = .ok (.iconst 0, 1) := by decide +kernel
theorem dX8_digest_118 : decode cX8_digest 118 = .ok (.istore 5, 2) := by decide +kernel
theorem dX8_digest_120 : decode cX8_digest 120 = .ok (.iload 5, 2) := by decide +kernel
theorem dX8_digest_122 : decode cX8_digest 122 = .ok (.iload 4, 2) := by decide +kernel
theorem dX8_digest_124 : decode cX8_digest 124 = .ok (.iconst 4, 1) := by decide +kernel
theorem dX8_digest_125 : decode cX8_digest 125 = .ok (.imul, 1) := by decide +kernel
theorem dX8_digest_126 : decode cX8_digest 126 = .ok (.if_icmp .ge 30, 3) := by decide +kernel
theorem dX8_digest_156 : decode cX8_digest 156 = .ok (.iinc 3 1, 3) := by decide +kernel
theorem dX8_digest_159 : decode cX8_digest 159 = .ok (.goto (-122), 3) := by decide +kernel
theorem dX8_digest_162 : decode cX8_digest 162 = .ok (.iconst 0, 1) := by decide +kernel
theorem dX8_digest_163 : decode cX8_digest 163 = .ok (.istore_n 3, 1) := by decide +kernel
theorem dX8_digest_164 : decode cX8_digest 164 = .ok (.iload_n 3, 1) := by decide +kernel
theorem dX8_digest_165 : decode cX8_digest 165 = .ok (.aload_n 0, 1) := by decide +kernel
theorem dX8_digest_166 : decode cX8_digest 166 = .ok (.getfield 19, 3) := by decide +kernel
theorem dX8_digest_169 : decode cX8_digest 169 = .ok (.getfield 179, 3) := by decide +kernel
theorem dX8_digest_172 : decode cX8_digest 172 = .ok (.iconst 4, 1) := by decide +kernel
theorem dX8_digest_173 : decode cX8_digest 173 = .ok (.imul, 1) := by decide +kernel
theorem dX8_digest_174 : decode cX8_digest 174 = .ok (.if_icmp .ge 29, 3) := by decide +kernel
theorem dX8_digest_203 : decode cX8_digest 203 = .ok (.iconst 0, 1) := by decide +kernel
theorem dX8_digest_204 : decode cX8_digest 204 = .ok (.istore_n 3, 1) := by decide +kernel
theorem dX8_digest_205 : decode cX8_digest 205 = .ok (.iload_n 3, 1) := by decide +kernel
theorem dX8_digest_206 : decode cX8_digest 206 = .ok (.aload_n 0, 1) := by decide +kernel
theorem dX8_digest_207 : decode cX8_digest 207 = .ok (.getfield 37, 3) := by decide +kernel
theorem dX8_digest_210 : decode cX8_digest 210 = .ok (.getfield 219, 3) := by decide +kernel
theorem dX8_digest_213 : decode cX8_digest 213 = .ok (.iconst 3, 1) := by decide +kernel
theorem dX8_digest_214 : decode cX8_digest 214 = .ok (.imul, 1) := by decide +kernel
theorem dX8_digest_215 : decode cX8_digest 215 = .ok (.if_icmp .ge 27, 3) := by decide +kernel
theorem dX8_digest_218 : decode cX8_digest 218 = .ok (.lload_n 1, 1) := by decide +kernel
theorem dX8_digest_219 : decode cX8_digest 219 = .ok (.ldc2_w 309, 3) := by decide +kernel
theorem dX8_digest_222 : decode cX8_digest 222 = .ok (.lmul, 1) := by decide +kernel
theorem dX8_digest_223 : decode cX8_digest 223 = .ok (.aload_n 0, 1) := by decide +kernel
theorem dX8_digest_224 : decode cX8_digest 224 = .ok (.iload_n 3, 1) := by decide +kernel
theorem dX8_digest_225 : decode cX8_digest 225 = .ok (.iconst 3, 1) := by decide +kernel
theorem dX8_digest_226 : decode cX8_digest 226 = .ok (.idiv, 1) := by decide +kernel
theorem dX8_digest_227 : decode cX8_digest 227 = .ok (.iload_n 3, 1) := by decide +kernel
theorem dX8_digest_228 : decode cX8_digest 228 = .ok (.iconst 3, 1) := by decide +kernel
theorem dX8_digest_229 : decode cX8_digest 229 = .ok (.irem, 1) := by decide +kernel
theorem dX8_digest_230 : decode cX8_digest 230 = .ok (.invokevirtual 326, 3) := by decide +kernel
theorem dX8_digest_233 : decode cX8_digest 233 = .ok (.i2l, 1) := by decide +kernel
theorem dX8_digest_234 : decode cX8_digest 234 = .ok (.ladd, 1) := by decide +kernel
theorem dX8_digest_235 : decode cX8_digest 235 = .ok (.lstore_n 1, 1) := by decide +kernel
theorem dX8_digest_236 : decode cX8_digest 236 = .ok (.iinc 3 1, 3) := by decide +kernel
theorem dX8_digest_239 : decode cX8_digest 239 = .ok (.goto (-34), 3) := by decide +kernel
theorem dX8_digest_242 : decode cX8_digest 242 = .ok (.iconst 0, 1) := by decide +kernel
theorem dX8_digest_243 : decode cX8_digest 243 = .ok (.istore_n 3, 1) := by decide +kernel
theorem dX8_digest_244 : decode cX8_digest 244 = .ok (.iload_n 3, 1) := by decide +kernel
theorem dX8_digest_245 : decode cX8_digest 245 = .ok (.bipush 10, 2) := by decide +kernel
theorem dX8_digest_247 : decode cX8_digest 247 = .ok (.if_icmp .gt 22, 3) := by decide +kernel
theorem dX8_digest_250 : decode cX8_digest 250 = .ok (.lload_n 1, 1) := by decide +kernel
theorem dX8_digest_251 : decode cX8_digest 251 = .ok (.ldc2_w 309, 3) := by decide +kernel
theorem dX8_digest_254 : decode cX8_digest 254 = .ok (.lmul, 1) := by decide +kernel
theorem dX8_digest_255 : decode cX8_digest 255 = .ok (.aload_n 0, 1) := by decide +kernel
theorem dX8_digest_256 : decode cX8_digest 256 = .ok (.iload_n 3, 1) := by decide +kernel
theorem dX8_digest_257 : decode cX8_digest 257 = .ok (.invokevirtual 329, 3) := by decide +kernel
theorem dX8_digest_260 : decode cX8_digest 260 = .ok (.i2l, 1) := by decide +kernel
theorem dX8_digest_261 : decode cX8_digest 261 = .ok (.ladd, 1) := by decide +kernel
theorem dX8_digest_262 : decode cX8_digest 262 = .ok (.lstore_n 1, 1) := by decide +kernel
theorem dX8_digest_263 : decode cX8_digest 263 = .ok (.iinc 3 1, 3) := by decide +kernel
theorem dX8_digest_266 : decode cX8_digest 266 = .ok (.goto (-22), 3) := by decide +kernel
theorem dX8_digest_269 : decode cX8_digest 269 = .ok (.iconst 0, 1) := by decide +kernel
theorem dX8_digest_270 : decode cX8_digest 270 = .ok (.istore_n 3, 1) := by decide +kernel
theorem dX8_digest_271 : decode cX8_digest 271 = .ok (.iload_n 3, 1) := by decide +kernel
theorem dX8_digest_272 : decode cX8_digest 272 = .ok (.aload_n 0, 1) := by decide +kernel
theorem dX8_digest_273 : decode cX8_digest 273 = .ok (.getfield 63, 3) := by decide +kernel
theorem dX8_digest_276 : decode cX8_digest 276 = .ok (.invokevirtual 263, 3) := by decide +kernel
theorem dX8_digest_279 : decode cX8_digest 279 = .ok (.iconst 3, 1) := by decide +kernel
theorem dX8_digest_280 : decode cX8_digest 280 = .ok (.imul, 1) := by decide +kernel
theorem dX8_digest_281 : decode cX8_digest 281 = .ok (.if_icmp .ge 27, 3) := by decide +kernel
theorem dX8_digest_308 : decode cX8_digest 308 = .ok (.aload_n 0, 1) := by decide +kernel
theorem dX8_digest_309 : decode cX8_digest 309 = .ok (.getfield 37, 3) := by decide +kernel
theorem dX8_digest_312 : decode cX8_digest 312 = .ok (.getfield 219, 3) := by decide +kernel
theorem dX8_digest_315 : decode cX8_digest 315 = .ok (.ifCond .eq 5, 3) := by decide +kernel
theorem dX8_digest_318 : decode cX8_digest 318 = .ok (.lload_n 1, 1) := by decide +kernel
theorem dX8_digest_319 : decode cX8_digest 319 = .ok (.lreturn, 1) := by decide +kernel
theorem dL_law_1519 : decode cL_law 1519 = .ok (.iinc 4 5, 3) := by decide +kernel
theorem dL_law_1522 : decode cL_law 1522 = .ok (.goto (-1499), 3) := by decide +kernel
theorem dL_law_23 : decode cL_law 23 = .ok (.iload 4, 2) := by decide +kernel
theorem dL_law_25 : decode cL_law 25 = .ok (.aload_n 0, 1) := by decide +kernel
theorem dL_law_26 : decode cL_law 26 = .ok (.arraylength, 1) := by decide +kernel
theorem dL_law_27 : decode cL_law 27 = .ok (.iconst 5, 1) := by decide +kernel
theorem dL_law_28 : decode cL_law 28 = .ok (.isub, 1) := by decide +kernel
theorem dL_law_29 : decode cL_law 29 = .ok (.if_icmp .gt 1496, 3) := by decide +kernel
theorem dL_law_1525 : decode cL_law 1525 = .ok (.iconst 1, 1) := by decide +kernel
theorem dL_law_1526 : decode cL_law 1526 = .ok (.ireturn, 1) := by decide +kernel
theorem dL_law_136 : decode cL_law 136 = .ok (.aload_n 1, 1) := by decide +kernel
theorem dL_law_137 : decode cL_law 137 = .ok (.aload_n 0, 1) := by decide +kernel
theorem dL_law_138 : decode cL_law 138 = .ok (.iload 4, 2) := by decide +kernel
theorem dL_law_140 : decode cL_law 140 = .ok (.iconst 1, 1) := by decide +kernel
theorem dL_law_141 : decode cL_law 141 = .ok (.iadd, 1) := by decide +kernel
theorem dL_law_142 : decode cL_law 142 = .ok (.iaload, 1) := by decide +kernel
theorem dL_law_143 : decode cL_law 143 = .ok (.aload_n 0, 1) := by decide +kernel
theorem dL_law_144 : decode cL_law 144 = .ok (.iload 4, 2) := by decide +kernel
theorem dL_law_146 : decode cL_law 146 = .ok (.iconst 2, 1) := by decide +kernel
theorem dL_law_147 : decode cL_law 147 = .ok (.iadd, 1) := by decide +kernel
theorem dL_law_148 : decode cL_law 148 = .ok (.iaload, 1) := by decide +kernel
theorem dL_law_149 : decode cL_law 149 = .ok (.aload_n 3, 1) := by decide +kernel
theorem dL_law_150 : decode cL_law 150 = .ok (.invokestatic 81, 3) := by decide +kernel
theorem dL_law_153 : decode cL_law 153 = .ok (.istore 5, 2) := by decide +kernel
theorem dL_law_155 : decode cL_law 155 = .ok (.aload_n 2, 1) := by decide +kernel
theorem dL_law_156 : decode cL_law 156 = .ok (.aload_n 0, 1) := by decide +kernel
theorem dL_law_157 : decode cL_law 157 = .ok (.iload 4, 2) := by decide +kernel
theorem dL_law_159 : decode cL_law 159 = .ok (.iconst 1, 1) := by decide +kernel
theorem dL_law_160 : decode cL_law 160 = .ok (.iadd, 1) := by decide +kernel
theorem dL_law_161 : decode cL_law 161 = .ok (.iaload, 1) := by decide +kernel
theorem dL_law_162 : decode cL_law 162 = .ok (.aload_n 0, 1) := by decide +kernel
theorem dL_law_163 : decode cL_law 163 = .ok (.iload 4, 2) := by decide +kernel
theorem dL_law_165 : decode cL_law 165 = .ok (.iconst 2, 1) := by decide +kernel
theorem dL_law_166 : decode cL_law 166 = .ok (.iadd, 1) := by decide +kernel
theorem dL_law_167 : decode cL_law 167 = .ok (.iaload, 1) := by decide +kernel
theorem dL_law_168 : decode cL_law 168 = .ok (.invokevirtual 86, 3) := by decide +kernel
theorem dL_law_171 : decode cL_law 171 = .ok (.istore 6, 2) := by decide +kernel
theorem dL_law_173 : decode cL_law 173 = .ok (.aload_n 2, 1) := by decide +kernel
theorem dL_law_174 : decode cL_law 174 = .ok (.invokevirtual 87, 3) := by decide +kernel
theorem dL_law_177 : decode cL_law 177 = .ok (.iload 5, 2) := by decide +kernel
theorem dL_law_179 : decode cL_law 179 = .ok (.if_icmp .eq 5, 3) := by decide +kernel
theorem dL_law_184 : decode cL_law 184 = .ok (.iload 5, 2) := by decide +kernel
theorem dL_law_186 : decode cL_law 186 = .ok (.ifCond .ne 15, 3) := by decide +kernel
theorem dL_law_201 : decode cL_law 201 = .ok (.goto 1318, 3) := by decide +kernel
theorem dL_law_189 : decode cL_law 189 = .ok (.aload_n 3, 1) := by decide +kernel
theorem dL_law_190 : decode cL_law 190 = .ok (.iconst 0, 1) := by decide +kernel
theorem dL_law_191 : decode cL_law 191 = .ok (.laload, 1) := by decide +kernel
theorem dL_law_192 : decode cL_law 192 = .ok (.iload 6, 2) := by decide +kernel
theorem dL_law_194 : decode cL_law 194 = .ok (.i2l, 1) := by decide +kernel
theorem dL_law_195 : decode cL_law 195 = .ok (.lcmp, 1) := by decide +kernel
theorem dL_law_196 : decode cL_law 196 = .ok (.ifCond .eq 5, 3) := by decide +kernel
theorem dL_law_204 : decode cL_law 204 = .ok (.aload_n 1, 1) := by decide +kernel
theorem dL_law_205 : decode cL_law 205 = .ok (.aload_n 0, 1) := by decide +kernel
theorem dL_law_206 : decode cL_law 206 = .ok (.iload 4, 2) := by decide +kernel
theorem dL_law_208 : decode cL_law 208 = .ok (.iconst 1, 1) := by decide +kernel
theorem dL_law_209 : decode cL_law 209 = .ok (.iadd, 1) := by decide +kernel
theorem dL_law_210 : decode cL_law 210 = .ok (.iaload, 1) := by decide +kernel
theorem dL_law_211 : decode cL_law 211 = .ok (.aload_n 0, 1) := by decide +kernel
theorem dL_law_212 : decode cL_law 212 = .ok (.iload 4, 2) := by decide +kernel
theorem dL_law_214 : decode cL_law 214 = .ok (.iconst 2, 1) := by decide +kernel
theorem dL_law_215 : decode cL_law 215 = .ok (.iadd, 1) := by decide +kernel
theorem dL_law_216 : decode cL_law 216 = .ok (.iaload, 1) := by decide +kernel
theorem dL_law_217 : decode cL_law 217 = .ok (.aload_n 0, 1) := by decide +kernel
theorem dL_law_218 : decode cL_law 218 = .ok (.iload 4, 2) := by decide +kernel
theorem dL_law_220 : decode cL_law 220 = .ok (.iconst 3, 1) := by decide +kernel
theorem dL_law_221 : decode cL_law 221 = .ok (.iadd, 1) := by decide +kernel
theorem dL_law_222 : decode cL_law 222 = .ok (.iaload, 1) := by decide +kernel
theorem dL_law_223 : decode cL_law 223 = .ok (.aload_n 3, 1) := by decide +kernel
theorem dL_law_224 : decode cL_law 224 = .ok (.invokestatic 90, 3) := by decide +kernel
theorem dL_law_227 : decode cL_law 227 = .ok (.istore 5, 2) := by decide +kernel
theorem dL_law_229 : decode cL_law 229 = .ok (.aload_n 2, 1) := by decide +kernel
theorem dL_law_230 : decode cL_law 230 = .ok (.aload_n 0, 1) := by decide +kernel
theorem dL_law_231 : decode cL_law 231 = .ok (.iload 4, 2) := by decide +kernel
theorem dL_law_233 : decode cL_law 233 = .ok (.iconst 1, 1) := by decide +kernel
theorem dL_law_234 : decode cL_law 234 = .ok (.iadd, 1) := by decide +kernel
theorem dL_law_235 : decode cL_law 235 = .ok (.iaload, 1) := by decide +kernel
theorem dL_law_236 : decode cL_law 236 = .ok (.aload_n 0, 1) := by decide +kernel
theorem dL_law_237 : decode cL_law 237 = .ok (.iload 4, 2) := by decide +kernel
theorem dL_law_239 : decode cL_law 239 = .ok (.iconst 2, 1) := by decide +kernel
theorem dL_law_240 : decode cL_law 240 = .ok (.iadd, 1) := by decide +kernel
theorem dL_law_241 : decode cL_law 241 = .ok (.iaload, 1) := by decide +kernel
theorem dL_law_242 : decode cL_law 242 = .ok (.aload_n 0, 1) := by decide +kernel
theorem dL_law_243 : decode cL_law 243 = .ok (.iload 4, 2) := by decide +kernel
theorem dL_law_245 : decode cL_law 245 = .ok (.iconst 3, 1) := by decide +kernel
theorem dL_law_246 : decode cL_law 246 = .ok (.iadd, 1) := by decide +kernel
theorem dL_law_247 : decode cL_law 247 = .ok (.iaload, 1) := by decide +kernel
theorem dL_law_248 : decode cL_law 248 = .ok (.invokevirtual 93, 3) := by decide +kernel
theorem dL_law_251 : decode cL_law 251 = .ok (.istore 6, 2) := by decide +kernel
theorem dL_law_253 : decode cL_law 253 = .ok (.aload_n 2, 1) := by decide +kernel
theorem dL_law_254 : decode cL_law 254 = .ok (.invokevirtual 87, 3) := by decide +kernel
theorem dL_law_257 : decode cL_law 257 = .ok (.iload 5, 2) := by decide +kernel
theorem dL_law_259 : decode cL_law 259 = .ok (.if_icmp .eq 5, 3) := by decide +kernel
theorem dL_law_264 : decode cL_law 264 = .ok (.iload 5, 2) := by decide +kernel
theorem dL_law_266 : decode cL_law 266 = .ok (.ifCond .ne 15, 3) := by decide +kernel
theorem dL_law_281 : decode cL_law 281 = .ok (.goto 1238, 3) := by decide +kernel
theorem dL_law_284 : decode cL_law 284 = .ok (.aload_n 1, 1) := by decide +kernel
theorem dL_law_285 : decode cL_law 285 = .ok (.aload_n 0, 1) := by decide +kernel
theorem dL_law_286 : decode cL_law 286 = .ok (.iload 4, 2) := by decide +kernel
theorem dL_law_288 : decode cL_law 288 = .ok (.iconst 1, 1) := by decide +kernel
theorem dL_law_289 : decode cL_law 289 = .ok (.iadd, 1) := by decide +kernel
theorem dL_law_290 : decode cL_law 290 = .ok (.iaload, 1) := by decide +kernel
theorem dL_law_291 : decode cL_law 291 = .ok (.aload_n 0, 1) := by decide +kernel
theorem dL_law_292 : decode cL_law 292 = .ok (.iload 4, 2) := by decide +kernel
theorem dL_law_294 : decode cL_law 294 = .ok (.iconst 2, 1) := by decide +kernel
theorem dL_law_295 : decode cL_law 295 = .ok (.iadd, 1) := by decide +kernel
theorem dL_law_296 : decode cL_law 296 = .ok (.iaload, 1) := by decide +kernel
theorem dL_law_297 : decode cL_law 297 = .ok (.aload_n 0, 1) := by decide +kernel
theorem dL_law_298 : decode cL_law 298 = .ok (.iload 4, 2) := by decide +kernel
theorem dL_law_300 : decode cL_law 300 = .ok (.iconst 3, 1) := by decide +kernel
theorem dL_law_301 : decode cL_law 301 = .ok (.iadd, 1) := by decide +kernel
theorem dL_law_302 : decode cL_law 302 = .ok (.iaload, 1) := by decide +kernel
theorem dL_law_303 : decode cL_law 303 = .ok (.aload_n 0, 1) := by decide +kernel
theorem dL_law_304 : decode cL_law 304 = .ok (.iload 4, 2) := by decide +kernel
theorem dL_law_306 : decode cL_law 306 = .ok (.iconst 4, 1) := by decide +kernel
theorem dL_law_307 : decode cL_law 307 = .ok (.iadd, 1) := by decide +kernel
theorem dL_law_308 : decode cL_law 308 = .ok (.iaload, 1) := by decide +kernel
theorem dL_law_309 : decode cL_law 309 = .ok (.aload_n 3, 1) := by decide +kernel
theorem dL_law_310 : decode cL_law 310 = .ok (.invokestatic 94, 3) := by decide +kernel
theorem dL_law_313 : decode cL_law 313 = .ok (.istore 5, 2) := by decide +kernel
theorem dL_law_315 : decode cL_law 315 = .ok (.aload_n 2, 1) := by decide +kernel
theorem dL_law_316 : decode cL_law 316 = .ok (.aload_n 0, 1) := by decide +kernel
theorem dL_law_317 : decode cL_law 317 = .ok (.iload 4, 2) := by decide +kernel
theorem dL_law_319 : decode cL_law 319 = .ok (.iconst 1, 1) := by decide +kernel
theorem dL_law_320 : decode cL_law 320 = .ok (.iadd, 1) := by decide +kernel
theorem dL_law_321 : decode cL_law 321 = .ok (.iaload, 1) := by decide +kernel
theorem dL_law_322 : decode cL_law 322 = .ok (.aload_n 0, 1) := by decide +kernel
theorem dL_law_323 : decode cL_law 323 = .ok (.iload 4, 2) := by decide +kernel
theorem dL_law_325 : decode cL_law 325 = .ok (.iconst 2, 1) := by decide +kernel
theorem dL_law_326 : decode cL_law 326 = .ok (.iadd, 1) := by decide +kernel
theorem dL_law_327 : decode cL_law 327 = .ok (.iaload, 1) := by decide +kernel
theorem dL_law_328 : decode cL_law 328 = .ok (.aload_n 0, 1) := by decide +kernel
theorem dL_law_329 : decode cL_law 329 = .ok (.iload 4, 2) := by decide +kernel
theorem dL_law_331 : decode cL_law 331 = .ok (.iconst 3, 1) := by decide +kernel
theorem dL_law_332 : decode cL_law 332 = .ok (.iadd, 1) := by decide +kernel
theorem dL_law_333 : decode cL_law 333 = .ok (.iaload, 1) := by decide +kernel
theorem dL_law_334 : decode cL_law 334 = .ok (.aload_n 0, 1) := by decide +kernel
theorem dL_law_335 : decode cL_law 335 = .ok (.iload 4, 2) := by decide +kernel
theorem dL_law_337 : decode cL_law 337 = .ok (.iconst 4, 1) := by decide +kernel
theorem dL_law_338 : decode cL_law 338 = .ok (.iadd, 1) := by decide +kernel
theorem dL_law_339 : decode cL_law 339 = .ok (.iaload, 1) := by decide +kernel
theorem dL_law_340 : decode cL_law 340 = .ok (.invokevirtual 97, 3) := by decide +kernel
theorem dL_law_343 : decode cL_law 343 = .ok (.istore 6, 2) := by decide +kernel
theorem dL_law_345 : decode cL_law 345 = .ok (.aload_n 2, 1) := by decide +kernel
theorem dL_law_346 : decode cL_law 346 = .ok (.invokevirtual 87, 3) := by decide +kernel
theorem dL_law_349 : decode cL_law 349 = .ok (.iload 5, 2) := by decide +kernel
theorem dL_law_351 : decode cL_law 351 = .ok (.if_icmp .eq 5, 3) := by decide +kernel
theorem dL_law_356 : decode cL_law 356 = .ok (.iload 5, 2) := by decide +kernel
theorem dL_law_358 : decode cL_law 358 = .ok (.ifCond .ne 15, 3) := by decide +kernel
theorem dL_law_373 : decode cL_law 373 = .ok (.goto 1146, 3) := by decide +kernel
theorem dL_law_361 : decode cL_law 361 = .ok (.aload_n 3, 1) := by decide +kernel
theorem dL_law_362 : decode cL_law 362 = .ok (.iconst 0, 1) := by decide +kernel
theorem dL_law_363 : decode cL_law 363 = .ok (.laload, 1) := by decide +kernel
theorem dL_law_364 : decode cL_law 364 = .ok (.iload 6, 2) := by decide +kernel
theorem dL_law_366 : decode cL_law 366 = .ok (.i2l, 1) := by decide +kernel
theorem dL_law_367 : decode cL_law 367 = .ok (.lcmp, 1) := by decide +kernel
theorem dL_law_368 : decode cL_law 368 = .ok (.ifCond .eq 5, 3) := by decide +kernel
theorem dL_law_376 : decode cL_law 376 = .ok (.aload_n 1, 1) := by decide +kernel
theorem dL_law_377 : decode cL_law 377 = .ok (.aload_n 0, 1) := by decide +kernel
theorem dL_law_378 : decode cL_law 378 = .ok (.iload 4, 2) := by decide +kernel
theorem dL_law_380 : decode cL_law 380 = .ok (.iconst 1, 1) := by decide +kernel
theorem dL_law_381 : decode cL_law 381 = .ok (.iadd, 1) := by decide +kernel
theorem dL_law_382 : decode cL_law 382 = .ok (.iaload, 1) := by decide +kernel
theorem dL_law_383 : decode cL_law 383 = .ok (.aload_n 0, 1) := by decide +kernel
theorem dL_law_384 : decode cL_law 384 = .ok (.iload 4, 2) := by decide +kernel
theorem dL_law_386 : decode cL_law 386 = .ok (.iconst 2, 1) := by decide +kernel
theorem dL_law_387 : decode cL_law 387 = .ok (.iadd, 1) := by decide +kernel
theorem dL_law_388 : decode cL_law 388 = .ok (.iaload, 1) := by decide +kernel
theorem dL_law_389 : decode cL_law 389 = .ok (.aload_n 0, 1) := by decide +kernel
theorem dL_law_390 : decode cL_law 390 = .ok (.iload 4, 2) := by decide +kernel
theorem dL_law_392 : decode cL_law 392 = .ok (.iconst 3, 1) := by decide +kernel
theorem dL_law_393 : decode cL_law 393 = .ok (.iadd, 1) := by decide +kernel
theorem dL_law_394 : decode cL_law 394 = .ok (.iaload, 1) := by decide +kernel
theorem dL_law_395 : decode cL_law 395 = .ok (.aload_n 3, 1) := by decide +kernel
theorem dL_law_396 : decode cL_law 396 = .ok (.invokestatic 98, 3) := by decide +kernel
theorem dL_law_399 : decode cL_law 399 = .ok (.istore 5, 2) := by decide +kernel
theorem dL_law_401 : decode cL_law 401 = .ok (.aload_n 2, 1) := by decide +kernel
theorem dL_law_402 : decode cL_law 402 = .ok (.aload_n 0, 1) := by decide +kernel
theorem dL_law_403 : decode cL_law 403 = .ok (.iload 4, 2) := by decide +kernel
theorem dL_law_405 : decode cL_law 405 = .ok (.iconst 1, 1) := by decide +kernel
theorem dL_law_406 : decode cL_law 406 = .ok (.iadd, 1) := by decide +kernel
theorem dL_law_407 : decode cL_law 407 = .ok (.iaload, 1) := by decide +kernel
theorem dL_law_408 : decode cL_law 408 = .ok (.aload_n 0, 1) := by decide +kernel
theorem dL_law_409 : decode cL_law 409 = .ok (.iload 4, 2) := by decide +kernel
theorem dL_law_411 : decode cL_law 411 = .ok (.iconst 2, 1) := by decide +kernel
theorem dL_law_412 : decode cL_law 412 = .ok (.iadd, 1) := by decide +kernel
theorem dL_law_413 : decode cL_law 413 = .ok (.iaload, 1) := by decide +kernel
theorem dL_law_414 : decode cL_law 414 = .ok (.aload_n 0, 1) := by decide +kernel
theorem dL_law_415 : decode cL_law 415 = .ok (.iload 4, 2) := by decide +kernel
theorem dL_law_417 : decode cL_law 417 = .ok (.iconst 3, 1) := by decide +kernel
theorem dL_law_418 : decode cL_law 418 = .ok (.iadd, 1) := by decide +kernel
theorem dL_law_419 : decode cL_law 419 = .ok (.iaload, 1) := by decide +kernel
theorem dL_law_420 : decode cL_law 420 = .ok (.invokevirtual 100, 3) := by decide +kernel
theorem dL_law_423 : decode cL_law 423 = .ok (.istore 6, 2) := by decide +kernel
theorem dL_law_425 : decode cL_law 425 = .ok (.aload_n 2, 1) := by decide +kernel
theorem dL_law_426 : decode cL_law 426 = .ok (.invokevirtual 87, 3) := by decide +kernel
theorem dL_law_429 : decode cL_law 429 = .ok (.iload 5, 2) := by decide +kernel
theorem dL_law_431 : decode cL_law 431 = .ok (.if_icmp .eq 5, 3) := by decide +kernel
theorem dL_law_436 : decode cL_law 436 = .ok (.iload 5, 2) := by decide +kernel
theorem dL_law_438 : decode cL_law 438 = .ok (.ifCond .ne 15, 3) := by decide +kernel
theorem dL_law_453 : decode cL_law 453 = .ok (.goto 1066, 3) := by decide +kernel
theorem dL_law_441 : decode cL_law 441 = .ok (.aload_n 3, 1) := by decide +kernel
theorem dL_law_442 : decode cL_law 442 = .ok (.iconst 0, 1) := by decide +kernel
theorem dL_law_443 : decode cL_law 443 = .ok (.laload, 1) := by decide +kernel
theorem dL_law_444 : decode cL_law 444 = .ok (.iload 6, 2) := by decide +kernel
theorem dL_law_446 : decode cL_law 446 = .ok (.i2l, 1) := by decide +kernel
theorem dL_law_447 : decode cL_law 447 = .ok (.lcmp, 1) := by decide +kernel
theorem dL_law_448 : decode cL_law 448 = .ok (.ifCond .eq 5, 3) := by decide +kernel
theorem dL_law_456 : decode cL_law 456 = .ok (.aload_n 1, 1) := by decide +kernel
theorem dL_law_457 : decode cL_law 457 = .ok (.aload_n 0, 1) := by decide +kernel
theorem dL_law_458 : decode cL_law 458 = .ok (.iload 4, 2) := by decide +kernel
theorem dL_law_460 : decode cL_law 460 = .ok (.iconst 1, 1) := by decide +kernel
theorem dL_law_461 : decode cL_law 461 = .ok (.iadd, 1) := by decide +kernel
theorem dL_law_462 : decode cL_law 462 = .ok (.iaload, 1) := by decide +kernel
theorem dL_law_463 : decode cL_law 463 = .ok (.aload_n 0, 1) := by decide +kernel
theorem dL_law_464 : decode cL_law 464 = .ok (.iload 4, 2) := by decide +kernel
theorem dL_law_466 : decode cL_law 466 = .ok (.iconst 2, 1) := by decide +kernel
theorem dL_law_467 : decode cL_law 467 = .ok (.iadd, 1) := by decide +kernel
theorem dL_law_468 : decode cL_law 468 = .ok (.iaload, 1) := by decide +kernel
theorem dL_law_469 : decode cL_law 469 = .ok (.aload_n 3, 1) := by decide +kernel
theorem dL_law_470 : decode cL_law 470 = .ok (.invokestatic 101, 3) := by decide +kernel
theorem dL_law_473 : decode cL_law 473 = .ok (.istore 5, 2) := by decide +kernel
theorem dL_law_475 : decode cL_law 475 = .ok (.aload_n 2, 1) := by decide +kernel
theorem dL_law_476 : decode cL_law 476 = .ok (.aload_n 0, 1) := by decide +kernel
theorem dL_law_477 : decode cL_law 477 = .ok (.iload 4, 2) := by decide +kernel
theorem dL_law_479 : decode cL_law 479 = .ok (.iconst 1, 1) := by decide +kernel
theorem dL_law_480 : decode cL_law 480 = .ok (.iadd, 1) := by decide +kernel
theorem dL_law_481 : decode cL_law 481 = .ok (.iaload, 1) := by decide +kernel
theorem dL_law_482 : decode cL_law 482 = .ok (.aload_n 0, 1) := by decide +kernel
theorem dL_law_483 : decode cL_law 483 = .ok (.iload 4, 2) := by decide +kernel
theorem dL_law_485 : decode cL_law 485 = .ok (.iconst 2, 1) := by decide +kernel
theorem dL_law_486 : decode cL_law 486 = .ok (.iadd, 1) := by decide +kernel
theorem dL_law_487 : decode cL_law 487 = .ok (.iaload, 1) := by decide +kernel
theorem dL_law_488 : decode cL_law 488 = .ok (.invokevirtual 103, 3) := by decide +kernel
theorem dL_law_491 : decode cL_law 491 = .ok (.istore 6, 2) := by decide +kernel
theorem dL_law_493 : decode cL_law 493 = .ok (.aload_n 2, 1) := by decide +kernel
theorem dL_law_494 : decode cL_law 494 = .ok (.invokevirtual 87, 3) := by decide +kernel
theorem dL_law_497 : decode cL_law 497 = .ok (.iload 5, 2) := by decide +kernel
theorem dL_law_499 : decode cL_law 499 = .ok (.if_icmp .eq 5, 3) := by decide +kernel
theorem dL_law_504 : decode cL_law 504 = .ok (.iload 5, 2) := by decide +kernel
theorem dL_law_506 : decode cL_law 506 = .ok (.ifCond .ne 15, 3) := by decide +kernel
theorem dL_law_521 : decode cL_law 521 = .ok (.goto 998, 3) := by decide +kernel
theorem dL_law_509 : decode cL_law 509 = .ok (.aload_n 3, 1) := by decide +kernel
theorem dL_law_510 : decode cL_law 510 = .ok (.iconst 0, 1) := by decide +kernel
theorem dL_law_511 : decode cL_law 511 = .ok (.laload, 1) := by decide +kernel
theorem dL_law_512 : decode cL_law 512 = .ok (.iload 6, 2) := by decide +kernel
theorem dL_law_514 : decode cL_law 514 = .ok (.i2l, 1) := by decide +kernel
theorem dL_law_515 : decode cL_law 515 = .ok (.lcmp, 1) := by decide +kernel
theorem dL_law_516 : decode cL_law 516 = .ok (.ifCond .eq 5, 3) := by decide +kernel
theorem dL_law_524 : decode cL_law 524 = .ok (.aload_n 1, 1) := by decide +kernel
theorem dL_law_525 : decode cL_law 525 = .ok (.aload_n 0, 1) := by decide +kernel
theorem dL_law_526 : decode cL_law 526 = .ok (.iload 4, 2) := by decide +kernel
theorem dL_law_528 : decode cL_law 528 = .ok (.iconst 1, 1) := by decide +kernel
theorem dL_law_529 : decode cL_law 529 = .ok (.iadd, 1) := by decide +kernel
theorem dL_law_530 : decode cL_law 530 = .ok (.iaload, 1) := by decide +kernel
theorem dL_law_531 : decode cL_law 531 = .ok (.aload_n 0, 1) := by decide +kernel
theorem dL_law_532 : decode cL_law 532 = .ok (.iload 4, 2) := by decide +kernel
theorem dL_law_534 : decode cL_law 534 = .ok (.iconst 2, 1) := by decide +kernel
theorem dL_law_535 : decode cL_law 535 = .ok (.iadd, 1) := by decide +kernel
theorem dL_law_536 : decode cL_law 536 = .ok (.iaload, 1) := by decide +kernel
theorem dL_law_537 : decode cL_law 537 = .ok (.aload_n 0, 1) := by decide +kernel
theorem dL_law_538 : decode cL_law 538 = .ok (.iload 4, 2) := by decide +kernel
theorem dL_law_540 : decode cL_law 540 = .ok (.iconst 3, 1) := by decide +kernel
theorem dL_law_541 : decode cL_law 541 = .ok (.iadd, 1) := by decide +kernel
theorem dL_law_542 : decode cL_law 542 = .ok (.iaload, 1) := by decide +kernel
theorem dL_law_543 : decode cL_law 543 = .ok (.aload_n 0, 1) := by decide +kernel
theorem dL_law_544 : decode cL_law 544 = .ok (.iload 4, 2) := by decide +kernel
theorem dL_law_546 : decode cL_law 546 = .ok (.iconst 4, 1) := by decide +kernel
theorem dL_law_547 : decode cL_law 547 = .ok (.iadd, 1) := by decide +kernel
theorem dL_law_548 : decode cL_law 548 = .ok (.iaload, 1) := by decide +kernel
theorem dL_law_549 : decode cL_law 549 = .ok (.aload_n 3, 1) := by decide +kernel
theorem dL_law_550 : decode cL_law 550 = .ok (.invokestatic 104, 3) := by decide +kernel
theorem dL_law_553 : decode cL_law 553 = .ok (.istore 5, 2) := by decide +kernel
theorem dL_law_555 : decode cL_law 555 = .ok (.aload_n 2, 1) := by decide +kernel
theorem dL_law_556 : decode cL_law 556 = .ok (.aload_n 0, 1) := by decide +kernel
theorem dL_law_557 : decode cL_law 557 = .ok (.iload 4, 2) := by decide +kernel
theorem dL_law_559 : decode cL_law 559 = .ok (.iconst 1, 1) := by decide +kernel
theorem dL_law_560 : decode cL_law 560 = .ok (.iadd, 1) := by decide +kernel
theorem dL_law_561 : decode cL_law 561 = .ok (.iaload, 1) := by decide +kernel
theorem dL_law_562 : decode cL_law 562 = .ok (.aload_n 0, 1) := by decide +kernel
theorem dL_law_563 : decode cL_law 563 = .ok (.iload 4, 2) := by decide +kernel
theorem dL_law_565 : decode cL_law 565 = .ok (.iconst 2, 1) := by decide +kernel
theorem dL_law_566 : decode cL_law 566 = .ok (.iadd, 1) := by decide +kernel
theorem dL_law_567 : decode cL_law 567 = .ok (.iaload, 1) := by decide +kernel
theorem dL_law_568 : decode cL_law 568 = .ok (.aload_n 0, 1) := by decide +kernel
theorem dL_law_569 : decode cL_law 569 = .ok (.iload 4, 2) := by decide +kernel
theorem dL_law_571 : decode cL_law 571 = .ok (.iconst 3, 1) := by decide +kernel
theorem dL_law_572 : decode cL_law 572 = .ok (.iadd, 1) := by decide +kernel
theorem dL_law_573 : decode cL_law 573 = .ok (.iaload, 1) := by decide +kernel
theorem dL_law_574 : decode cL_law 574 = .ok (.aload_n 0, 1) := by decide +kernel
theorem dL_law_575 : decode cL_law 575 = .ok (.iload 4, 2) := by decide +kernel
theorem dL_law_577 : decode cL_law 577 = .ok (.iconst 4, 1) := by decide +kernel
theorem dL_law_578 : decode cL_law 578 = .ok (.iadd, 1) := by decide +kernel
theorem dL_law_579 : decode cL_law 579 = .ok (.iaload, 1) := by decide +kernel
theorem dL_law_580 : decode cL_law 580 = .ok (.invokevirtual 106, 3) := by decide +kernel
theorem dL_law_583 : decode cL_law 583 = .ok (.istore 6, 2) := by decide +kernel
theorem dL_law_585 : decode cL_law 585 = .ok (.aload_n 2, 1) := by decide +kernel
theorem dL_law_586 : decode cL_law 586 = .ok (.invokevirtual 87, 3) := by decide +kernel
theorem dL_law_589 : decode cL_law 589 = .ok (.iload 5, 2) := by decide +kernel
theorem dL_law_591 : decode cL_law 591 = .ok (.if_icmp .eq 5, 3) := by decide +kernel
theorem dL_law_596 : decode cL_law 596 = .ok (.iload 5, 2) := by decide +kernel
theorem dL_law_598 : decode cL_law 598 = .ok (.ifCond .ne 15, 3) := by decide +kernel
theorem dL_law_613 : decode cL_law 613 = .ok (.goto 906, 3) := by decide +kernel
theorem dL_law_601 : decode cL_law 601 = .ok (.aload_n 3, 1) := by decide +kernel
theorem dL_law_602 : decode cL_law 602 = .ok (.iconst 0, 1) := by decide +kernel
theorem dL_law_603 : decode cL_law 603 = .ok (.laload, 1) := by decide +kernel
theorem dL_law_604 : decode cL_law 604 = .ok (.iload 6, 2) := by decide +kernel
theorem dL_law_606 : decode cL_law 606 = .ok (.i2l, 1) := by decide +kernel
theorem dL_law_607 : decode cL_law 607 = .ok (.lcmp, 1) := by decide +kernel
theorem dL_law_608 : decode cL_law 608 = .ok (.ifCond .eq 5, 3) := by decide +kernel
theorem dL_law_616 : decode cL_law 616 = .ok (.aload_n 1, 1) := by decide +kernel
theorem dL_law_617 : decode cL_law 617 = .ok (.aload_n 0, 1) := by decide +kernel
theorem dL_law_618 : decode cL_law 618 = .ok (.iload 4, 2) := by decide +kernel
theorem dL_law_620 : decode cL_law 620 = .ok (.iconst 1, 1) := by decide +kernel
theorem dL_law_621 : decode cL_law 621 = .ok (.iadd, 1) := by decide +kernel
theorem dL_law_622 : decode cL_law 622 = .ok (.iaload, 1) := by decide +kernel
theorem dL_law_623 : decode cL_law 623 = .ok (.aload_n 0, 1) := by decide +kernel
theorem dL_law_624 : decode cL_law 624 = .ok (.iload 4, 2) := by decide +kernel
theorem dL_law_626 : decode cL_law 626 = .ok (.iconst 2, 1) := by decide +kernel
theorem dL_law_627 : decode cL_law 627 = .ok (.iadd, 1) := by decide +kernel
theorem dL_law_628 : decode cL_law 628 = .ok (.iaload, 1) := by decide +kernel
theorem dL_law_629 : decode cL_law 629 = .ok (.aload_n 3, 1) := by decide +kernel
theorem dL_law_630 : decode cL_law 630 = .ok (.invokestatic 107, 3) := by decide +kernel
theorem dL_law_633 : decode cL_law 633 = .ok (.istore 5, 2) := by decide +kernel
theorem dL_law_635 : decode cL_law 635 = .ok (.aload_n 2, 1) := by decide +kernel
theorem dL_law_636 : decode cL_law 636 = .ok (.aload_n 0, 1) := by decide +kernel
theorem dL_law_637 : decode cL_law 637 = .ok (.iload 4, 2) := by decide +kernel
theorem dL_law_639 : decode cL_law 639 = .ok (.iconst 1, 1) := by decide +kernel
theorem dL_law_640 : decode cL_law 640 = .ok (.iadd, 1) := by decide +kernel
theorem dL_law_641 : decode cL_law 641 = .ok (.iaload, 1) := by decide +kernel
theorem dL_law_642 : decode cL_law 642 = .ok (.aload_n 0, 1) := by decide +kernel
theorem dL_law_643 : decode cL_law 643 = .ok (.iload 4, 2) := by decide +kernel
theorem dL_law_645 : decode cL_law 645 = .ok (.iconst 2, 1) := by decide +kernel
theorem dL_law_646 : decode cL_law 646 = .ok (.iadd, 1) := by decide +kernel
theorem dL_law_647 : decode cL_law 647 = .ok (.iaload, 1) := by decide +kernel
theorem dL_law_648 : decode cL_law 648 = .ok (.invokevirtual 109, 3) := by decide +kernel
theorem dL_law_651 : decode cL_law 651 = .ok (.istore 6, 2) := by decide +kernel
theorem dL_law_653 : decode cL_law 653 = .ok (.aload_n 2, 1) := by decide +kernel
theorem dL_law_654 : decode cL_law 654 = .ok (.invokevirtual 87, 3) := by decide +kernel
theorem dL_law_657 : decode cL_law 657 = .ok (.iload 5, 2) := by decide +kernel
theorem dL_law_659 : decode cL_law 659 = .ok (.if_icmp .eq 5, 3) := by decide +kernel
theorem dL_law_664 : decode cL_law 664 = .ok (.iload 5, 2) := by decide +kernel
theorem dL_law_666 : decode cL_law 666 = .ok (.ifCond .ne 15, 3) := by decide +kernel
theorem dL_law_681 : decode cL_law 681 = .ok (.goto 838, 3) := by decide +kernel
theorem dL_law_684 : decode cL_law 684 = .ok (.aload_n 1, 1) := by decide +kernel
theorem dL_law_685 : decode cL_law 685 = .ok (.aload_n 0, 1) := by decide +kernel
theorem dL_law_686 : decode cL_law 686 = .ok (.iload 4, 2) := by decide +kernel
theorem dL_law_688 : decode cL_law 688 = .ok (.iconst 1, 1) := by decide +kernel
theorem dL_law_689 : decode cL_law 689 = .ok (.iadd, 1) := by decide +kernel
theorem dL_law_690 : decode cL_law 690 = .ok (.iaload, 1) := by decide +kernel
theorem dL_law_691 : decode cL_law 691 = .ok (.aload_n 0, 1) := by decide +kernel
theorem dL_law_692 : decode cL_law 692 = .ok (.iload 4, 2) := by decide +kernel
theorem dL_law_694 : decode cL_law 694 = .ok (.iconst 2, 1) := by decide +kernel
theorem dL_law_695 : decode cL_law 695 = .ok (.iadd, 1) := by decide +kernel
theorem dL_law_696 : decode cL_law 696 = .ok (.iaload, 1) := by decide +kernel
theorem dL_law_697 : decode cL_law 697 = .ok (.aload_n 3, 1) := by decide +kernel
theorem dL_law_698 : decode cL_law 698 = .ok (.invokestatic 110, 3) := by decide +kernel
theorem dL_law_701 : decode cL_law 701 = .ok (.istore 5, 2) := by decide +kernel
theorem dL_law_703 : decode cL_law 703 = .ok (.aload_n 2, 1) := by decide +kernel
theorem dL_law_704 : decode cL_law 704 = .ok (.aload_n 0, 1) := by decide +kernel
theorem dL_law_705 : decode cL_law 705 = .ok (.iload 4, 2) := by decide +kernel
theorem dL_law_707 : decode cL_law 707 = .ok (.iconst 1, 1) := by decide +kernel
theorem dL_law_708 : decode cL_law 708 = .ok (.iadd, 1) := by decide +kernel
theorem dL_law_709 : decode cL_law 709 = .ok (.iaload, 1) := by decide +kernel
theorem dL_law_710 : decode cL_law 710 = .ok (.aload_n 0, 1) := by decide +kernel
theorem dL_law_711 : decode cL_law 711 = .ok (.iload 4, 2) := by decide +kernel
theorem dL_law_713 : decode cL_law 713 = .ok (.iconst 2, 1) := by decide +kernel
theorem dL_law_714 : decode cL_law 714 = .ok (.iadd, 1) := by decide +kernel
theorem dL_law_715 : decode cL_law 715 = .ok (.iaload, 1) := by decide +kernel
theorem dL_law_716 : decode cL_law 716 = .ok (.invokevirtual 112, 3) := by decide +kernel
theorem dL_law_719 : decode cL_law 719 = .ok (.istore 6, 2) := by decide +kernel
theorem dL_law_721 : decode cL_law 721 = .ok (.aload_n 2, 1) := by decide +kernel
theorem dL_law_722 : decode cL_law 722 = .ok (.invokevirtual 87, 3) := by decide +kernel
theorem dL_law_725 : decode cL_law 725 = .ok (.iload 5, 2) := by decide +kernel
theorem dL_law_727 : decode cL_law 727 = .ok (.if_icmp .eq 5, 3) := by decide +kernel
theorem dL_law_732 : decode cL_law 732 = .ok (.iload 5, 2) := by decide +kernel
theorem dL_law_734 : decode cL_law 734 = .ok (.ifCond .ne 15, 3) := by decide +kernel
theorem dL_law_749 : decode cL_law 749 = .ok (.goto 770, 3) := by decide +kernel
theorem dL_law_752 : decode cL_law 752 = .ok (.aload_n 1, 1) := by decide +kernel
theorem dL_law_753 : decode cL_law 753 = .ok (.aload_n 0, 1) := by decide +kernel
theorem dL_law_754 : decode cL_law 754 = .ok (.iload 4, 2) := by decide +kernel
theorem dL_law_756 : decode cL_law 756 = .ok (.iconst 1, 1) := by decide +kernel
theorem dL_law_757 : decode cL_law 757 = .ok (.iadd, 1) := by decide +kernel
theorem dL_law_758 : decode cL_law 758 = .ok (.iaload, 1) := by decide +kernel
theorem dL_law_759 : decode cL_law 759 = .ok (.aload_n 0, 1) := by decide +kernel
theorem dL_law_760 : decode cL_law 760 = .ok (.iload 4, 2) := by decide +kernel
theorem dL_law_762 : decode cL_law 762 = .ok (.iconst 2, 1) := by decide +kernel
theorem dL_law_763 : decode cL_law 763 = .ok (.iadd, 1) := by decide +kernel
theorem dL_law_764 : decode cL_law 764 = .ok (.iaload, 1) := by decide +kernel
theorem dL_law_765 : decode cL_law 765 = .ok (.aload_n 3, 1) := by decide +kernel
theorem dL_law_766 : decode cL_law 766 = .ok (.invokestatic 113, 3) := by decide +kernel
theorem dL_law_769 : decode cL_law 769 = .ok (.istore 5, 2) := by decide +kernel
theorem dL_law_771 : decode cL_law 771 = .ok (.aload_n 2, 1) := by decide +kernel
theorem dL_law_772 : decode cL_law 772 = .ok (.aload_n 0, 1) := by decide +kernel
theorem dL_law_773 : decode cL_law 773 = .ok (.iload 4, 2) := by decide +kernel
theorem dL_law_775 : decode cL_law 775 = .ok (.iconst 1, 1) := by decide +kernel
theorem dL_law_776 : decode cL_law 776 = .ok (.iadd, 1) := by decide +kernel
theorem dL_law_777 : decode cL_law 777 = .ok (.iaload, 1) := by decide +kernel
theorem dL_law_778 : decode cL_law 778 = .ok (.aload_n 0, 1) := by decide +kernel
theorem dL_law_779 : decode cL_law 779 = .ok (.iload 4, 2) := by decide +kernel
theorem dL_law_781 : decode cL_law 781 = .ok (.iconst 2, 1) := by decide +kernel
theorem dL_law_782 : decode cL_law 782 = .ok (.iadd, 1) := by decide +kernel
theorem dL_law_783 : decode cL_law 783 = .ok (.iaload, 1) := by decide +kernel
theorem dL_law_784 : decode cL_law 784 = .ok (.invokevirtual 115, 3) := by decide +kernel
theorem dL_law_787 : decode cL_law 787 = .ok (.istore 6, 2) := by decide +kernel
theorem dL_law_789 : decode cL_law 789 = .ok (.aload_n 2, 1) := by decide +kernel
theorem dL_law_790 : decode cL_law 790 = .ok (.invokevirtual 87, 3) := by decide +kernel
theorem dL_law_793 : decode cL_law 793 = .ok (.iload 5, 2) := by decide +kernel
theorem dL_law_795 : decode cL_law 795 = .ok (.if_icmp .eq 5, 3) := by decide +kernel
theorem dL_law_800 : decode cL_law 800 = .ok (.iload 5, 2) := by decide +kernel
theorem dL_law_802 : decode cL_law 802 = .ok (.ifCond .ne 15, 3) := by decide +kernel
theorem dL_law_817 : decode cL_law 817 = .ok (.goto 702, 3) := by decide +kernel
theorem dL_law_805 : decode cL_law 805 = .ok (.aload_n 3, 1) := by decide +kernel
theorem dL_law_806 : decode cL_law 806 = .ok (.iconst 0, 1) := by decide +kernel
theorem dL_law_807 : decode cL_law 807 = .ok (.laload, 1) := by decide +kernel
theorem dL_law_808 : decode cL_law 808 = .ok (.iload 6, 2) := by decide +kernel
theorem dL_law_810 : decode cL_law 810 = .ok (.i2l, 1) := by decide +kernel
theorem dL_law_811 : decode cL_law 811 = .ok (.lcmp, 1) := by decide +kernel
theorem dL_law_812 : decode cL_law 812 = .ok (.ifCond .eq 5, 3) := by decide +kernel
theorem dL_law_820 : decode cL_law 820 = .ok (.aload_n 1, 1) := by decide +kernel
theorem dL_law_821 : decode cL_law 821 = .ok (.aload_n 0, 1) := by decide +kernel
theorem dL_law_822 : decode cL_law 822 = .ok (.iload 4, 2) := by decide +kernel
theorem dL_law_824 : decode cL_law 824 = .ok (.iconst 1, 1) := by decide +kernel
theorem dL_law_825 : decode cL_law 825 = .ok (.iadd, 1) := by decide +kernel
theorem dL_law_826 : decode cL_law 826 = .ok (.iaload, 1) := by decide +kernel
theorem dL_law_827 : decode cL_law 827 = .ok (.aload_n 3, 1) := by decide +kernel
theorem dL_law_828 : decode cL_law 828 = .ok (.invokestatic 116, 3) := by decide +kernel
theorem dL_law_831 : decode cL_law 831 = .ok (.istore 5, 2) := by decide +kernel
theorem dL_law_833 : decode cL_law 833 = .ok (.aload_n 2, 1) := by decide +kernel
theorem dL_law_834 : decode cL_law 834 = .ok (.aload_n 0, 1) := by decide +kernel
theorem dL_law_835 : decode cL_law 835 = .ok (.iload 4, 2) := by decide +kernel
theorem dL_law_837 : decode cL_law 837 = .ok (.iconst 1, 1) := by decide +kernel
theorem dL_law_838 : decode cL_law 838 = .ok (.iadd, 1) := by decide +kernel
theorem dL_law_839 : decode cL_law 839 = .ok (.iaload, 1) := by decide +kernel
theorem dL_law_840 : decode cL_law 840 = .ok (.invokevirtual 119, 3) := by decide +kernel
theorem dL_law_843 : decode cL_law 843 = .ok (.istore 6, 2) := by decide +kernel
theorem dL_law_845 : decode cL_law 845 = .ok (.aload_n 2, 1) := by decide +kernel
theorem dL_law_846 : decode cL_law 846 = .ok (.invokevirtual 87, 3) := by decide +kernel
theorem dL_law_849 : decode cL_law 849 = .ok (.iload 5, 2) := by decide +kernel
theorem dL_law_851 : decode cL_law 851 = .ok (.if_icmp .eq 5, 3) := by decide +kernel
theorem dL_law_856 : decode cL_law 856 = .ok (.iload 5, 2) := by decide +kernel
theorem dL_law_858 : decode cL_law 858 = .ok (.ifCond .ne 15, 3) := by decide +kernel
theorem dL_law_873 : decode cL_law 873 = .ok (.goto 646, 3) := by decide +kernel
theorem dL_law_861 : decode cL_law 861 = .ok (.aload_n 3, 1) := by decide +kernel
theorem dL_law_862 : decode cL_law 862 = .ok (.iconst 0, 1) := by decide +kernel
theorem dL_law_863 : decode cL_law 863 = .ok (.laload, 1) := by decide +kernel
theorem dL_law_864 : decode cL_law 864 = .ok (.iload 6, 2) := by decide +kernel
theorem dL_law_866 : decode cL_law 866 = .ok (.i2l, 1) := by decide +kernel
theorem dL_law_867 : decode cL_law 867 = .ok (.lcmp, 1) := by decide +kernel
theorem dL_law_868 : decode cL_law 868 = .ok (.ifCond .eq 5, 3) := by decide +kernel
theorem dL_law_876 : decode cL_law 876 = .ok (.aload_n 1, 1) := by decide +kernel
theorem dL_law_877 : decode cL_law 877 = .ok (.aload_n 0, 1) := by decide +kernel
theorem dL_law_878 : decode cL_law 878 = .ok (.iload 4, 2) := by decide +kernel
theorem dL_law_880 : decode cL_law 880 = .ok (.iconst 1, 1) := by decide +kernel
theorem dL_law_881 : decode cL_law 881 = .ok (.iadd, 1) := by decide +kernel
theorem dL_law_882 : decode cL_law 882 = .ok (.iaload, 1) := by decide +kernel
theorem dL_law_883 : decode cL_law 883 = .ok (.aload_n 0, 1) := by decide +kernel
theorem dL_law_884 : decode cL_law 884 = .ok (.iload 4, 2) := by decide +kernel
theorem dL_law_886 : decode cL_law 886 = .ok (.iconst 2, 1) := by decide +kernel
theorem dL_law_887 : decode cL_law 887 = .ok (.iadd, 1) := by decide +kernel
theorem dL_law_888 : decode cL_law 888 = .ok (.iaload, 1) := by decide +kernel
theorem dL_law_889 : decode cL_law 889 = .ok (.aload_n 0, 1) := by decide +kernel
theorem dL_law_890 : decode cL_law 890 = .ok (.iload 4, 2) := by decide +kernel
theorem dL_law_892 : decode cL_law 892 = .ok (.iconst 3, 1) := by decide +kernel
theorem dL_law_893 : decode cL_law 893 = .ok (.iadd, 1) := by decide +kernel
theorem dL_law_894 : decode cL_law 894 = .ok (.iaload, 1) := by decide +kernel
theorem dL_law_895 : decode cL_law 895 = .ok (.aload_n 3, 1) := by decide +kernel
theorem dL_law_896 : decode cL_law 896 = .ok (.invokestatic 120, 3) := by decide +kernel
theorem dL_law_899 : decode cL_law 899 = .ok (.istore 5, 2) := by decide +kernel
theorem dL_law_901 : decode cL_law 901 = .ok (.aload_n 2, 1) := by decide +kernel
theorem dL_law_902 : decode cL_law 902 = .ok (.aload_n 0, 1) := by decide +kernel
theorem dL_law_903 : decode cL_law 903 = .ok (.iload 4, 2) := by decide +kernel
theorem dL_law_905 : decode cL_law 905 = .ok (.iconst 1, 1) := by decide +kernel
theorem dL_law_906 : decode cL_law 906 = .ok (.iadd, 1) := by decide +kernel
theorem dL_law_907 : decode cL_law 907 = .ok (.iaload, 1) := by decide +kernel
theorem dL_law_908 : decode cL_law 908 = .ok (.aload_n 0, 1) := by decide +kernel
theorem dL_law_909 : decode cL_law 909 = .ok (.iload 4, 2) := by decide +kernel
theorem dL_law_911 : decode cL_law 911 = .ok (.iconst 2, 1) := by decide +kernel
theorem dL_law_912 : decode cL_law 912 = .ok (.iadd, 1) := by decide +kernel
theorem dL_law_913 : decode cL_law 913 = .ok (.iaload, 1) := by decide +kernel
theorem dL_law_914 : decode cL_law 914 = .ok (.aload_n 0, 1) := by decide +kernel
theorem dL_law_915 : decode cL_law 915 = .ok (.iload 4, 2) := by decide +kernel
theorem dL_law_917 : decode cL_law 917 = .ok (.iconst 3, 1) := by decide +kernel
theorem dL_law_918 : decode cL_law 918 = .ok (.iadd, 1) := by decide +kernel
theorem dL_law_919 : decode cL_law 919 = .ok (.iaload, 1) := by decide +kernel
theorem dL_law_920 : decode cL_law 920 = .ok (.invokevirtual 122, 3) := by decide +kernel
theorem dL_law_923 : decode cL_law 923 = .ok (.istore 6, 2) := by decide +kernel
theorem dL_law_925 : decode cL_law 925 = .ok (.aload_n 2, 1) := by decide +kernel
theorem dL_law_926 : decode cL_law 926 = .ok (.invokevirtual 87, 3) := by decide +kernel
theorem dL_law_929 : decode cL_law 929 = .ok (.iload 5, 2) := by decide +kernel
theorem dL_law_931 : decode cL_law 931 = .ok (.if_icmp .eq 5, 3) := by decide +kernel
theorem dL_law_936 : decode cL_law 936 = .ok (.iload 5, 2) := by decide +kernel
theorem dL_law_938 : decode cL_law 938 = .ok (.ifCond .ne 15, 3) := by decide +kernel
theorem dL_law_953 : decode cL_law 953 = .ok (.goto 566, 3) := by decide +kernel
theorem dL_law_956 : decode cL_law 956 = .ok (.aload_n 1, 1) := by decide +kernel
theorem dL_law_957 : decode cL_law 957 = .ok (.aload_n 0, 1) := by decide +kernel
theorem dL_law_958 : decode cL_law 958 = .ok (.iload 4, 2) := by decide +kernel
theorem dL_law_960 : decode cL_law 960 = .ok (.iconst 1, 1) := by decide +kernel
theorem dL_law_961 : decode cL_law 961 = .ok (.iadd, 1) := by decide +kernel
theorem dL_law_962 : decode cL_law 962 = .ok (.iaload, 1) := by decide +kernel
theorem dL_law_963 : decode cL_law 963 = .ok (.aload_n 0, 1) := by decide +kernel
theorem dL_law_964 : decode cL_law 964 = .ok (.iload 4, 2) := by decide +kernel
theorem dL_law_966 : decode cL_law 966 = .ok (.iconst 2, 1) := by decide +kernel
theorem dL_law_967 : decode cL_law 967 = .ok (.iadd, 1) := by decide +kernel
theorem dL_law_968 : decode cL_law 968 = .ok (.iaload, 1) := by decide +kernel
theorem dL_law_969 : decode cL_law 969 = .ok (.aload_n 3, 1) := by decide +kernel
theorem dL_law_970 : decode cL_law 970 = .ok (.invokestatic 123, 3) := by decide +kernel
theorem dL_law_973 : decode cL_law 973 = .ok (.istore 5, 2) := by decide +kernel
theorem dL_law_975 : decode cL_law 975 = .ok (.aload_n 2, 1) := by decide +kernel
theorem dL_law_976 : decode cL_law 976 = .ok (.aload_n 0, 1) := by decide +kernel
theorem dL_law_977 : decode cL_law 977 = .ok (.iload 4, 2) := by decide +kernel
theorem dL_law_979 : decode cL_law 979 = .ok (.iconst 1, 1) := by decide +kernel
theorem dL_law_980 : decode cL_law 980 = .ok (.iadd, 1) := by decide +kernel
theorem dL_law_981 : decode cL_law 981 = .ok (.iaload, 1) := by decide +kernel
theorem dL_law_982 : decode cL_law 982 = .ok (.aload_n 0, 1) := by decide +kernel
theorem dL_law_983 : decode cL_law 983 = .ok (.iload 4, 2) := by decide +kernel
theorem dL_law_985 : decode cL_law 985 = .ok (.iconst 2, 1) := by decide +kernel
theorem dL_law_986 : decode cL_law 986 = .ok (.iadd, 1) := by decide +kernel
theorem dL_law_987 : decode cL_law 987 = .ok (.iaload, 1) := by decide +kernel
theorem dL_law_988 : decode cL_law 988 = .ok (.invokevirtual 125, 3) := by decide +kernel
theorem dL_law_991 : decode cL_law 991 = .ok (.istore 6, 2) := by decide +kernel
theorem dL_law_993 : decode cL_law 993 = .ok (.aload_n 2, 1) := by decide +kernel
theorem dL_law_994 : decode cL_law 994 = .ok (.invokevirtual 87, 3) := by decide +kernel
theorem dL_law_997 : decode cL_law 997 = .ok (.iload 5, 2) := by decide +kernel
theorem dL_law_999 : decode cL_law 999 = .ok (.if_icmp .eq 5, 3) := by decide +kernel
theorem dL_law_1004 : decode cL_law 1004 = .ok (.iload 5, 2) := by decide +kernel
theorem dL_law_1006 : decode cL_law 1006 = .ok (.ifCond .ne 15, 3) := by decide +kernel
theorem dL_law_1021 : decode cL_law 1021 = .ok (.goto 498, 3) := by decide +kernel
theorem dL_law_1009 : decode cL_law 1009 = .ok (.aload_n 3, 1) := by decide +kernel
theorem dL_law_1010 : decode cL_law 1010 = .ok (.iconst 0, 1) := by decide +kernel
theorem dL_law_1011 : decode cL_law 1011 = .ok (.laload, 1) := by decide +kernel
theorem dL_law_1012 : decode cL_law 1012 = .ok (.iload 6, 2) := by decide +kernel
theorem dL_law_1014 : decode cL_law 1014 = .ok (.i2l, 1) := by decide +kernel
theorem dL_law_1015 : decode cL_law 1015 = .ok (.lcmp, 1) := by decide +kernel
theorem dL_law_1016 : decode cL_law 1016 = .ok (.ifCond .eq 5, 3) := by decide +kernel
theorem dL_law_1024 : decode cL_law 1024 = .ok (.aload_n 1, 1) := by decide +kernel
theorem dL_law_1025 : decode cL_law 1025 = .ok (.aload_n 3, 1) := by decide +kernel
theorem dL_law_1026 : decode cL_law 1026 = .ok (.invokestatic 126, 3) := by decide +kernel
theorem dL_law_1029 : decode cL_law 1029 = .ok (.istore 5, 2) := by decide +kernel
theorem dL_law_1031 : decode cL_law 1031 = .ok (.aload_n 2, 1) := by decide +kernel
theorem dL_law_1032 : decode cL_law 1032 = .ok (.invokevirtual 129, 3) := by decide +kernel
theorem dL_law_1035 : decode cL_law 1035 = .ok (.istore 6, 2) := by decide +kernel
theorem dL_law_1037 : decode cL_law 1037 = .ok (.aload_n 2, 1) := by decide +kernel
theorem dL_law_1038 : decode cL_law 1038 = .ok (.invokevirtual 87, 3) := by decide +kernel
theorem dL_law_1041 : decode cL_law 1041 = .ok (.iload 5, 2) := by decide +kernel
theorem dL_law_1043 : decode cL_law 1043 = .ok (.if_icmp .eq 5, 3) := by decide +kernel
theorem dL_law_1048 : decode cL_law 1048 = .ok (.iload 5, 2) := by decide +kernel
theorem dL_law_1050 : decode cL_law 1050 = .ok (.ifCond .ne 15, 3) := by decide +kernel
theorem dL_law_1065 : decode cL_law 1065 = .ok (.goto 454, 3) := by decide +kernel
theorem dL_law_1068 : decode cL_law 1068 = .ok (.aload_n 1, 1) := by decide +kernel
theorem dL_law_1069 : decode cL_law 1069 = .ok (.aload_n 0, 1) := by decide +kernel
theorem dL_law_1070 : decode cL_law 1070 = .ok (.iload 4, 2) := by decide +kernel
theorem dL_law_1072 : decode cL_law 1072 = .ok (.iconst 1, 1) := by decide +kernel
theorem dL_law_1073 : decode cL_law 1073 = .ok (.iadd, 1) := by decide +kernel
theorem dL_law_1074 : decode cL_law 1074 = .ok (.iaload, 1) := by decide +kernel
theorem dL_law_1075 : decode cL_law 1075 = .ok (.aload_n 3, 1) := by decide +kernel
theorem dL_law_1076 : decode cL_law 1076 = .ok (.invokestatic 130, 3) := by decide +kernel
theorem dL_law_1079 : decode cL_law 1079 = .ok (.istore 5, 2) := by decide +kernel
theorem dL_law_1081 : decode cL_law 1081 = .ok (.aload_n 2, 1) := by decide +kernel
theorem dL_law_1082 : decode cL_law 1082 = .ok (.aload_n 0, 1) := by decide +kernel
theorem dL_law_1083 : decode cL_law 1083 = .ok (.iload 4, 2) := by decide +kernel
theorem dL_law_1085 : decode cL_law 1085 = .ok (.iconst 1, 1) := by decide +kernel
theorem dL_law_1086 : decode cL_law 1086 = .ok (.iadd, 1) := by decide +kernel
theorem dL_law_1087 : decode cL_law 1087 = .ok (.iaload, 1) := by decide +kernel
theorem dL_law_1088 : decode cL_law 1088 = .ok (.invokevirtual 132, 3) := by decide +kernel
theorem dL_law_1091 : decode cL_law 1091 = .ok (.istore 6, 2) := by decide +kernel
theorem dL_law_1093 : decode cL_law 1093 = .ok (.aload_n 2, 1) := by decide +kernel
theorem dL_law_1094 : decode cL_law 1094 = .ok (.invokevirtual 87, 3) := by decide +kernel
theorem dL_law_1097 : decode cL_law 1097 = .ok (.iload 5, 2) := by decide +kernel
theorem dL_law_1099 : decode cL_law 1099 = .ok (.if_icmp .eq 5, 3) := by decide +kernel
theorem dL_law_1104 : decode cL_law 1104 = .ok (.iload 5, 2) := by decide +kernel
theorem dL_law_1106 : decode cL_law 1106 = .ok (.ifCond .ne 15, 3) := by decide +kernel
theorem dL_law_1121 : decode cL_law 1121 = .ok (.goto 398, 3) := by decide +kernel
theorem dL_law_1109 : decode cL_law 1109 = .ok (.aload_n 3, 1) := by decide +kernel
theorem dL_law_1110 : decode cL_law 1110 = .ok (.iconst 0, 1) := by decide +kernel
theorem dL_law_1111 : decode cL_law 1111 = .ok (.laload, 1) := by decide +kernel
theorem dL_law_1112 : decode cL_law 1112 = .ok (.iload 6, 2) := by decide +kernel
theorem dL_law_1114 : decode cL_law 1114 = .ok (.i2l, 1) := by decide +kernel
theorem dL_law_1115 : decode cL_law 1115 = .ok (.lcmp, 1) := by decide +kernel
theorem dL_law_1116 : decode cL_law 1116 = .ok (.ifCond .eq 5, 3) := by decide +kernel
theorem dL_law_1124 : decode cL_law 1124 = .ok (.aload_n 1, 1) := by decide +kernel
theorem dL_law_1125 : decode cL_law 1125 = .ok (.aload_n 0, 1) := by decide +kernel
theorem dL_law_1126 : decode cL_law 1126 = .ok (.iload 4, 2) := by decide +kernel
theorem dL_law_1128 : decode cL_law 1128 = .ok (.iconst 1, 1) := by decide +kernel
theorem dL_law_1129 : decode cL_law 1129 = .ok (.iadd, 1) := by decide +kernel
theorem dL_law_1130 : decode cL_law 1130 = .ok (.iaload, 1) := by decide +kernel
theorem dL_law_1131 : decode cL_law 1131 = .ok (.aload_n 0, 1) := by decide +kernel
theorem dL_law_1132 : decode cL_law 1132 = .ok (.iload 4, 2) := by decide +kernel
theorem dL_law_1134 : decode cL_law 1134 = .ok (.iconst 2, 1) := by decide +kernel
theorem dL_law_1135 : decode cL_law 1135 = .ok (.iadd, 1) := by decide +kernel
theorem dL_law_1136 : decode cL_law 1136 = .ok (.iaload, 1) := by decide +kernel
theorem dL_law_1137 : decode cL_law 1137 = .ok (.aload_n 3, 1) := by decide +kernel
theorem dL_law_1138 : decode cL_law 1138 = .ok (.invokestatic 133, 3) := by decide +kernel
theorem dL_law_1141 : decode cL_law 1141 = .ok (.istore 5, 2) := by decide +kernel
theorem dL_law_1143 : decode cL_law 1143 = .ok (.aload_n 2, 1) := by decide +kernel
theorem dL_law_1144 : decode cL_law 1144 = .ok (.aload_n 0, 1) := by decide +kernel
theorem dL_law_1145 : decode cL_law 1145 = .ok (.iload 4, 2) := by decide +kernel
theorem dL_law_1147 : decode cL_law 1147 = .ok (.iconst 1, 1) := by decide +kernel
theorem dL_law_1148 : decode cL_law 1148 = .ok (.iadd, 1) := by decide +kernel
theorem dL_law_1149 : decode cL_law 1149 = .ok (.iaload, 1) := by decide +kernel
theorem dL_law_1150 : decode cL_law 1150 = .ok (.aload_n 0, 1) := by decide +kernel
theorem dL_law_1151 : decode cL_law 1151 = .ok (.iload 4, 2) := by decide +kernel
theorem dL_law_1153 : decode cL_law 1153 = .ok (.iconst 2, 1) := by decide +kernel
theorem dL_law_1154 : decode cL_law 1154 = .ok (.iadd, 1) := by decide +kernel
theorem dL_law_1155 : decode cL_law 1155 = .ok (.iaload, 1) := by decide +kernel
theorem dL_law_1156 : decode cL_law 1156 = .ok (.invokevirtual 135, 3) := by decide +kernel
theorem dL_law_1159 : decode cL_law 1159 = .ok (.istore 6, 2) := by decide +kernel
theorem dL_law_1161 : decode cL_law 1161 = .ok (.aload_n 2, 1) := by decide +kernel
theorem dL_law_1162 : decode cL_law 1162 = .ok (.invokevirtual 87, 3) := by decide +kernel
theorem dL_law_1165 : decode cL_law 1165 = .ok (.iload 5, 2) := by decide +kernel
theorem dL_law_1167 : decode cL_law 1167 = .ok (.if_icmp .eq 5, 3) := by decide +kernel
theorem dL_law_1172 : decode cL_law 1172 = .ok (.iload 5, 2) := by decide +kernel
theorem dL_law_1174 : decode cL_law 1174 = .ok (.ifCond .ne 15, 3) := by decide +kernel
theorem dL_law_1189 : decode cL_law 1189 = .ok (.goto 330, 3) := by decide +kernel
theorem dL_law_1192 : decode cL_law 1192 = .ok (.aload_n 1, 1) := by decide +kernel
theorem dL_law_1193 : decode cL_law 1193 = .ok (.invokevirtual 136, 3) := by decide +kernel
theorem dL_law_1196 : decode cL_law 1196 = .ok (.dstore 5, 2) := by decide +kernel
theorem dL_law_1198 : decode cL_law 1198 = .ok (.aload_n 2, 1) := by decide +kernel
theorem dL_law_1199 : decode cL_law 1199 = .ok (.invokevirtual 140, 3) := by decide +kernel
theorem dL_law_1202 : decode cL_law 1202 = .ok (.dstore 7, 2) := by decide +kernel
theorem dL_law_1204 : decode cL_law 1204 = .ok (.dload 5, 2) := by decide +kernel
theorem dL_law_1206 : decode cL_law 1206 = .ok (.dload 7, 2) := by decide +kernel
theorem dL_law_1208 : decode cL_law 1208 = .ok (.dcmp .l, 1) := by decide +kernel
theorem dL_law_1209 : decode cL_law 1209 = .ok (.ifCond .eq 21, 3) := by decide +kernel
theorem dL_law_1230 : decode cL_law 1230 = .ok (.goto 289, 3) := by decide +kernel
theorem dL_law_1233 : decode cL_law 1233 = .ok (.aload_n 1, 1) := by decide +kernel
theorem dL_law_1234 : decode cL_law 1234 = .ok (.aload_n 0, 1) := by decide +kernel
theorem dL_law_1235 : decode cL_law 1235 = .ok (.iload 4, 2) := by decide +kernel
theorem dL_law_1237 : decode cL_law 1237 = .ok (.iconst 1, 1) := by decide +kernel
theorem dL_law_1238 : decode cL_law 1238 = .ok (.iadd, 1) := by decide +kernel
theorem dL_law_1239 : decode cL_law 1239 = .ok (.iaload, 1) := by decide +kernel
theorem dL_law_1240 : decode cL_law 1240 = .ok (.aload_n 3, 1) := by decide +kernel
theorem dL_law_1241 : decode cL_law 1241 = .ok (.invokestatic 141, 3) := by decide +kernel
theorem dL_law_1244 : decode cL_law 1244 = .ok (.istore 5, 2) := by decide +kernel
theorem dL_law_1246 : decode cL_law 1246 = .ok (.aload_n 2, 1) := by decide +kernel
theorem dL_law_1247 : decode cL_law 1247 = .ok (.aload_n 0, 1) := by decide +kernel
theorem dL_law_1248 : decode cL_law 1248 = .ok (.iload 4, 2) := by decide +kernel
theorem dL_law_1250 : decode cL_law 1250 = .ok (.iconst 1, 1) := by decide +kernel
theorem dL_law_1251 : decode cL_law 1251 = .ok (.iadd, 1) := by decide +kernel
theorem dL_law_1252 : decode cL_law 1252 = .ok (.iaload, 1) := by decide +kernel
theorem dL_law_1253 : decode cL_law 1253 = .ok (.invokevirtual 143, 3) := by decide +kernel
theorem dL_law_1256 : decode cL_law 1256 = .ok (.istore 6, 2) := by decide +kernel
theorem dL_law_1258 : decode cL_law 1258 = .ok (.aload_n 2, 1) := by decide +kernel
theorem dL_law_1259 : decode cL_law 1259 = .ok (.invokevirtual 87, 3) := by decide +kernel
theorem dL_law_1262 : decode cL_law 1262 = .ok (.iload 5, 2) := by decide +kernel
theorem dL_law_1264 : decode cL_law 1264 = .ok (.if_icmp .eq 5, 3) := by decide +kernel
theorem dL_law_1269 : decode cL_law 1269 = .ok (.iload 5, 2) := by decide +kernel
theorem dL_law_1271 : decode cL_law 1271 = .ok (.ifCond .ne 15, 3) := by decide +kernel
theorem dL_law_1286 : decode cL_law 1286 = .ok (.goto 233, 3) := by decide +kernel
theorem dL_law_1274 : decode cL_law 1274 = .ok (.aload_n 3, 1) := by decide +kernel
theorem dL_law_1275 : decode cL_law 1275 = .ok (.iconst 0, 1) := by decide +kernel
theorem dL_law_1276 : decode cL_law 1276 = .ok (.laload, 1) := by decide +kernel
theorem dL_law_1277 : decode cL_law 1277 = .ok (.iload 6, 2) := by decide +kernel
theorem dL_law_1279 : decode cL_law 1279 = .ok (.i2l, 1) := by decide +kernel
theorem dL_law_1280 : decode cL_law 1280 = .ok (.lcmp, 1) := by decide +kernel
theorem dL_law_1281 : decode cL_law 1281 = .ok (.ifCond .eq 5, 3) := by decide +kernel
theorem dL_law_1289 : decode cL_law 1289 = .ok (.aload_n 1, 1) := by decide +kernel
theorem dL_law_1290 : decode cL_law 1290 = .ok (.aload_n 0, 1) := by decide +kernel
theorem dL_law_1291 : decode cL_law 1291 = .ok (.iload 4, 2) := by decide +kernel
theorem dL_law_1293 : decode cL_law 1293 = .ok (.iconst 1, 1) := by decide +kernel
theorem dL_law_1294 : decode cL_law 1294 = .ok (.iadd, 1) := by decide +kernel
theorem dL_law_1295 : decode cL_law 1295 = .ok (.iaload, 1) := by decide +kernel
theorem dL_law_1296 : decode cL_law 1296 = .ok (.aload_n 0, 1) := by decide +kernel
theorem dL_law_1297 : decode cL_law 1297 = .ok (.iload 4, 2) := by decide +kernel
theorem dL_law_1299 : decode cL_law 1299 = .ok (.iconst 2, 1) := by decide +kernel
theorem dL_law_1300 : decode cL_law 1300 = .ok (.iadd, 1) := by decide +kernel
theorem dL_law_1301 : decode cL_law 1301 = .ok (.iaload, 1) := by decide +kernel
theorem dL_law_1302 : decode cL_law 1302 = .ok (.aload_n 0, 1) := by decide +kernel
theorem dL_law_1303 : decode cL_law 1303 = .ok (.iload 4, 2) := by decide +kernel
theorem dL_law_1305 : decode cL_law 1305 = .ok (.iconst 3, 1) := by decide +kernel
theorem dL_law_1306 : decode cL_law 1306 = .ok (.iadd, 1) := by decide +kernel
theorem dL_law_1307 : decode cL_law 1307 = .ok (.iaload, 1) := by decide +kernel
theorem dL_law_1308 : decode cL_law 1308 = .ok (.aload_n 3, 1) := by decide +kernel
theorem dL_law_1309 : decode cL_law 1309 = .ok (.invokestatic 144, 3) := by decide +kernel
theorem dL_law_1312 : decode cL_law 1312 = .ok (.istore 5, 2) := by decide +kernel
theorem dL_law_1314 : decode cL_law 1314 = .ok (.aload_n 2, 1) := by decide +kernel
theorem dL_law_1315 : decode cL_law 1315 = .ok (.aload_n 0, 1) := by decide +kernel
theorem dL_law_1316 : decode cL_law 1316 = .ok (.iload 4, 2) := by decide +kernel
theorem dL_law_1318 : decode cL_law 1318 = .ok (.iconst 1, 1) := by decide +kernel
theorem dL_law_1319 : decode cL_law 1319 = .ok (.iadd, 1) := by decide +kernel
theorem dL_law_1320 : decode cL_law 1320 = .ok (.iaload, 1) := by decide +kernel
theorem dL_law_1321 : decode cL_law 1321 = .ok (.aload_n 0, 1) := by decide +kernel
theorem dL_law_1322 : decode cL_law 1322 = .ok (.iload 4, 2) := by decide +kernel
theorem dL_law_1324 : decode cL_law 1324 = .ok (.iconst 2, 1) := by decide +kernel
theorem dL_law_1325 : decode cL_law 1325 = .ok (.iadd, 1) := by decide +kernel
theorem dL_law_1326 : decode cL_law 1326 = .ok (.iaload, 1) := by decide +kernel
theorem dL_law_1327 : decode cL_law 1327 = .ok (.aload_n 0, 1) := by decide +kernel
theorem dL_law_1328 : decode cL_law 1328 = .ok (.iload 4, 2) := by decide +kernel
theorem dL_law_1330 : decode cL_law 1330 = .ok (.iconst 3, 1) := by decide +kernel
theorem dL_law_1331 : decode cL_law 1331 = .ok (.iadd, 1) := by decide +kernel
theorem dL_law_1332 : decode cL_law 1332 = .ok (.iaload, 1) := by decide +kernel
theorem dL_law_1333 : decode cL_law 1333 = .ok (.invokevirtual 146, 3) := by decide +kernel
theorem dL_law_1336 : decode cL_law 1336 = .ok (.istore 6, 2) := by decide +kernel
theorem dL_law_1338 : decode cL_law 1338 = .ok (.aload_n 2, 1) := by decide +kernel
theorem dL_law_1339 : decode cL_law 1339 = .ok (.invokevirtual 87, 3) := by decide +kernel
theorem dL_law_1342 : decode cL_law 1342 = .ok (.iload 5, 2) := by decide +kernel
theorem dL_law_1344 : decode cL_law 1344 = .ok (.if_icmp .eq 5, 3) := by decide +kernel
theorem dL_law_1349 : decode cL_law 1349 = .ok (.iload 5, 2) := by decide +kernel
theorem dL_law_1351 : decode cL_law 1351 = .ok (.ifCond .ne 15, 3) := by decide +kernel
theorem dL_law_1366 : decode cL_law 1366 = .ok (.goto 153, 3) := by decide +kernel
theorem dL_law_1369 : decode cL_law 1369 = .ok (.aload_n 1, 1) := by decide +kernel
theorem dL_law_1370 : decode cL_law 1370 = .ok (.aload_n 0, 1) := by decide +kernel
theorem dL_law_1371 : decode cL_law 1371 = .ok (.iload 4, 2) := by decide +kernel
theorem dL_law_1373 : decode cL_law 1373 = .ok (.iconst 1, 1) := by decide +kernel
theorem dL_law_1374 : decode cL_law 1374 = .ok (.iadd, 1) := by decide +kernel
theorem dL_law_1375 : decode cL_law 1375 = .ok (.iaload, 1) := by decide +kernel
theorem dL_law_1376 : decode cL_law 1376 = .ok (.aload_n 0, 1) := by decide +kernel
theorem dL_law_1377 : decode cL_law 1377 = .ok (.iload 4, 2) := by decide +kernel
theorem dL_law_1379 : decode cL_law 1379 = .ok (.iconst 2, 1) := by decide +kernel
theorem dL_law_1380 : decode cL_law 1380 = .ok (.iadd, 1) := by decide +kernel
theorem dL_law_1381 : decode cL_law 1381 = .ok (.iaload, 1) := by decide +kernel
theorem dL_law_1382 : decode cL_law 1382 = .ok (.aload_n 3, 1) := by decide +kernel
theorem dL_law_1383 : decode cL_law 1383 = .ok (.invokestatic 147, 3) := by decide +kernel
theorem dL_law_1386 : decode cL_law 1386 = .ok (.istore 5, 2) := by decide +kernel
theorem dL_law_1388 : decode cL_law 1388 = .ok (.aload_n 2, 1) := by decide +kernel
theorem dL_law_1389 : decode cL_law 1389 = .ok (.aload_n 0, 1) := by decide +kernel
theorem dL_law_1390 : decode cL_law 1390 = .ok (.iload 4, 2) := by decide +kernel
theorem dL_law_1392 : decode cL_law 1392 = .ok (.iconst 1, 1) := by decide +kernel
theorem dL_law_1393 : decode cL_law 1393 = .ok (.iadd, 1) := by decide +kernel
theorem dL_law_1394 : decode cL_law 1394 = .ok (.iaload, 1) := by decide +kernel
theorem dL_law_1395 : decode cL_law 1395 = .ok (.aload_n 0, 1) := by decide +kernel
theorem dL_law_1396 : decode cL_law 1396 = .ok (.iload 4, 2) := by decide +kernel
theorem dL_law_1398 : decode cL_law 1398 = .ok (.iconst 2, 1) := by decide +kernel
theorem dL_law_1399 : decode cL_law 1399 = .ok (.iadd, 1) := by decide +kernel
theorem dL_law_1400 : decode cL_law 1400 = .ok (.iaload, 1) := by decide +kernel
theorem dL_law_1401 : decode cL_law 1401 = .ok (.invokevirtual 149, 3) := by decide +kernel
theorem dL_law_1404 : decode cL_law 1404 = .ok (.istore 6, 2) := by decide +kernel
theorem dL_law_1406 : decode cL_law 1406 = .ok (.aload_n 2, 1) := by decide +kernel
theorem dL_law_1407 : decode cL_law 1407 = .ok (.invokevirtual 87, 3) := by decide +kernel
theorem dL_law_1410 : decode cL_law 1410 = .ok (.iload 5, 2) := by decide +kernel
theorem dL_law_1412 : decode cL_law 1412 = .ok (.if_icmp .eq 5, 3) := by decide +kernel
theorem dL_law_1417 : decode cL_law 1417 = .ok (.iload 5, 2) := by decide +kernel
theorem dL_law_1419 : decode cL_law 1419 = .ok (.ifCond .ne 15, 3) := by decide +kernel
theorem dL_law_1434 : decode cL_law 1434 = .ok (.goto 85, 3) := by decide +kernel
theorem dL_law_1437 : decode cL_law 1437 = .ok (.aload_n 1, 1) := by decide +kernel
theorem dL_law_1438 : decode cL_law 1438 = .ok (.aload_n 0, 1) := by decide +kernel
theorem dL_law_1439 : decode cL_law 1439 = .ok (.iload 4, 2) := by decide +kernel
theorem dL_law_1441 : decode cL_law 1441 = .ok (.iconst 1, 1) := by decide +kernel
theorem dL_law_1442 : decode cL_law 1442 = .ok (.iadd, 1) := by decide +kernel
theorem dL_law_1443 : decode cL_law 1443 = .ok (.iaload, 1) := by decide +kernel
theorem dL_law_1444 : decode cL_law 1444 = .ok (.aload_n 0, 1) := by decide +kernel
theorem dL_law_1445 : decode cL_law 1445 = .ok (.iload 4, 2) := by decide +kernel
theorem dL_law_1447 : decode cL_law 1447 = .ok (.iconst 2, 1) := by decide +kernel
theorem dL_law_1448 : decode cL_law 1448 = .ok (.iadd, 1) := by decide +kernel
theorem dL_law_1449 : decode cL_law 1449 = .ok (.iaload, 1) := by decide +kernel
theorem dL_law_1450 : decode cL_law 1450 = .ok (.aload_n 3, 1) := by decide +kernel
theorem dL_law_1451 : decode cL_law 1451 = .ok (.invokestatic 150, 3) := by decide +kernel
theorem dL_law_1454 : decode cL_law 1454 = .ok (.istore 5, 2) := by decide +kernel
theorem dL_law_1456 : decode cL_law 1456 = .ok (.aload_n 2, 1) := by decide +kernel
theorem dL_law_1457 : decode cL_law 1457 = .ok (.aload_n 0, 1) := by decide +kernel
theorem dL_law_1458 : decode cL_law 1458 = .ok (.iload 4, 2) := by decide +kernel
theorem dL_law_1460 : decode cL_law 1460 = .ok (.iconst 1, 1) := by decide +kernel
theorem dL_law_1461 : decode cL_law 1461 = .ok (.iadd, 1) := by decide +kernel
theorem dL_law_1462 : decode cL_law 1462 = .ok (.iaload, 1) := by decide +kernel
theorem dL_law_1463 : decode cL_law 1463 = .ok (.aload_n 0, 1) := by decide +kernel
theorem dL_law_1464 : decode cL_law 1464 = .ok (.iload 4, 2) := by decide +kernel
theorem dL_law_1466 : decode cL_law 1466 = .ok (.iconst 2, 1) := by decide +kernel
theorem dL_law_1467 : decode cL_law 1467 = .ok (.iadd, 1) := by decide +kernel
theorem dL_law_1468 : decode cL_law 1468 = .ok (.iaload, 1) := by decide +kernel
theorem dL_law_1469 : decode cL_law 1469 = .ok (.invokevirtual 152, 3) := by decide +kernel
theorem dL_law_1472 : decode cL_law 1472 = .ok (.istore 6, 2) := by decide +kernel
theorem dL_law_1474 : decode cL_law 1474 = .ok (.aload_n 2, 1) := by decide +kernel
theorem dL_law_1475 : decode cL_law 1475 = .ok (.invokevirtual 87, 3) := by decide +kernel
theorem dL_law_1478 : decode cL_law 1478 = .ok (.iload 5, 2) := by decide +kernel
theorem dL_law_1480 : decode cL_law 1480 = .ok (.if_icmp .eq 5, 3) := by decide +kernel
theorem dL_law_1485 : decode cL_law 1485 = .ok (.iload 5, 2) := by decide +kernel
theorem dL_law_1487 : decode cL_law 1487 = .ok (.ifCond .ne 15, 3) := by decide +kernel
theorem dL_law_1502 : decode cL_law 1502 = .ok (.goto 17, 3) := by decide +kernel
theorem dL_law_1490 : decode cL_law 1490 = .ok (.aload_n 3, 1) := by decide +kernel
theorem dL_law_1491 : decode cL_law 1491 = .ok (.iconst 0, 1) := by decide +kernel
theorem dL_law_1492 : decode cL_law 1492 = .ok (.laload, 1) := by decide +kernel
theorem dL_law_1493 : decode cL_law 1493 = .ok (.iload 6, 2) := by decide +kernel
theorem dL_law_1495 : decode cL_law 1495 = .ok (.i2l, 1) := by decide +kernel
theorem dL_law_1496 : decode cL_law 1496 = .ok (.lcmp, 1) := by decide +kernel
theorem dL_law_1497 : decode cL_law 1497 = .ok (.ifCond .eq 5, 3) := by decide +kernel
theorem dL_law_1505 : decode cL_law 1505 = .ok (.aload_n 1, 1) := by decide +kernel
theorem dL_law_1506 : decode cL_law 1506 = .ok (.invokevirtual 153, 3) := by decide +kernel
theorem dL_law_1509 : decode cL_law 1509 = .ok (.aload_n 2, 1) := by decide +kernel
theorem dL_law_1510 : decode cL_law 1510 = .ok (.invokevirtual 157, 3) := by decide +kernel
theorem dL_law_1513 : decode cL_law 1513 = .ok (.lcmp, 1) := by decide +kernel
theorem dL_law_1514 : decode cL_law 1514 = .ok (.ifCond .eq 5, 3) := by decide +kernel
theorem dL_law_0 : decode cL_law 0 = .ok (.new 8, 3) := by decide +kernel
theorem dL_law_3 : decode cL_law 3 = .ok (.dup, 1) := by decide +kernel
theorem dL_law_4 : decode cL_law 4 = .ok (.invokespecial 77, 3) := by decide +kernel
theorem dL_law_7 : decode cL_law 7 = .ok (.astore_n 1, 1) := by decide +kernel
theorem dL_law_8 : decode cL_law 8 = .ok (.new 78, 3) := by decide +kernel
theorem dL_law_11 : decode cL_law 11 = .ok (.dup, 1) := by decide +kernel
theorem dL_law_12 : decode cL_law 12 = .ok (.invokespecial 80, 3) := by decide +kernel
theorem dL_law_15 : decode cL_law 15 = .ok (.astore_n 2, 1) := by decide +kernel
theorem dL_law_16 : decode cL_law 16 = .ok (.iconst 1, 1) := by decide +kernel
theorem dL_law_17 : decode cL_law 17 = .ok (.newarray .long, 2) := by decide +kernel
theorem dL_law_19 : decode cL_law 19 = .ok (.astore_n 3, 1) := by decide +kernel
theorem dL_law_20 : decode cL_law 20 = .ok (.iconst 0, 1) := by decide +kernel
theorem dL_law_21 : decode cL_law 21 = .ok (.istore 4, 2) := by decide +kernel
theorem dL_law_32 : decode cL_law 32 = .ok (.aload_n 0, 1) := by decide +kernel
theorem dL_law_33 : decode cL_law 33 = .ok (.iload 4, 2) := by decide +kernel
theorem dL_law_35 : decode cL_law 35 = .ok (.iaload, 1) := by decide +kernel
theorem dL_law_36 : decode cL_law 36 = .ok (.bipush 31, 2) := by decide +kernel
theorem dL_law_38 : decode cL_law 38 = .ok (.iand, 1) := by decide +kernel
theorem dL_law_39 : decode cL_law 39 = .ok (.tableswitch 1480 0 20 #[97, 165, 245, 337, 417, 485, 577, 645, 713, 781, 837, 917, 985, 1029, 1085, 1153, 1194, 1250, 1330, 1398, 1466], 97) := by decide +kernel
section XWs
def xW (o : Nat) (u : Nat → Nat) (cI cZ cJ : ClassId) : va_W := (o, .inr (8, xF u)) :: xT u cI cZ cJ
variable {o : Nat} {u : Nat → Nat} {cI cZ cJ : ClassId}
theorem xW_0 : (xW o u cI cZ cJ)[0]? = some (o, .inr (8, (xF u))) := rfl
theorem xW_1 : (xW o u cI cZ cJ)[1]? = some ((u 0), .inr (1, [.int 1, .ref (u 1), .ref (u 2), .ref (u 3), .ref (u 4), .ref (u 5), .ref (u 6), .ref (u 7), .ref (u 8), .ref (u 9), .ref (u 10), .ref (u 11)])) := rfl
theorem xW_2 : (xW o u cI cZ cJ)[2]? = some ((u 1), .inl (cI, 10, .inl (upd (fun _ => 0) (0 : Int32).toNatClampNeg (-1)))) := rfl
theorem xW_3 : (xW o u cI cZ cJ)[3]? = some ((u 2), .inl (cI, 10, .inl (upd (fun _ => 0) (0 : Int32).toNatClampNeg (-1)))) := rfl
theorem xW_4 : (xW o u cI cZ cJ)[4]? = some ((u 3), .inl (cI, 10, .inl (fun _ => 0))) := rfl
theorem xW_5 : (xW o u cI cZ cJ)[5]? = some ((u 4), .inl (cI, 10, .inl (fun _ => 0))) := rfl
theorem xW_6 : (xW o u cI cZ cJ)[6]? = some ((u 5), .inl (cI, 10, .inl (fun _ => 0))) := rfl
theorem xW_7 : (xW o u cI cZ cJ)[7]? = some ((u 6), .inl (cI, 10, .inl (fun _ => (-1)))) := rfl
theorem xW_8 : (xW o u cI cZ cJ)[8]? = some ((u 7), .inl (cI, 160, .inl (fun _ => (-1)))) := rfl
theorem xW_9 : (xW o u cI cZ cJ)[9]? = some ((u 8), .inl (cI, 160, .inl (fun _ => 0))) := rfl
theorem xW_10 : (xW o u cI cZ cJ)[10]? = some ((u 9), .inl (cI, 160, .inl (fun _ => 0))) := rfl
theorem xW_11 : (xW o u cI cZ cJ)[11]? = some ((u 10), .inl (cI, 100, .inl (fun _ => 0))) := rfl
theorem xW_12 : (xW o u cI cZ cJ)[12]? = some ((u 11), .inl (cI, 100, .inl (fun _ => 0))) := rfl
theorem xW_13 : (xW o u cI cZ cJ)[13]? = some ((u 12), .inr (5, [.int 0, .ref (u 13), .ref (u 14), .ref (u 15), .ref (u 16), .ref (u 17), .ref (u 18)])) := rfl
theorem xW_14 : (xW o u cI cZ cJ)[14]? = some ((u 13), .inl (cI, 110, .inl (fun _ => 0))) := rfl
theorem xW_15 : (xW o u cI cZ cJ)[15]? = some ((u 14), .inl (cI, 110, .inl (fun _ => 0))) := rfl
theorem xW_16 : (xW o u cI cZ cJ)[16]? = some ((u 15), .inl (cI, 110, .inl (fun _ => 0))) := rfl
theorem xW_17 : (xW o u cI cZ cJ)[17]? = some ((u 16), .inl (cI, 110, .inl (fun _ => 0))) := rfl
theorem xW_18 : (xW o u cI cZ cJ)[18]? = some ((u 17), .inl (cI, 110, .inl (fun _ => 0))) := rfl
theorem xW_19 : (xW o u cI cZ cJ)[19]? = some ((u 18), .inl (cI, 110, .inl (fun _ => 0))) := rfl
theorem xW_20 : (xW o u cI cZ cJ)[20]? = some ((u 19), .inr (4, [.ref (u 0), .ref (u 12), .ref (u 20), .ref (u 21), .ref (u 22), .ref (u 23), .ref (u 24), .ref (u 25), .ref (u 26), .ref (u 27), .ref (u 28), .ref (u 29), .ref (u 30), .ref (u 31), .ref (u 32), .int 0, .int 0, .int 0, .int 0])) := rfl
theorem xW_21 : (xW o u cI cZ cJ)[21]? = some ((u 20), .inl (cI, 110, .inl (fun _ => 0))) := rfl
theorem xW_22 : (xW o u cI cZ cJ)[22]? = some ((u 21), .inl (cI, 110, .inl (fun _ => 0))) := rfl
theorem xW_23 : (xW o u cI cZ cJ)[23]? = some ((u 22), .inl (cI, 110, .inl (fun _ => 0))) := rfl
theorem xW_24 : (xW o u cI cZ cJ)[24]? = some ((u 23), .inl (cI, 110, .inl (fun _ => 0))) := rfl
theorem xW_25 : (xW o u cI cZ cJ)[25]? = some ((u 24), .inl (cI, 110, .inl (fun _ => 0))) := rfl
theorem xW_26 : (xW o u cI cZ cJ)[26]? = some ((u 25), .inl (cZ, 110, .inl (fun _ => 0))) := rfl
theorem xW_27 : (xW o u cI cZ cJ)[27]? = some ((u 26), .inl (cI, 110, .inl (fun _ => 0))) := rfl
theorem xW_28 : (xW o u cI cZ cJ)[28]? = some ((u 27), .inl (cZ, 110, .inl (fun _ => 0))) := rfl
theorem xW_29 : (xW o u cI cZ cJ)[29]? = some ((u 28), .inl (cI, 110, .inl (fun _ => 0))) := rfl
theorem xW_30 : (xW o u cI cZ cJ)[30]? = some ((u 29), .inl (cI, 110, .inl (fun _ => 0))) := rfl
theorem xW_31 : (xW o u cI cZ cJ)[31]? = some ((u 30), .inl (cI, 10, .inl (fun _ => 0))) := rfl
theorem xW_32 : (xW o u cI cZ cJ)[32]? = some ((u 31), .inl (cZ, 10, .inl (fun _ => 0))) := rfl
theorem xW_33 : (xW o u cI cZ cJ)[33]? = some ((u 32), .inl (cI, 10, .inl (fun _ => 0))) := rfl
theorem xW_34 : (xW o u cI cZ cJ)[34]? = some ((u 33), .inr (2, [.ref (u 0), .ref (u 12), .ref (u 19), .int 0, .ref (u 34), .ref (u 35), .ref (u 36), .ref (u 37), .int 0])) := rfl
theorem xW_35 : (xW o u cI cZ cJ)[35]? = some ((u 34), .inl (cI, 120, .inl (fun _ => 0))) := rfl
theorem xW_36 : (xW o u cI cZ cJ)[36]? = some ((u 35), .inl (cI, 120, .inl (fun _ => 0))) := rfl
theorem xW_37 : (xW o u cI cZ cJ)[37]? = some ((u 36), .inl (cI, 120, .inl (fun _ => 0))) := rfl
theorem xW_38 : (xW o u cI cZ cJ)[38]? = some ((u 37), .inl (cI, 110, .inl (fun _ => 0))) := rfl
theorem xW_39 : (xW o u cI cZ cJ)[39]? = some ((u 38), .inr (0, [.ref (u 0), .ref (u 12), .ref (u 19), .int (-1), .int 0, .ref (u 39), .ref (u 40), .ref (u 41), .ref (u 42), .ref (u 43), .ref (u 44), .ref (u 45), .ref (u 46), .ref (u 47), .ref (u 48), .ref (u 49), .ref (u 50)])) := rfl
theorem xW_40 : (xW o u cI cZ cJ)[40]? = some ((u 39), .inl (cI, 10, .inl (fun _ => 0))) := rfl
theorem xW_41 : (xW o u cI cZ cJ)[41]? = some ((u 40), .inl (cI, 10, .inl (fun _ => 0))) := rfl
theorem xW_42 : (xW o u cI cZ cJ)[42]? = some ((u 41), .inl (cI, 460, .inl (fun _ => 0))) := rfl
theorem xW_43 : (xW o u cI cZ cJ)[43]? = some ((u 42), .inl (cI, 460, .inl (fun _ => 0))) := rfl
theorem xW_44 : (xW o u cI cZ cJ)[44]? = some ((u 43), .inl (cI, 460, .inl (fun _ => 0))) := rfl
theorem xW_45 : (xW o u cI cZ cJ)[45]? = some ((u 44), .inl (cI, 460, .inl (fun _ => 0))) := rfl
theorem xW_46 : (xW o u cI cZ cJ)[46]? = some ((u 45), .inl (cI, 460, .inl (fun _ => 0))) := rfl
theorem xW_47 : (xW o u cI cZ cJ)[47]? = some ((u 46), .inl (cI, 460, .inl (fun _ => 0))) := rfl
theorem xW_48 : (xW o u cI cZ cJ)[48]? = some ((u 47), .inl (cI, 110, .inl (fun _ => 0))) := rfl
theorem xW_49 : (xW o u cI cZ cJ)[49]? = some ((u 48), .inl (cI, 110, .inl (fun _ => 0))) := rfl
theorem xW_50 : (xW o u cI cZ cJ)[50]? = some ((u 49), .inl (cI, 110, .inl (fun _ => 0))) := rfl
theorem xW_51 : (xW o u cI cZ cJ)[51]? = some ((u 50), .inl (cZ, 110, .inl (fun _ => 0))) := rfl
theorem xW_52 : (xW o u cI cZ cJ)[52]? = some ((u 51), .inr (0, [.ref (u 0), .ref (u 12), .ref (u 19), .int (-1), .int 0, .ref (u 52), .ref (u 53), .ref (u 54), .ref (u 55), .ref (u 56), .ref (u 57), .ref (u 58), .ref (u 59), .ref (u 60), .ref (u 61), .ref (u 62), .ref (u 63)])) := rfl
theorem xW_53 : (xW o u cI cZ cJ)[53]? = some ((u 52), .inl (cI, 10, .inl (fun _ => 0))) := rfl
theorem xW_54 : (xW o u cI cZ cJ)[54]? = some ((u 53), .inl (cI, 10, .inl (fun _ => 0))) := rfl
theorem xW_55 : (xW o u cI cZ cJ)[55]? = some ((u 54), .inl (cI, 460, .inl (fun _ => 0))) := rfl
theorem xW_56 : (xW o u cI cZ cJ)[56]? = some ((u 55), .inl (cI, 460, .inl (fun _ => 0))) := rfl
theorem xW_57 : (xW o u cI cZ cJ)[57]? = some ((u 56), .inl (cI, 460, .inl (fun _ => 0))) := rfl
theorem xW_58 : (xW o u cI cZ cJ)[58]? = some ((u 57), .inl (cI, 460, .inl (fun _ => 0))) := rfl
theorem xW_59 : (xW o u cI cZ cJ)[59]? = some ((u 58), .inl (cI, 460, .inl (fun _ => 0))) := rfl
theorem xW_60 : (xW o u cI cZ cJ)[60]? = some ((u 59), .inl (cI, 460, .inl (fun _ => 0))) := rfl
theorem xW_61 : (xW o u cI cZ cJ)[61]? = some ((u 60), .inl (cI, 110, .inl (fun _ => 0))) := rfl
theorem xW_62 : (xW o u cI cZ cJ)[62]? = some ((u 61), .inl (cI, 110, .inl (fun _ => 0))) := rfl
theorem xW_63 : (xW o u cI cZ cJ)[63]? = some ((u 62), .inl (cI, 110, .inl (fun _ => 0))) := rfl
theorem xW_64 : (xW o u cI cZ cJ)[64]? = some ((u 63), .inl (cZ, 110, .inl (fun _ => 0))) := rfl
theorem xW_65 : (xW o u cI cZ cJ)[65]? = some ((u 64), .inr (3, [.ref (u 0), .ref (u 12), .ref (u 19), .ref (u 51), .ref (u 65), .ref (u 67), .ref (u 69), .ref (u 71), .ref (u 73), .ref (u 75), .int 0, .int 0, .int 0, .int (-1), .int 0, .int 0, .int 1])) := rfl
theorem xW_66 : (xW o u cI cZ cJ)[66]? = some ((u 65), .inr (7, [.int 2, .ref (u 66), .int 0])) := rfl
theorem xW_67 : (xW o u cI cZ cJ)[67]? = some ((u 66), .inl (cI, 128, .inl (fun _ => 0))) := rfl
theorem xW_68 : (xW o u cI cZ cJ)[68]? = some ((u 67), .inr (7, [.int 2, .ref (u 68), .int 0])) := rfl
theorem xW_69 : (xW o u cI cZ cJ)[69]? = some ((u 68), .inl (cI, 128, .inl (fun _ => 0))) := rfl
theorem xW_70 : (xW o u cI cZ cJ)[70]? = some ((u 69), .inr (7, [.int 3, .ref (u 70), .int 0])) := rfl
theorem xW_71 : (xW o u cI cZ cJ)[71]? = some ((u 70), .inl (cI, 192, .inl (fun _ => 0))) := rfl
theorem xW_72 : (xW o u cI cZ cJ)[72]? = some ((u 71), .inr (7, [.int 5, .ref (u 72), .int 0])) := rfl
theorem xW_73 : (xW o u cI cZ cJ)[73]? = some ((u 72), .inl (cI, 320, .inl (fun _ => 0))) := rfl
theorem xW_74 : (xW o u cI cZ cJ)[74]? = some ((u 73), .inr (7, [.int 5, .ref (u 74), .int 0])) := rfl
theorem xW_75 : (xW o u cI cZ cJ)[75]? = some ((u 74), .inl (cI, 320, .inl (fun _ => 0))) := rfl
theorem xW_76 : (xW o u cI cZ cJ)[76]? = some ((u 75), .inr (6, [.int 0, .int 0, .int 0, .int 0, .int 0, .int 0, .int 0, .int 0, .int 0, .int 0, .long 0, .ref (u 76), .ref (u 77), .ref (u 78)])) := rfl
theorem xW_77 : (xW o u cI cZ cJ)[77]? = some ((u 76), .inl (cI, 50, .inl (fun _ => 0))) := rfl
theorem xW_78 : (xW o u cI cZ cJ)[78]? = some ((u 77), .inl (cI, 50, .inl (fun _ => 0))) := rfl
theorem xW_79 : (xW o u cI cZ cJ)[79]? = some ((u 78), .inl (cI, 50, .inl (fun _ => 0))) := rfl
theorem xW_80 : (xW o u cI cZ cJ)[80]? = some ((u 79), .inr (6, [.int 0, .int 0, .int 0, .int 0, .int 0, .int 0, .int 0, .int 0, .int 0, .int 0, .long 0, .ref (u 80), .ref (u 81), .ref (u 82)])) := rfl
theorem xW_81 : (xW o u cI cZ cJ)[81]? = some ((u 80), .inl (cI, 50, .inl (fun _ => 0))) := rfl
theorem xW_82 : (xW o u cI cZ cJ)[82]? = some ((u 81), .inl (cI, 50, .inl (fun _ => 0))) := rfl
theorem xW_83 : (xW o u cI cZ cJ)[83]? = some ((u 82), .inl (cI, 50, .inl (fun _ => 0))) := rfl
theorem xW_84 : (xW o u cI cZ cJ)[84]? = some ((u 83), .inr (6, [.int 0, .int 0, .int 0, .int 0, .int 0, .int 0, .int 0, .int 0, .int 0, .int 0, .long 0, .ref (u 84), .ref (u 85), .ref (u 86)])) := rfl
theorem xW_85 : (xW o u cI cZ cJ)[85]? = some ((u 84), .inl (cI, 50, .inl (fun _ => 0))) := rfl
theorem xW_86 : (xW o u cI cZ cJ)[86]? = some ((u 85), .inl (cI, 50, .inl (fun _ => 0))) := rfl
theorem xW_87 : (xW o u cI cZ cJ)[87]? = some ((u 86), .inl (cI, 50, .inl (fun _ => 0))) := rfl
end XWs
