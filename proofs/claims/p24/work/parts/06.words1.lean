section XW1
theorem tb_1 {w : Cond} (h : w ∈ tables_1_1) : w ∈ tables_1 := List.mem_append_left _ h
theorem tb_2 {w : Cond} (h : w ∈ tables_1_2) : w ∈ tables_1 := List.mem_append_right _ (List.mem_append_left _ h)
theorem tb_3 {w : Cond} (h : w ∈ tables_1_3) : w ∈ tables_1 := List.mem_append_right _ (List.mem_append_right _ (List.mem_append_left _ h))
theorem tb_4 {w : Cond} (h : w ∈ tables_1_4) : w ∈ tables_1 := List.mem_append_right _ (List.mem_append_right _ (List.mem_append_right _ (List.mem_append_left _ h)))
theorem tb_5 {w : Cond} (h : w ∈ tables_1_5) : w ∈ tables_1 := List.mem_append_right _ (List.mem_append_right _ (List.mem_append_right _ (List.mem_append_right _ (List.mem_append_left _ h))))
theorem tb_6 {w : Cond} (h : w ∈ tables_1_6) : w ∈ tables_1 := List.mem_append_right _ (List.mem_append_right _ (List.mem_append_right _ (List.mem_append_right _ (List.mem_append_right _ (h)))))
theorem pv_1 {w : MethodName × Nat} (h : w ∈ lw_privs_1) : w ∈ lw_privs := List.mem_append_left _ h
theorem pv_2 {w : MethodName × Nat} (h : w ∈ lw_privs_2) : w ∈ lw_privs := List.mem_append_right _ (List.mem_append_left _ h)
theorem pv_3 {w : MethodName × Nat} (h : w ∈ lw_privs_3) : w ∈ lw_privs := List.mem_append_right _ (List.mem_append_right _ (List.mem_append_left _ h))
theorem pv_4 {w : MethodName × Nat} (h : w ∈ lw_privs_4) : w ∈ lw_privs := List.mem_append_right _ (List.mem_append_right _ (List.mem_append_right _ (List.mem_append_left _ h)))
theorem pv_5 {w : MethodName × Nat} (h : w ∈ lw_privs_5) : w ∈ lw_privs := List.mem_append_right _ (List.mem_append_right _ (List.mem_append_right _ (List.mem_append_right _ (h))))
theorem kw_1_0 : (Cond.initialized RL) ∈ uG := uG_mem (tb_1 (List.mem_of_getElem? (i := 0) (by decide +kernel))) rfl
theorem kw_1_1 : (Cond.initialized RX9) ∈ uG := uG_mem (tb_1 (List.mem_of_getElem? (i := 1) (by decide +kernel))) rfl
theorem kw_1_2 : (Cond.initialized RX8) ∈ uG := uG_mem (tb_1 (List.mem_of_getElem? (i := 2) (by decide +kernel))) rfl
theorem kw_1_3 : (Cond.initialized RX1) ∈ uG := uG_mem (tb_1 (List.mem_of_getElem? (i := 3) (by decide +kernel))) rfl
theorem kw_1_4 : (Cond.initialized RJ7) ∈ uG := uG_mem (tb_1 (List.mem_of_getElem? (i := 4) (by decide +kernel))) rfl
theorem kw_1_5 : (Cond.initialized RX5) ∈ uG := uG_mem (tb_1 (List.mem_of_getElem? (i := 5) (by decide +kernel))) rfl
theorem kw_1_6 : (Cond.initialized RX4) ∈ uG := uG_mem (tb_1 (List.mem_of_getElem? (i := 6) (by decide +kernel))) rfl
theorem kw_1_7 : (Cond.initialized RX2) ∈ uG := uG_mem (tb_1 (List.mem_of_getElem? (i := 7) (by decide +kernel))) rfl
theorem kw_1_8 : (Cond.initialized RX0) ∈ uG := uG_mem (tb_1 (List.mem_of_getElem? (i := 8) (by decide +kernel))) rfl
theorem kw_1_9 : (Cond.initialized RX3) ∈ uG := uG_mem (tb_1 (List.mem_of_getElem? (i := 9) (by decide +kernel))) rfl
theorem kw_1_10 : (Cond.initialized RX7) ∈ uG := uG_mem (tb_1 (List.mem_of_getElem? (i := 10) (by decide +kernel))) rfl
theorem kw_1_11 : (Cond.initialized RX6) ∈ uG := uG_mem (tb_1 (List.mem_of_getElem? (i := 11) (by decide +kernel))) rfl
theorem kw_1_12 : (Cond.initialized "java/lang/Throwable") ∈ uG := uG_mem (tb_1 (List.mem_of_getElem? (i := 12) (by decide +kernel))) rfl
theorem kw_1_13 : (Cond.initialized "java/lang/Exception") ∈ uG := uG_mem (tb_1 (List.mem_of_getElem? (i := 13) (by decide +kernel))) rfl
theorem kw_1_14 : (Cond.initialized "java/lang/RuntimeException") ∈ uG := uG_mem (tb_1 (List.mem_of_getElem? (i := 14) (by decide +kernel))) rfl
theorem kw_1_15 : (Cond.initialized "java/lang/IndexOutOfBoundsException") ∈ uG := uG_mem (tb_1 (List.mem_of_getElem? (i := 15) (by decide +kernel))) rfl
theorem kw_1_16 : (Cond.initialized "java/lang/IllegalArgumentException") ∈ uG := uG_mem (tb_1 (List.mem_of_getElem? (i := 16) (by decide +kernel))) rfl
theorem kw_1_17 : (Cond.initialized "java/lang/IllegalStateException") ∈ uG := uG_mem (tb_1 (List.mem_of_getElem? (i := 17) (by decide +kernel))) rfl
theorem kw_1_18 : (Cond.initialized RJ6) ∈ uG := uG_mem (tb_1 (List.mem_of_getElem? (i := 18) (by decide +kernel))) rfl
theorem kw_1_19 : (Cond.initialized RJ9) ∈ uG := uG_mem (tb_1 (List.mem_of_getElem? (i := 19) (by decide +kernel))) rfl
theorem kw_1_20 : (Cond.initialized RJ10) ∈ uG := uG_mem (tb_1 (List.mem_of_getElem? (i := 20) (by decide +kernel))) rfl
theorem kw_1_21 : (Cond.methodLink RL 68 yX8_ofProcedure) ∈ uG := uG_mem (tb_1 (List.mem_of_getElem? (i := 21) (by decide +kernel))) rfl
theorem kw_1_22 : (Cond.instanceMethod yX8_ofProcedure) ∈ uG := uG_mem (tb_1 (List.mem_of_getElem? (i := 22) (by decide +kernel))) rfl
theorem kw_1_23 : (Cond.selects RX8 yX8_ofProcedure yX8_ofProcedure) ∈ uG := uG_mem (tb_1 (List.mem_of_getElem? (i := 23) (by decide +kernel))) rfl
theorem kw_1_24 : (Cond.code yX8_ofProcedure cX8_ofProcedure 3 (some .int)) ∈ uG := uG_mem (tb_1 (List.mem_of_getElem? (i := 24) (by decide +kernel))) rfl
theorem kw_1_25 : (Cond.methodLink RX8 87 yX8_needProcedure) ∈ uG := uG_mem (tb_1 (List.mem_of_getElem? (i := 25) (by decide +kernel))) rfl
theorem kw_1_27 : (Cond.instanceMethod yX8_needProcedure) ∈ uG := uG_mem (tb_1 (List.mem_of_getElem? (i := 27) (by decide +kernel))) rfl
theorem kw_1_28 : (Cond.instantiable RX8 14) ∈ uG := uG_mem (tb_1 (List.mem_of_getElem? (i := 28) (by decide +kernel))) rfl
theorem kw_1_29 : (Cond.code yX8_needProcedure cX8_needProcedure 2 none) ∈ uG := uG_mem (tb_1 (List.mem_of_getElem? (i := 29) (by decide +kernel))) rfl
theorem kw_1_30 : (Cond.methodLink RX8 351 yX1_has) ∈ uG := uG_mem (tb_1 (List.mem_of_getElem? (i := 30) (by decide +kernel))) rfl
theorem kw_1_31 : (Cond.instanceMethod yX1_has) ∈ uG := uG_mem (tb_1 (List.mem_of_getElem? (i := 31) (by decide +kernel))) rfl
theorem kw_1_32 : (Cond.selects RX1 yX1_has yX1_has) ∈ uG := uG_mem (tb_1 (List.mem_of_getElem? (i := 32) (by decide +kernel))) rfl
theorem kw_1_33 : (Cond.code yX1_has cX1_has 2 (some .boolean)) ∈ uG := uG_mem (tb_1 (List.mem_of_getElem? (i := 33) (by decide +kernel))) rfl
theorem kw_1_34 : (Cond.classLink RX8 354 "java/lang/IndexOutOfBoundsException") ∈ uG := uG_mem (tb_1 (List.mem_of_getElem? (i := 34) (by decide +kernel))) rfl
theorem kw_1_35 : (Cond.instantiable "java/lang/IndexOutOfBoundsException" 6) ∈ uG := uG_mem (tb_1 (List.mem_of_getElem? (i := 35) (by decide +kernel))) rfl
theorem kw_1_43 : (Cond.selects "java/lang/IndexOutOfBoundsException" ⟨"java/lang/Throwable", "fillInStackTrace", "(I)Ljava/lang/Throwable;"⟩ ⟨"java/lang/Throwable", "fillInStackTrace", "(I)Ljava/lang/Throwable;"⟩) ∈ uG := uG_mem (tb_1 (List.mem_of_getElem? (i := 43) (by decide +kernel))) rfl
theorem kw_1_44 : (Cond.selects "java/lang/IndexOutOfBoundsException" ⟨"java/lang/Throwable", "fillInStackTrace", "()Ljava/lang/Throwable;"⟩ ⟨"java/lang/Throwable", "fillInStackTrace", "()Ljava/lang/Throwable;"⟩) ∈ uG := uG_mem (tb_1 (List.mem_of_getElem? (i := 44) (by decide +kernel))) rfl
theorem kw_1_45 : (Cond.lays "java/lang/IndexOutOfBoundsException" "java/lang/Throwable" "cause" "Ljava/lang/Throwable;") ∈ uG := uG_mem (tb_1 (List.mem_of_getElem? (i := 45) (by decide +kernel))) rfl
theorem kw_1_46 : (Cond.lays "java/lang/Throwable" "java/lang/Throwable" "cause" "Ljava/lang/Throwable;") ∈ uG := uG_mem (tb_1 (List.mem_of_getElem? (i := 46) (by decide +kernel))) rfl
theorem kw_1_47 : (Cond.lays "java/lang/IndexOutOfBoundsException" "java/lang/Throwable" "stackTrace" "[Ljava/lang/StackTraceElement;") ∈ uG := uG_mem (tb_1 (List.mem_of_getElem? (i := 47) (by decide +kernel))) rfl
theorem kw_1_48 : (Cond.lays "java/lang/Throwable" "java/lang/Throwable" "stackTrace" "[Ljava/lang/StackTraceElement;") ∈ uG := uG_mem (tb_1 (List.mem_of_getElem? (i := 48) (by decide +kernel))) rfl
theorem kw_1_49 : (Cond.lays "java/lang/IndexOutOfBoundsException" "java/lang/Throwable" "suppressedExceptions" "Ljava/util/List;") ∈ uG := uG_mem (tb_1 (List.mem_of_getElem? (i := 49) (by decide +kernel))) rfl
theorem kw_1_50 : (Cond.lays "java/lang/Throwable" "java/lang/Throwable" "suppressedExceptions" "Ljava/util/List;") ∈ uG := uG_mem (tb_1 (List.mem_of_getElem? (i := 50) (by decide +kernel))) rfl
theorem kw_1_51 : (Cond.lays "java/lang/IndexOutOfBoundsException" "java/lang/Throwable" "detailMessage" "Ljava/lang/String;") ∈ uG := uG_mem (tb_1 (List.mem_of_getElem? (i := 51) (by decide +kernel))) rfl
theorem kw_1_52 : (Cond.lays "java/lang/Throwable" "java/lang/Throwable" "detailMessage" "Ljava/lang/String;") ∈ uG := uG_mem (tb_1 (List.mem_of_getElem? (i := 52) (by decide +kernel))) rfl
theorem kw_1_53 : (Cond.lays "java/lang/IndexOutOfBoundsException" "java/lang/Throwable" "backtrace" "Ljava/lang/Object;") ∈ uG := uG_mem (tb_1 (List.mem_of_getElem? (i := 53) (by decide +kernel))) rfl
theorem kw_1_54 : (Cond.lays "java/lang/Throwable" "java/lang/Throwable" "backtrace" "Ljava/lang/Object;") ∈ uG := uG_mem (tb_1 (List.mem_of_getElem? (i := 54) (by decide +kernel))) rfl
theorem kw_1_90 : (Cond.fieldLink "java/lang/Throwable" 198 "java/lang/Throwable" "backtrace" "Ljava/lang/Object;") ∈ uG := uG_mem (tb_1 (List.mem_of_getElem? (i := 90) (by decide +kernel))) rfl
theorem kw_1_57 : (Cond.instanceMethod ⟨"java/lang/Throwable", "<init>", "()V"⟩) ∈ uG := uG_mem (tb_1 (List.mem_of_getElem? (i := 57) (by decide +kernel))) rfl
theorem kw_1_58 : (Cond.code ⟨"java/lang/Throwable", "<init>", "()V"⟩ prog_23_method_1_code 1 none) ∈ uG := uG_mem (tb_1 (List.mem_of_getElem? (i := 58) (by decide +kernel))) rfl
theorem kw_1_59 : (Cond.methodLink "java/lang/Throwable" 1 ⟨"java/lang/Object", "<init>", "()V"⟩) ∈ uG := uG_mem (tb_1 (List.mem_of_getElem? (i := 59) (by decide +kernel))) rfl
theorem kw_1_60 : (Cond.instanceMethod ⟨"java/lang/Object", "<init>", "()V"⟩) ∈ uG := uG_mem (tb_1 (List.mem_of_getElem? (i := 60) (by decide +kernel))) rfl
theorem kw_1_61 : (Cond.code ⟨"java/lang/Object", "<init>", "()V"⟩ object_method_1_code 1 none) ∈ uG := uG_mem (tb_1 (List.mem_of_getElem? (i := 61) (by decide +kernel))) rfl
theorem kw_1_62 : (Cond.fieldLink "java/lang/Throwable" 13 "java/lang/Throwable" "UNASSIGNED_STACK" "[Ljava/lang/StackTraceElement;") ∈ uG := uG_mem (tb_1 (List.mem_of_getElem? (i := 62) (by decide +kernel))) rfl
theorem kw_1_64 : (Cond.fieldLink "java/lang/Throwable" 20 "java/lang/Throwable" "SUPPRESSED_SENTINEL" "Ljava/util/List;") ∈ uG := uG_mem (tb_1 (List.mem_of_getElem? (i := 64) (by decide +kernel))) rfl
theorem kw_1_66 : (Cond.methodLink "java/lang/Throwable" 27 ⟨"java/lang/Throwable", "fillInStackTrace", "()Ljava/lang/Throwable;"⟩) ∈ uG := uG_mem (tb_1 (List.mem_of_getElem? (i := 66) (by decide +kernel))) rfl
theorem kw_1_67 : (Cond.instanceMethod ⟨"java/lang/Throwable", "fillInStackTrace", "()Ljava/lang/Throwable;"⟩) ∈ uG := uG_mem (tb_1 (List.mem_of_getElem? (i := 67) (by decide +kernel))) rfl
theorem kw_1_69 : (Cond.selects "java/lang/IllegalArgumentException" ⟨"java/lang/Throwable", "fillInStackTrace", "()Ljava/lang/Throwable;"⟩ ⟨"java/lang/Throwable", "fillInStackTrace", "()Ljava/lang/Throwable;"⟩) ∈ uG := uG_mem (tb_1 (List.mem_of_getElem? (i := 69) (by decide +kernel))) rfl
theorem kw_1_70 : (Cond.selects "java/lang/IllegalStateException" ⟨"java/lang/Throwable", "fillInStackTrace", "()Ljava/lang/Throwable;"⟩ ⟨"java/lang/Throwable", "fillInStackTrace", "()Ljava/lang/Throwable;"⟩) ∈ uG := uG_mem (tb_1 (List.mem_of_getElem? (i := 70) (by decide +kernel))) rfl
theorem kw_1_72 : (Cond.methodLink "java/lang/Throwable" 202 ⟨"java/lang/Throwable", "fillInStackTrace", "(I)Ljava/lang/Throwable;"⟩) ∈ uG := uG_mem (tb_1 (List.mem_of_getElem? (i := 72) (by decide +kernel))) rfl
theorem kw_1_74 : (Cond.instanceMethod ⟨"java/lang/Throwable", "fillInStackTrace", "(I)Ljava/lang/Throwable;"⟩) ∈ uG := uG_mem (tb_1 (List.mem_of_getElem? (i := 74) (by decide +kernel))) rfl
theorem kw_1_75 : (Cond.instantiable "java/lang/Throwable" 6) ∈ uG := uG_mem (tb_1 (List.mem_of_getElem? (i := 75) (by decide +kernel))) rfl
theorem kw_1_78 : (Cond.methodLink RX8 358 ⟨"java/lang/IndexOutOfBoundsException", "<init>", "(Ljava/lang/String;)V"⟩) ∈ uG := uG_mem (tb_1 (List.mem_of_getElem? (i := 78) (by decide +kernel))) rfl
theorem kw_1_79 : (Cond.instanceMethod ⟨"java/lang/IndexOutOfBoundsException", "<init>", "(Ljava/lang/String;)V"⟩) ∈ uG := uG_mem (tb_1 (List.mem_of_getElem? (i := 79) (by decide +kernel))) rfl
theorem kw_1_80 : (Cond.code ⟨"java/lang/IndexOutOfBoundsException", "<init>", "(Ljava/lang/String;)V"⟩ prog_17_method_2_code 2 none) ∈ uG := uG_mem (tb_1 (List.mem_of_getElem? (i := 80) (by decide +kernel))) rfl
theorem kw_1_81 : (Cond.methodLink "java/lang/IndexOutOfBoundsException" 7 ⟨"java/lang/RuntimeException", "<init>", "(Ljava/lang/String;)V"⟩) ∈ uG := uG_mem (tb_1 (List.mem_of_getElem? (i := 81) (by decide +kernel))) rfl
theorem kw_1_82 : (Cond.instanceMethod ⟨"java/lang/RuntimeException", "<init>", "(Ljava/lang/String;)V"⟩) ∈ uG := uG_mem (tb_1 (List.mem_of_getElem? (i := 82) (by decide +kernel))) rfl
theorem kw_1_83 : (Cond.code ⟨"java/lang/RuntimeException", "<init>", "(Ljava/lang/String;)V"⟩ prog_20_method_2_code 2 none) ∈ uG := uG_mem (tb_1 (List.mem_of_getElem? (i := 83) (by decide +kernel))) rfl
theorem kw_1_84 : (Cond.methodLink "java/lang/RuntimeException" 7 ⟨"java/lang/Exception", "<init>", "(Ljava/lang/String;)V"⟩) ∈ uG := uG_mem (tb_1 (List.mem_of_getElem? (i := 84) (by decide +kernel))) rfl
theorem kw_1_85 : (Cond.instanceMethod ⟨"java/lang/Exception", "<init>", "(Ljava/lang/String;)V"⟩) ∈ uG := uG_mem (tb_1 (List.mem_of_getElem? (i := 85) (by decide +kernel))) rfl
theorem kw_1_86 : (Cond.code ⟨"java/lang/Exception", "<init>", "(Ljava/lang/String;)V"⟩ prog_14_method_2_code 2 none) ∈ uG := uG_mem (tb_1 (List.mem_of_getElem? (i := 86) (by decide +kernel))) rfl
theorem kw_1_87 : (Cond.methodLink "java/lang/Exception" 7 ⟨"java/lang/Throwable", "<init>", "(Ljava/lang/String;)V"⟩) ∈ uG := uG_mem (tb_1 (List.mem_of_getElem? (i := 87) (by decide +kernel))) rfl
theorem kw_1_88 : (Cond.instanceMethod ⟨"java/lang/Throwable", "<init>", "(Ljava/lang/String;)V"⟩) ∈ uG := uG_mem (tb_1 (List.mem_of_getElem? (i := 88) (by decide +kernel))) rfl
theorem kw_1_89 : (Cond.code ⟨"java/lang/Throwable", "<init>", "(Ljava/lang/String;)V"⟩ prog_23_method_2_code 2 none) ∈ uG := uG_mem (tb_1 (List.mem_of_getElem? (i := 89) (by decide +kernel))) rfl
theorem kw_1_91 : (Cond.fieldLink "java/lang/Throwable" 31 "java/lang/Throwable" "detailMessage" "Ljava/lang/String;") ∈ uG := uG_mem (tb_1 (List.mem_of_getElem? (i := 91) (by decide +kernel))) rfl
theorem kw_1_92 : (Cond.fieldLink "java/lang/Throwable" 7 "java/lang/Throwable" "cause" "Ljava/lang/Throwable;") ∈ uG := uG_mem (tb_1 (List.mem_of_getElem? (i := 92) (by decide +kernel))) rfl
theorem kw_1_93 : (Cond.fieldLink "java/lang/Throwable" 17 "java/lang/Throwable" "stackTrace" "[Ljava/lang/StackTraceElement;") ∈ uG := uG_mem (tb_1 (List.mem_of_getElem? (i := 93) (by decide +kernel))) rfl
theorem kw_1_94 : (Cond.fieldLink "java/lang/Throwable" 24 "java/lang/Throwable" "suppressedExceptions" "Ljava/util/List;") ∈ uG := uG_mem (tb_1 (List.mem_of_getElem? (i := 94) (by decide +kernel))) rfl
theorem kw_1_99 : (Cond.lays "java/lang/IndexOutOfBoundsException" "java/lang/Throwable" "depth" "I") ∈ uG := uG_mem (tb_1 (List.mem_of_getElem? (i := 99) (by decide +kernel))) rfl
theorem kw_1_103 : (Cond.arrayClass FieldType.byte) ∈ uG := uG_mem (tb_1 (List.mem_of_getElem? (i := 103) (by decide +kernel))) rfl
theorem kw_1_104 : (Cond.methodLink RX8 95 yX8_needArgument) ∈ uG := uG_mem (tb_1 (List.mem_of_getElem? (i := 104) (by decide +kernel))) rfl
theorem kw_1_105 : (Cond.static yX8_needArgument) ∈ uG := uG_mem (tb_1 (List.mem_of_getElem? (i := 105) (by decide +kernel))) rfl
theorem kw_1_106 : (Cond.code yX8_needArgument cX8_needArgument 1 none) ∈ uG := uG_mem (tb_1 (List.mem_of_getElem? (i := 106) (by decide +kernel))) rfl
theorem kw_1_107 : (Cond.classLink RX8 366 "java/lang/IllegalArgumentException") ∈ uG := uG_mem (tb_1 (List.mem_of_getElem? (i := 107) (by decide +kernel))) rfl
theorem kw_1_108 : (Cond.instantiable "java/lang/IllegalArgumentException" 6) ∈ uG := uG_mem (tb_1 (List.mem_of_getElem? (i := 108) (by decide +kernel))) rfl
theorem kw_1_110 : (Cond.selects "java/lang/IllegalArgumentException" ⟨"java/lang/Throwable", "fillInStackTrace", "(I)Ljava/lang/Throwable;"⟩ ⟨"java/lang/Throwable", "fillInStackTrace", "(I)Ljava/lang/Throwable;"⟩) ∈ uG := uG_mem (tb_1 (List.mem_of_getElem? (i := 110) (by decide +kernel))) rfl
theorem kw_1_111 : (Cond.lays "java/lang/IllegalArgumentException" "java/lang/Throwable" "cause" "Ljava/lang/Throwable;") ∈ uG := uG_mem (tb_1 (List.mem_of_getElem? (i := 111) (by decide +kernel))) rfl
theorem kw_1_112 : (Cond.lays "java/lang/IllegalArgumentException" "java/lang/Throwable" "stackTrace" "[Ljava/lang/StackTraceElement;") ∈ uG := uG_mem (tb_1 (List.mem_of_getElem? (i := 112) (by decide +kernel))) rfl
theorem kw_1_113 : (Cond.lays "java/lang/IllegalArgumentException" "java/lang/Throwable" "suppressedExceptions" "Ljava/util/List;") ∈ uG := uG_mem (tb_1 (List.mem_of_getElem? (i := 113) (by decide +kernel))) rfl
theorem kw_1_114 : (Cond.lays "java/lang/IllegalArgumentException" "java/lang/Throwable" "detailMessage" "Ljava/lang/String;") ∈ uG := uG_mem (tb_1 (List.mem_of_getElem? (i := 114) (by decide +kernel))) rfl
theorem kw_1_115 : (Cond.lays "java/lang/IllegalArgumentException" "java/lang/Throwable" "backtrace" "Ljava/lang/Object;") ∈ uG := uG_mem (tb_1 (List.mem_of_getElem? (i := 115) (by decide +kernel))) rfl
theorem kw_1_117 : (Cond.methodLink RX8 370 ⟨"java/lang/IllegalArgumentException", "<init>", "(Ljava/lang/String;)V"⟩) ∈ uG := uG_mem (tb_1 (List.mem_of_getElem? (i := 117) (by decide +kernel))) rfl
theorem kw_1_118 : (Cond.instanceMethod ⟨"java/lang/IllegalArgumentException", "<init>", "(Ljava/lang/String;)V"⟩) ∈ uG := uG_mem (tb_1 (List.mem_of_getElem? (i := 118) (by decide +kernel))) rfl
theorem kw_1_119 : (Cond.code ⟨"java/lang/IllegalArgumentException", "<init>", "(Ljava/lang/String;)V"⟩ prog_15_method_2_code 2 none) ∈ uG := uG_mem (tb_1 (List.mem_of_getElem? (i := 119) (by decide +kernel))) rfl
theorem kw_1_120 : (Cond.methodLink "java/lang/IllegalArgumentException" 7 ⟨"java/lang/RuntimeException", "<init>", "(Ljava/lang/String;)V"⟩) ∈ uG := uG_mem (tb_1 (List.mem_of_getElem? (i := 120) (by decide +kernel))) rfl
theorem kw_1_121 : (Cond.lays "java/lang/IllegalArgumentException" "java/lang/Throwable" "depth" "I") ∈ uG := uG_mem (tb_1 (List.mem_of_getElem? (i := 121) (by decide +kernel))) rfl
theorem kw_1_123 : (Cond.methodLink RX8 146 yX8_refresh) ∈ uG := uG_mem (tb_1 (List.mem_of_getElem? (i := 123) (by decide +kernel))) rfl
theorem kw_1_125 : (Cond.instanceMethod yX8_refresh) ∈ uG := uG_mem (tb_1 (List.mem_of_getElem? (i := 125) (by decide +kernel))) rfl
theorem kw_1_126 : (Cond.code yX8_refresh cX8_refresh 1 none) ∈ uG := uG_mem (tb_1 (List.mem_of_getElem? (i := 126) (by decide +kernel))) rfl
theorem kw_1_127 : (Cond.methodLink RX8 335 yX4_find) ∈ uG := uG_mem (tb_1 (List.mem_of_getElem? (i := 127) (by decide +kernel))) rfl
theorem kw_1_128 : (Cond.instanceMethod yX4_find) ∈ uG := uG_mem (tb_1 (List.mem_of_getElem? (i := 128) (by decide +kernel))) rfl
theorem kw_1_129 : (Cond.selects RX4 yX4_find yX4_find) ∈ uG := uG_mem (tb_1 (List.mem_of_getElem? (i := 129) (by decide +kernel))) rfl
theorem kw_1_130 : (Cond.code yX4_find cX4_find 2 none) ∈ uG := uG_mem (tb_1 (List.mem_of_getElem? (i := 130) (by decide +kernel))) rfl
theorem kw_1_131 : (Cond.methodLink RX4 73 yX4_findWhereNodesAre) ∈ uG := uG_mem (tb_1 (List.mem_of_getElem? (i := 131) (by decide +kernel))) rfl
theorem kw_1_133 : (Cond.instanceMethod yX4_findWhereNodesAre) ∈ uG := uG_mem (tb_1 (List.mem_of_getElem? (i := 133) (by decide +kernel))) rfl
theorem kw_1_134 : (Cond.instantiable RX4 19) ∈ uG := uG_mem (tb_1 (List.mem_of_getElem? (i := 134) (by decide +kernel))) rfl
theorem kw_1_135 : (Cond.code yX4_findWhereNodesAre cX4_findWhereNodesAre 2 none) ∈ uG := uG_mem (tb_1 (List.mem_of_getElem? (i := 135) (by decide +kernel))) rfl
theorem kw_1_136 : (Cond.methodLink RX4 81 yX4_bind) ∈ uG := uG_mem (tb_1 (List.mem_of_getElem? (i := 136) (by decide +kernel))) rfl
theorem kw_1_138 : (Cond.instanceMethod yX4_bind) ∈ uG := uG_mem (tb_1 (List.mem_of_getElem? (i := 138) (by decide +kernel))) rfl
theorem kw_1_139 : (Cond.code yX4_bind cX4_bind 4 none) ∈ uG := uG_mem (tb_1 (List.mem_of_getElem? (i := 139) (by decide +kernel))) rfl
theorem kw_1_140 : (Cond.methodLink RX4 120 yX5_hasName) ∈ uG := uG_mem (tb_1 (List.mem_of_getElem? (i := 140) (by decide +kernel))) rfl
theorem kw_1_141 : (Cond.instanceMethod yX5_hasName) ∈ uG := uG_mem (tb_1 (List.mem_of_getElem? (i := 141) (by decide +kernel))) rfl
theorem kw_1_142 : (Cond.selects RX5 yX5_hasName yX5_hasName) ∈ uG := uG_mem (tb_1 (List.mem_of_getElem? (i := 142) (by decide +kernel))) rfl
theorem kw_1_143 : (Cond.code yX5_hasName cX5_hasName 2 (some .boolean)) ∈ uG := uG_mem (tb_1 (List.mem_of_getElem? (i := 143) (by decide +kernel))) rfl
theorem kw_1_144 : (Cond.fieldLink RX5 34 "StaticLink$Nodes" "ROLE_A" "[I") ∈ uG := uG_mem (tb_1 (List.mem_of_getElem? (i := 144) (by decide +kernel))) rfl
theorem kw_1_146 : (Cond.methodLink RX4 126 yX1_declarer) ∈ uG := uG_mem (tb_1 (List.mem_of_getElem? (i := 146) (by decide +kernel))) rfl
theorem kw_1_147 : (Cond.instanceMethod yX1_declarer) ∈ uG := uG_mem (tb_1 (List.mem_of_getElem? (i := 147) (by decide +kernel))) rfl
theorem kw_1_148 : (Cond.selects RX1 yX1_declarer yX1_declarer) ∈ uG := uG_mem (tb_1 (List.mem_of_getElem? (i := 148) (by decide +kernel))) rfl
theorem kw_1_149 : (Cond.code yX1_declarer cX1_declarer 5 (some .int)) ∈ uG := uG_mem (tb_1 (List.mem_of_getElem? (i := 149) (by decide +kernel))) rfl
theorem kw_1_150 : (Cond.methodLink RX1 55 yX1_declares) ∈ uG := uG_mem (tb_1 (List.mem_of_getElem? (i := 150) (by decide +kernel))) rfl
theorem kw_1_151 : (Cond.instanceMethod yX1_declares) ∈ uG := uG_mem (tb_1 (List.mem_of_getElem? (i := 151) (by decide +kernel))) rfl
theorem kw_1_152 : (Cond.selects RX1 yX1_declares yX1_declares) ∈ uG := uG_mem (tb_1 (List.mem_of_getElem? (i := 152) (by decide +kernel))) rfl
theorem kw_1_153 : (Cond.code yX1_declares cX1_declares 3 (some .boolean)) ∈ uG := uG_mem (tb_1 (List.mem_of_getElem? (i := 153) (by decide +kernel))) rfl
theorem kw_1_154 : (Cond.methodLink RX4 132 yX1_hopsTo) ∈ uG := uG_mem (tb_1 (List.mem_of_getElem? (i := 154) (by decide +kernel))) rfl
theorem kw_1_155 : (Cond.instanceMethod yX1_hopsTo) ∈ uG := uG_mem (tb_1 (List.mem_of_getElem? (i := 155) (by decide +kernel))) rfl
theorem kw_1_156 : (Cond.selects RX1 yX1_hopsTo yX1_hopsTo) ∈ uG := uG_mem (tb_1 (List.mem_of_getElem? (i := 156) (by decide +kernel))) rfl
theorem kw_1_157 : (Cond.code yX1_hopsTo cX1_hopsTo 5 (some .int)) ∈ uG := uG_mem (tb_1 (List.mem_of_getElem? (i := 157) (by decide +kernel))) rfl
theorem kw_1_158 : (Cond.methodLink RX4 138 yX4_hasPlace) ∈ uG := uG_mem (tb_1 (List.mem_of_getElem? (i := 158) (by decide +kernel))) rfl
theorem kw_1_160 : (Cond.instanceMethod yX4_hasPlace) ∈ uG := uG_mem (tb_1 (List.mem_of_getElem? (i := 160) (by decide +kernel))) rfl
theorem kw_1_161 : (Cond.code yX4_hasPlace cX4_hasPlace 2 (some .boolean)) ∈ uG := uG_mem (tb_1 (List.mem_of_getElem? (i := 161) (by decide +kernel))) rfl
theorem kw_1_162 : (Cond.methodLink RX4 85 yX4_fold) ∈ uG := uG_mem (tb_1 (List.mem_of_getElem? (i := 162) (by decide +kernel))) rfl
theorem kw_1_164 : (Cond.instanceMethod yX4_fold) ∈ uG := uG_mem (tb_1 (List.mem_of_getElem? (i := 164) (by decide +kernel))) rfl
theorem kw_1_165 : (Cond.code yX4_fold cX4_fold 4 none) ∈ uG := uG_mem (tb_1 (List.mem_of_getElem? (i := 165) (by decide +kernel))) rfl
theorem kw_1_166 : (Cond.methodLink RX4 147 yX4_isReckoned) ∈ uG := uG_mem (tb_1 (List.mem_of_getElem? (i := 166) (by decide +kernel))) rfl
theorem kw_1_167 : (Cond.static yX4_isReckoned) ∈ uG := uG_mem (tb_1 (List.mem_of_getElem? (i := 167) (by decide +kernel))) rfl
theorem kw_1_168 : (Cond.code yX4_isReckoned cX4_isReckoned 1 (some .boolean)) ∈ uG := uG_mem (tb_1 (List.mem_of_getElem? (i := 168) (by decide +kernel))) rfl
theorem kw_1_169 : (Cond.methodLink RX4 153 yX4_isKnown) ∈ uG := uG_mem (tb_1 (List.mem_of_getElem? (i := 169) (by decide +kernel))) rfl
theorem kw_1_171 : (Cond.instanceMethod yX4_isKnown) ∈ uG := uG_mem (tb_1 (List.mem_of_getElem? (i := 171) (by decide +kernel))) rfl
theorem kw_1_172 : (Cond.code yX4_isKnown cX4_isKnown 2 (some .boolean)) ∈ uG := uG_mem (tb_1 (List.mem_of_getElem? (i := 172) (by decide +kernel))) rfl
theorem kw_1_173 : (Cond.methodLink RX4 159 yX4_reckon) ∈ uG := uG_mem (tb_1 (List.mem_of_getElem? (i := 173) (by decide +kernel))) rfl
theorem kw_1_174 : (Cond.static yX4_reckon) ∈ uG := uG_mem (tb_1 (List.mem_of_getElem? (i := 174) (by decide +kernel))) rfl
theorem kw_1_175 : (Cond.code yX4_reckon cX4_reckon 3 (some .int)) ∈ uG := uG_mem (tb_1 (List.mem_of_getElem? (i := 175) (by decide +kernel))) rfl
theorem kw_1_176 : (Cond.methodLink RX4 88 yX4_findHandedOn) ∈ uG := uG_mem (tb_1 (List.mem_of_getElem? (i := 176) (by decide +kernel))) rfl
theorem kw_1_178 : (Cond.instanceMethod yX4_findHandedOn) ∈ uG := uG_mem (tb_1 (List.mem_of_getElem? (i := 178) (by decide +kernel))) rfl
theorem kw_1_179 : (Cond.code yX4_findHandedOn cX4_findHandedOn 2 none) ∈ uG := uG_mem (tb_1 (List.mem_of_getElem? (i := 179) (by decide +kernel))) rfl
theorem kw_1_180 : (Cond.methodLink RX4 163 yJ7_fill_53178) ∈ uG := uG_mem (tb_1 (List.mem_of_getElem? (i := 180) (by decide +kernel))) rfl
theorem kw_1_181 : (Cond.static yJ7_fill_53178) ∈ uG := uG_mem (tb_1 (List.mem_of_getElem? (i := 181) (by decide +kernel))) rfl
theorem kw_1_182 : (Cond.code yJ7_fill_53178 cJ7_fill_53178 4 none) ∈ uG := uG_mem (tb_1 (List.mem_of_getElem? (i := 182) (by decide +kernel))) rfl
theorem kw_1_183 : (Cond.methodLink RX4 91 yX4_findEscapes) ∈ uG := uG_mem (tb_1 (List.mem_of_getElem? (i := 183) (by decide +kernel))) rfl
theorem kw_1_185 : (Cond.instanceMethod yX4_findEscapes) ∈ uG := uG_mem (tb_1 (List.mem_of_getElem? (i := 185) (by decide +kernel))) rfl
theorem kw_1_186 : (Cond.code yX4_findEscapes cX4_findEscapes 2 none) ∈ uG := uG_mem (tb_1 (List.mem_of_getElem? (i := 186) (by decide +kernel))) rfl
theorem kw_1_187 : (Cond.methodLink RX4 169 yX4_isOutliving) ∈ uG := uG_mem (tb_1 (List.mem_of_getElem? (i := 187) (by decide +kernel))) rfl
theorem kw_1_189 : (Cond.instanceMethod yX4_isOutliving) ∈ uG := uG_mem (tb_1 (List.mem_of_getElem? (i := 189) (by decide +kernel))) rfl
theorem kw_1_190 : (Cond.code yX4_isOutliving cX4_isOutliving 5 (some .boolean)) ∈ uG := uG_mem (tb_1 (List.mem_of_getElem? (i := 190) (by decide +kernel))) rfl
theorem kw_1_191 : (Cond.methodLink RX4 94 yX4_findLabels) ∈ uG := uG_mem (tb_1 (List.mem_of_getElem? (i := 191) (by decide +kernel))) rfl
theorem kw_1_193 : (Cond.instanceMethod yX4_findLabels) ∈ uG := uG_mem (tb_1 (List.mem_of_getElem? (i := 193) (by decide +kernel))) rfl
theorem kw_1_194 : (Cond.code yX4_findLabels cX4_findLabels 2 none) ∈ uG := uG_mem (tb_1 (List.mem_of_getElem? (i := 194) (by decide +kernel))) rfl
theorem kw_1_195 : (Cond.methodLink RX4 97 yX4_isTail) ∈ uG := uG_mem (tb_1 (List.mem_of_getElem? (i := 195) (by decide +kernel))) rfl
theorem kw_1_197 : (Cond.instanceMethod yX4_isTail) ∈ uG := uG_mem (tb_1 (List.mem_of_getElem? (i := 197) (by decide +kernel))) rfl
theorem kw_1_198 : (Cond.code yX4_isTail cX4_isTail 4 (some .boolean)) ∈ uG := uG_mem (tb_1 (List.mem_of_getElem? (i := 198) (by decide +kernel))) rfl
theorem kw_1_199 : (Cond.methodLink RX4 176 yX1_takesValuesAlone) ∈ uG := uG_mem (tb_1 (List.mem_of_getElem? (i := 199) (by decide +kernel))) rfl
theorem kw_1_200 : (Cond.instanceMethod yX1_takesValuesAlone) ∈ uG := uG_mem (tb_1 (List.mem_of_getElem? (i := 200) (by decide +kernel))) rfl
theorem kw_1_201 : (Cond.selects RX1 yX1_takesValuesAlone yX1_takesValuesAlone) ∈ uG := uG_mem (tb_1 (List.mem_of_getElem? (i := 201) (by decide +kernel))) rfl
theorem kw_1_202 : (Cond.code yX1_takesValuesAlone cX1_takesValuesAlone 3 (some .boolean)) ∈ uG := uG_mem (tb_1 (List.mem_of_getElem? (i := 202) (by decide +kernel))) rfl
theorem kw_1_203 : (Cond.methodLink RX4 179 yX1_isInside) ∈ uG := uG_mem (tb_1 (List.mem_of_getElem? (i := 203) (by decide +kernel))) rfl
theorem kw_1_204 : (Cond.instanceMethod yX1_isInside) ∈ uG := uG_mem (tb_1 (List.mem_of_getElem? (i := 204) (by decide +kernel))) rfl
theorem kw_1_205 : (Cond.selects RX1 yX1_isInside yX1_isInside) ∈ uG := uG_mem (tb_1 (List.mem_of_getElem? (i := 205) (by decide +kernel))) rfl
theorem kw_1_206 : (Cond.code yX1_isInside cX1_isInside 5 (some .boolean)) ∈ uG := uG_mem (tb_1 (List.mem_of_getElem? (i := 206) (by decide +kernel))) rfl
theorem kw_1_207 : (Cond.methodLink RX4 104 yX4_hopsToLoop) ∈ uG := uG_mem (tb_1 (List.mem_of_getElem? (i := 207) (by decide +kernel))) rfl
theorem kw_1_209 : (Cond.instanceMethod yX4_hopsToLoop) ∈ uG := uG_mem (tb_1 (List.mem_of_getElem? (i := 209) (by decide +kernel))) rfl
theorem kw_1_210 : (Cond.code yX4_hopsToLoop cX4_hopsToLoop 4 (some .int)) ∈ uG := uG_mem (tb_1 (List.mem_of_getElem? (i := 210) (by decide +kernel))) rfl
theorem kw_1_211 : (Cond.methodLink RX4 182 yX4_isInLoop) ∈ uG := uG_mem (tb_1 (List.mem_of_getElem? (i := 211) (by decide +kernel))) rfl
theorem kw_1_213 : (Cond.instanceMethod yX4_isInLoop) ∈ uG := uG_mem (tb_1 (List.mem_of_getElem? (i := 213) (by decide +kernel))) rfl
theorem kw_1_214 : (Cond.code yX4_isInLoop cX4_isInLoop 4 (some .boolean)) ∈ uG := uG_mem (tb_1 (List.mem_of_getElem? (i := 214) (by decide +kernel))) rfl
theorem kw_1_215 : (Cond.methodLink RX4 108 yX4_findModes) ∈ uG := uG_mem (tb_1 (List.mem_of_getElem? (i := 215) (by decide +kernel))) rfl
theorem kw_1_217 : (Cond.instanceMethod yX4_findModes) ∈ uG := uG_mem (tb_1 (List.mem_of_getElem? (i := 217) (by decide +kernel))) rfl
theorem kw_1_218 : (Cond.code yX4_findModes cX4_findModes 5 none) ∈ uG := uG_mem (tb_1 (List.mem_of_getElem? (i := 218) (by decide +kernel))) rfl
theorem kw_1_219 : (Cond.methodLink RX4 111 yX4_sumUp) ∈ uG := uG_mem (tb_1 (List.mem_of_getElem? (i := 219) (by decide +kernel))) rfl
theorem kw_1_221 : (Cond.instanceMethod yX4_sumUp) ∈ uG := uG_mem (tb_1 (List.mem_of_getElem? (i := 221) (by decide +kernel))) rfl
theorem kw_1_222 : (Cond.code yX4_sumUp cX4_sumUp 2 none) ∈ uG := uG_mem (tb_1 (List.mem_of_getElem? (i := 222) (by decide +kernel))) rfl
theorem kw_1_223 : (Cond.methodLink RX4 192 yJ6_bitCount_0f7a4) ∈ uG := uG_mem (tb_1 (List.mem_of_getElem? (i := 223) (by decide +kernel))) rfl
theorem kw_1_224 : (Cond.static yJ6_bitCount_0f7a4) ∈ uG := uG_mem (tb_1 (List.mem_of_getElem? (i := 224) (by decide +kernel))) rfl
theorem kw_1_225 : (Cond.code yJ6_bitCount_0f7a4 cJ6_bitCount_0f7a4 1 (some .int)) ∈ uG := uG_mem (tb_1 (List.mem_of_getElem? (i := 225) (by decide +kernel))) rfl
theorem kw_1_226 : (Cond.constant RJ6 265 (1431655765 : Int32)) ∈ uG := uG_mem (tb_1 (List.mem_of_getElem? (i := 226) (by decide +kernel))) rfl
theorem kw_1_227 : (Cond.constant RJ6 266 (858993459 : Int32)) ∈ uG := uG_mem (tb_1 (List.mem_of_getElem? (i := 227) (by decide +kernel))) rfl
theorem kw_1_228 : (Cond.constant RJ6 267 (252645135 : Int32)) ∈ uG := uG_mem (tb_1 (List.mem_of_getElem? (i := 228) (by decide +kernel))) rfl
theorem kw_1_229 : (Cond.methodLink RX8 338 yX2_find) ∈ uG := uG_mem (tb_1 (List.mem_of_getElem? (i := 229) (by decide +kernel))) rfl
theorem kw_1_230 : (Cond.instanceMethod yX2_find) ∈ uG := uG_mem (tb_1 (List.mem_of_getElem? (i := 230) (by decide +kernel))) rfl
theorem kw_1_231 : (Cond.selects RX2 yX2_find yX2_find) ∈ uG := uG_mem (tb_1 (List.mem_of_getElem? (i := 231) (by decide +kernel))) rfl
theorem kw_1_232 : (Cond.code yX2_find cX2_find 4 none) ∈ uG := uG_mem (tb_1 (List.mem_of_getElem? (i := 232) (by decide +kernel))) rfl
theorem kw_1_233 : (Cond.methodLink RX2 49 yX2_tell) ∈ uG := uG_mem (tb_1 (List.mem_of_getElem? (i := 233) (by decide +kernel))) rfl
theorem kw_1_235 : (Cond.instanceMethod yX2_tell) ∈ uG := uG_mem (tb_1 (List.mem_of_getElem? (i := 235) (by decide +kernel))) rfl
theorem kw_1_236 : (Cond.instantiable RX2 9) ∈ uG := uG_mem (tb_1 (List.mem_of_getElem? (i := 236) (by decide +kernel))) rfl
theorem kw_1_237 : (Cond.code yX2_tell cX2_tell 4 none) ∈ uG := uG_mem (tb_1 (List.mem_of_getElem? (i := 237) (by decide +kernel))) rfl
theorem kw_1_238 : (Cond.methodLink RX2 53 yX2_await) ∈ uG := uG_mem (tb_1 (List.mem_of_getElem? (i := 238) (by decide +kernel))) rfl
theorem kw_2_0 : (Cond.instanceMethod yX2_await) ∈ uG := uG_mem (tb_2 (List.mem_of_getElem? (i := 0) (by decide +kernel))) rfl
theorem kw_2_1 : (Cond.code yX2_await cX2_await 2 none) ∈ uG := uG_mem (tb_2 (List.mem_of_getElem? (i := 1) (by decide +kernel))) rfl
theorem kw_2_2 : (Cond.methodLink RX2 57 yX2_faultOf) ∈ uG := uG_mem (tb_2 (List.mem_of_getElem? (i := 2) (by decide +kernel))) rfl
theorem kw_2_4 : (Cond.instanceMethod yX2_faultOf) ∈ uG := uG_mem (tb_2 (List.mem_of_getElem? (i := 4) (by decide +kernel))) rfl
theorem kw_2_5 : (Cond.code yX2_faultOf cX2_faultOf 4 (some .int)) ∈ uG := uG_mem (tb_2 (List.mem_of_getElem? (i := 5) (by decide +kernel))) rfl
theorem kw_2_6 : (Cond.methodLink RX2 75 yX5_hasName) ∈ uG := uG_mem (tb_2 (List.mem_of_getElem? (i := 6) (by decide +kernel))) rfl
theorem kw_2_7 : (Cond.methodLink RX2 84 yX2_isAsItHasToBe) ∈ uG := uG_mem (tb_2 (List.mem_of_getElem? (i := 7) (by decide +kernel))) rfl
theorem kw_2_9 : (Cond.instanceMethod yX2_isAsItHasToBe) ∈ uG := uG_mem (tb_2 (List.mem_of_getElem? (i := 9) (by decide +kernel))) rfl
theorem kw_2_10 : (Cond.code yX2_isAsItHasToBe cX2_isAsItHasToBe 3 (some .boolean)) ∈ uG := uG_mem (tb_2 (List.mem_of_getElem? (i := 10) (by decide +kernel))) rfl
theorem kw_2_11 : (Cond.methodLink RX2 93 yX2_isToBeSet) ∈ uG := uG_mem (tb_2 (List.mem_of_getElem? (i := 11) (by decide +kernel))) rfl
theorem kw_2_12 : (Cond.static yX2_isToBeSet) ∈ uG := uG_mem (tb_2 (List.mem_of_getElem? (i := 12) (by decide +kernel))) rfl
theorem kw_2_13 : (Cond.code yX2_isToBeSet cX2_isToBeSet 1 (some .boolean)) ∈ uG := uG_mem (tb_2 (List.mem_of_getElem? (i := 13) (by decide +kernel))) rfl
theorem kw_2_14 : (Cond.methodLink RX2 96 yX2_isProc) ∈ uG := uG_mem (tb_2 (List.mem_of_getElem? (i := 14) (by decide +kernel))) rfl
theorem kw_2_15 : (Cond.static yX2_isProc) ∈ uG := uG_mem (tb_2 (List.mem_of_getElem? (i := 15) (by decide +kernel))) rfl
theorem kw_2_16 : (Cond.code yX2_isProc cX2_isProc 1 (some .boolean)) ∈ uG := uG_mem (tb_2 (List.mem_of_getElem? (i := 16) (by decide +kernel))) rfl
theorem kw_2_17 : (Cond.methodLink RX2 102 yX1_takesValuesAlone) ∈ uG := uG_mem (tb_2 (List.mem_of_getElem? (i := 17) (by decide +kernel))) rfl
theorem kw_2_18 : (Cond.methodLink RX2 87 yX2_faultOfArguments) ∈ uG := uG_mem (tb_2 (List.mem_of_getElem? (i := 18) (by decide +kernel))) rfl
theorem kw_2_20 : (Cond.instanceMethod yX2_faultOfArguments) ∈ uG := uG_mem (tb_2 (List.mem_of_getElem? (i := 20) (by decide +kernel))) rfl
theorem kw_2_21 : (Cond.code yX2_faultOfArguments cX2_faultOfArguments 6 (some .int)) ∈ uG := uG_mem (tb_2 (List.mem_of_getElem? (i := 21) (by decide +kernel))) rfl
theorem kw_2_22 : (Cond.methodLink RX2 105 yX5_argumentsOf) ∈ uG := uG_mem (tb_2 (List.mem_of_getElem? (i := 22) (by decide +kernel))) rfl
theorem kw_2_23 : (Cond.instanceMethod yX5_argumentsOf) ∈ uG := uG_mem (tb_2 (List.mem_of_getElem? (i := 23) (by decide +kernel))) rfl
theorem kw_2_24 : (Cond.selects RX5 yX5_argumentsOf yX5_argumentsOf) ∈ uG := uG_mem (tb_2 (List.mem_of_getElem? (i := 24) (by decide +kernel))) rfl
theorem kw_2_25 : (Cond.code yX5_argumentsOf cX5_argumentsOf 4 (some .int)) ∈ uG := uG_mem (tb_2 (List.mem_of_getElem? (i := 25) (by decide +kernel))) rfl
theorem kw_2_26 : (Cond.methodLink RX2 117 yX2_suits) ∈ uG := uG_mem (tb_2 (List.mem_of_getElem? (i := 26) (by decide +kernel))) rfl
theorem kw_2_28 : (Cond.instanceMethod yX2_suits) ∈ uG := uG_mem (tb_2 (List.mem_of_getElem? (i := 28) (by decide +kernel))) rfl
theorem kw_2_29 : (Cond.code yX2_suits cX2_suits 3 (some .boolean)) ∈ uG := uG_mem (tb_2 (List.mem_of_getElem? (i := 29) (by decide +kernel))) rfl
theorem kw_2_30 : (Cond.methodLink RX2 124 yX5_isExpression) ∈ uG := uG_mem (tb_2 (List.mem_of_getElem? (i := 30) (by decide +kernel))) rfl
theorem kw_2_31 : (Cond.instanceMethod yX5_isExpression) ∈ uG := uG_mem (tb_2 (List.mem_of_getElem? (i := 31) (by decide +kernel))) rfl
theorem kw_2_32 : (Cond.selects RX5 yX5_isExpression yX5_isExpression) ∈ uG := uG_mem (tb_2 (List.mem_of_getElem? (i := 32) (by decide +kernel))) rfl
theorem kw_2_33 : (Cond.code yX5_isExpression cX5_isExpression 2 (some .boolean)) ∈ uG := uG_mem (tb_2 (List.mem_of_getElem? (i := 33) (by decide +kernel))) rfl
theorem kw_2_34 : (Cond.methodLink RX2 61 yX5_partC) ∈ uG := uG_mem (tb_2 (List.mem_of_getElem? (i := 34) (by decide +kernel))) rfl
theorem kw_2_35 : (Cond.instanceMethod yX5_partC) ∈ uG := uG_mem (tb_2 (List.mem_of_getElem? (i := 35) (by decide +kernel))) rfl
theorem kw_2_36 : (Cond.selects RX5 yX5_partC yX5_partC) ∈ uG := uG_mem (tb_2 (List.mem_of_getElem? (i := 36) (by decide +kernel))) rfl
theorem kw_2_37 : (Cond.code yX5_partC cX5_partC 2 (some .int)) ∈ uG := uG_mem (tb_2 (List.mem_of_getElem? (i := 37) (by decide +kernel))) rfl
theorem kw_2_38 : (Cond.fieldLink RX5 40 "StaticLink$Nodes" "ROLE_C" "[I") ∈ uG := uG_mem (tb_2 (List.mem_of_getElem? (i := 38) (by decide +kernel))) rfl
theorem kw_2_40 : (Cond.methodLink RX2 66 yX5_partB) ∈ uG := uG_mem (tb_2 (List.mem_of_getElem? (i := 40) (by decide +kernel))) rfl
theorem kw_2_41 : (Cond.instanceMethod yX5_partB) ∈ uG := uG_mem (tb_2 (List.mem_of_getElem? (i := 41) (by decide +kernel))) rfl
theorem kw_2_42 : (Cond.selects RX5 yX5_partB yX5_partB) ∈ uG := uG_mem (tb_2 (List.mem_of_getElem? (i := 42) (by decide +kernel))) rfl
theorem kw_2_43 : (Cond.code yX5_partB cX5_partB 2 (some .int)) ∈ uG := uG_mem (tb_2 (List.mem_of_getElem? (i := 43) (by decide +kernel))) rfl
theorem kw_2_44 : (Cond.fieldLink RX5 37 "StaticLink$Nodes" "ROLE_B" "[I") ∈ uG := uG_mem (tb_2 (List.mem_of_getElem? (i := 44) (by decide +kernel))) rfl
theorem kw_2_46 : (Cond.methodLink RX2 69 yX5_partA) ∈ uG := uG_mem (tb_2 (List.mem_of_getElem? (i := 46) (by decide +kernel))) rfl
theorem kw_2_47 : (Cond.instanceMethod yX5_partA) ∈ uG := uG_mem (tb_2 (List.mem_of_getElem? (i := 47) (by decide +kernel))) rfl
theorem kw_2_48 : (Cond.selects RX5 yX5_partA yX5_partA) ∈ uG := uG_mem (tb_2 (List.mem_of_getElem? (i := 48) (by decide +kernel))) rfl
theorem kw_2_49 : (Cond.code yX5_partA cX5_partA 2 (some .int)) ∈ uG := uG_mem (tb_2 (List.mem_of_getElem? (i := 49) (by decide +kernel))) rfl
theorem kw_2_50 : (Cond.methodLink RX8 339 yX0_forget) ∈ uG := uG_mem (tb_2 (List.mem_of_getElem? (i := 50) (by decide +kernel))) rfl
theorem kw_2_51 : (Cond.instanceMethod yX0_forget) ∈ uG := uG_mem (tb_2 (List.mem_of_getElem? (i := 51) (by decide +kernel))) rfl
theorem kw_2_52 : (Cond.selects RX0 yX0_forget yX0_forget) ∈ uG := uG_mem (tb_2 (List.mem_of_getElem? (i := 52) (by decide +kernel))) rfl
theorem kw_2_53 : (Cond.code yX0_forget cX0_forget 1 none) ∈ uG := uG_mem (tb_2 (List.mem_of_getElem? (i := 53) (by decide +kernel))) rfl
theorem kw_2_54 : (Cond.methodLink RX8 171 yX8_codeLength) ∈ uG := uG_mem (tb_2 (List.mem_of_getElem? (i := 54) (by decide +kernel))) rfl
theorem kw_2_56 : (Cond.instanceMethod yX8_codeLength) ∈ uG := uG_mem (tb_2 (List.mem_of_getElem? (i := 56) (by decide +kernel))) rfl
theorem kw_2_57 : (Cond.code yX8_codeLength cX8_codeLength 2 (some .int)) ∈ uG := uG_mem (tb_2 (List.mem_of_getElem? (i := 57) (by decide +kernel))) rfl
theorem kw_2_58 : (Cond.methodLink RX8 342 yX0_layOut) ∈ uG := uG_mem (tb_2 (List.mem_of_getElem? (i := 58) (by decide +kernel))) rfl
theorem kw_2_59 : (Cond.instanceMethod yX0_layOut) ∈ uG := uG_mem (tb_2 (List.mem_of_getElem? (i := 59) (by decide +kernel))) rfl
theorem kw_2_60 : (Cond.selects RX0 yX0_layOut yX0_layOut) ∈ uG := uG_mem (tb_2 (List.mem_of_getElem? (i := 60) (by decide +kernel))) rfl
theorem kw_2_61 : (Cond.code yX0_layOut cX0_layOut 3 none) ∈ uG := uG_mem (tb_2 (List.mem_of_getElem? (i := 61) (by decide +kernel))) rfl
theorem kw_2_62 : (Cond.methodLink RX0 73 yX0_isPushed) ∈ uG := uG_mem (tb_2 (List.mem_of_getElem? (i := 62) (by decide +kernel))) rfl
theorem kw_2_64 : (Cond.instanceMethod yX0_isPushed) ∈ uG := uG_mem (tb_2 (List.mem_of_getElem? (i := 64) (by decide +kernel))) rfl
theorem kw_2_65 : (Cond.instantiable RX0 17) ∈ uG := uG_mem (tb_2 (List.mem_of_getElem? (i := 65) (by decide +kernel))) rfl
theorem kw_2_66 : (Cond.code yX0_isPushed cX0_isPushed 2 (some .boolean)) ∈ uG := uG_mem (tb_2 (List.mem_of_getElem? (i := 66) (by decide +kernel))) rfl
theorem kw_2_67 : (Cond.methodLink RX0 77 yX5_partA) ∈ uG := uG_mem (tb_2 (List.mem_of_getElem? (i := 67) (by decide +kernel))) rfl
theorem kw_2_68 : (Cond.methodLink RX0 81 yX0_lengthOfPart) ∈ uG := uG_mem (tb_2 (List.mem_of_getElem? (i := 68) (by decide +kernel))) rfl
theorem kw_2_70 : (Cond.instanceMethod yX0_lengthOfPart) ∈ uG := uG_mem (tb_2 (List.mem_of_getElem? (i := 70) (by decide +kernel))) rfl
theorem kw_2_71 : (Cond.code yX0_lengthOfPart cX0_lengthOfPart 2 (some .int)) ∈ uG := uG_mem (tb_2 (List.mem_of_getElem? (i := 71) (by decide +kernel))) rfl
theorem kw_2_72 : (Cond.methodLink RX0 84 yX5_partB) ∈ uG := uG_mem (tb_2 (List.mem_of_getElem? (i := 72) (by decide +kernel))) rfl
theorem kw_2_73 : (Cond.methodLink RX0 87 yX5_partC) ∈ uG := uG_mem (tb_2 (List.mem_of_getElem? (i := 73) (by decide +kernel))) rfl
theorem kw_2_74 : (Cond.methodLink RX0 90 yX0_ownLength) ∈ uG := uG_mem (tb_2 (List.mem_of_getElem? (i := 74) (by decide +kernel))) rfl
theorem kw_2_76 : (Cond.instanceMethod yX0_ownLength) ∈ uG := uG_mem (tb_2 (List.mem_of_getElem? (i := 76) (by decide +kernel))) rfl
theorem kw_2_77 : (Cond.code yX0_ownLength cX0_ownLength 2 (some .int)) ∈ uG := uG_mem (tb_2 (List.mem_of_getElem? (i := 77) (by decide +kernel))) rfl
theorem kw_2_78 : (Cond.methodLink RX0 126 yX0_isJump) ∈ uG := uG_mem (tb_2 (List.mem_of_getElem? (i := 78) (by decide +kernel))) rfl
theorem kw_2_80 : (Cond.instanceMethod yX0_isJump) ∈ uG := uG_mem (tb_2 (List.mem_of_getElem? (i := 80) (by decide +kernel))) rfl
theorem kw_2_81 : (Cond.code yX0_isJump cX0_isJump 2 (some .boolean)) ∈ uG := uG_mem (tb_2 (List.mem_of_getElem? (i := 81) (by decide +kernel))) rfl
theorem kw_2_82 : (Cond.methodLink RX0 93 yX0_placeProcedures) ∈ uG := uG_mem (tb_2 (List.mem_of_getElem? (i := 82) (by decide +kernel))) rfl
theorem kw_2_84 : (Cond.instanceMethod yX0_placeProcedures) ∈ uG := uG_mem (tb_2 (List.mem_of_getElem? (i := 84) (by decide +kernel))) rfl
theorem kw_2_85 : (Cond.code yX0_placeProcedures cX0_placeProcedures 4 none) ∈ uG := uG_mem (tb_2 (List.mem_of_getElem? (i := 85) (by decide +kernel))) rfl
theorem kw_2_86 : (Cond.methodLink RX0 135 yX0_clear) ∈ uG := uG_mem (tb_2 (List.mem_of_getElem? (i := 86) (by decide +kernel))) rfl
theorem kw_2_88 : (Cond.instanceMethod yX0_clear) ∈ uG := uG_mem (tb_2 (List.mem_of_getElem? (i := 88) (by decide +kernel))) rfl
theorem kw_2_89 : (Cond.code yX0_clear cX0_clear 4 none) ∈ uG := uG_mem (tb_2 (List.mem_of_getElem? (i := 89) (by decide +kernel))) rfl
theorem kw_2_90 : (Cond.methodLink RX0 139 yX0_put) ∈ uG := uG_mem (tb_2 (List.mem_of_getElem? (i := 90) (by decide +kernel))) rfl
theorem kw_2_92 : (Cond.instanceMethod yX0_put) ∈ uG := uG_mem (tb_2 (List.mem_of_getElem? (i := 92) (by decide +kernel))) rfl
theorem kw_2_93 : (Cond.code yX0_put cX0_put 6 none) ∈ uG := uG_mem (tb_2 (List.mem_of_getElem? (i := 93) (by decide +kernel))) rfl
theorem kw_2_94 : (Cond.methodLink RX0 101 yX0_placeParts) ∈ uG := uG_mem (tb_2 (List.mem_of_getElem? (i := 94) (by decide +kernel))) rfl
theorem kw_2_96 : (Cond.instanceMethod yX0_placeParts) ∈ uG := uG_mem (tb_2 (List.mem_of_getElem? (i := 96) (by decide +kernel))) rfl
theorem kw_2_97 : (Cond.code yX0_placeParts cX0_placeParts 8 none) ∈ uG := uG_mem (tb_2 (List.mem_of_getElem? (i := 97) (by decide +kernel))) rfl
theorem kw_2_98 : (Cond.methodLink RX0 143 yX0_swallow) ∈ uG := uG_mem (tb_2 (List.mem_of_getElem? (i := 98) (by decide +kernel))) rfl
theorem kw_2_100 : (Cond.instanceMethod yX0_swallow) ∈ uG := uG_mem (tb_2 (List.mem_of_getElem? (i := 100) (by decide +kernel))) rfl
theorem kw_2_101 : (Cond.code yX0_swallow cX0_swallow 3 none) ∈ uG := uG_mem (tb_2 (List.mem_of_getElem? (i := 101) (by decide +kernel))) rfl
theorem kw_2_102 : (Cond.methodLink RX0 146 yX0_place) ∈ uG := uG_mem (tb_2 (List.mem_of_getElem? (i := 102) (by decide +kernel))) rfl
theorem kw_2_104 : (Cond.instanceMethod yX0_place) ∈ uG := uG_mem (tb_2 (List.mem_of_getElem? (i := 104) (by decide +kernel))) rfl
theorem kw_2_105 : (Cond.code yX0_place cX0_place 3 none) ∈ uG := uG_mem (tb_2 (List.mem_of_getElem? (i := 105) (by decide +kernel))) rfl
theorem kw_2_106 : (Cond.methodLink RX0 105 yX0_noteBegin) ∈ uG := uG_mem (tb_2 (List.mem_of_getElem? (i := 106) (by decide +kernel))) rfl
theorem kw_2_108 : (Cond.instanceMethod yX0_noteBegin) ∈ uG := uG_mem (tb_2 (List.mem_of_getElem? (i := 108) (by decide +kernel))) rfl
theorem kw_2_109 : (Cond.code yX0_noteBegin cX0_noteBegin 3 none) ∈ uG := uG_mem (tb_2 (List.mem_of_getElem? (i := 109) (by decide +kernel))) rfl
theorem kw_2_110 : (Cond.methodLink RX0 108 yX0_write) ∈ uG := uG_mem (tb_2 (List.mem_of_getElem? (i := 110) (by decide +kernel))) rfl
theorem kw_2_112 : (Cond.instanceMethod yX0_write) ∈ uG := uG_mem (tb_2 (List.mem_of_getElem? (i := 112) (by decide +kernel))) rfl
theorem kw_2_113 : (Cond.code yX0_write cX0_write 4 none) ∈ uG := uG_mem (tb_2 (List.mem_of_getElem? (i := 113) (by decide +kernel))) rfl
theorem kw_2_114 : (Cond.methodLink RX0 158 yX0_writeExpression) ∈ uG := uG_mem (tb_2 (List.mem_of_getElem? (i := 114) (by decide +kernel))) rfl
theorem kw_2_116 : (Cond.instanceMethod yX0_writeExpression) ∈ uG := uG_mem (tb_2 (List.mem_of_getElem? (i := 116) (by decide +kernel))) rfl
theorem kw_2_117 : (Cond.code yX0_writeExpression cX0_writeExpression 5 none) ∈ uG := uG_mem (tb_2 (List.mem_of_getElem? (i := 117) (by decide +kernel))) rfl
theorem kw_2_118 : (Cond.methodLink RX0 168 yX4_modeOfPart) ∈ uG := uG_mem (tb_2 (List.mem_of_getElem? (i := 118) (by decide +kernel))) rfl
theorem kw_2_119 : (Cond.instanceMethod yX4_modeOfPart) ∈ uG := uG_mem (tb_2 (List.mem_of_getElem? (i := 119) (by decide +kernel))) rfl
theorem kw_2_120 : (Cond.selects RX4 yX4_modeOfPart yX4_modeOfPart) ∈ uG := uG_mem (tb_2 (List.mem_of_getElem? (i := 120) (by decide +kernel))) rfl
theorem kw_2_121 : (Cond.code yX4_modeOfPart cX4_modeOfPart 3 (some .int)) ∈ uG := uG_mem (tb_2 (List.mem_of_getElem? (i := 121) (by decide +kernel))) rfl
theorem kw_2_122 : (Cond.methodLink RX0 174 yX0_putNamed) ∈ uG := uG_mem (tb_2 (List.mem_of_getElem? (i := 122) (by decide +kernel))) rfl
theorem kw_2_124 : (Cond.instanceMethod yX0_putNamed) ∈ uG := uG_mem (tb_2 (List.mem_of_getElem? (i := 124) (by decide +kernel))) rfl
theorem kw_2_125 : (Cond.code yX0_putNamed cX0_putNamed 4 none) ∈ uG := uG_mem (tb_2 (List.mem_of_getElem? (i := 125) (by decide +kernel))) rfl
theorem kw_2_126 : (Cond.methodLink RX0 162 yX0_writeCall) ∈ uG := uG_mem (tb_2 (List.mem_of_getElem? (i := 126) (by decide +kernel))) rfl
theorem kw_2_128 : (Cond.instanceMethod yX0_writeCall) ∈ uG := uG_mem (tb_2 (List.mem_of_getElem? (i := 128) (by decide +kernel))) rfl
theorem kw_2_129 : (Cond.code yX0_writeCall cX0_writeCall 6 none) ∈ uG := uG_mem (tb_2 (List.mem_of_getElem? (i := 129) (by decide +kernel))) rfl
theorem kw_2_130 : (Cond.methodLink RX0 165 yX0_writeStatement) ∈ uG := uG_mem (tb_2 (List.mem_of_getElem? (i := 130) (by decide +kernel))) rfl
theorem kw_2_132 : (Cond.instanceMethod yX0_writeStatement) ∈ uG := uG_mem (tb_2 (List.mem_of_getElem? (i := 132) (by decide +kernel))) rfl
theorem kw_2_133 : (Cond.code yX0_writeStatement cX0_writeStatement 4 none) ∈ uG := uG_mem (tb_2 (List.mem_of_getElem? (i := 133) (by decide +kernel))) rfl
theorem kw_2_134 : (Cond.methodLink RX0 183 yX0_writeIf) ∈ uG := uG_mem (tb_2 (List.mem_of_getElem? (i := 134) (by decide +kernel))) rfl
theorem kw_2_136 : (Cond.instanceMethod yX0_writeIf) ∈ uG := uG_mem (tb_2 (List.mem_of_getElem? (i := 136) (by decide +kernel))) rfl
theorem kw_2_137 : (Cond.code yX0_writeIf cX0_writeIf 5 none) ∈ uG := uG_mem (tb_2 (List.mem_of_getElem? (i := 137) (by decide +kernel))) rfl
theorem kw_2_138 : (Cond.methodLink RX0 186 yX0_writeLoop) ∈ uG := uG_mem (tb_2 (List.mem_of_getElem? (i := 138) (by decide +kernel))) rfl
theorem kw_2_140 : (Cond.instanceMethod yX0_writeLoop) ∈ uG := uG_mem (tb_2 (List.mem_of_getElem? (i := 140) (by decide +kernel))) rfl
theorem kw_2_141 : (Cond.code yX0_writeLoop cX0_writeLoop 4 none) ∈ uG := uG_mem (tb_2 (List.mem_of_getElem? (i := 141) (by decide +kernel))) rfl
theorem kw_2_142 : (Cond.methodLink RL 35 yX8_body) ∈ uG := uG_mem (tb_2 (List.mem_of_getElem? (i := 142) (by decide +kernel))) rfl
theorem kw_2_143 : (Cond.instanceMethod yX8_body) ∈ uG := uG_mem (tb_2 (List.mem_of_getElem? (i := 143) (by decide +kernel))) rfl
theorem kw_2_144 : (Cond.selects RX8 yX8_body yX8_body) ∈ uG := uG_mem (tb_2 (List.mem_of_getElem? (i := 144) (by decide +kernel))) rfl
theorem kw_2_145 : (Cond.code yX8_body cX8_body 4 (some .int)) ∈ uG := uG_mem (tb_2 (List.mem_of_getElem? (i := 145) (by decide +kernel))) rfl
theorem kw_2_146 : (Cond.methodLink RX8 183 yX8_needNode) ∈ uG := uG_mem (tb_2 (List.mem_of_getElem? (i := 146) (by decide +kernel))) rfl
theorem kw_2_148 : (Cond.instanceMethod yX8_needNode) ∈ uG := uG_mem (tb_2 (List.mem_of_getElem? (i := 148) (by decide +kernel))) rfl
theorem kw_2_149 : (Cond.code yX8_needNode cX8_needNode 2 none) ∈ uG := uG_mem (tb_2 (List.mem_of_getElem? (i := 149) (by decide +kernel))) rfl
theorem kw_2_150 : (Cond.methodLink RX8 361 yX5_has) ∈ uG := uG_mem (tb_2 (List.mem_of_getElem? (i := 150) (by decide +kernel))) rfl
theorem kw_2_151 : (Cond.instanceMethod yX5_has) ∈ uG := uG_mem (tb_2 (List.mem_of_getElem? (i := 151) (by decide +kernel))) rfl
theorem kw_2_152 : (Cond.selects RX5 yX5_has yX5_has) ∈ uG := uG_mem (tb_2 (List.mem_of_getElem? (i := 152) (by decide +kernel))) rfl
theorem kw_2_153 : (Cond.code yX5_has cX5_has 2 (some .boolean)) ∈ uG := uG_mem (tb_2 (List.mem_of_getElem? (i := 153) (by decide +kernel))) rfl
theorem kw_2_155 : (Cond.methodLink RX8 186 yX5_isStatement) ∈ uG := uG_mem (tb_2 (List.mem_of_getElem? (i := 155) (by decide +kernel))) rfl
theorem kw_2_156 : (Cond.instanceMethod yX5_isStatement) ∈ uG := uG_mem (tb_2 (List.mem_of_getElem? (i := 156) (by decide +kernel))) rfl
theorem kw_2_157 : (Cond.selects RX5 yX5_isStatement yX5_isStatement) ∈ uG := uG_mem (tb_2 (List.mem_of_getElem? (i := 157) (by decide +kernel))) rfl
theorem kw_2_158 : (Cond.code yX5_isStatement cX5_isStatement 2 (some .boolean)) ∈ uG := uG_mem (tb_2 (List.mem_of_getElem? (i := 158) (by decide +kernel))) rfl
theorem kw_2_159 : (Cond.methodLink RX8 189 yX5_isFree) ∈ uG := uG_mem (tb_2 (List.mem_of_getElem? (i := 159) (by decide +kernel))) rfl
theorem kw_2_160 : (Cond.instanceMethod yX5_isFree) ∈ uG := uG_mem (tb_2 (List.mem_of_getElem? (i := 160) (by decide +kernel))) rfl
theorem kw_2_161 : (Cond.selects RX5 yX5_isFree yX5_isFree) ∈ uG := uG_mem (tb_2 (List.mem_of_getElem? (i := 161) (by decide +kernel))) rfl
theorem kw_2_162 : (Cond.code yX5_isFree cX5_isFree 2 (some .boolean)) ∈ uG := uG_mem (tb_2 (List.mem_of_getElem? (i := 162) (by decide +kernel))) rfl
theorem kw_2_163 : (Cond.methodLink RX8 106 yX8_needState) ∈ uG := uG_mem (tb_2 (List.mem_of_getElem? (i := 163) (by decide +kernel))) rfl
theorem kw_2_164 : (Cond.static yX8_needState) ∈ uG := uG_mem (tb_2 (List.mem_of_getElem? (i := 164) (by decide +kernel))) rfl
theorem kw_2_165 : (Cond.code yX8_needState cX8_needState 1 none) ∈ uG := uG_mem (tb_2 (List.mem_of_getElem? (i := 165) (by decide +kernel))) rfl
theorem kw_2_166 : (Cond.classLink RX8 371 "java/lang/IllegalStateException") ∈ uG := uG_mem (tb_2 (List.mem_of_getElem? (i := 166) (by decide +kernel))) rfl
theorem kw_2_167 : (Cond.instantiable "java/lang/IllegalStateException" 6) ∈ uG := uG_mem (tb_2 (List.mem_of_getElem? (i := 167) (by decide +kernel))) rfl
theorem kw_2_169 : (Cond.selects "java/lang/IllegalStateException" ⟨"java/lang/Throwable", "fillInStackTrace", "(I)Ljava/lang/Throwable;"⟩ ⟨"java/lang/Throwable", "fillInStackTrace", "(I)Ljava/lang/Throwable;"⟩) ∈ uG := uG_mem (tb_2 (List.mem_of_getElem? (i := 169) (by decide +kernel))) rfl
theorem kw_2_170 : (Cond.lays "java/lang/IllegalStateException" "java/lang/Throwable" "cause" "Ljava/lang/Throwable;") ∈ uG := uG_mem (tb_2 (List.mem_of_getElem? (i := 170) (by decide +kernel))) rfl
theorem kw_2_171 : (Cond.lays "java/lang/IllegalStateException" "java/lang/Throwable" "stackTrace" "[Ljava/lang/StackTraceElement;") ∈ uG := uG_mem (tb_2 (List.mem_of_getElem? (i := 171) (by decide +kernel))) rfl
theorem kw_2_172 : (Cond.lays "java/lang/IllegalStateException" "java/lang/Throwable" "suppressedExceptions" "Ljava/util/List;") ∈ uG := uG_mem (tb_2 (List.mem_of_getElem? (i := 172) (by decide +kernel))) rfl
theorem kw_2_173 : (Cond.lays "java/lang/IllegalStateException" "java/lang/Throwable" "detailMessage" "Ljava/lang/String;") ∈ uG := uG_mem (tb_2 (List.mem_of_getElem? (i := 173) (by decide +kernel))) rfl
theorem kw_2_174 : (Cond.lays "java/lang/IllegalStateException" "java/lang/Throwable" "backtrace" "Ljava/lang/Object;") ∈ uG := uG_mem (tb_2 (List.mem_of_getElem? (i := 174) (by decide +kernel))) rfl
theorem kw_2_176 : (Cond.methodLink RX8 375 ⟨"java/lang/IllegalStateException", "<init>", "(Ljava/lang/String;)V"⟩) ∈ uG := uG_mem (tb_2 (List.mem_of_getElem? (i := 176) (by decide +kernel))) rfl
theorem kw_2_177 : (Cond.instanceMethod ⟨"java/lang/IllegalStateException", "<init>", "(Ljava/lang/String;)V"⟩) ∈ uG := uG_mem (tb_2 (List.mem_of_getElem? (i := 177) (by decide +kernel))) rfl
theorem kw_2_178 : (Cond.code ⟨"java/lang/IllegalStateException", "<init>", "(Ljava/lang/String;)V"⟩ prog_16_method_2_code 2 none) ∈ uG := uG_mem (tb_2 (List.mem_of_getElem? (i := 178) (by decide +kernel))) rfl
theorem kw_2_179 : (Cond.methodLink "java/lang/IllegalStateException" 7 ⟨"java/lang/RuntimeException", "<init>", "(Ljava/lang/String;)V"⟩) ∈ uG := uG_mem (tb_2 (List.mem_of_getElem? (i := 179) (by decide +kernel))) rfl
theorem kw_2_180 : (Cond.lays "java/lang/IllegalStateException" "java/lang/Throwable" "depth" "I") ∈ uG := uG_mem (tb_2 (List.mem_of_getElem? (i := 180) (by decide +kernel))) rfl
theorem kw_2_182 : (Cond.methodLink RL 74 yX8_ofNode) ∈ uG := uG_mem (tb_2 (List.mem_of_getElem? (i := 182) (by decide +kernel))) rfl
theorem kw_2_183 : (Cond.instanceMethod yX8_ofNode) ∈ uG := uG_mem (tb_2 (List.mem_of_getElem? (i := 183) (by decide +kernel))) rfl
theorem kw_2_184 : (Cond.selects RX8 yX8_ofNode yX8_ofNode) ∈ uG := uG_mem (tb_2 (List.mem_of_getElem? (i := 184) (by decide +kernel))) rfl
theorem kw_2_185 : (Cond.code yX8_ofNode cX8_ofNode 3 (some .int)) ∈ uG := uG_mem (tb_2 (List.mem_of_getElem? (i := 185) (by decide +kernel))) rfl
theorem kw_2_186 : (Cond.methodLink RL 81 yX8_fault) ∈ uG := uG_mem (tb_2 (List.mem_of_getElem? (i := 186) (by decide +kernel))) rfl
theorem kw_2_187 : (Cond.instanceMethod yX8_fault) ∈ uG := uG_mem (tb_2 (List.mem_of_getElem? (i := 187) (by decide +kernel))) rfl
theorem kw_2_188 : (Cond.selects RX8 yX8_fault yX8_fault) ∈ uG := uG_mem (tb_2 (List.mem_of_getElem? (i := 188) (by decide +kernel))) rfl
theorem kw_2_189 : (Cond.code yX8_fault cX8_fault 3 (some .int)) ∈ uG := uG_mem (tb_2 (List.mem_of_getElem? (i := 189) (by decide +kernel))) rfl
theorem kw_2_190 : (Cond.methodLink RX8 220 yX8_needPlace) ∈ uG := uG_mem (tb_2 (List.mem_of_getElem? (i := 190) (by decide +kernel))) rfl
theorem kw_2_191 : (Cond.static yX8_needPlace) ∈ uG := uG_mem (tb_2 (List.mem_of_getElem? (i := 191) (by decide +kernel))) rfl
theorem kw_2_192 : (Cond.code yX8_needPlace cX8_needPlace 1 none) ∈ uG := uG_mem (tb_2 (List.mem_of_getElem? (i := 192) (by decide +kernel))) rfl
theorem kw_2_194 : (Cond.methodLink RL 65 yX8_code) ∈ uG := uG_mem (tb_2 (List.mem_of_getElem? (i := 194) (by decide +kernel))) rfl
theorem kw_2_195 : (Cond.instanceMethod yX8_code) ∈ uG := uG_mem (tb_2 (List.mem_of_getElem? (i := 195) (by decide +kernel))) rfl
theorem kw_2_196 : (Cond.selects RX8 yX8_code yX8_code) ∈ uG := uG_mem (tb_2 (List.mem_of_getElem? (i := 196) (by decide +kernel))) rfl
theorem kw_2_197 : (Cond.code yX8_code cX8_code 5 (some .int)) ∈ uG := uG_mem (tb_2 (List.mem_of_getElem? (i := 197) (by decide +kernel))) rfl
theorem kw_2_198 : (Cond.methodLink RL 39 yX8_run) ∈ uG := uG_mem (tb_2 (List.mem_of_getElem? (i := 198) (by decide +kernel))) rfl
theorem kw_2_199 : (Cond.instanceMethod yX8_run) ∈ uG := uG_mem (tb_2 (List.mem_of_getElem? (i := 199) (by decide +kernel))) rfl
theorem kw_2_200 : (Cond.selects RX8 yX8_run yX8_run) ∈ uG := uG_mem (tb_2 (List.mem_of_getElem? (i := 200) (by decide +kernel))) rfl
theorem kw_2_201 : (Cond.code yX8_run cX8_run 1 (some .int)) ∈ uG := uG_mem (tb_2 (List.mem_of_getElem? (i := 201) (by decide +kernel))) rfl
theorem kw_2_202 : (Cond.methodLink RX8 253 yX3_execute) ∈ uG := uG_mem (tb_2 (List.mem_of_getElem? (i := 202) (by decide +kernel))) rfl
theorem kw_2_203 : (Cond.instanceMethod yX3_execute) ∈ uG := uG_mem (tb_2 (List.mem_of_getElem? (i := 203) (by decide +kernel))) rfl
theorem kw_2_204 : (Cond.selects RX3 yX3_execute yX3_execute) ∈ uG := uG_mem (tb_2 (List.mem_of_getElem? (i := 204) (by decide +kernel))) rfl
theorem kw_2_205 : (Cond.code yX3_execute cX3_execute 7 none) ∈ uG := uG_mem (tb_2 (List.mem_of_getElem? (i := 205) (by decide +kernel))) rfl
theorem kw_2_206 : (Cond.methodLink RX3 78 yX0_layOut) ∈ uG := uG_mem (tb_2 (List.mem_of_getElem? (i := 206) (by decide +kernel))) rfl
theorem kw_2_207 : (Cond.methodLink RX3 83 yX3_clear) ∈ uG := uG_mem (tb_2 (List.mem_of_getElem? (i := 207) (by decide +kernel))) rfl
theorem kw_2_209 : (Cond.instanceMethod yX3_clear) ∈ uG := uG_mem (tb_2 (List.mem_of_getElem? (i := 209) (by decide +kernel))) rfl
theorem kw_2_210 : (Cond.instantiable RX3 17) ∈ uG := uG_mem (tb_2 (List.mem_of_getElem? (i := 210) (by decide +kernel))) rfl
theorem kw_2_211 : (Cond.code yX3_clear cX3_clear 1 none) ∈ uG := uG_mem (tb_2 (List.mem_of_getElem? (i := 211) (by decide +kernel))) rfl
theorem kw_2_212 : (Cond.methodLink RX3 111 yX7_cut) ∈ uG := uG_mem (tb_2 (List.mem_of_getElem? (i := 212) (by decide +kernel))) rfl
theorem kw_2_213 : (Cond.instanceMethod yX7_cut) ∈ uG := uG_mem (tb_2 (List.mem_of_getElem? (i := 213) (by decide +kernel))) rfl
theorem kw_2_214 : (Cond.selects RX7 yX7_cut yX7_cut) ∈ uG := uG_mem (tb_2 (List.mem_of_getElem? (i := 214) (by decide +kernel))) rfl
theorem kw_2_215 : (Cond.code yX7_cut cX7_cut 2 none) ∈ uG := uG_mem (tb_2 (List.mem_of_getElem? (i := 215) (by decide +kernel))) rfl
theorem kw_2_216 : (Cond.methodLink RX3 86 yX6_start) ∈ uG := uG_mem (tb_2 (List.mem_of_getElem? (i := 216) (by decide +kernel))) rfl
theorem kw_2_217 : (Cond.instanceMethod yX6_start) ∈ uG := uG_mem (tb_2 (List.mem_of_getElem? (i := 217) (by decide +kernel))) rfl
theorem kw_2_218 : (Cond.selects RX6 yX6_start yX6_start) ∈ uG := uG_mem (tb_2 (List.mem_of_getElem? (i := 218) (by decide +kernel))) rfl
theorem kw_2_219 : (Cond.code yX6_start cX6_start 1 none) ∈ uG := uG_mem (tb_2 (List.mem_of_getElem? (i := 219) (by decide +kernel))) rfl
theorem kw_2_220 : (Cond.methodLink RX3 89 yX3_keepReturn) ∈ uG := uG_mem (tb_2 (List.mem_of_getElem? (i := 220) (by decide +kernel))) rfl
theorem kw_2_222 : (Cond.instanceMethod yX3_keepReturn) ∈ uG := uG_mem (tb_2 (List.mem_of_getElem? (i := 222) (by decide +kernel))) rfl
theorem kw_2_223 : (Cond.code yX3_keepReturn cX3_keepReturn 4 none) ∈ uG := uG_mem (tb_2 (List.mem_of_getElem? (i := 223) (by decide +kernel))) rfl
theorem kw_2_224 : (Cond.methodLink RX3 215 yX7_add) ∈ uG := uG_mem (tb_2 (List.mem_of_getElem? (i := 224) (by decide +kernel))) rfl
theorem kw_2_225 : (Cond.instanceMethod yX7_add) ∈ uG := uG_mem (tb_2 (List.mem_of_getElem? (i := 225) (by decide +kernel))) rfl
theorem kw_2_226 : (Cond.selects RX7 yX7_add yX7_add) ∈ uG := uG_mem (tb_2 (List.mem_of_getElem? (i := 226) (by decide +kernel))) rfl
theorem kw_2_227 : (Cond.code yX7_add cX7_add 3 (some .int)) ∈ uG := uG_mem (tb_2 (List.mem_of_getElem? (i := 227) (by decide +kernel))) rfl
theorem kw_2_228 : (Cond.constant RX7 22 (524288 : Int32)) ∈ uG := uG_mem (tb_2 (List.mem_of_getElem? (i := 228) (by decide +kernel))) rfl
theorem kw_2_229 : (Cond.methodLink RX7 23 yJ7_copyOf_59c91) ∈ uG := uG_mem (tb_2 (List.mem_of_getElem? (i := 229) (by decide +kernel))) rfl
theorem kw_2_230 : (Cond.static yJ7_copyOf_59c91) ∈ uG := uG_mem (tb_2 (List.mem_of_getElem? (i := 230) (by decide +kernel))) rfl
theorem kw_2_231 : (Cond.code yJ7_copyOf_59c91 cJ7_copyOf_59c91 3 (some (.array .int))) ∈ uG := uG_mem (tb_2 (List.mem_of_getElem? (i := 231) (by decide +kernel))) rfl
theorem kw_2_232 : (Cond.methodLink RJ7 316 ⟨"[I", "clone", "()Ljava/lang/Object;"⟩) ∈ uG := uG_mem (tb_2 (List.mem_of_getElem? (i := 232) (by decide +kernel))) rfl
theorem kw_2_235 : (Cond.instanceMethod ⟨"java/lang/Object", "clone", "()Ljava/lang/Object;"⟩) ∈ uG := uG_mem (tb_2 (List.mem_of_getElem? (i := 235) (by decide +kernel))) rfl
theorem kw_2_236 : (Cond.selects "[I" ⟨"[I", "clone", "()Ljava/lang/Object;"⟩ ⟨"java/lang/Object", "clone", "()Ljava/lang/Object;"⟩) ∈ uG := uG_mem (tb_2 (List.mem_of_getElem? (i := 236) (by decide +kernel))) rfl
theorem kw_2_238 : (Cond.classLink RJ7 317 "[I") ∈ uG := uG_mem (tb_2 (List.mem_of_getElem? (i := 238) (by decide +kernel))) rfl
theorem kw_2_239 : (Cond.methodLink RJ7 304 yJ9_min_7cf53) ∈ uG := uG_mem (tb_2 (List.mem_of_getElem? (i := 239) (by decide +kernel))) rfl
theorem kw_3_0 : (Cond.static yJ9_min_7cf53) ∈ uG := uG_mem (tb_3 (List.mem_of_getElem? (i := 0) (by decide +kernel))) rfl
theorem kw_3_1 : (Cond.code yJ9_min_7cf53 cJ9_min_7cf53 2 (some .int)) ∈ uG := uG_mem (tb_3 (List.mem_of_getElem? (i := 1) (by decide +kernel))) rfl
theorem kw_3_2 : (Cond.methodLink RJ7 150 ⟨"java/lang/System", "arraycopy", "(Ljava/lang/Object;ILjava/lang/Object;II)V"⟩) ∈ uG := uG_mem (tb_3 (List.mem_of_getElem? (i := 2) (by decide +kernel))) rfl
theorem kw_3_3 : (Cond.static ⟨"java/lang/System", "arraycopy", "(Ljava/lang/Object;ILjava/lang/Object;II)V"⟩) ∈ uG := uG_mem (tb_3 (List.mem_of_getElem? (i := 3) (by decide +kernel))) rfl
theorem kw_3_5 : (Cond.methodLink RX3 218 yX7_put) ∈ uG := uG_mem (tb_3 (List.mem_of_getElem? (i := 5) (by decide +kernel))) rfl
theorem kw_3_6 : (Cond.instanceMethod yX7_put) ∈ uG := uG_mem (tb_3 (List.mem_of_getElem? (i := 6) (by decide +kernel))) rfl
theorem kw_3_7 : (Cond.selects RX7 yX7_put yX7_put) ∈ uG := uG_mem (tb_3 (List.mem_of_getElem? (i := 7) (by decide +kernel))) rfl
theorem kw_3_8 : (Cond.code yX7_put cX7_put 4 none) ∈ uG := uG_mem (tb_3 (List.mem_of_getElem? (i := 8) (by decide +kernel))) rfl
theorem kw_3_9 : (Cond.methodLink RX7 29 yX7_has) ∈ uG := uG_mem (tb_3 (List.mem_of_getElem? (i := 9) (by decide +kernel))) rfl
theorem kw_3_11 : (Cond.instanceMethod yX7_has) ∈ uG := uG_mem (tb_3 (List.mem_of_getElem? (i := 11) (by decide +kernel))) rfl
theorem kw_3_12 : (Cond.instantiable RX7 3) ∈ uG := uG_mem (tb_3 (List.mem_of_getElem? (i := 12) (by decide +kernel))) rfl
theorem kw_3_13 : (Cond.code yX7_has cX7_has 3 (some .boolean)) ∈ uG := uG_mem (tb_3 (List.mem_of_getElem? (i := 13) (by decide +kernel))) rfl
theorem kw_3_14 : (Cond.methodLink RX3 93 yX3_call) ∈ uG := uG_mem (tb_3 (List.mem_of_getElem? (i := 14) (by decide +kernel))) rfl
theorem kw_3_16 : (Cond.instanceMethod yX3_call) ∈ uG := uG_mem (tb_3 (List.mem_of_getElem? (i := 16) (by decide +kernel))) rfl
theorem kw_3_17 : (Cond.code yX3_call cX3_call 3 none) ∈ uG := uG_mem (tb_3 (List.mem_of_getElem? (i := 17) (by decide +kernel))) rfl
theorem kw_3_18 : (Cond.methodLink RX3 221 yX7_at) ∈ uG := uG_mem (tb_3 (List.mem_of_getElem? (i := 18) (by decide +kernel))) rfl
theorem kw_3_19 : (Cond.instanceMethod yX7_at) ∈ uG := uG_mem (tb_3 (List.mem_of_getElem? (i := 19) (by decide +kernel))) rfl
theorem kw_3_20 : (Cond.selects RX7 yX7_at yX7_at) ∈ uG := uG_mem (tb_3 (List.mem_of_getElem? (i := 20) (by decide +kernel))) rfl
theorem kw_3_21 : (Cond.code yX7_at cX7_at 3 (some .int)) ∈ uG := uG_mem (tb_3 (List.mem_of_getElem? (i := 21) (by decide +kernel))) rfl
theorem kw_3_22 : (Cond.methodLink RX3 276 yJ6_bitCount_0f7a4) ∈ uG := uG_mem (tb_3 (List.mem_of_getElem? (i := 22) (by decide +kernel))) rfl
theorem kw_3_23 : (Cond.methodLink RX3 287 yJ9_max_7cf53) ∈ uG := uG_mem (tb_3 (List.mem_of_getElem? (i := 23) (by decide +kernel))) rfl
theorem kw_3_24 : (Cond.static yJ9_max_7cf53) ∈ uG := uG_mem (tb_3 (List.mem_of_getElem? (i := 24) (by decide +kernel))) rfl
theorem kw_3_25 : (Cond.code yJ9_max_7cf53 cJ9_max_7cf53 2 (some .int)) ∈ uG := uG_mem (tb_3 (List.mem_of_getElem? (i := 25) (by decide +kernel))) rfl
theorem kw_3_26 : (Cond.methodLink RX3 295 yX3_layPlaces) ∈ uG := uG_mem (tb_3 (List.mem_of_getElem? (i := 26) (by decide +kernel))) rfl
theorem kw_3_28 : (Cond.instanceMethod yX3_layPlaces) ∈ uG := uG_mem (tb_3 (List.mem_of_getElem? (i := 28) (by decide +kernel))) rfl
theorem kw_3_29 : (Cond.code yX3_layPlaces cX3_layPlaces 11 none) ∈ uG := uG_mem (tb_3 (List.mem_of_getElem? (i := 29) (by decide +kernel))) rfl
theorem kw_3_30 : (Cond.constant RX3 96 (1000000 : Int32)) ∈ uG := uG_mem (tb_3 (List.mem_of_getElem? (i := 30) (by decide +kernel))) rfl
theorem kw_3_31 : (Cond.methodLink RX3 100 yX3_begin) ∈ uG := uG_mem (tb_3 (List.mem_of_getElem? (i := 31) (by decide +kernel))) rfl
theorem kw_3_33 : (Cond.instanceMethod yX3_begin) ∈ uG := uG_mem (tb_3 (List.mem_of_getElem? (i := 33) (by decide +kernel))) rfl
theorem kw_3_34 : (Cond.code yX3_begin cX3_begin 5 (some .boolean)) ∈ uG := uG_mem (tb_3 (List.mem_of_getElem? (i := 34) (by decide +kernel))) rfl
theorem kw_3_35 : (Cond.methodLink RX3 120 yX3_trap) ∈ uG := uG_mem (tb_3 (List.mem_of_getElem? (i := 35) (by decide +kernel))) rfl
theorem kw_3_37 : (Cond.instanceMethod yX3_trap) ∈ uG := uG_mem (tb_3 (List.mem_of_getElem? (i := 37) (by decide +kernel))) rfl
theorem kw_3_38 : (Cond.code yX3_trap cX3_trap 3 none) ∈ uG := uG_mem (tb_3 (List.mem_of_getElem? (i := 38) (by decide +kernel))) rfl
theorem kw_3_39 : (Cond.methodLink RX3 108 yX3_perform) ∈ uG := uG_mem (tb_3 (List.mem_of_getElem? (i := 39) (by decide +kernel))) rfl
theorem kw_3_41 : (Cond.instanceMethod yX3_perform) ∈ uG := uG_mem (tb_3 (List.mem_of_getElem? (i := 41) (by decide +kernel))) rfl
theorem kw_3_42 : (Cond.code yX3_perform cX3_perform 4 none) ∈ uG := uG_mem (tb_3 (List.mem_of_getElem? (i := 42) (by decide +kernel))) rfl
theorem kw_3_43 : (Cond.methodLink RX3 142 yX3_push) ∈ uG := uG_mem (tb_3 (List.mem_of_getElem? (i := 43) (by decide +kernel))) rfl
theorem kw_3_45 : (Cond.instanceMethod yX3_push) ∈ uG := uG_mem (tb_3 (List.mem_of_getElem? (i := 45) (by decide +kernel))) rfl
theorem kw_3_46 : (Cond.code yX3_push cX3_push 4 none) ∈ uG := uG_mem (tb_3 (List.mem_of_getElem? (i := 46) (by decide +kernel))) rfl
theorem kw_3_47 : (Cond.methodLink RX3 145 yX3_cellOf) ∈ uG := uG_mem (tb_3 (List.mem_of_getElem? (i := 47) (by decide +kernel))) rfl
theorem kw_3_49 : (Cond.instanceMethod yX3_cellOf) ∈ uG := uG_mem (tb_3 (List.mem_of_getElem? (i := 49) (by decide +kernel))) rfl
theorem kw_3_50 : (Cond.code yX3_cellOf cX3_cellOf 2 (some .int)) ∈ uG := uG_mem (tb_3 (List.mem_of_getElem? (i := 50) (by decide +kernel))) rfl
theorem kw_3_51 : (Cond.methodLink RX3 180 yX3_frameAt) ∈ uG := uG_mem (tb_3 (List.mem_of_getElem? (i := 51) (by decide +kernel))) rfl
theorem kw_3_53 : (Cond.instanceMethod yX3_frameAt) ∈ uG := uG_mem (tb_3 (List.mem_of_getElem? (i := 53) (by decide +kernel))) rfl
theorem kw_3_54 : (Cond.code yX3_frameAt cX3_frameAt 4 (some .int)) ∈ uG := uG_mem (tb_3 (List.mem_of_getElem? (i := 54) (by decide +kernel))) rfl
theorem kw_3_55 : (Cond.methodLink RX3 149 yX3_get) ∈ uG := uG_mem (tb_3 (List.mem_of_getElem? (i := 55) (by decide +kernel))) rfl
theorem kw_3_57 : (Cond.instanceMethod yX3_get) ∈ uG := uG_mem (tb_3 (List.mem_of_getElem? (i := 57) (by decide +kernel))) rfl
theorem kw_3_58 : (Cond.code yX3_get cX3_get 4 none) ∈ uG := uG_mem (tb_3 (List.mem_of_getElem? (i := 58) (by decide +kernel))) rfl
theorem kw_3_59 : (Cond.methodLink RX3 174 yX3_pushCell) ∈ uG := uG_mem (tb_3 (List.mem_of_getElem? (i := 59) (by decide +kernel))) rfl
theorem kw_3_61 : (Cond.instanceMethod yX3_pushCell) ∈ uG := uG_mem (tb_3 (List.mem_of_getElem? (i := 61) (by decide +kernel))) rfl
theorem kw_3_62 : (Cond.code yX3_pushCell cX3_pushCell 2 none) ∈ uG := uG_mem (tb_3 (List.mem_of_getElem? (i := 62) (by decide +kernel))) rfl
theorem kw_3_63 : (Cond.methodLink RX3 152 yX3_pick) ∈ uG := uG_mem (tb_3 (List.mem_of_getElem? (i := 63) (by decide +kernel))) rfl
theorem kw_3_65 : (Cond.instanceMethod yX3_pick) ∈ uG := uG_mem (tb_3 (List.mem_of_getElem? (i := 65) (by decide +kernel))) rfl
theorem kw_3_66 : (Cond.code yX3_pick cX3_pick 6 none) ∈ uG := uG_mem (tb_3 (List.mem_of_getElem? (i := 66) (by decide +kernel))) rfl
theorem kw_3_67 : (Cond.methodLink RX3 189 yX3_pop) ∈ uG := uG_mem (tb_3 (List.mem_of_getElem? (i := 67) (by decide +kernel))) rfl
theorem kw_3_69 : (Cond.instanceMethod yX3_pop) ∈ uG := uG_mem (tb_3 (List.mem_of_getElem? (i := 69) (by decide +kernel))) rfl
theorem kw_3_70 : (Cond.code yX3_pop cX3_pop 2 (some .int)) ∈ uG := uG_mem (tb_3 (List.mem_of_getElem? (i := 70) (by decide +kernel))) rfl
theorem kw_3_71 : (Cond.methodLink RX3 156 yX3_go) ∈ uG := uG_mem (tb_3 (List.mem_of_getElem? (i := 71) (by decide +kernel))) rfl
theorem kw_3_73 : (Cond.instanceMethod yX3_go) ∈ uG := uG_mem (tb_3 (List.mem_of_getElem? (i := 73) (by decide +kernel))) rfl
theorem kw_3_74 : (Cond.code yX3_go cX3_go 4 none) ∈ uG := uG_mem (tb_3 (List.mem_of_getElem? (i := 74) (by decide +kernel))) rfl
theorem kw_3_75 : (Cond.methodLink RX3 159 yX3_goByProc) ∈ uG := uG_mem (tb_3 (List.mem_of_getElem? (i := 75) (by decide +kernel))) rfl
theorem kw_3_77 : (Cond.instanceMethod yX3_goByProc) ∈ uG := uG_mem (tb_3 (List.mem_of_getElem? (i := 77) (by decide +kernel))) rfl
theorem kw_3_78 : (Cond.code yX3_goByProc cX3_goByProc 5 none) ∈ uG := uG_mem (tb_3 (List.mem_of_getElem? (i := 78) (by decide +kernel))) rfl
theorem kw_3_79 : (Cond.methodLink RX3 231 yX1_has) ∈ uG := uG_mem (tb_3 (List.mem_of_getElem? (i := 79) (by decide +kernel))) rfl
theorem kw_3_80 : (Cond.methodLink RX3 258 yX5_argumentsOf) ∈ uG := uG_mem (tb_3 (List.mem_of_getElem? (i := 80) (by decide +kernel))) rfl
theorem kw_3_81 : (Cond.methodLink RX3 162 yX3_refer) ∈ uG := uG_mem (tb_3 (List.mem_of_getElem? (i := 81) (by decide +kernel))) rfl
theorem kw_3_83 : (Cond.instanceMethod yX3_refer) ∈ uG := uG_mem (tb_3 (List.mem_of_getElem? (i := 83) (by decide +kernel))) rfl
theorem kw_3_84 : (Cond.code yX3_refer cX3_refer 4 none) ∈ uG := uG_mem (tb_3 (List.mem_of_getElem? (i := 84) (by decide +kernel))) rfl
theorem kw_3_85 : (Cond.methodLink RX3 165 yX3_later) ∈ uG := uG_mem (tb_3 (List.mem_of_getElem? (i := 85) (by decide +kernel))) rfl
theorem kw_3_87 : (Cond.instanceMethod yX3_later) ∈ uG := uG_mem (tb_3 (List.mem_of_getElem? (i := 87) (by decide +kernel))) rfl
theorem kw_3_88 : (Cond.code yX3_later cX3_later 2 none) ∈ uG := uG_mem (tb_3 (List.mem_of_getElem? (i := 88) (by decide +kernel))) rfl
theorem kw_3_89 : (Cond.methodLink RX3 193 yX3_skip) ∈ uG := uG_mem (tb_3 (List.mem_of_getElem? (i := 89) (by decide +kernel))) rfl
theorem kw_3_91 : (Cond.instanceMethod yX3_skip) ∈ uG := uG_mem (tb_3 (List.mem_of_getElem? (i := 91) (by decide +kernel))) rfl
theorem kw_3_92 : (Cond.code yX3_skip cX3_skip 4 none) ∈ uG := uG_mem (tb_3 (List.mem_of_getElem? (i := 92) (by decide +kernel))) rfl
theorem kw_3_93 : (Cond.methodLink RX3 168 yX3_goBack) ∈ uG := uG_mem (tb_3 (List.mem_of_getElem? (i := 93) (by decide +kernel))) rfl
theorem kw_3_95 : (Cond.instanceMethod yX3_goBack) ∈ uG := uG_mem (tb_3 (List.mem_of_getElem? (i := 95) (by decide +kernel))) rfl
theorem kw_3_96 : (Cond.code yX3_goBack cX3_goBack 2 none) ∈ uG := uG_mem (tb_3 (List.mem_of_getElem? (i := 96) (by decide +kernel))) rfl
theorem kw_3_97 : (Cond.methodLink RX3 171 yX3_copy) ∈ uG := uG_mem (tb_3 (List.mem_of_getElem? (i := 97) (by decide +kernel))) rfl
theorem kw_3_99 : (Cond.instanceMethod yX3_copy) ∈ uG := uG_mem (tb_3 (List.mem_of_getElem? (i := 99) (by decide +kernel))) rfl
theorem kw_3_100 : (Cond.code yX3_copy cX3_copy 6 none) ∈ uG := uG_mem (tb_3 (List.mem_of_getElem? (i := 100) (by decide +kernel))) rfl
theorem kw_3_101 : (Cond.methodLink RX3 183 yX3_put) ∈ uG := uG_mem (tb_3 (List.mem_of_getElem? (i := 101) (by decide +kernel))) rfl
theorem kw_3_103 : (Cond.instanceMethod yX3_put) ∈ uG := uG_mem (tb_3 (List.mem_of_getElem? (i := 103) (by decide +kernel))) rfl
theorem kw_3_104 : (Cond.code yX3_put cX3_put 5 none) ∈ uG := uG_mem (tb_3 (List.mem_of_getElem? (i := 104) (by decide +kernel))) rfl
theorem kw_3_105 : (Cond.methodLink RX3 186 yX3_stow) ∈ uG := uG_mem (tb_3 (List.mem_of_getElem? (i := 105) (by decide +kernel))) rfl
theorem kw_3_107 : (Cond.instanceMethod yX3_stow) ∈ uG := uG_mem (tb_3 (List.mem_of_getElem? (i := 107) (by decide +kernel))) rfl
theorem kw_3_108 : (Cond.code yX3_stow cX3_stow 5 none) ∈ uG := uG_mem (tb_3 (List.mem_of_getElem? (i := 108) (by decide +kernel))) rfl
theorem kw_3_109 : (Cond.methodLink RX3 197 yX3_open) ∈ uG := uG_mem (tb_3 (List.mem_of_getElem? (i := 109) (by decide +kernel))) rfl
theorem kw_3_111 : (Cond.instanceMethod yX3_open) ∈ uG := uG_mem (tb_3 (List.mem_of_getElem? (i := 111) (by decide +kernel))) rfl
theorem kw_3_112 : (Cond.code yX3_open cX3_open 4 none) ∈ uG := uG_mem (tb_3 (List.mem_of_getElem? (i := 112) (by decide +kernel))) rfl
theorem kw_3_113 : (Cond.methodLink RX3 203 yX3_leave) ∈ uG := uG_mem (tb_3 (List.mem_of_getElem? (i := 113) (by decide +kernel))) rfl
theorem kw_3_115 : (Cond.instanceMethod yX3_leave) ∈ uG := uG_mem (tb_3 (List.mem_of_getElem? (i := 115) (by decide +kernel))) rfl
theorem kw_3_116 : (Cond.code yX3_leave cX3_leave 6 none) ∈ uG := uG_mem (tb_3 (List.mem_of_getElem? (i := 116) (by decide +kernel))) rfl
theorem kw_3_117 : (Cond.methodLink RX3 245 yX3_isLoopOf) ∈ uG := uG_mem (tb_3 (List.mem_of_getElem? (i := 117) (by decide +kernel))) rfl
theorem kw_3_119 : (Cond.instanceMethod yX3_isLoopOf) ∈ uG := uG_mem (tb_3 (List.mem_of_getElem? (i := 119) (by decide +kernel))) rfl
theorem kw_3_120 : (Cond.code yX3_isLoopOf cX3_isLoopOf 4 (some .boolean)) ∈ uG := uG_mem (tb_3 (List.mem_of_getElem? (i := 120) (by decide +kernel))) rfl
theorem kw_3_121 : (Cond.methodLink RX3 209 yX6_print) ∈ uG := uG_mem (tb_3 (List.mem_of_getElem? (i := 121) (by decide +kernel))) rfl
theorem kw_3_122 : (Cond.instanceMethod yX6_print) ∈ uG := uG_mem (tb_3 (List.mem_of_getElem? (i := 122) (by decide +kernel))) rfl
theorem kw_3_123 : (Cond.selects RX6 yX6_print yX6_print) ∈ uG := uG_mem (tb_3 (List.mem_of_getElem? (i := 123) (by decide +kernel))) rfl
theorem kw_3_124 : (Cond.code yX6_print cX6_print 3 none) ∈ uG := uG_mem (tb_3 (List.mem_of_getElem? (i := 124) (by decide +kernel))) rfl
theorem kw_3_125 : (Cond.methodLink RX3 212 yX3_reckon) ∈ uG := uG_mem (tb_3 (List.mem_of_getElem? (i := 125) (by decide +kernel))) rfl
theorem kw_3_127 : (Cond.instanceMethod yX3_reckon) ∈ uG := uG_mem (tb_3 (List.mem_of_getElem? (i := 127) (by decide +kernel))) rfl
theorem kw_3_128 : (Cond.code yX3_reckon cX3_reckon 5 none) ∈ uG := uG_mem (tb_3 (List.mem_of_getElem? (i := 128) (by decide +kernel))) rfl
theorem kw_3_129 : (Cond.methodLink RX3 225 yX4_reckon) ∈ uG := uG_mem (tb_3 (List.mem_of_getElem? (i := 129) (by decide +kernel))) rfl
theorem kw_3_130 : (Cond.arrayClass FieldType.int) ∈ uG := uG_mem (tb_3 (List.mem_of_getElem? (i := 130) (by decide +kernel))) rfl
theorem kw_3_131 : (Cond.methodLink RL 43 yX8_ofRun) ∈ uG := uG_mem (tb_3 (List.mem_of_getElem? (i := 131) (by decide +kernel))) rfl
theorem kw_3_132 : (Cond.instanceMethod yX8_ofRun) ∈ uG := uG_mem (tb_3 (List.mem_of_getElem? (i := 132) (by decide +kernel))) rfl
theorem kw_3_133 : (Cond.selects RX8 yX8_ofRun yX8_ofRun) ∈ uG := uG_mem (tb_3 (List.mem_of_getElem? (i := 133) (by decide +kernel))) rfl
theorem kw_3_134 : (Cond.code yX8_ofRun cX8_ofRun 2 (some .int)) ∈ uG := uG_mem (tb_3 (List.mem_of_getElem? (i := 134) (by decide +kernel))) rfl
theorem kw_3_135 : (Cond.methodLink RX8 260 yX6_answer) ∈ uG := uG_mem (tb_3 (List.mem_of_getElem? (i := 135) (by decide +kernel))) rfl
theorem kw_3_136 : (Cond.instanceMethod yX6_answer) ∈ uG := uG_mem (tb_3 (List.mem_of_getElem? (i := 136) (by decide +kernel))) rfl
theorem kw_3_137 : (Cond.selects RX6 yX6_answer yX6_answer) ∈ uG := uG_mem (tb_3 (List.mem_of_getElem? (i := 137) (by decide +kernel))) rfl
theorem kw_3_138 : (Cond.code yX6_answer cX6_answer 2 (some .int)) ∈ uG := uG_mem (tb_3 (List.mem_of_getElem? (i := 138) (by decide +kernel))) rfl
theorem kw_3_139 : (Cond.methodLink RL 51 yX8_printed) ∈ uG := uG_mem (tb_3 (List.mem_of_getElem? (i := 139) (by decide +kernel))) rfl
theorem kw_3_140 : (Cond.instanceMethod yX8_printed) ∈ uG := uG_mem (tb_3 (List.mem_of_getElem? (i := 140) (by decide +kernel))) rfl
theorem kw_3_141 : (Cond.selects RX8 yX8_printed yX8_printed) ∈ uG := uG_mem (tb_3 (List.mem_of_getElem? (i := 141) (by decide +kernel))) rfl
theorem kw_3_142 : (Cond.code yX8_printed cX8_printed 3 (some .int)) ∈ uG := uG_mem (tb_3 (List.mem_of_getElem? (i := 142) (by decide +kernel))) rfl
theorem kw_3_143 : (Cond.methodLink RX8 263 yX6_kept) ∈ uG := uG_mem (tb_3 (List.mem_of_getElem? (i := 143) (by decide +kernel))) rfl
theorem kw_3_144 : (Cond.instanceMethod yX6_kept) ∈ uG := uG_mem (tb_3 (List.mem_of_getElem? (i := 144) (by decide +kernel))) rfl
theorem kw_3_145 : (Cond.selects RX6 yX6_kept yX6_kept) ∈ uG := uG_mem (tb_3 (List.mem_of_getElem? (i := 145) (by decide +kernel))) rfl
theorem kw_3_146 : (Cond.code yX6_kept cX6_kept 1 (some .int)) ∈ uG := uG_mem (tb_3 (List.mem_of_getElem? (i := 146) (by decide +kernel))) rfl
theorem kw_3_147 : (Cond.methodLink RL 26 yX8_many) ∈ uG := uG_mem (tb_3 (List.mem_of_getElem? (i := 147) (by decide +kernel))) rfl
theorem kw_3_148 : (Cond.instanceMethod yX8_many) ∈ uG := uG_mem (tb_3 (List.mem_of_getElem? (i := 148) (by decide +kernel))) rfl
theorem kw_3_149 : (Cond.selects RX8 yX8_many yX8_many) ∈ uG := uG_mem (tb_3 (List.mem_of_getElem? (i := 149) (by decide +kernel))) rfl
theorem kw_3_150 : (Cond.code yX8_many cX8_many 2 (some .int)) ∈ uG := uG_mem (tb_3 (List.mem_of_getElem? (i := 150) (by decide +kernel))) rfl
theorem kw_3_151 : (Cond.methodLink RX8 295 yX8_wholeCodeLength) ∈ uG := uG_mem (tb_3 (List.mem_of_getElem? (i := 151) (by decide +kernel))) rfl
theorem kw_3_153 : (Cond.instanceMethod yX8_wholeCodeLength) ∈ uG := uG_mem (tb_3 (List.mem_of_getElem? (i := 153) (by decide +kernel))) rfl
theorem kw_3_154 : (Cond.code yX8_wholeCodeLength cX8_wholeCodeLength 2 (some .int)) ∈ uG := uG_mem (tb_3 (List.mem_of_getElem? (i := 154) (by decide +kernel))) rfl
theorem kw_3_155 : (Cond.methodLink RL 61 yX8_wouldRun) ∈ uG := uG_mem (tb_3 (List.mem_of_getElem? (i := 155) (by decide +kernel))) rfl
theorem kw_3_156 : (Cond.instanceMethod yX8_wouldRun) ∈ uG := uG_mem (tb_3 (List.mem_of_getElem? (i := 156) (by decide +kernel))) rfl
theorem kw_3_157 : (Cond.selects RX8 yX8_wouldRun yX8_wouldRun) ∈ uG := uG_mem (tb_3 (List.mem_of_getElem? (i := 157) (by decide +kernel))) rfl
theorem kw_3_158 : (Cond.code yX8_wouldRun cX8_wouldRun 4 (some .int)) ∈ uG := uG_mem (tb_3 (List.mem_of_getElem? (i := 158) (by decide +kernel))) rfl
theorem kw_3_159 : (Cond.methodLink RX8 250 yX8_areLimits) ∈ uG := uG_mem (tb_3 (List.mem_of_getElem? (i := 159) (by decide +kernel))) rfl
theorem kw_3_160 : (Cond.static yX8_areLimits) ∈ uG := uG_mem (tb_3 (List.mem_of_getElem? (i := 160) (by decide +kernel))) rfl
theorem kw_3_161 : (Cond.code yX8_areLimits cX8_areLimits 2 (some .boolean)) ∈ uG := uG_mem (tb_3 (List.mem_of_getElem? (i := 161) (by decide +kernel))) rfl
theorem kw_3_162 : (Cond.methodLink RL 71 yX8_with) ∈ uG := uG_mem (tb_3 (List.mem_of_getElem? (i := 162) (by decide +kernel))) rfl
theorem kw_3_163 : (Cond.instanceMethod yX8_with) ∈ uG := uG_mem (tb_3 (List.mem_of_getElem? (i := 163) (by decide +kernel))) rfl
theorem kw_3_164 : (Cond.selects RX8 yX8_with yX8_with) ∈ uG := uG_mem (tb_3 (List.mem_of_getElem? (i := 164) (by decide +kernel))) rfl
theorem kw_3_165 : (Cond.code yX8_with cX8_with 3 (some .int)) ∈ uG := uG_mem (tb_3 (List.mem_of_getElem? (i := 165) (by decide +kernel))) rfl
theorem kw_3_166 : (Cond.methodLink RX8 232 yX8_isPasses) ∈ uG := uG_mem (tb_3 (List.mem_of_getElem? (i := 166) (by decide +kernel))) rfl
theorem kw_3_167 : (Cond.static yX8_isPasses) ∈ uG := uG_mem (tb_3 (List.mem_of_getElem? (i := 167) (by decide +kernel))) rfl
theorem kw_3_168 : (Cond.code yX8_isPasses cX8_isPasses 1 (some .boolean)) ∈ uG := uG_mem (tb_3 (List.mem_of_getElem? (i := 168) (by decide +kernel))) rfl
theorem kw_3_169 : (Cond.methodLink RL 54 yX8_digest) ∈ uG := uG_mem (tb_3 (List.mem_of_getElem? (i := 169) (by decide +kernel))) rfl
theorem kw_3_170 : (Cond.instanceMethod yX8_digest) ∈ uG := uG_mem (tb_3 (List.mem_of_getElem? (i := 170) (by decide +kernel))) rfl
theorem kw_3_171 : (Cond.selects RX8 yX8_digest yX8_digest) ∈ uG := uG_mem (tb_3 (List.mem_of_getElem? (i := 171) (by decide +kernel))) rfl
theorem kw_3_172 : (Cond.code yX8_digest cX8_digest 6 (some .long)) ∈ uG := uG_mem (tb_3 (List.mem_of_getElem? (i := 172) (by decide +kernel))) rfl
theorem kw_3_173 : (Cond.constantLong RX8 307 (58126 : Int64)) ∈ uG := uG_mem (tb_3 (List.mem_of_getElem? (i := 173) (by decide +kernel))) rfl
theorem kw_3_174 : (Cond.constantLong RX8 309 (31 : Int64)) ∈ uG := uG_mem (tb_3 (List.mem_of_getElem? (i := 174) (by decide +kernel))) rfl
theorem kw_3_175 : (Cond.methodLink RX8 311 yX8_many) ∈ uG := uG_mem (tb_3 (List.mem_of_getElem? (i := 175) (by decide +kernel))) rfl
theorem kw_3_176 : (Cond.methodLink RX8 314 yX8_ofProcedure) ∈ uG := uG_mem (tb_3 (List.mem_of_getElem? (i := 176) (by decide +kernel))) rfl
theorem kw_3_177 : (Cond.methodLink RX8 317 yX8_hiddenBy) ∈ uG := uG_mem (tb_3 (List.mem_of_getElem? (i := 177) (by decide +kernel))) rfl
theorem kw_3_178 : (Cond.instanceMethod yX8_hiddenBy) ∈ uG := uG_mem (tb_3 (List.mem_of_getElem? (i := 178) (by decide +kernel))) rfl
theorem kw_3_179 : (Cond.selects RX8 yX8_hiddenBy yX8_hiddenBy) ∈ uG := uG_mem (tb_3 (List.mem_of_getElem? (i := 179) (by decide +kernel))) rfl
theorem kw_3_180 : (Cond.code yX8_hiddenBy cX8_hiddenBy 3 (some .int)) ∈ uG := uG_mem (tb_3 (List.mem_of_getElem? (i := 180) (by decide +kernel))) rfl
theorem kw_3_181 : (Cond.methodLink RX8 91 yX8_isName) ∈ uG := uG_mem (tb_3 (List.mem_of_getElem? (i := 181) (by decide +kernel))) rfl
theorem kw_3_182 : (Cond.static yX8_isName) ∈ uG := uG_mem (tb_3 (List.mem_of_getElem? (i := 182) (by decide +kernel))) rfl
theorem kw_3_183 : (Cond.code yX8_isName cX8_isName 1 (some .boolean)) ∈ uG := uG_mem (tb_3 (List.mem_of_getElem? (i := 183) (by decide +kernel))) rfl
theorem kw_3_184 : (Cond.methodLink RX8 102 yX1_declares) ∈ uG := uG_mem (tb_3 (List.mem_of_getElem? (i := 184) (by decide +kernel))) rfl
theorem kw_3_185 : (Cond.methodLink RX8 304 yX4_reaching) ∈ uG := uG_mem (tb_3 (List.mem_of_getElem? (i := 185) (by decide +kernel))) rfl
theorem kw_3_186 : (Cond.instanceMethod yX4_reaching) ∈ uG := uG_mem (tb_3 (List.mem_of_getElem? (i := 186) (by decide +kernel))) rfl
theorem kw_3_187 : (Cond.selects RX4 yX4_reaching yX4_reaching) ∈ uG := uG_mem (tb_3 (List.mem_of_getElem? (i := 187) (by decide +kernel))) rfl
theorem kw_3_188 : (Cond.code yX4_reaching cX4_reaching 6 (some .int)) ∈ uG := uG_mem (tb_3 (List.mem_of_getElem? (i := 188) (by decide +kernel))) rfl
theorem kw_3_189 : (Cond.methodLink RX8 320 yX8_code) ∈ uG := uG_mem (tb_3 (List.mem_of_getElem? (i := 189) (by decide +kernel))) rfl
theorem kw_3_190 : (Cond.methodLink RX8 323 yX8_ofNode) ∈ uG := uG_mem (tb_3 (List.mem_of_getElem? (i := 190) (by decide +kernel))) rfl
theorem kw_3_191 : (Cond.methodLink RX8 326 yX8_fault) ∈ uG := uG_mem (tb_3 (List.mem_of_getElem? (i := 191) (by decide +kernel))) rfl
theorem kw_3_192 : (Cond.methodLink RX8 329 yX8_ofRun) ∈ uG := uG_mem (tb_3 (List.mem_of_getElem? (i := 192) (by decide +kernel))) rfl
theorem kw_3_193 : (Cond.methodLink RX8 332 yX8_printed) ∈ uG := uG_mem (tb_3 (List.mem_of_getElem? (i := 193) (by decide +kernel))) rfl
theorem kw_3_194 : (Cond.classLink RL 9 RX9) ∈ uG := uG_mem (tb_3 (List.mem_of_getElem? (i := 194) (by decide +kernel))) rfl
theorem kw_3_195 : (Cond.instantiable RX9 14) ∈ uG := uG_mem (tb_3 (List.mem_of_getElem? (i := 195) (by decide +kernel))) rfl
theorem kw_3_196 : (Cond.methodLink RL 11 yX9_init) ∈ uG := uG_mem (tb_3 (List.mem_of_getElem? (i := 196) (by decide +kernel))) rfl
theorem kw_3_197 : (Cond.instanceMethod yX9_init) ∈ uG := uG_mem (tb_3 (List.mem_of_getElem? (i := 197) (by decide +kernel))) rfl
theorem kw_3_198 : (Cond.code yX9_init cX9_init 3 none) ∈ uG := uG_mem (tb_3 (List.mem_of_getElem? (i := 198) (by decide +kernel))) rfl
theorem kw_3_199 : (Cond.methodLink RX9 1 ⟨"java/lang/Object", "<init>", "()V"⟩) ∈ uG := uG_mem (tb_3 (List.mem_of_getElem? (i := 199) (by decide +kernel))) rfl
theorem kw_3_200 : (Cond.classLink RX9 7 RX8) ∈ uG := uG_mem (tb_3 (List.mem_of_getElem? (i := 200) (by decide +kernel))) rfl
theorem kw_3_201 : (Cond.methodLink RX9 9 yX8_init) ∈ uG := uG_mem (tb_3 (List.mem_of_getElem? (i := 201) (by decide +kernel))) rfl
theorem kw_3_202 : (Cond.instanceMethod yX8_init) ∈ uG := uG_mem (tb_3 (List.mem_of_getElem? (i := 202) (by decide +kernel))) rfl
theorem kw_3_203 : (Cond.code yX8_init cX8_init 1 none) ∈ uG := uG_mem (tb_3 (List.mem_of_getElem? (i := 203) (by decide +kernel))) rfl
theorem kw_3_204 : (Cond.methodLink RX8 3 ⟨"java/lang/Object", "<init>", "()V"⟩) ∈ uG := uG_mem (tb_3 (List.mem_of_getElem? (i := 204) (by decide +kernel))) rfl
theorem kw_3_205 : (Cond.classLink RX8 9 RX1) ∈ uG := uG_mem (tb_3 (List.mem_of_getElem? (i := 205) (by decide +kernel))) rfl
theorem kw_3_206 : (Cond.instantiable RX1 12) ∈ uG := uG_mem (tb_3 (List.mem_of_getElem? (i := 206) (by decide +kernel))) rfl
theorem kw_3_207 : (Cond.methodLink RX8 11 yX1_init) ∈ uG := uG_mem (tb_3 (List.mem_of_getElem? (i := 207) (by decide +kernel))) rfl
theorem kw_3_208 : (Cond.instanceMethod yX1_init) ∈ uG := uG_mem (tb_3 (List.mem_of_getElem? (i := 208) (by decide +kernel))) rfl
theorem kw_3_209 : (Cond.code yX1_init cX1_init 1 none) ∈ uG := uG_mem (tb_3 (List.mem_of_getElem? (i := 209) (by decide +kernel))) rfl
theorem kw_3_210 : (Cond.methodLink RX1 3 ⟨"java/lang/Object", "<init>", "()V"⟩) ∈ uG := uG_mem (tb_3 (List.mem_of_getElem? (i := 210) (by decide +kernel))) rfl
theorem kw_3_211 : (Cond.methodLink RX1 49 yJ7_fill_53178) ∈ uG := uG_mem (tb_3 (List.mem_of_getElem? (i := 211) (by decide +kernel))) rfl
theorem kw_3_212 : (Cond.fieldLink RX1 9 "StaticLink$Declarations" "count" "I") ∈ uG := uG_mem (tb_3 (List.mem_of_getElem? (i := 212) (by decide +kernel))) rfl
theorem kw_3_213 : (Cond.fieldLink RX2 43 "StaticLink$Declarations" "count" "I") ∈ uG := uG_mem (tb_3 (List.mem_of_getElem? (i := 213) (by decide +kernel))) rfl
theorem kw_3_214 : (Cond.fieldLink RX0 129 "StaticLink$Declarations" "count" "I") ∈ uG := uG_mem (tb_3 (List.mem_of_getElem? (i := 214) (by decide +kernel))) rfl
theorem kw_3_215 : (Cond.fieldLink RX8 99 "StaticLink$Declarations" "count" "I") ∈ uG := uG_mem (tb_3 (List.mem_of_getElem? (i := 215) (by decide +kernel))) rfl
theorem kw_3_216 : (Cond.fieldLink RX4 191 "StaticLink$Declarations" "count" "I") ∈ uG := uG_mem (tb_3 (List.mem_of_getElem? (i := 216) (by decide +kernel))) rfl
theorem kw_3_217 : (Cond.fieldLink RX1 15 "StaticLink$Declarations" "parent" "[I") ∈ uG := uG_mem (tb_3 (List.mem_of_getElem? (i := 217) (by decide +kernel))) rfl
theorem kw_3_218 : (Cond.fieldLink RX8 149 "StaticLink$Declarations" "parent" "[I") ∈ uG := uG_mem (tb_3 (List.mem_of_getElem? (i := 218) (by decide +kernel))) rfl
theorem kw_3_219 : (Cond.fieldLink RX4 173 "StaticLink$Declarations" "parent" "[I") ∈ uG := uG_mem (tb_3 (List.mem_of_getElem? (i := 219) (by decide +kernel))) rfl
theorem kw_3_220 : (Cond.fieldLink RX1 19 "StaticLink$Declarations" "called" "[I") ∈ uG := uG_mem (tb_3 (List.mem_of_getElem? (i := 220) (by decide +kernel))) rfl
theorem kw_3_221 : (Cond.fieldLink RX8 152 "StaticLink$Declarations" "called" "[I") ∈ uG := uG_mem (tb_3 (List.mem_of_getElem? (i := 221) (by decide +kernel))) rfl
theorem kw_3_222 : (Cond.fieldLink RX1 22 "StaticLink$Declarations" "parameters" "[I") ∈ uG := uG_mem (tb_3 (List.mem_of_getElem? (i := 222) (by decide +kernel))) rfl
theorem kw_3_223 : (Cond.fieldLink RX8 155 "StaticLink$Declarations" "parameters" "[I") ∈ uG := uG_mem (tb_3 (List.mem_of_getElem? (i := 223) (by decide +kernel))) rfl
theorem kw_3_224 : (Cond.fieldLink RX2 108 "StaticLink$Declarations" "parameters" "[I") ∈ uG := uG_mem (tb_3 (List.mem_of_getElem? (i := 224) (by decide +kernel))) rfl
theorem kw_3_225 : (Cond.fieldLink RX4 185 "StaticLink$Declarations" "parameters" "[I") ∈ uG := uG_mem (tb_3 (List.mem_of_getElem? (i := 225) (by decide +kernel))) rfl
theorem kw_3_226 : (Cond.fieldLink RX3 261 "StaticLink$Declarations" "parameters" "[I") ∈ uG := uG_mem (tb_3 (List.mem_of_getElem? (i := 226) (by decide +kernel))) rfl
theorem kw_3_227 : (Cond.fieldLink RX1 25 "StaticLink$Declarations" "variables" "[I") ∈ uG := uG_mem (tb_3 (List.mem_of_getElem? (i := 227) (by decide +kernel))) rfl
theorem kw_3_228 : (Cond.fieldLink RX8 158 "StaticLink$Declarations" "variables" "[I") ∈ uG := uG_mem (tb_3 (List.mem_of_getElem? (i := 228) (by decide +kernel))) rfl
theorem kw_3_229 : (Cond.fieldLink RX1 28 "StaticLink$Declarations" "places" "[I") ∈ uG := uG_mem (tb_3 (List.mem_of_getElem? (i := 229) (by decide +kernel))) rfl
theorem kw_3_230 : (Cond.fieldLink RX3 281 "StaticLink$Declarations" "places" "[I") ∈ uG := uG_mem (tb_3 (List.mem_of_getElem? (i := 230) (by decide +kernel))) rfl
theorem kw_3_231 : (Cond.fieldLink RX1 31 "StaticLink$Declarations" "bodyNode" "[I") ∈ uG := uG_mem (tb_3 (List.mem_of_getElem? (i := 231) (by decide +kernel))) rfl
theorem kw_3_232 : (Cond.fieldLink RX2 46 "StaticLink$Declarations" "bodyNode" "[I") ∈ uG := uG_mem (tb_3 (List.mem_of_getElem? (i := 232) (by decide +kernel))) rfl
theorem kw_3_233 : (Cond.fieldLink RX8 168 "StaticLink$Declarations" "bodyNode" "[I") ∈ uG := uG_mem (tb_3 (List.mem_of_getElem? (i := 233) (by decide +kernel))) rfl
theorem kw_3_234 : (Cond.fieldLink RX0 132 "StaticLink$Declarations" "bodyNode" "[I") ∈ uG := uG_mem (tb_3 (List.mem_of_getElem? (i := 234) (by decide +kernel))) rfl
theorem kw_3_235 : (Cond.fieldLink RX1 34 "StaticLink$Declarations" "what" "[I") ∈ uG := uG_mem (tb_3 (List.mem_of_getElem? (i := 235) (by decide +kernel))) rfl
theorem kw_3_236 : (Cond.fieldLink RX4 135 "StaticLink$Declarations" "what" "[I") ∈ uG := uG_mem (tb_3 (List.mem_of_getElem? (i := 236) (by decide +kernel))) rfl
end XW1
