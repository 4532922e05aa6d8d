section XW2
theorem kw_4_17 : (Cond.selects "java/lang/IllegalArgumentException" ⟨"java/lang/Throwable", "fillInStackTrace", "()Ljava/lang/Throwable;"⟩ ⟨"java/lang/Throwable", "fillInStackTrace", "()Ljava/lang/Throwable;"⟩) ∈ uG := uG_mem (tb_4 (List.mem_of_getElem? (i := 17) (by decide +kernel))) rfl
theorem kw_4_18 : (Cond.lays "java/lang/IllegalArgumentException" "java/lang/Throwable" "cause" "Ljava/lang/Throwable;") ∈ uG := uG_mem (tb_4 (List.mem_of_getElem? (i := 18) (by decide +kernel))) rfl
theorem kw_4_19 : (Cond.lays "java/lang/Throwable" "java/lang/Throwable" "cause" "Ljava/lang/Throwable;") ∈ uG := uG_mem (tb_4 (List.mem_of_getElem? (i := 19) (by decide +kernel))) rfl
theorem kw_4_20 : (Cond.lays "java/lang/IllegalArgumentException" "java/lang/Throwable" "stackTrace" "[Ljava/lang/StackTraceElement;") ∈ uG := uG_mem (tb_4 (List.mem_of_getElem? (i := 20) (by decide +kernel))) rfl
theorem kw_4_21 : (Cond.lays "java/lang/Throwable" "java/lang/Throwable" "stackTrace" "[Ljava/lang/StackTraceElement;") ∈ uG := uG_mem (tb_4 (List.mem_of_getElem? (i := 21) (by decide +kernel))) rfl
theorem kw_4_22 : (Cond.lays "java/lang/IllegalArgumentException" "java/lang/Throwable" "suppressedExceptions" "Ljava/util/List;") ∈ uG := uG_mem (tb_4 (List.mem_of_getElem? (i := 22) (by decide +kernel))) rfl
theorem kw_4_23 : (Cond.lays "java/lang/Throwable" "java/lang/Throwable" "suppressedExceptions" "Ljava/util/List;") ∈ uG := uG_mem (tb_4 (List.mem_of_getElem? (i := 23) (by decide +kernel))) rfl
theorem kw_4_24 : (Cond.lays "java/lang/IllegalArgumentException" "java/lang/Throwable" "detailMessage" "Ljava/lang/String;") ∈ uG := uG_mem (tb_4 (List.mem_of_getElem? (i := 24) (by decide +kernel))) rfl
theorem kw_4_25 : (Cond.lays "java/lang/Throwable" "java/lang/Throwable" "detailMessage" "Ljava/lang/String;") ∈ uG := uG_mem (tb_4 (List.mem_of_getElem? (i := 25) (by decide +kernel))) rfl
theorem kw_4_26 : (Cond.lays "java/lang/IllegalArgumentException" "java/lang/Throwable" "backtrace" "Ljava/lang/Object;") ∈ uG := uG_mem (tb_4 (List.mem_of_getElem? (i := 26) (by decide +kernel))) rfl
theorem kw_4_27 : (Cond.lays "java/lang/Throwable" "java/lang/Throwable" "backtrace" "Ljava/lang/Object;") ∈ uG := uG_mem (tb_4 (List.mem_of_getElem? (i := 27) (by decide +kernel))) rfl
theorem kw_4_61 : (Cond.fieldLink "java/lang/Throwable" 198 "java/lang/Throwable" "backtrace" "Ljava/lang/Object;") ∈ uG := uG_mem (tb_4 (List.mem_of_getElem? (i := 61) (by decide +kernel))) rfl
theorem kw_4_30 : (Cond.instanceMethod ⟨"java/lang/Throwable", "<init>", "()V"⟩) ∈ uG := uG_mem (tb_4 (List.mem_of_getElem? (i := 30) (by decide +kernel))) rfl
theorem kw_4_31 : (Cond.code ⟨"java/lang/Throwable", "<init>", "()V"⟩ prog_22_method_1_code 1 none) ∈ uG := uG_mem (tb_4 (List.mem_of_getElem? (i := 31) (by decide +kernel))) rfl
theorem kw_4_32 : (Cond.methodLink "java/lang/Throwable" 1 ⟨"java/lang/Object", "<init>", "()V"⟩) ∈ uG := uG_mem (tb_4 (List.mem_of_getElem? (i := 32) (by decide +kernel))) rfl
theorem kw_4_33 : (Cond.fieldLink "java/lang/Throwable" 13 "java/lang/Throwable" "UNASSIGNED_STACK" "[Ljava/lang/StackTraceElement;") ∈ uG := uG_mem (tb_4 (List.mem_of_getElem? (i := 33) (by decide +kernel))) rfl
theorem kw_4_35 : (Cond.fieldLink "java/lang/Throwable" 20 "java/lang/Throwable" "SUPPRESSED_SENTINEL" "Ljava/util/List;") ∈ uG := uG_mem (tb_4 (List.mem_of_getElem? (i := 35) (by decide +kernel))) rfl
theorem kw_4_37 : (Cond.methodLink "java/lang/Throwable" 27 ⟨"java/lang/Throwable", "fillInStackTrace", "()Ljava/lang/Throwable;"⟩) ∈ uG := uG_mem (tb_4 (List.mem_of_getElem? (i := 37) (by decide +kernel))) rfl
theorem kw_4_38 : (Cond.instanceMethod ⟨"java/lang/Throwable", "fillInStackTrace", "()Ljava/lang/Throwable;"⟩) ∈ uG := uG_mem (tb_4 (List.mem_of_getElem? (i := 38) (by decide +kernel))) rfl
theorem kw_4_40 : (Cond.selects "java/lang/IllegalStateException" ⟨"java/lang/Throwable", "fillInStackTrace", "()Ljava/lang/Throwable;"⟩ ⟨"java/lang/Throwable", "fillInStackTrace", "()Ljava/lang/Throwable;"⟩) ∈ uG := uG_mem (tb_4 (List.mem_of_getElem? (i := 40) (by decide +kernel))) rfl
theorem kw_4_41 : (Cond.selects "java/lang/IndexOutOfBoundsException" ⟨"java/lang/Throwable", "fillInStackTrace", "()Ljava/lang/Throwable;"⟩ ⟨"java/lang/Throwable", "fillInStackTrace", "()Ljava/lang/Throwable;"⟩) ∈ uG := uG_mem (tb_4 (List.mem_of_getElem? (i := 41) (by decide +kernel))) rfl
theorem kw_4_43 : (Cond.methodLink "java/lang/Throwable" 202 ⟨"java/lang/Throwable", "fillInStackTrace", "(I)Ljava/lang/Throwable;"⟩) ∈ uG := uG_mem (tb_4 (List.mem_of_getElem? (i := 43) (by decide +kernel))) rfl
theorem kw_4_45 : (Cond.instanceMethod ⟨"java/lang/Throwable", "fillInStackTrace", "(I)Ljava/lang/Throwable;"⟩) ∈ uG := uG_mem (tb_4 (List.mem_of_getElem? (i := 45) (by decide +kernel))) rfl
theorem kw_4_46 : (Cond.instantiable "java/lang/Throwable" 6) ∈ uG := uG_mem (tb_4 (List.mem_of_getElem? (i := 46) (by decide +kernel))) rfl
theorem kw_4_49 : (Cond.methodLink RX8 370 ⟨"java/lang/IllegalArgumentException", "<init>", "(Ljava/lang/String;)V"⟩) ∈ uG := uG_mem (tb_4 (List.mem_of_getElem? (i := 49) (by decide +kernel))) rfl
theorem kw_4_50 : (Cond.instanceMethod ⟨"java/lang/IllegalArgumentException", "<init>", "(Ljava/lang/String;)V"⟩) ∈ uG := uG_mem (tb_4 (List.mem_of_getElem? (i := 50) (by decide +kernel))) rfl
theorem kw_4_51 : (Cond.code ⟨"java/lang/IllegalArgumentException", "<init>", "(Ljava/lang/String;)V"⟩ prog_14_method_2_code 2 none) ∈ uG := uG_mem (tb_4 (List.mem_of_getElem? (i := 51) (by decide +kernel))) rfl
theorem kw_4_52 : (Cond.methodLink "java/lang/IllegalArgumentException" 7 ⟨"java/lang/RuntimeException", "<init>", "(Ljava/lang/String;)V"⟩) ∈ uG := uG_mem (tb_4 (List.mem_of_getElem? (i := 52) (by decide +kernel))) rfl
theorem kw_4_53 : (Cond.instanceMethod ⟨"java/lang/RuntimeException", "<init>", "(Ljava/lang/String;)V"⟩) ∈ uG := uG_mem (tb_4 (List.mem_of_getElem? (i := 53) (by decide +kernel))) rfl
theorem kw_4_54 : (Cond.code ⟨"java/lang/RuntimeException", "<init>", "(Ljava/lang/String;)V"⟩ prog_19_method_2_code 2 none) ∈ uG := uG_mem (tb_4 (List.mem_of_getElem? (i := 54) (by decide +kernel))) rfl
theorem kw_4_55 : (Cond.methodLink "java/lang/RuntimeException" 7 ⟨"java/lang/Exception", "<init>", "(Ljava/lang/String;)V"⟩) ∈ uG := uG_mem (tb_4 (List.mem_of_getElem? (i := 55) (by decide +kernel))) rfl
theorem kw_4_56 : (Cond.instanceMethod ⟨"java/lang/Exception", "<init>", "(Ljava/lang/String;)V"⟩) ∈ uG := uG_mem (tb_4 (List.mem_of_getElem? (i := 56) (by decide +kernel))) rfl
theorem kw_4_57 : (Cond.code ⟨"java/lang/Exception", "<init>", "(Ljava/lang/String;)V"⟩ prog_13_method_2_code 2 none) ∈ uG := uG_mem (tb_4 (List.mem_of_getElem? (i := 57) (by decide +kernel))) rfl
theorem kw_4_58 : (Cond.methodLink "java/lang/Exception" 7 ⟨"java/lang/Throwable", "<init>", "(Ljava/lang/String;)V"⟩) ∈ uG := uG_mem (tb_4 (List.mem_of_getElem? (i := 58) (by decide +kernel))) rfl
theorem kw_4_59 : (Cond.instanceMethod ⟨"java/lang/Throwable", "<init>", "(Ljava/lang/String;)V"⟩) ∈ uG := uG_mem (tb_4 (List.mem_of_getElem? (i := 59) (by decide +kernel))) rfl
theorem kw_4_60 : (Cond.code ⟨"java/lang/Throwable", "<init>", "(Ljava/lang/String;)V"⟩ prog_22_method_2_code 2 none) ∈ uG := uG_mem (tb_4 (List.mem_of_getElem? (i := 60) (by decide +kernel))) rfl
theorem kw_4_62 : (Cond.fieldLink "java/lang/Throwable" 31 "java/lang/Throwable" "detailMessage" "Ljava/lang/String;") ∈ uG := uG_mem (tb_4 (List.mem_of_getElem? (i := 62) (by decide +kernel))) rfl
theorem kw_4_63 : (Cond.fieldLink "java/lang/Throwable" 7 "java/lang/Throwable" "cause" "Ljava/lang/Throwable;") ∈ uG := uG_mem (tb_4 (List.mem_of_getElem? (i := 63) (by decide +kernel))) rfl
theorem kw_4_64 : (Cond.fieldLink "java/lang/Throwable" 17 "java/lang/Throwable" "stackTrace" "[Ljava/lang/StackTraceElement;") ∈ uG := uG_mem (tb_4 (List.mem_of_getElem? (i := 64) (by decide +kernel))) rfl
theorem kw_4_65 : (Cond.fieldLink "java/lang/Throwable" 24 "java/lang/Throwable" "suppressedExceptions" "Ljava/util/List;") ∈ uG := uG_mem (tb_4 (List.mem_of_getElem? (i := 65) (by decide +kernel))) rfl
theorem kw_4_70 : (Cond.lays "java/lang/IllegalArgumentException" "java/lang/Throwable" "depth" "I") ∈ uG := uG_mem (tb_4 (List.mem_of_getElem? (i := 70) (by decide +kernel))) rfl
theorem kw_4_74 : (Cond.arrayClass FieldType.byte) ∈ uG := uG_mem (tb_4 (List.mem_of_getElem? (i := 74) (by decide +kernel))) rfl
theorem kw_4_75 : (Cond.methodLink RX8 295 yX8_wholeCodeLength) ∈ uG := uG_mem (tb_4 (List.mem_of_getElem? (i := 75) (by decide +kernel))) rfl
theorem kw_4_77 : (Cond.instanceMethod yX8_wholeCodeLength) ∈ uG := uG_mem (tb_4 (List.mem_of_getElem? (i := 77) (by decide +kernel))) rfl
theorem kw_4_78 : (Cond.code yX8_wholeCodeLength cX8_wholeCodeLength 2 (some .int)) ∈ uG := uG_mem (tb_4 (List.mem_of_getElem? (i := 78) (by decide +kernel))) rfl
theorem kw_4_79 : (Cond.methodLink RX8 342 yX0_layOut) ∈ uG := uG_mem (tb_4 (List.mem_of_getElem? (i := 79) (by decide +kernel))) rfl
theorem kw_4_80 : (Cond.instanceMethod yX0_layOut) ∈ uG := uG_mem (tb_4 (List.mem_of_getElem? (i := 80) (by decide +kernel))) rfl
theorem kw_4_81 : (Cond.selects RX0 yX0_layOut yX0_layOut) ∈ uG := uG_mem (tb_4 (List.mem_of_getElem? (i := 81) (by decide +kernel))) rfl
theorem kw_4_82 : (Cond.code yX0_layOut cX0_layOut 3 none) ∈ uG := uG_mem (tb_4 (List.mem_of_getElem? (i := 82) (by decide +kernel))) rfl
theorem kw_4_83 : (Cond.methodLink RX0 73 yX0_isPushed) ∈ uG := uG_mem (tb_4 (List.mem_of_getElem? (i := 83) (by decide +kernel))) rfl
theorem kw_4_85 : (Cond.instanceMethod yX0_isPushed) ∈ uG := uG_mem (tb_4 (List.mem_of_getElem? (i := 85) (by decide +kernel))) rfl
theorem kw_4_86 : (Cond.code yX0_isPushed cX0_isPushed 2 (some .boolean)) ∈ uG := uG_mem (tb_4 (List.mem_of_getElem? (i := 86) (by decide +kernel))) rfl
theorem kw_4_87 : (Cond.methodLink RX0 77 yX5_partA) ∈ uG := uG_mem (tb_4 (List.mem_of_getElem? (i := 87) (by decide +kernel))) rfl
theorem kw_4_88 : (Cond.methodLink RX0 81 yX0_lengthOfPart) ∈ uG := uG_mem (tb_4 (List.mem_of_getElem? (i := 88) (by decide +kernel))) rfl
theorem kw_4_90 : (Cond.instanceMethod yX0_lengthOfPart) ∈ uG := uG_mem (tb_4 (List.mem_of_getElem? (i := 90) (by decide +kernel))) rfl
theorem kw_4_91 : (Cond.code yX0_lengthOfPart cX0_lengthOfPart 2 (some .int)) ∈ uG := uG_mem (tb_4 (List.mem_of_getElem? (i := 91) (by decide +kernel))) rfl
theorem kw_4_92 : (Cond.methodLink RX0 84 yX5_partB) ∈ uG := uG_mem (tb_4 (List.mem_of_getElem? (i := 92) (by decide +kernel))) rfl
theorem kw_4_93 : (Cond.methodLink RX0 87 yX5_partC) ∈ uG := uG_mem (tb_4 (List.mem_of_getElem? (i := 93) (by decide +kernel))) rfl
theorem kw_4_94 : (Cond.methodLink RX0 90 yX0_ownLength) ∈ uG := uG_mem (tb_4 (List.mem_of_getElem? (i := 94) (by decide +kernel))) rfl
theorem kw_4_96 : (Cond.instanceMethod yX0_ownLength) ∈ uG := uG_mem (tb_4 (List.mem_of_getElem? (i := 96) (by decide +kernel))) rfl
theorem kw_4_97 : (Cond.code yX0_ownLength cX0_ownLength 2 (some .int)) ∈ uG := uG_mem (tb_4 (List.mem_of_getElem? (i := 97) (by decide +kernel))) rfl
theorem kw_4_98 : (Cond.methodLink RX0 126 yX0_isJump) ∈ uG := uG_mem (tb_4 (List.mem_of_getElem? (i := 98) (by decide +kernel))) rfl
theorem kw_4_100 : (Cond.instanceMethod yX0_isJump) ∈ uG := uG_mem (tb_4 (List.mem_of_getElem? (i := 100) (by decide +kernel))) rfl
theorem kw_4_101 : (Cond.code yX0_isJump cX0_isJump 2 (some .boolean)) ∈ uG := uG_mem (tb_4 (List.mem_of_getElem? (i := 101) (by decide +kernel))) rfl
theorem kw_4_102 : (Cond.methodLink RX0 93 yX0_placeProcedures) ∈ uG := uG_mem (tb_4 (List.mem_of_getElem? (i := 102) (by decide +kernel))) rfl
theorem kw_4_104 : (Cond.instanceMethod yX0_placeProcedures) ∈ uG := uG_mem (tb_4 (List.mem_of_getElem? (i := 104) (by decide +kernel))) rfl
theorem kw_4_105 : (Cond.code yX0_placeProcedures cX0_placeProcedures 4 none) ∈ uG := uG_mem (tb_4 (List.mem_of_getElem? (i := 105) (by decide +kernel))) rfl
theorem kw_4_106 : (Cond.methodLink RX0 135 yX0_clear) ∈ uG := uG_mem (tb_4 (List.mem_of_getElem? (i := 106) (by decide +kernel))) rfl
theorem kw_4_108 : (Cond.instanceMethod yX0_clear) ∈ uG := uG_mem (tb_4 (List.mem_of_getElem? (i := 108) (by decide +kernel))) rfl
theorem kw_4_109 : (Cond.code yX0_clear cX0_clear 4 none) ∈ uG := uG_mem (tb_4 (List.mem_of_getElem? (i := 109) (by decide +kernel))) rfl
theorem kw_4_110 : (Cond.methodLink RX0 139 yX0_put) ∈ uG := uG_mem (tb_4 (List.mem_of_getElem? (i := 110) (by decide +kernel))) rfl
theorem kw_4_112 : (Cond.instanceMethod yX0_put) ∈ uG := uG_mem (tb_4 (List.mem_of_getElem? (i := 112) (by decide +kernel))) rfl
theorem kw_4_113 : (Cond.code yX0_put cX0_put 6 none) ∈ uG := uG_mem (tb_4 (List.mem_of_getElem? (i := 113) (by decide +kernel))) rfl
theorem kw_4_114 : (Cond.methodLink RX0 101 yX0_placeParts) ∈ uG := uG_mem (tb_4 (List.mem_of_getElem? (i := 114) (by decide +kernel))) rfl
theorem kw_4_116 : (Cond.instanceMethod yX0_placeParts) ∈ uG := uG_mem (tb_4 (List.mem_of_getElem? (i := 116) (by decide +kernel))) rfl
theorem kw_4_117 : (Cond.code yX0_placeParts cX0_placeParts 8 none) ∈ uG := uG_mem (tb_4 (List.mem_of_getElem? (i := 117) (by decide +kernel))) rfl
theorem kw_4_118 : (Cond.methodLink RX0 143 yX0_swallow) ∈ uG := uG_mem (tb_4 (List.mem_of_getElem? (i := 118) (by decide +kernel))) rfl
theorem kw_4_120 : (Cond.instanceMethod yX0_swallow) ∈ uG := uG_mem (tb_4 (List.mem_of_getElem? (i := 120) (by decide +kernel))) rfl
theorem kw_4_121 : (Cond.code yX0_swallow cX0_swallow 3 none) ∈ uG := uG_mem (tb_4 (List.mem_of_getElem? (i := 121) (by decide +kernel))) rfl
theorem kw_4_122 : (Cond.methodLink RX0 146 yX0_place) ∈ uG := uG_mem (tb_4 (List.mem_of_getElem? (i := 122) (by decide +kernel))) rfl
theorem kw_4_124 : (Cond.instanceMethod yX0_place) ∈ uG := uG_mem (tb_4 (List.mem_of_getElem? (i := 124) (by decide +kernel))) rfl
theorem kw_4_125 : (Cond.code yX0_place cX0_place 3 none) ∈ uG := uG_mem (tb_4 (List.mem_of_getElem? (i := 125) (by decide +kernel))) rfl
theorem kw_4_126 : (Cond.methodLink RX0 105 yX0_noteBegin) ∈ uG := uG_mem (tb_4 (List.mem_of_getElem? (i := 126) (by decide +kernel))) rfl
theorem kw_4_128 : (Cond.instanceMethod yX0_noteBegin) ∈ uG := uG_mem (tb_4 (List.mem_of_getElem? (i := 128) (by decide +kernel))) rfl
theorem kw_4_129 : (Cond.code yX0_noteBegin cX0_noteBegin 3 none) ∈ uG := uG_mem (tb_4 (List.mem_of_getElem? (i := 129) (by decide +kernel))) rfl
theorem kw_4_130 : (Cond.methodLink RX0 108 yX0_write) ∈ uG := uG_mem (tb_4 (List.mem_of_getElem? (i := 130) (by decide +kernel))) rfl
theorem kw_4_132 : (Cond.instanceMethod yX0_write) ∈ uG := uG_mem (tb_4 (List.mem_of_getElem? (i := 132) (by decide +kernel))) rfl
theorem kw_4_133 : (Cond.code yX0_write cX0_write 4 none) ∈ uG := uG_mem (tb_4 (List.mem_of_getElem? (i := 133) (by decide +kernel))) rfl
theorem kw_4_134 : (Cond.methodLink RX0 158 yX0_writeExpression) ∈ uG := uG_mem (tb_4 (List.mem_of_getElem? (i := 134) (by decide +kernel))) rfl
theorem kw_4_136 : (Cond.instanceMethod yX0_writeExpression) ∈ uG := uG_mem (tb_4 (List.mem_of_getElem? (i := 136) (by decide +kernel))) rfl
theorem kw_4_137 : (Cond.code yX0_writeExpression cX0_writeExpression 5 none) ∈ uG := uG_mem (tb_4 (List.mem_of_getElem? (i := 137) (by decide +kernel))) rfl
theorem kw_4_138 : (Cond.methodLink RX0 168 yX4_modeOfPart) ∈ uG := uG_mem (tb_4 (List.mem_of_getElem? (i := 138) (by decide +kernel))) rfl
theorem kw_4_139 : (Cond.instanceMethod yX4_modeOfPart) ∈ uG := uG_mem (tb_4 (List.mem_of_getElem? (i := 139) (by decide +kernel))) rfl
theorem kw_4_140 : (Cond.selects RX4 yX4_modeOfPart yX4_modeOfPart) ∈ uG := uG_mem (tb_4 (List.mem_of_getElem? (i := 140) (by decide +kernel))) rfl
theorem kw_4_141 : (Cond.code yX4_modeOfPart cX4_modeOfPart 3 (some .int)) ∈ uG := uG_mem (tb_4 (List.mem_of_getElem? (i := 141) (by decide +kernel))) rfl
theorem kw_4_142 : (Cond.methodLink RX0 174 yX0_putNamed) ∈ uG := uG_mem (tb_4 (List.mem_of_getElem? (i := 142) (by decide +kernel))) rfl
theorem kw_4_144 : (Cond.instanceMethod yX0_putNamed) ∈ uG := uG_mem (tb_4 (List.mem_of_getElem? (i := 144) (by decide +kernel))) rfl
theorem kw_4_145 : (Cond.code yX0_putNamed cX0_putNamed 4 none) ∈ uG := uG_mem (tb_4 (List.mem_of_getElem? (i := 145) (by decide +kernel))) rfl
theorem kw_4_146 : (Cond.methodLink RX0 162 yX0_writeCall) ∈ uG := uG_mem (tb_4 (List.mem_of_getElem? (i := 146) (by decide +kernel))) rfl
theorem kw_4_148 : (Cond.instanceMethod yX0_writeCall) ∈ uG := uG_mem (tb_4 (List.mem_of_getElem? (i := 148) (by decide +kernel))) rfl
theorem kw_4_149 : (Cond.code yX0_writeCall cX0_writeCall 6 none) ∈ uG := uG_mem (tb_4 (List.mem_of_getElem? (i := 149) (by decide +kernel))) rfl
theorem kw_4_150 : (Cond.methodLink RX0 165 yX0_writeStatement) ∈ uG := uG_mem (tb_4 (List.mem_of_getElem? (i := 150) (by decide +kernel))) rfl
theorem kw_4_152 : (Cond.instanceMethod yX0_writeStatement) ∈ uG := uG_mem (tb_4 (List.mem_of_getElem? (i := 152) (by decide +kernel))) rfl
theorem kw_4_153 : (Cond.code yX0_writeStatement cX0_writeStatement 4 none) ∈ uG := uG_mem (tb_4 (List.mem_of_getElem? (i := 153) (by decide +kernel))) rfl
theorem kw_4_154 : (Cond.methodLink RX0 183 yX0_writeIf) ∈ uG := uG_mem (tb_4 (List.mem_of_getElem? (i := 154) (by decide +kernel))) rfl
theorem kw_4_156 : (Cond.instanceMethod yX0_writeIf) ∈ uG := uG_mem (tb_4 (List.mem_of_getElem? (i := 156) (by decide +kernel))) rfl
theorem kw_4_157 : (Cond.code yX0_writeIf cX0_writeIf 5 none) ∈ uG := uG_mem (tb_4 (List.mem_of_getElem? (i := 157) (by decide +kernel))) rfl
theorem kw_4_158 : (Cond.methodLink RX0 186 yX0_writeLoop) ∈ uG := uG_mem (tb_4 (List.mem_of_getElem? (i := 158) (by decide +kernel))) rfl
theorem kw_4_160 : (Cond.instanceMethod yX0_writeLoop) ∈ uG := uG_mem (tb_4 (List.mem_of_getElem? (i := 160) (by decide +kernel))) rfl
theorem kw_4_161 : (Cond.code yX0_writeLoop cX0_writeLoop 4 none) ∈ uG := uG_mem (tb_4 (List.mem_of_getElem? (i := 161) (by decide +kernel))) rfl
theorem kw_4_162 : (Cond.methodLink RX8 314 yX8_ofProcedure) ∈ uG := uG_mem (tb_4 (List.mem_of_getElem? (i := 162) (by decide +kernel))) rfl
theorem kw_4_163 : (Cond.instanceMethod yX8_ofProcedure) ∈ uG := uG_mem (tb_4 (List.mem_of_getElem? (i := 163) (by decide +kernel))) rfl
theorem kw_4_164 : (Cond.selects RX8 yX8_ofProcedure yX8_ofProcedure) ∈ uG := uG_mem (tb_4 (List.mem_of_getElem? (i := 164) (by decide +kernel))) rfl
theorem kw_4_165 : (Cond.code yX8_ofProcedure cX8_ofProcedure 3 (some .int)) ∈ uG := uG_mem (tb_4 (List.mem_of_getElem? (i := 165) (by decide +kernel))) rfl
theorem kw_4_166 : (Cond.methodLink RX8 87 yX8_needProcedure) ∈ uG := uG_mem (tb_4 (List.mem_of_getElem? (i := 166) (by decide +kernel))) rfl
theorem kw_4_168 : (Cond.instanceMethod yX8_needProcedure) ∈ uG := uG_mem (tb_4 (List.mem_of_getElem? (i := 168) (by decide +kernel))) rfl
theorem kw_4_169 : (Cond.code yX8_needProcedure cX8_needProcedure 2 none) ∈ uG := uG_mem (tb_4 (List.mem_of_getElem? (i := 169) (by decide +kernel))) rfl
theorem kw_4_170 : (Cond.methodLink RX8 351 yX1_has) ∈ uG := uG_mem (tb_4 (List.mem_of_getElem? (i := 170) (by decide +kernel))) rfl
theorem kw_4_171 : (Cond.instanceMethod yX1_has) ∈ uG := uG_mem (tb_4 (List.mem_of_getElem? (i := 171) (by decide +kernel))) rfl
theorem kw_4_172 : (Cond.selects RX1 yX1_has yX1_has) ∈ uG := uG_mem (tb_4 (List.mem_of_getElem? (i := 172) (by decide +kernel))) rfl
theorem kw_4_173 : (Cond.code yX1_has cX1_has 2 (some .boolean)) ∈ uG := uG_mem (tb_4 (List.mem_of_getElem? (i := 173) (by decide +kernel))) rfl
theorem kw_4_174 : (Cond.classLink RX8 354 "java/lang/IndexOutOfBoundsException") ∈ uG := uG_mem (tb_4 (List.mem_of_getElem? (i := 174) (by decide +kernel))) rfl
theorem kw_4_175 : (Cond.instantiable "java/lang/IndexOutOfBoundsException" 6) ∈ uG := uG_mem (tb_4 (List.mem_of_getElem? (i := 175) (by decide +kernel))) rfl
theorem kw_4_177 : (Cond.selects "java/lang/IndexOutOfBoundsException" ⟨"java/lang/Throwable", "fillInStackTrace", "(I)Ljava/lang/Throwable;"⟩ ⟨"java/lang/Throwable", "fillInStackTrace", "(I)Ljava/lang/Throwable;"⟩) ∈ uG := uG_mem (tb_4 (List.mem_of_getElem? (i := 177) (by decide +kernel))) rfl
theorem kw_4_178 : (Cond.lays "java/lang/IndexOutOfBoundsException" "java/lang/Throwable" "cause" "Ljava/lang/Throwable;") ∈ uG := uG_mem (tb_4 (List.mem_of_getElem? (i := 178) (by decide +kernel))) rfl
theorem kw_4_179 : (Cond.lays "java/lang/IndexOutOfBoundsException" "java/lang/Throwable" "stackTrace" "[Ljava/lang/StackTraceElement;") ∈ uG := uG_mem (tb_4 (List.mem_of_getElem? (i := 179) (by decide +kernel))) rfl
theorem kw_4_180 : (Cond.lays "java/lang/IndexOutOfBoundsException" "java/lang/Throwable" "suppressedExceptions" "Ljava/util/List;") ∈ uG := uG_mem (tb_4 (List.mem_of_getElem? (i := 180) (by decide +kernel))) rfl
theorem kw_4_181 : (Cond.lays "java/lang/IndexOutOfBoundsException" "java/lang/Throwable" "detailMessage" "Ljava/lang/String;") ∈ uG := uG_mem (tb_4 (List.mem_of_getElem? (i := 181) (by decide +kernel))) rfl
theorem kw_4_182 : (Cond.lays "java/lang/IndexOutOfBoundsException" "java/lang/Throwable" "backtrace" "Ljava/lang/Object;") ∈ uG := uG_mem (tb_4 (List.mem_of_getElem? (i := 182) (by decide +kernel))) rfl
theorem kw_4_184 : (Cond.methodLink RX8 358 ⟨"java/lang/IndexOutOfBoundsException", "<init>", "(Ljava/lang/String;)V"⟩) ∈ uG := uG_mem (tb_4 (List.mem_of_getElem? (i := 184) (by decide +kernel))) rfl
theorem kw_4_185 : (Cond.instanceMethod ⟨"java/lang/IndexOutOfBoundsException", "<init>", "(Ljava/lang/String;)V"⟩) ∈ uG := uG_mem (tb_4 (List.mem_of_getElem? (i := 185) (by decide +kernel))) rfl
theorem kw_4_186 : (Cond.code ⟨"java/lang/IndexOutOfBoundsException", "<init>", "(Ljava/lang/String;)V"⟩ prog_16_method_2_code 2 none) ∈ uG := uG_mem (tb_4 (List.mem_of_getElem? (i := 186) (by decide +kernel))) rfl
theorem kw_4_187 : (Cond.methodLink "java/lang/IndexOutOfBoundsException" 7 ⟨"java/lang/RuntimeException", "<init>", "(Ljava/lang/String;)V"⟩) ∈ uG := uG_mem (tb_4 (List.mem_of_getElem? (i := 187) (by decide +kernel))) rfl
theorem kw_4_188 : (Cond.lays "java/lang/IndexOutOfBoundsException" "java/lang/Throwable" "depth" "I") ∈ uG := uG_mem (tb_4 (List.mem_of_getElem? (i := 188) (by decide +kernel))) rfl
theorem kw_4_190 : (Cond.methodLink RX8 171 yX8_codeLength) ∈ uG := uG_mem (tb_4 (List.mem_of_getElem? (i := 190) (by decide +kernel))) rfl
theorem kw_4_192 : (Cond.instanceMethod yX8_codeLength) ∈ uG := uG_mem (tb_4 (List.mem_of_getElem? (i := 192) (by decide +kernel))) rfl
theorem kw_4_193 : (Cond.code yX8_codeLength cX8_codeLength 2 (some .int)) ∈ uG := uG_mem (tb_4 (List.mem_of_getElem? (i := 193) (by decide +kernel))) rfl
theorem kw_4_194 : (Cond.methodLink RX8 317 yX8_hiddenBy) ∈ uG := uG_mem (tb_4 (List.mem_of_getElem? (i := 194) (by decide +kernel))) rfl
theorem kw_4_195 : (Cond.instanceMethod yX8_hiddenBy) ∈ uG := uG_mem (tb_4 (List.mem_of_getElem? (i := 195) (by decide +kernel))) rfl
theorem kw_4_196 : (Cond.selects RX8 yX8_hiddenBy yX8_hiddenBy) ∈ uG := uG_mem (tb_4 (List.mem_of_getElem? (i := 196) (by decide +kernel))) rfl
theorem kw_4_197 : (Cond.code yX8_hiddenBy cX8_hiddenBy 3 (some .int)) ∈ uG := uG_mem (tb_4 (List.mem_of_getElem? (i := 197) (by decide +kernel))) rfl
theorem kw_4_198 : (Cond.methodLink RX8 91 yX8_isName) ∈ uG := uG_mem (tb_4 (List.mem_of_getElem? (i := 198) (by decide +kernel))) rfl
theorem kw_4_199 : (Cond.static yX8_isName) ∈ uG := uG_mem (tb_4 (List.mem_of_getElem? (i := 199) (by decide +kernel))) rfl
theorem kw_4_200 : (Cond.code yX8_isName cX8_isName 1 (some .boolean)) ∈ uG := uG_mem (tb_4 (List.mem_of_getElem? (i := 200) (by decide +kernel))) rfl
theorem kw_4_201 : (Cond.methodLink RX8 102 yX1_declares) ∈ uG := uG_mem (tb_4 (List.mem_of_getElem? (i := 201) (by decide +kernel))) rfl
theorem kw_4_202 : (Cond.methodLink RX8 304 yX4_reaching) ∈ uG := uG_mem (tb_4 (List.mem_of_getElem? (i := 202) (by decide +kernel))) rfl
theorem kw_4_203 : (Cond.instanceMethod yX4_reaching) ∈ uG := uG_mem (tb_4 (List.mem_of_getElem? (i := 203) (by decide +kernel))) rfl
theorem kw_4_204 : (Cond.selects RX4 yX4_reaching yX4_reaching) ∈ uG := uG_mem (tb_4 (List.mem_of_getElem? (i := 204) (by decide +kernel))) rfl
theorem kw_4_205 : (Cond.code yX4_reaching cX4_reaching 6 (some .int)) ∈ uG := uG_mem (tb_4 (List.mem_of_getElem? (i := 205) (by decide +kernel))) rfl
theorem kw_4_206 : (Cond.methodLink RX8 320 yX8_code) ∈ uG := uG_mem (tb_4 (List.mem_of_getElem? (i := 206) (by decide +kernel))) rfl
theorem kw_4_207 : (Cond.instanceMethod yX8_code) ∈ uG := uG_mem (tb_4 (List.mem_of_getElem? (i := 207) (by decide +kernel))) rfl
theorem kw_4_208 : (Cond.selects RX8 yX8_code yX8_code) ∈ uG := uG_mem (tb_4 (List.mem_of_getElem? (i := 208) (by decide +kernel))) rfl
theorem kw_4_209 : (Cond.code yX8_code cX8_code 5 (some .int)) ∈ uG := uG_mem (tb_4 (List.mem_of_getElem? (i := 209) (by decide +kernel))) rfl
theorem kw_4_210 : (Cond.methodLink RX8 220 yX8_needPlace) ∈ uG := uG_mem (tb_4 (List.mem_of_getElem? (i := 210) (by decide +kernel))) rfl
theorem kw_4_211 : (Cond.static yX8_needPlace) ∈ uG := uG_mem (tb_4 (List.mem_of_getElem? (i := 211) (by decide +kernel))) rfl
theorem kw_4_212 : (Cond.code yX8_needPlace cX8_needPlace 1 none) ∈ uG := uG_mem (tb_4 (List.mem_of_getElem? (i := 212) (by decide +kernel))) rfl
theorem kw_4_214 : (Cond.methodLink RX8 323 yX8_ofNode) ∈ uG := uG_mem (tb_4 (List.mem_of_getElem? (i := 214) (by decide +kernel))) rfl
theorem kw_4_215 : (Cond.instanceMethod yX8_ofNode) ∈ uG := uG_mem (tb_4 (List.mem_of_getElem? (i := 215) (by decide +kernel))) rfl
theorem kw_4_216 : (Cond.selects RX8 yX8_ofNode yX8_ofNode) ∈ uG := uG_mem (tb_4 (List.mem_of_getElem? (i := 216) (by decide +kernel))) rfl
theorem kw_4_217 : (Cond.code yX8_ofNode cX8_ofNode 3 (some .int)) ∈ uG := uG_mem (tb_4 (List.mem_of_getElem? (i := 217) (by decide +kernel))) rfl
theorem kw_4_218 : (Cond.methodLink RX8 183 yX8_needNode) ∈ uG := uG_mem (tb_4 (List.mem_of_getElem? (i := 218) (by decide +kernel))) rfl
theorem kw_4_220 : (Cond.instanceMethod yX8_needNode) ∈ uG := uG_mem (tb_4 (List.mem_of_getElem? (i := 220) (by decide +kernel))) rfl
theorem kw_4_221 : (Cond.code yX8_needNode cX8_needNode 2 none) ∈ uG := uG_mem (tb_4 (List.mem_of_getElem? (i := 221) (by decide +kernel))) rfl
theorem kw_4_222 : (Cond.methodLink RX8 361 yX5_has) ∈ uG := uG_mem (tb_4 (List.mem_of_getElem? (i := 222) (by decide +kernel))) rfl
theorem kw_4_223 : (Cond.instanceMethod yX5_has) ∈ uG := uG_mem (tb_4 (List.mem_of_getElem? (i := 223) (by decide +kernel))) rfl
theorem kw_4_224 : (Cond.selects RX5 yX5_has yX5_has) ∈ uG := uG_mem (tb_4 (List.mem_of_getElem? (i := 224) (by decide +kernel))) rfl
theorem kw_4_225 : (Cond.code yX5_has cX5_has 2 (some .boolean)) ∈ uG := uG_mem (tb_4 (List.mem_of_getElem? (i := 225) (by decide +kernel))) rfl
theorem kw_4_227 : (Cond.methodLink RX8 326 yX8_fault) ∈ uG := uG_mem (tb_4 (List.mem_of_getElem? (i := 227) (by decide +kernel))) rfl
theorem kw_4_228 : (Cond.instanceMethod yX8_fault) ∈ uG := uG_mem (tb_4 (List.mem_of_getElem? (i := 228) (by decide +kernel))) rfl
theorem kw_4_229 : (Cond.selects RX8 yX8_fault yX8_fault) ∈ uG := uG_mem (tb_4 (List.mem_of_getElem? (i := 229) (by decide +kernel))) rfl
theorem kw_4_230 : (Cond.code yX8_fault cX8_fault 3 (some .int)) ∈ uG := uG_mem (tb_4 (List.mem_of_getElem? (i := 230) (by decide +kernel))) rfl
theorem kw_4_231 : (Cond.methodLink RX8 329 yX8_ofRun) ∈ uG := uG_mem (tb_4 (List.mem_of_getElem? (i := 231) (by decide +kernel))) rfl
theorem kw_4_232 : (Cond.instanceMethod yX8_ofRun) ∈ uG := uG_mem (tb_4 (List.mem_of_getElem? (i := 232) (by decide +kernel))) rfl
theorem kw_4_233 : (Cond.selects RX8 yX8_ofRun yX8_ofRun) ∈ uG := uG_mem (tb_4 (List.mem_of_getElem? (i := 233) (by decide +kernel))) rfl
theorem kw_4_234 : (Cond.code yX8_ofRun cX8_ofRun 2 (some .int)) ∈ uG := uG_mem (tb_4 (List.mem_of_getElem? (i := 234) (by decide +kernel))) rfl
theorem kw_4_235 : (Cond.methodLink RX8 260 yX6_answer) ∈ uG := uG_mem (tb_4 (List.mem_of_getElem? (i := 235) (by decide +kernel))) rfl
theorem kw_4_236 : (Cond.instanceMethod yX6_answer) ∈ uG := uG_mem (tb_4 (List.mem_of_getElem? (i := 236) (by decide +kernel))) rfl
theorem kw_4_237 : (Cond.selects RX6 yX6_answer yX6_answer) ∈ uG := uG_mem (tb_4 (List.mem_of_getElem? (i := 237) (by decide +kernel))) rfl
theorem kw_4_238 : (Cond.code yX6_answer cX6_answer 2 (some .int)) ∈ uG := uG_mem (tb_4 (List.mem_of_getElem? (i := 238) (by decide +kernel))) rfl
theorem kw_4_239 : (Cond.methodLink RX8 263 yX6_kept) ∈ uG := uG_mem (tb_4 (List.mem_of_getElem? (i := 239) (by decide +kernel))) rfl
theorem kw_5_0 : (Cond.instanceMethod yX6_kept) ∈ uG := uG_mem (tb_5 (List.mem_of_getElem? (i := 0) (by decide +kernel))) rfl
theorem kw_5_1 : (Cond.selects RX6 yX6_kept yX6_kept) ∈ uG := uG_mem (tb_5 (List.mem_of_getElem? (i := 1) (by decide +kernel))) rfl
theorem kw_5_2 : (Cond.code yX6_kept cX6_kept 1 (some .int)) ∈ uG := uG_mem (tb_5 (List.mem_of_getElem? (i := 2) (by decide +kernel))) rfl
theorem kw_5_3 : (Cond.methodLink RX8 332 yX8_printed) ∈ uG := uG_mem (tb_5 (List.mem_of_getElem? (i := 3) (by decide +kernel))) rfl
theorem kw_5_4 : (Cond.instanceMethod yX8_printed) ∈ uG := uG_mem (tb_5 (List.mem_of_getElem? (i := 4) (by decide +kernel))) rfl
theorem kw_5_5 : (Cond.selects RX8 yX8_printed yX8_printed) ∈ uG := uG_mem (tb_5 (List.mem_of_getElem? (i := 5) (by decide +kernel))) rfl
theorem kw_5_6 : (Cond.code yX8_printed cX8_printed 3 (some .int)) ∈ uG := uG_mem (tb_5 (List.mem_of_getElem? (i := 6) (by decide +kernel))) rfl
theorem kw_5_7 : (Cond.methodLink RX8 253 yX3_execute) ∈ uG := uG_mem (tb_5 (List.mem_of_getElem? (i := 7) (by decide +kernel))) rfl
theorem kw_5_8 : (Cond.instanceMethod yX3_execute) ∈ uG := uG_mem (tb_5 (List.mem_of_getElem? (i := 8) (by decide +kernel))) rfl
theorem kw_5_9 : (Cond.selects RX3 yX3_execute yX3_execute) ∈ uG := uG_mem (tb_5 (List.mem_of_getElem? (i := 9) (by decide +kernel))) rfl
theorem kw_5_10 : (Cond.code yX3_execute cX3_execute 7 none) ∈ uG := uG_mem (tb_5 (List.mem_of_getElem? (i := 10) (by decide +kernel))) rfl
theorem kw_5_11 : (Cond.methodLink RX3 78 yX0_layOut) ∈ uG := uG_mem (tb_5 (List.mem_of_getElem? (i := 11) (by decide +kernel))) rfl
theorem kw_5_12 : (Cond.methodLink RX3 83 yX3_clear) ∈ uG := uG_mem (tb_5 (List.mem_of_getElem? (i := 12) (by decide +kernel))) rfl
theorem kw_5_14 : (Cond.instanceMethod yX3_clear) ∈ uG := uG_mem (tb_5 (List.mem_of_getElem? (i := 14) (by decide +kernel))) rfl
theorem kw_5_15 : (Cond.code yX3_clear cX3_clear 1 none) ∈ uG := uG_mem (tb_5 (List.mem_of_getElem? (i := 15) (by decide +kernel))) rfl
theorem kw_5_16 : (Cond.methodLink RX3 111 yX7_cut) ∈ uG := uG_mem (tb_5 (List.mem_of_getElem? (i := 16) (by decide +kernel))) rfl
theorem kw_5_17 : (Cond.instanceMethod yX7_cut) ∈ uG := uG_mem (tb_5 (List.mem_of_getElem? (i := 17) (by decide +kernel))) rfl
theorem kw_5_18 : (Cond.selects RX7 yX7_cut yX7_cut) ∈ uG := uG_mem (tb_5 (List.mem_of_getElem? (i := 18) (by decide +kernel))) rfl
theorem kw_5_19 : (Cond.code yX7_cut cX7_cut 2 none) ∈ uG := uG_mem (tb_5 (List.mem_of_getElem? (i := 19) (by decide +kernel))) rfl
theorem kw_5_20 : (Cond.methodLink RX3 86 yX6_start) ∈ uG := uG_mem (tb_5 (List.mem_of_getElem? (i := 20) (by decide +kernel))) rfl
theorem kw_5_21 : (Cond.instanceMethod yX6_start) ∈ uG := uG_mem (tb_5 (List.mem_of_getElem? (i := 21) (by decide +kernel))) rfl
theorem kw_5_22 : (Cond.selects RX6 yX6_start yX6_start) ∈ uG := uG_mem (tb_5 (List.mem_of_getElem? (i := 22) (by decide +kernel))) rfl
theorem kw_5_23 : (Cond.code yX6_start cX6_start 1 none) ∈ uG := uG_mem (tb_5 (List.mem_of_getElem? (i := 23) (by decide +kernel))) rfl
theorem kw_5_24 : (Cond.methodLink RX3 89 yX3_keepReturn) ∈ uG := uG_mem (tb_5 (List.mem_of_getElem? (i := 24) (by decide +kernel))) rfl
theorem kw_5_26 : (Cond.instanceMethod yX3_keepReturn) ∈ uG := uG_mem (tb_5 (List.mem_of_getElem? (i := 26) (by decide +kernel))) rfl
theorem kw_5_27 : (Cond.code yX3_keepReturn cX3_keepReturn 4 none) ∈ uG := uG_mem (tb_5 (List.mem_of_getElem? (i := 27) (by decide +kernel))) rfl
theorem kw_5_28 : (Cond.methodLink RX3 215 yX7_add) ∈ uG := uG_mem (tb_5 (List.mem_of_getElem? (i := 28) (by decide +kernel))) rfl
theorem kw_5_29 : (Cond.instanceMethod yX7_add) ∈ uG := uG_mem (tb_5 (List.mem_of_getElem? (i := 29) (by decide +kernel))) rfl
theorem kw_5_30 : (Cond.selects RX7 yX7_add yX7_add) ∈ uG := uG_mem (tb_5 (List.mem_of_getElem? (i := 30) (by decide +kernel))) rfl
theorem kw_5_31 : (Cond.code yX7_add cX7_add 3 (some .int)) ∈ uG := uG_mem (tb_5 (List.mem_of_getElem? (i := 31) (by decide +kernel))) rfl
theorem kw_5_32 : (Cond.constant RX7 22 (524288 : Int32)) ∈ uG := uG_mem (tb_5 (List.mem_of_getElem? (i := 32) (by decide +kernel))) rfl
theorem kw_5_33 : (Cond.methodLink RX7 23 yJ7_copyOf_59c91) ∈ uG := uG_mem (tb_5 (List.mem_of_getElem? (i := 33) (by decide +kernel))) rfl
theorem kw_5_34 : (Cond.static yJ7_copyOf_59c91) ∈ uG := uG_mem (tb_5 (List.mem_of_getElem? (i := 34) (by decide +kernel))) rfl
theorem kw_5_35 : (Cond.code yJ7_copyOf_59c91 cJ7_copyOf_59c91 3 (some (.array .int))) ∈ uG := uG_mem (tb_5 (List.mem_of_getElem? (i := 35) (by decide +kernel))) rfl
theorem kw_5_36 : (Cond.methodLink RJ7 316 ⟨"[I", "clone", "()Ljava/lang/Object;"⟩) ∈ uG := uG_mem (tb_5 (List.mem_of_getElem? (i := 36) (by decide +kernel))) rfl
theorem kw_5_39 : (Cond.instanceMethod ⟨"java/lang/Object", "clone", "()Ljava/lang/Object;"⟩) ∈ uG := uG_mem (tb_5 (List.mem_of_getElem? (i := 39) (by decide +kernel))) rfl
theorem kw_5_40 : (Cond.selects "[I" ⟨"[I", "clone", "()Ljava/lang/Object;"⟩ ⟨"java/lang/Object", "clone", "()Ljava/lang/Object;"⟩) ∈ uG := uG_mem (tb_5 (List.mem_of_getElem? (i := 40) (by decide +kernel))) rfl
theorem kw_5_42 : (Cond.classLink RJ7 317 "[I") ∈ uG := uG_mem (tb_5 (List.mem_of_getElem? (i := 42) (by decide +kernel))) rfl
theorem kw_5_43 : (Cond.methodLink RJ7 304 yJ9_min_7cf53) ∈ uG := uG_mem (tb_5 (List.mem_of_getElem? (i := 43) (by decide +kernel))) rfl
theorem kw_5_44 : (Cond.static yJ9_min_7cf53) ∈ uG := uG_mem (tb_5 (List.mem_of_getElem? (i := 44) (by decide +kernel))) rfl
theorem kw_5_45 : (Cond.code yJ9_min_7cf53 cJ9_min_7cf53 2 (some .int)) ∈ uG := uG_mem (tb_5 (List.mem_of_getElem? (i := 45) (by decide +kernel))) rfl
theorem kw_5_46 : (Cond.methodLink RJ7 150 ⟨"java/lang/System", "arraycopy", "(Ljava/lang/Object;ILjava/lang/Object;II)V"⟩) ∈ uG := uG_mem (tb_5 (List.mem_of_getElem? (i := 46) (by decide +kernel))) rfl
theorem kw_5_47 : (Cond.static ⟨"java/lang/System", "arraycopy", "(Ljava/lang/Object;ILjava/lang/Object;II)V"⟩) ∈ uG := uG_mem (tb_5 (List.mem_of_getElem? (i := 47) (by decide +kernel))) rfl
theorem kw_5_49 : (Cond.methodLink RX3 218 yX7_put) ∈ uG := uG_mem (tb_5 (List.mem_of_getElem? (i := 49) (by decide +kernel))) rfl
theorem kw_5_50 : (Cond.instanceMethod yX7_put) ∈ uG := uG_mem (tb_5 (List.mem_of_getElem? (i := 50) (by decide +kernel))) rfl
theorem kw_5_51 : (Cond.selects RX7 yX7_put yX7_put) ∈ uG := uG_mem (tb_5 (List.mem_of_getElem? (i := 51) (by decide +kernel))) rfl
theorem kw_5_52 : (Cond.code yX7_put cX7_put 4 none) ∈ uG := uG_mem (tb_5 (List.mem_of_getElem? (i := 52) (by decide +kernel))) rfl
theorem kw_5_53 : (Cond.methodLink RX7 29 yX7_has) ∈ uG := uG_mem (tb_5 (List.mem_of_getElem? (i := 53) (by decide +kernel))) rfl
theorem kw_5_55 : (Cond.instanceMethod yX7_has) ∈ uG := uG_mem (tb_5 (List.mem_of_getElem? (i := 55) (by decide +kernel))) rfl
theorem kw_5_56 : (Cond.code yX7_has cX7_has 3 (some .boolean)) ∈ uG := uG_mem (tb_5 (List.mem_of_getElem? (i := 56) (by decide +kernel))) rfl
theorem kw_5_57 : (Cond.methodLink RX3 93 yX3_call) ∈ uG := uG_mem (tb_5 (List.mem_of_getElem? (i := 57) (by decide +kernel))) rfl
theorem kw_5_59 : (Cond.instanceMethod yX3_call) ∈ uG := uG_mem (tb_5 (List.mem_of_getElem? (i := 59) (by decide +kernel))) rfl
theorem kw_5_60 : (Cond.code yX3_call cX3_call 3 none) ∈ uG := uG_mem (tb_5 (List.mem_of_getElem? (i := 60) (by decide +kernel))) rfl
theorem kw_5_61 : (Cond.methodLink RX3 221 yX7_at) ∈ uG := uG_mem (tb_5 (List.mem_of_getElem? (i := 61) (by decide +kernel))) rfl
theorem kw_5_62 : (Cond.instanceMethod yX7_at) ∈ uG := uG_mem (tb_5 (List.mem_of_getElem? (i := 62) (by decide +kernel))) rfl
theorem kw_5_63 : (Cond.selects RX7 yX7_at yX7_at) ∈ uG := uG_mem (tb_5 (List.mem_of_getElem? (i := 63) (by decide +kernel))) rfl
theorem kw_5_64 : (Cond.code yX7_at cX7_at 3 (some .int)) ∈ uG := uG_mem (tb_5 (List.mem_of_getElem? (i := 64) (by decide +kernel))) rfl
theorem kw_5_65 : (Cond.methodLink RX3 276 yJ6_bitCount_0f7a4) ∈ uG := uG_mem (tb_5 (List.mem_of_getElem? (i := 65) (by decide +kernel))) rfl
theorem kw_5_66 : (Cond.methodLink RX3 287 yJ9_max_7cf53) ∈ uG := uG_mem (tb_5 (List.mem_of_getElem? (i := 66) (by decide +kernel))) rfl
theorem kw_5_67 : (Cond.static yJ9_max_7cf53) ∈ uG := uG_mem (tb_5 (List.mem_of_getElem? (i := 67) (by decide +kernel))) rfl
theorem kw_5_68 : (Cond.code yJ9_max_7cf53 cJ9_max_7cf53 2 (some .int)) ∈ uG := uG_mem (tb_5 (List.mem_of_getElem? (i := 68) (by decide +kernel))) rfl
theorem kw_5_69 : (Cond.methodLink RX3 295 yX3_layPlaces) ∈ uG := uG_mem (tb_5 (List.mem_of_getElem? (i := 69) (by decide +kernel))) rfl
theorem kw_5_71 : (Cond.instanceMethod yX3_layPlaces) ∈ uG := uG_mem (tb_5 (List.mem_of_getElem? (i := 71) (by decide +kernel))) rfl
theorem kw_5_72 : (Cond.code yX3_layPlaces cX3_layPlaces 11 none) ∈ uG := uG_mem (tb_5 (List.mem_of_getElem? (i := 72) (by decide +kernel))) rfl
theorem kw_5_73 : (Cond.constant RX3 96 (1000000 : Int32)) ∈ uG := uG_mem (tb_5 (List.mem_of_getElem? (i := 73) (by decide +kernel))) rfl
theorem kw_5_74 : (Cond.methodLink RX3 100 yX3_begin) ∈ uG := uG_mem (tb_5 (List.mem_of_getElem? (i := 74) (by decide +kernel))) rfl
theorem kw_5_76 : (Cond.instanceMethod yX3_begin) ∈ uG := uG_mem (tb_5 (List.mem_of_getElem? (i := 76) (by decide +kernel))) rfl
theorem kw_5_77 : (Cond.code yX3_begin cX3_begin 5 (some .boolean)) ∈ uG := uG_mem (tb_5 (List.mem_of_getElem? (i := 77) (by decide +kernel))) rfl
theorem kw_5_78 : (Cond.methodLink RX3 120 yX3_trap) ∈ uG := uG_mem (tb_5 (List.mem_of_getElem? (i := 78) (by decide +kernel))) rfl
theorem kw_5_80 : (Cond.instanceMethod yX3_trap) ∈ uG := uG_mem (tb_5 (List.mem_of_getElem? (i := 80) (by decide +kernel))) rfl
theorem kw_5_81 : (Cond.code yX3_trap cX3_trap 3 none) ∈ uG := uG_mem (tb_5 (List.mem_of_getElem? (i := 81) (by decide +kernel))) rfl
theorem kw_5_82 : (Cond.methodLink RX3 108 yX3_perform) ∈ uG := uG_mem (tb_5 (List.mem_of_getElem? (i := 82) (by decide +kernel))) rfl
theorem kw_5_84 : (Cond.instanceMethod yX3_perform) ∈ uG := uG_mem (tb_5 (List.mem_of_getElem? (i := 84) (by decide +kernel))) rfl
theorem kw_5_85 : (Cond.code yX3_perform cX3_perform 4 none) ∈ uG := uG_mem (tb_5 (List.mem_of_getElem? (i := 85) (by decide +kernel))) rfl
theorem kw_5_86 : (Cond.methodLink RX3 142 yX3_push) ∈ uG := uG_mem (tb_5 (List.mem_of_getElem? (i := 86) (by decide +kernel))) rfl
theorem kw_5_88 : (Cond.instanceMethod yX3_push) ∈ uG := uG_mem (tb_5 (List.mem_of_getElem? (i := 88) (by decide +kernel))) rfl
theorem kw_5_89 : (Cond.code yX3_push cX3_push 4 none) ∈ uG := uG_mem (tb_5 (List.mem_of_getElem? (i := 89) (by decide +kernel))) rfl
theorem kw_5_90 : (Cond.methodLink RX3 145 yX3_cellOf) ∈ uG := uG_mem (tb_5 (List.mem_of_getElem? (i := 90) (by decide +kernel))) rfl
theorem kw_5_92 : (Cond.instanceMethod yX3_cellOf) ∈ uG := uG_mem (tb_5 (List.mem_of_getElem? (i := 92) (by decide +kernel))) rfl
theorem kw_5_93 : (Cond.code yX3_cellOf cX3_cellOf 2 (some .int)) ∈ uG := uG_mem (tb_5 (List.mem_of_getElem? (i := 93) (by decide +kernel))) rfl
theorem kw_5_94 : (Cond.methodLink RX3 180 yX3_frameAt) ∈ uG := uG_mem (tb_5 (List.mem_of_getElem? (i := 94) (by decide +kernel))) rfl
theorem kw_5_96 : (Cond.instanceMethod yX3_frameAt) ∈ uG := uG_mem (tb_5 (List.mem_of_getElem? (i := 96) (by decide +kernel))) rfl
theorem kw_5_97 : (Cond.code yX3_frameAt cX3_frameAt 4 (some .int)) ∈ uG := uG_mem (tb_5 (List.mem_of_getElem? (i := 97) (by decide +kernel))) rfl
theorem kw_5_98 : (Cond.methodLink RX3 149 yX3_get) ∈ uG := uG_mem (tb_5 (List.mem_of_getElem? (i := 98) (by decide +kernel))) rfl
theorem kw_5_100 : (Cond.instanceMethod yX3_get) ∈ uG := uG_mem (tb_5 (List.mem_of_getElem? (i := 100) (by decide +kernel))) rfl
theorem kw_5_101 : (Cond.code yX3_get cX3_get 4 none) ∈ uG := uG_mem (tb_5 (List.mem_of_getElem? (i := 101) (by decide +kernel))) rfl
theorem kw_5_102 : (Cond.methodLink RX3 174 yX3_pushCell) ∈ uG := uG_mem (tb_5 (List.mem_of_getElem? (i := 102) (by decide +kernel))) rfl
theorem kw_5_104 : (Cond.instanceMethod yX3_pushCell) ∈ uG := uG_mem (tb_5 (List.mem_of_getElem? (i := 104) (by decide +kernel))) rfl
theorem kw_5_105 : (Cond.code yX3_pushCell cX3_pushCell 2 none) ∈ uG := uG_mem (tb_5 (List.mem_of_getElem? (i := 105) (by decide +kernel))) rfl
theorem kw_5_106 : (Cond.methodLink RX3 152 yX3_pick) ∈ uG := uG_mem (tb_5 (List.mem_of_getElem? (i := 106) (by decide +kernel))) rfl
theorem kw_5_108 : (Cond.instanceMethod yX3_pick) ∈ uG := uG_mem (tb_5 (List.mem_of_getElem? (i := 108) (by decide +kernel))) rfl
theorem kw_5_109 : (Cond.code yX3_pick cX3_pick 6 none) ∈ uG := uG_mem (tb_5 (List.mem_of_getElem? (i := 109) (by decide +kernel))) rfl
theorem kw_5_110 : (Cond.methodLink RX3 189 yX3_pop) ∈ uG := uG_mem (tb_5 (List.mem_of_getElem? (i := 110) (by decide +kernel))) rfl
theorem kw_5_112 : (Cond.instanceMethod yX3_pop) ∈ uG := uG_mem (tb_5 (List.mem_of_getElem? (i := 112) (by decide +kernel))) rfl
theorem kw_5_113 : (Cond.code yX3_pop cX3_pop 2 (some .int)) ∈ uG := uG_mem (tb_5 (List.mem_of_getElem? (i := 113) (by decide +kernel))) rfl
theorem kw_5_114 : (Cond.methodLink RX3 156 yX3_go) ∈ uG := uG_mem (tb_5 (List.mem_of_getElem? (i := 114) (by decide +kernel))) rfl
theorem kw_5_116 : (Cond.instanceMethod yX3_go) ∈ uG := uG_mem (tb_5 (List.mem_of_getElem? (i := 116) (by decide +kernel))) rfl
theorem kw_5_117 : (Cond.code yX3_go cX3_go 4 none) ∈ uG := uG_mem (tb_5 (List.mem_of_getElem? (i := 117) (by decide +kernel))) rfl
theorem kw_5_118 : (Cond.methodLink RX3 159 yX3_goByProc) ∈ uG := uG_mem (tb_5 (List.mem_of_getElem? (i := 118) (by decide +kernel))) rfl
theorem kw_5_120 : (Cond.instanceMethod yX3_goByProc) ∈ uG := uG_mem (tb_5 (List.mem_of_getElem? (i := 120) (by decide +kernel))) rfl
theorem kw_5_121 : (Cond.code yX3_goByProc cX3_goByProc 5 none) ∈ uG := uG_mem (tb_5 (List.mem_of_getElem? (i := 121) (by decide +kernel))) rfl
theorem kw_5_122 : (Cond.methodLink RX3 231 yX1_has) ∈ uG := uG_mem (tb_5 (List.mem_of_getElem? (i := 122) (by decide +kernel))) rfl
theorem kw_5_123 : (Cond.methodLink RX3 258 yX5_argumentsOf) ∈ uG := uG_mem (tb_5 (List.mem_of_getElem? (i := 123) (by decide +kernel))) rfl
theorem kw_5_124 : (Cond.methodLink RX3 162 yX3_refer) ∈ uG := uG_mem (tb_5 (List.mem_of_getElem? (i := 124) (by decide +kernel))) rfl
theorem kw_5_126 : (Cond.instanceMethod yX3_refer) ∈ uG := uG_mem (tb_5 (List.mem_of_getElem? (i := 126) (by decide +kernel))) rfl
theorem kw_5_127 : (Cond.code yX3_refer cX3_refer 4 none) ∈ uG := uG_mem (tb_5 (List.mem_of_getElem? (i := 127) (by decide +kernel))) rfl
theorem kw_5_128 : (Cond.methodLink RX3 165 yX3_later) ∈ uG := uG_mem (tb_5 (List.mem_of_getElem? (i := 128) (by decide +kernel))) rfl
theorem kw_5_130 : (Cond.instanceMethod yX3_later) ∈ uG := uG_mem (tb_5 (List.mem_of_getElem? (i := 130) (by decide +kernel))) rfl
theorem kw_5_131 : (Cond.code yX3_later cX3_later 2 none) ∈ uG := uG_mem (tb_5 (List.mem_of_getElem? (i := 131) (by decide +kernel))) rfl
theorem kw_5_132 : (Cond.methodLink RX3 193 yX3_skip) ∈ uG := uG_mem (tb_5 (List.mem_of_getElem? (i := 132) (by decide +kernel))) rfl
theorem kw_5_134 : (Cond.instanceMethod yX3_skip) ∈ uG := uG_mem (tb_5 (List.mem_of_getElem? (i := 134) (by decide +kernel))) rfl
theorem kw_5_135 : (Cond.code yX3_skip cX3_skip 4 none) ∈ uG := uG_mem (tb_5 (List.mem_of_getElem? (i := 135) (by decide +kernel))) rfl
theorem kw_5_136 : (Cond.methodLink RX3 168 yX3_goBack) ∈ uG := uG_mem (tb_5 (List.mem_of_getElem? (i := 136) (by decide +kernel))) rfl
theorem kw_5_138 : (Cond.instanceMethod yX3_goBack) ∈ uG := uG_mem (tb_5 (List.mem_of_getElem? (i := 138) (by decide +kernel))) rfl
theorem kw_5_139 : (Cond.code yX3_goBack cX3_goBack 2 none) ∈ uG := uG_mem (tb_5 (List.mem_of_getElem? (i := 139) (by decide +kernel))) rfl
theorem kw_5_140 : (Cond.methodLink RX3 171 yX3_copy) ∈ uG := uG_mem (tb_5 (List.mem_of_getElem? (i := 140) (by decide +kernel))) rfl
theorem kw_5_142 : (Cond.instanceMethod yX3_copy) ∈ uG := uG_mem (tb_5 (List.mem_of_getElem? (i := 142) (by decide +kernel))) rfl
theorem kw_5_143 : (Cond.code yX3_copy cX3_copy 6 none) ∈ uG := uG_mem (tb_5 (List.mem_of_getElem? (i := 143) (by decide +kernel))) rfl
theorem kw_5_144 : (Cond.methodLink RX3 183 yX3_put) ∈ uG := uG_mem (tb_5 (List.mem_of_getElem? (i := 144) (by decide +kernel))) rfl
theorem kw_5_146 : (Cond.instanceMethod yX3_put) ∈ uG := uG_mem (tb_5 (List.mem_of_getElem? (i := 146) (by decide +kernel))) rfl
theorem kw_5_147 : (Cond.code yX3_put cX3_put 5 none) ∈ uG := uG_mem (tb_5 (List.mem_of_getElem? (i := 147) (by decide +kernel))) rfl
theorem kw_5_148 : (Cond.methodLink RX3 186 yX3_stow) ∈ uG := uG_mem (tb_5 (List.mem_of_getElem? (i := 148) (by decide +kernel))) rfl
theorem kw_5_150 : (Cond.instanceMethod yX3_stow) ∈ uG := uG_mem (tb_5 (List.mem_of_getElem? (i := 150) (by decide +kernel))) rfl
theorem kw_5_151 : (Cond.code yX3_stow cX3_stow 5 none) ∈ uG := uG_mem (tb_5 (List.mem_of_getElem? (i := 151) (by decide +kernel))) rfl
theorem kw_5_152 : (Cond.methodLink RX3 197 yX3_open) ∈ uG := uG_mem (tb_5 (List.mem_of_getElem? (i := 152) (by decide +kernel))) rfl
theorem kw_5_154 : (Cond.instanceMethod yX3_open) ∈ uG := uG_mem (tb_5 (List.mem_of_getElem? (i := 154) (by decide +kernel))) rfl
theorem kw_5_155 : (Cond.code yX3_open cX3_open 4 none) ∈ uG := uG_mem (tb_5 (List.mem_of_getElem? (i := 155) (by decide +kernel))) rfl
theorem kw_5_156 : (Cond.methodLink RX3 203 yX3_leave) ∈ uG := uG_mem (tb_5 (List.mem_of_getElem? (i := 156) (by decide +kernel))) rfl
theorem kw_5_158 : (Cond.instanceMethod yX3_leave) ∈ uG := uG_mem (tb_5 (List.mem_of_getElem? (i := 158) (by decide +kernel))) rfl
theorem kw_5_159 : (Cond.code yX3_leave cX3_leave 6 none) ∈ uG := uG_mem (tb_5 (List.mem_of_getElem? (i := 159) (by decide +kernel))) rfl
theorem kw_5_160 : (Cond.methodLink RX3 245 yX3_isLoopOf) ∈ uG := uG_mem (tb_5 (List.mem_of_getElem? (i := 160) (by decide +kernel))) rfl
theorem kw_5_162 : (Cond.instanceMethod yX3_isLoopOf) ∈ uG := uG_mem (tb_5 (List.mem_of_getElem? (i := 162) (by decide +kernel))) rfl
theorem kw_5_163 : (Cond.code yX3_isLoopOf cX3_isLoopOf 4 (some .boolean)) ∈ uG := uG_mem (tb_5 (List.mem_of_getElem? (i := 163) (by decide +kernel))) rfl
theorem kw_5_164 : (Cond.methodLink RX3 209 yX6_print) ∈ uG := uG_mem (tb_5 (List.mem_of_getElem? (i := 164) (by decide +kernel))) rfl
theorem kw_5_165 : (Cond.instanceMethod yX6_print) ∈ uG := uG_mem (tb_5 (List.mem_of_getElem? (i := 165) (by decide +kernel))) rfl
theorem kw_5_166 : (Cond.selects RX6 yX6_print yX6_print) ∈ uG := uG_mem (tb_5 (List.mem_of_getElem? (i := 166) (by decide +kernel))) rfl
theorem kw_5_167 : (Cond.code yX6_print cX6_print 3 none) ∈ uG := uG_mem (tb_5 (List.mem_of_getElem? (i := 167) (by decide +kernel))) rfl
theorem kw_5_168 : (Cond.methodLink RX3 212 yX3_reckon) ∈ uG := uG_mem (tb_5 (List.mem_of_getElem? (i := 168) (by decide +kernel))) rfl
theorem kw_5_170 : (Cond.instanceMethod yX3_reckon) ∈ uG := uG_mem (tb_5 (List.mem_of_getElem? (i := 170) (by decide +kernel))) rfl
theorem kw_5_171 : (Cond.code yX3_reckon cX3_reckon 5 none) ∈ uG := uG_mem (tb_5 (List.mem_of_getElem? (i := 171) (by decide +kernel))) rfl
theorem kw_5_172 : (Cond.methodLink RX3 225 yX4_reckon) ∈ uG := uG_mem (tb_5 (List.mem_of_getElem? (i := 172) (by decide +kernel))) rfl
theorem kw_5_173 : (Cond.methodLink RL 81 yL_procedure) ∈ uG := uG_mem (tb_5 (List.mem_of_getElem? (i := 173) (by decide +kernel))) rfl
theorem kw_5_174 : (Cond.static yL_procedure) ∈ uG := uG_mem (tb_5 (List.mem_of_getElem? (i := 174) (by decide +kernel))) rfl
theorem kw_5_175 : (Cond.codeWith yL_procedure cL_procedure 5 (some .int) [(0, 10, 13, 13), (0, 10, 17, 15), (0, 10, 21, 17)]) ∈ uG := uG_mem (tb_5 (List.mem_of_getElem? (i := 175) (by decide +kernel))) rfl
theorem kw_5_176 : (Cond.classLink RL 13 "java/lang/IndexOutOfBoundsException") ∈ uG := uG_mem (tb_5 (List.mem_of_getElem? (i := 176) (by decide +kernel))) rfl
theorem kw_5_177 : (Cond.classLink RL 15 "java/lang/IllegalArgumentException") ∈ uG := uG_mem (tb_5 (List.mem_of_getElem? (i := 177) (by decide +kernel))) rfl
theorem kw_5_178 : (Cond.classLink RL 17 "java/lang/IllegalStateException") ∈ uG := uG_mem (tb_5 (List.mem_of_getElem? (i := 178) (by decide +kernel))) rfl
theorem kw_5_179 : (Cond.methodLink RL 7 yX8_procedure) ∈ uG := uG_mem (tb_5 (List.mem_of_getElem? (i := 179) (by decide +kernel))) rfl
theorem kw_5_180 : (Cond.instanceMethod yX8_procedure) ∈ uG := uG_mem (tb_5 (List.mem_of_getElem? (i := 180) (by decide +kernel))) rfl
theorem kw_5_181 : (Cond.selects RX8 yX8_procedure yX8_procedure) ∈ uG := uG_mem (tb_5 (List.mem_of_getElem? (i := 181) (by decide +kernel))) rfl
theorem kw_5_182 : (Cond.code yX8_procedure cX8_procedure 3 (some .int)) ∈ uG := uG_mem (tb_5 (List.mem_of_getElem? (i := 182) (by decide +kernel))) rfl
theorem kw_5_183 : (Cond.methodLink RX8 106 yX8_needState) ∈ uG := uG_mem (tb_5 (List.mem_of_getElem? (i := 183) (by decide +kernel))) rfl
theorem kw_5_184 : (Cond.static yX8_needState) ∈ uG := uG_mem (tb_5 (List.mem_of_getElem? (i := 184) (by decide +kernel))) rfl
theorem kw_5_185 : (Cond.code yX8_needState cX8_needState 1 none) ∈ uG := uG_mem (tb_5 (List.mem_of_getElem? (i := 185) (by decide +kernel))) rfl
theorem kw_5_186 : (Cond.classLink RX8 371 "java/lang/IllegalStateException") ∈ uG := uG_mem (tb_5 (List.mem_of_getElem? (i := 186) (by decide +kernel))) rfl
theorem kw_5_187 : (Cond.instantiable "java/lang/IllegalStateException" 6) ∈ uG := uG_mem (tb_5 (List.mem_of_getElem? (i := 187) (by decide +kernel))) rfl
theorem kw_5_189 : (Cond.selects "java/lang/IllegalStateException" ⟨"java/lang/Throwable", "fillInStackTrace", "(I)Ljava/lang/Throwable;"⟩ ⟨"java/lang/Throwable", "fillInStackTrace", "(I)Ljava/lang/Throwable;"⟩) ∈ uG := uG_mem (tb_5 (List.mem_of_getElem? (i := 189) (by decide +kernel))) rfl
theorem kw_5_190 : (Cond.lays "java/lang/IllegalStateException" "java/lang/Throwable" "cause" "Ljava/lang/Throwable;") ∈ uG := uG_mem (tb_5 (List.mem_of_getElem? (i := 190) (by decide +kernel))) rfl
theorem kw_5_191 : (Cond.lays "java/lang/IllegalStateException" "java/lang/Throwable" "stackTrace" "[Ljava/lang/StackTraceElement;") ∈ uG := uG_mem (tb_5 (List.mem_of_getElem? (i := 191) (by decide +kernel))) rfl
theorem kw_5_192 : (Cond.lays "java/lang/IllegalStateException" "java/lang/Throwable" "suppressedExceptions" "Ljava/util/List;") ∈ uG := uG_mem (tb_5 (List.mem_of_getElem? (i := 192) (by decide +kernel))) rfl
theorem kw_5_193 : (Cond.lays "java/lang/IllegalStateException" "java/lang/Throwable" "detailMessage" "Ljava/lang/String;") ∈ uG := uG_mem (tb_5 (List.mem_of_getElem? (i := 193) (by decide +kernel))) rfl
theorem kw_5_194 : (Cond.lays "java/lang/IllegalStateException" "java/lang/Throwable" "backtrace" "Ljava/lang/Object;") ∈ uG := uG_mem (tb_5 (List.mem_of_getElem? (i := 194) (by decide +kernel))) rfl
theorem kw_5_196 : (Cond.methodLink RX8 375 ⟨"java/lang/IllegalStateException", "<init>", "(Ljava/lang/String;)V"⟩) ∈ uG := uG_mem (tb_5 (List.mem_of_getElem? (i := 196) (by decide +kernel))) rfl
theorem kw_5_197 : (Cond.instanceMethod ⟨"java/lang/IllegalStateException", "<init>", "(Ljava/lang/String;)V"⟩) ∈ uG := uG_mem (tb_5 (List.mem_of_getElem? (i := 197) (by decide +kernel))) rfl
theorem kw_5_198 : (Cond.code ⟨"java/lang/IllegalStateException", "<init>", "(Ljava/lang/String;)V"⟩ prog_15_method_2_code 2 none) ∈ uG := uG_mem (tb_5 (List.mem_of_getElem? (i := 198) (by decide +kernel))) rfl
theorem kw_5_199 : (Cond.methodLink "java/lang/IllegalStateException" 7 ⟨"java/lang/RuntimeException", "<init>", "(Ljava/lang/String;)V"⟩) ∈ uG := uG_mem (tb_5 (List.mem_of_getElem? (i := 199) (by decide +kernel))) rfl
theorem kw_5_200 : (Cond.lays "java/lang/IllegalStateException" "java/lang/Throwable" "depth" "I") ∈ uG := uG_mem (tb_5 (List.mem_of_getElem? (i := 200) (by decide +kernel))) rfl
theorem kw_5_202 : (Cond.methodLink RX8 109 yX1_addProcedure) ∈ uG := uG_mem (tb_5 (List.mem_of_getElem? (i := 202) (by decide +kernel))) rfl
theorem kw_5_203 : (Cond.instanceMethod yX1_addProcedure) ∈ uG := uG_mem (tb_5 (List.mem_of_getElem? (i := 203) (by decide +kernel))) rfl
theorem kw_5_204 : (Cond.selects RX1 yX1_addProcedure yX1_addProcedure) ∈ uG := uG_mem (tb_5 (List.mem_of_getElem? (i := 204) (by decide +kernel))) rfl
theorem kw_5_205 : (Cond.code yX1_addProcedure cX1_addProcedure 4 (some .int)) ∈ uG := uG_mem (tb_5 (List.mem_of_getElem? (i := 205) (by decide +kernel))) rfl
theorem kw_5_206 : (Cond.methodLink RX1 59 yX1_declare) ∈ uG := uG_mem (tb_5 (List.mem_of_getElem? (i := 206) (by decide +kernel))) rfl
theorem kw_5_208 : (Cond.instanceMethod yX1_declare) ∈ uG := uG_mem (tb_5 (List.mem_of_getElem? (i := 208) (by decide +kernel))) rfl
theorem kw_5_209 : (Cond.code yX1_declare cX1_declare 6 none) ∈ uG := uG_mem (tb_5 (List.mem_of_getElem? (i := 209) (by decide +kernel))) rfl
theorem kw_5_210 : (Cond.methodLink RL 90 yL_parameter) ∈ uG := uG_mem (tb_5 (List.mem_of_getElem? (i := 210) (by decide +kernel))) rfl
theorem kw_5_211 : (Cond.static yL_parameter) ∈ uG := uG_mem (tb_5 (List.mem_of_getElem? (i := 211) (by decide +kernel))) rfl
theorem kw_5_212 : (Cond.codeWith yL_parameter cL_parameter 6 (some .int) [(0, 12, 15, 13), (0, 12, 19, 15), (0, 12, 23, 17)]) ∈ uG := uG_mem (tb_5 (List.mem_of_getElem? (i := 212) (by decide +kernel))) rfl
theorem kw_5_213 : (Cond.methodLink RL 19 yX8_parameter) ∈ uG := uG_mem (tb_5 (List.mem_of_getElem? (i := 213) (by decide +kernel))) rfl
theorem kw_5_214 : (Cond.instanceMethod yX8_parameter) ∈ uG := uG_mem (tb_5 (List.mem_of_getElem? (i := 214) (by decide +kernel))) rfl
theorem kw_5_215 : (Cond.selects RX8 yX8_parameter yX8_parameter) ∈ uG := uG_mem (tb_5 (List.mem_of_getElem? (i := 215) (by decide +kernel))) rfl
theorem kw_5_216 : (Cond.code yX8_parameter cX8_parameter 4 (some .int)) ∈ uG := uG_mem (tb_5 (List.mem_of_getElem? (i := 216) (by decide +kernel))) rfl
theorem kw_5_217 : (Cond.methodLink RX8 113 yX1_takesParameter) ∈ uG := uG_mem (tb_5 (List.mem_of_getElem? (i := 217) (by decide +kernel))) rfl
theorem kw_5_218 : (Cond.instanceMethod yX1_takesParameter) ∈ uG := uG_mem (tb_5 (List.mem_of_getElem? (i := 218) (by decide +kernel))) rfl
theorem kw_5_219 : (Cond.selects RX1 yX1_takesParameter yX1_takesParameter) ∈ uG := uG_mem (tb_5 (List.mem_of_getElem? (i := 219) (by decide +kernel))) rfl
theorem kw_5_220 : (Cond.code yX1_takesParameter cX1_takesParameter 3 (some .boolean)) ∈ uG := uG_mem (tb_5 (List.mem_of_getElem? (i := 220) (by decide +kernel))) rfl
theorem kw_5_221 : (Cond.methodLink RX8 116 yX1_addParameter) ∈ uG := uG_mem (tb_5 (List.mem_of_getElem? (i := 221) (by decide +kernel))) rfl
theorem kw_5_222 : (Cond.instanceMethod yX1_addParameter) ∈ uG := uG_mem (tb_5 (List.mem_of_getElem? (i := 222) (by decide +kernel))) rfl
theorem kw_5_223 : (Cond.selects RX1 yX1_addParameter yX1_addParameter) ∈ uG := uG_mem (tb_5 (List.mem_of_getElem? (i := 223) (by decide +kernel))) rfl
theorem kw_5_224 : (Cond.code yX1_addParameter cX1_addParameter 4 (some .int)) ∈ uG := uG_mem (tb_5 (List.mem_of_getElem? (i := 224) (by decide +kernel))) rfl
theorem kw_5_225 : (Cond.methodLink RX1 63 yX1_declarePlace) ∈ uG := uG_mem (tb_5 (List.mem_of_getElem? (i := 225) (by decide +kernel))) rfl
theorem kw_5_227 : (Cond.instanceMethod yX1_declarePlace) ∈ uG := uG_mem (tb_5 (List.mem_of_getElem? (i := 227) (by decide +kernel))) rfl
theorem kw_5_228 : (Cond.code yX1_declarePlace cX1_declarePlace 6 (some .int)) ∈ uG := uG_mem (tb_5 (List.mem_of_getElem? (i := 228) (by decide +kernel))) rfl
theorem kw_5_229 : (Cond.methodLink RL 94 yL_variable) ∈ uG := uG_mem (tb_5 (List.mem_of_getElem? (i := 229) (by decide +kernel))) rfl
theorem kw_5_230 : (Cond.static yL_variable) ∈ uG := uG_mem (tb_5 (List.mem_of_getElem? (i := 230) (by decide +kernel))) rfl
theorem kw_5_231 : (Cond.codeWith yL_variable cL_variable 7 (some .int) [(0, 14, 17, 13), (0, 14, 21, 15), (0, 14, 25, 17)]) ∈ uG := uG_mem (tb_5 (List.mem_of_getElem? (i := 231) (by decide +kernel))) rfl
theorem kw_5_232 : (Cond.methodLink RL 23 yX8_variable) ∈ uG := uG_mem (tb_5 (List.mem_of_getElem? (i := 232) (by decide +kernel))) rfl
theorem kw_5_233 : (Cond.instanceMethod yX8_variable) ∈ uG := uG_mem (tb_5 (List.mem_of_getElem? (i := 233) (by decide +kernel))) rfl
theorem kw_5_234 : (Cond.selects RX8 yX8_variable yX8_variable) ∈ uG := uG_mem (tb_5 (List.mem_of_getElem? (i := 234) (by decide +kernel))) rfl
theorem kw_5_235 : (Cond.code yX8_variable cX8_variable 5 (some .int)) ∈ uG := uG_mem (tb_5 (List.mem_of_getElem? (i := 235) (by decide +kernel))) rfl
theorem kw_5_236 : (Cond.methodLink RX8 120 yX8_isSizeOf) ∈ uG := uG_mem (tb_5 (List.mem_of_getElem? (i := 236) (by decide +kernel))) rfl
theorem kw_5_237 : (Cond.static yX8_isSizeOf) ∈ uG := uG_mem (tb_5 (List.mem_of_getElem? (i := 237) (by decide +kernel))) rfl
theorem kw_5_238 : (Cond.code yX8_isSizeOf cX8_isSizeOf 2 (some .boolean)) ∈ uG := uG_mem (tb_5 (List.mem_of_getElem? (i := 238) (by decide +kernel))) rfl
theorem kw_5_239 : (Cond.methodLink RX8 123 yX1_takesVariable) ∈ uG := uG_mem (tb_5 (List.mem_of_getElem? (i := 239) (by decide +kernel))) rfl
theorem kw_6_0 : (Cond.instanceMethod yX1_takesVariable) ∈ uG := uG_mem (tb_6 (List.mem_of_getElem? (i := 0) (by decide +kernel))) rfl
theorem kw_6_1 : (Cond.selects RX1 yX1_takesVariable yX1_takesVariable) ∈ uG := uG_mem (tb_6 (List.mem_of_getElem? (i := 1) (by decide +kernel))) rfl
theorem kw_6_2 : (Cond.code yX1_takesVariable cX1_takesVariable 3 (some .boolean)) ∈ uG := uG_mem (tb_6 (List.mem_of_getElem? (i := 2) (by decide +kernel))) rfl
theorem kw_6_3 : (Cond.methodLink RX8 126 yX1_addVariable) ∈ uG := uG_mem (tb_6 (List.mem_of_getElem? (i := 3) (by decide +kernel))) rfl
theorem kw_6_4 : (Cond.instanceMethod yX1_addVariable) ∈ uG := uG_mem (tb_6 (List.mem_of_getElem? (i := 4) (by decide +kernel))) rfl
theorem kw_6_5 : (Cond.selects RX1 yX1_addVariable yX1_addVariable) ∈ uG := uG_mem (tb_6 (List.mem_of_getElem? (i := 5) (by decide +kernel))) rfl
theorem kw_6_6 : (Cond.code yX1_addVariable cX1_addVariable 5 (some .int)) ∈ uG := uG_mem (tb_6 (List.mem_of_getElem? (i := 6) (by decide +kernel))) rfl
theorem kw_6_7 : (Cond.methodLink RL 98 yL_ofName) ∈ uG := uG_mem (tb_6 (List.mem_of_getElem? (i := 7) (by decide +kernel))) rfl
theorem kw_6_8 : (Cond.static yL_ofName) ∈ uG := uG_mem (tb_6 (List.mem_of_getElem? (i := 8) (by decide +kernel))) rfl
theorem kw_6_9 : (Cond.codeWith yL_ofName cL_ofName 6 (some .int) [(0, 12, 15, 13), (0, 12, 19, 15)]) ∈ uG := uG_mem (tb_6 (List.mem_of_getElem? (i := 9) (by decide +kernel))) rfl
theorem kw_6_10 : (Cond.methodLink RL 27 yX8_ofName) ∈ uG := uG_mem (tb_6 (List.mem_of_getElem? (i := 10) (by decide +kernel))) rfl
theorem kw_6_11 : (Cond.instanceMethod yX8_ofName) ∈ uG := uG_mem (tb_6 (List.mem_of_getElem? (i := 11) (by decide +kernel))) rfl
theorem kw_6_12 : (Cond.selects RX8 yX8_ofName yX8_ofName) ∈ uG := uG_mem (tb_6 (List.mem_of_getElem? (i := 12) (by decide +kernel))) rfl
theorem kw_6_13 : (Cond.code yX8_ofName cX8_ofName 6 (some .int)) ∈ uG := uG_mem (tb_6 (List.mem_of_getElem? (i := 13) (by decide +kernel))) rfl
theorem kw_6_14 : (Cond.methodLink RX8 130 yX1_declarer) ∈ uG := uG_mem (tb_6 (List.mem_of_getElem? (i := 14) (by decide +kernel))) rfl
theorem kw_6_15 : (Cond.methodLink RX8 133 yX1_hopsTo) ∈ uG := uG_mem (tb_6 (List.mem_of_getElem? (i := 15) (by decide +kernel))) rfl
theorem kw_6_16 : (Cond.methodLink RL 101 yL_ofProcedure) ∈ uG := uG_mem (tb_6 (List.mem_of_getElem? (i := 16) (by decide +kernel))) rfl
theorem kw_6_17 : (Cond.static yL_ofProcedure) ∈ uG := uG_mem (tb_6 (List.mem_of_getElem? (i := 17) (by decide +kernel))) rfl
theorem kw_6_18 : (Cond.codeWith yL_ofProcedure cL_ofProcedure 5 (some .int) [(0, 10, 13, 13), (0, 10, 17, 15)]) ∈ uG := uG_mem (tb_6 (List.mem_of_getElem? (i := 18) (by decide +kernel))) rfl
theorem kw_6_19 : (Cond.methodLink RL 30 yX8_ofProcedure) ∈ uG := uG_mem (tb_6 (List.mem_of_getElem? (i := 19) (by decide +kernel))) rfl
theorem kw_6_20 : (Cond.methodLink RL 104 yL_node) ∈ uG := uG_mem (tb_6 (List.mem_of_getElem? (i := 20) (by decide +kernel))) rfl
theorem kw_6_21 : (Cond.static yL_node) ∈ uG := uG_mem (tb_6 (List.mem_of_getElem? (i := 21) (by decide +kernel))) rfl
theorem kw_6_22 : (Cond.codeWith yL_node cL_node 7 (some .int) [(0, 14, 17, 15), (0, 14, 21, 17)]) ∈ uG := uG_mem (tb_6 (List.mem_of_getElem? (i := 22) (by decide +kernel))) rfl
theorem kw_6_23 : (Cond.methodLink RL 33 yX8_node) ∈ uG := uG_mem (tb_6 (List.mem_of_getElem? (i := 23) (by decide +kernel))) rfl
theorem kw_6_24 : (Cond.instanceMethod yX8_node) ∈ uG := uG_mem (tb_6 (List.mem_of_getElem? (i := 24) (by decide +kernel))) rfl
theorem kw_6_25 : (Cond.selects RX8 yX8_node yX8_node) ∈ uG := uG_mem (tb_6 (List.mem_of_getElem? (i := 25) (by decide +kernel))) rfl
theorem kw_6_26 : (Cond.code yX8_node cX8_node 5 (some .int)) ∈ uG := uG_mem (tb_6 (List.mem_of_getElem? (i := 26) (by decide +kernel))) rfl
theorem kw_6_27 : (Cond.methodLink RX8 175 yX5_suits) ∈ uG := uG_mem (tb_6 (List.mem_of_getElem? (i := 27) (by decide +kernel))) rfl
theorem kw_6_28 : (Cond.instanceMethod yX5_suits) ∈ uG := uG_mem (tb_6 (List.mem_of_getElem? (i := 28) (by decide +kernel))) rfl
theorem kw_6_29 : (Cond.selects RX5 yX5_suits yX5_suits) ∈ uG := uG_mem (tb_6 (List.mem_of_getElem? (i := 29) (by decide +kernel))) rfl
theorem kw_6_30 : (Cond.code yX5_suits cX5_suits 5 (some .boolean)) ∈ uG := uG_mem (tb_6 (List.mem_of_getElem? (i := 30) (by decide +kernel))) rfl
theorem kw_6_31 : (Cond.methodLink RX5 43 yX5_fills) ∈ uG := uG_mem (tb_6 (List.mem_of_getElem? (i := 31) (by decide +kernel))) rfl
theorem kw_6_33 : (Cond.instanceMethod yX5_fills) ∈ uG := uG_mem (tb_6 (List.mem_of_getElem? (i := 33) (by decide +kernel))) rfl
theorem kw_6_34 : (Cond.code yX5_fills cX5_fills 3 (some .boolean)) ∈ uG := uG_mem (tb_6 (List.mem_of_getElem? (i := 34) (by decide +kernel))) rfl
theorem kw_6_36 : (Cond.methodLink RX5 55 yX5_isPartFor) ∈ uG := uG_mem (tb_6 (List.mem_of_getElem? (i := 36) (by decide +kernel))) rfl
theorem kw_6_38 : (Cond.instanceMethod yX5_isPartFor) ∈ uG := uG_mem (tb_6 (List.mem_of_getElem? (i := 38) (by decide +kernel))) rfl
theorem kw_6_39 : (Cond.code yX5_isPartFor cX5_isPartFor 3 (some .boolean)) ∈ uG := uG_mem (tb_6 (List.mem_of_getElem? (i := 39) (by decide +kernel))) rfl
theorem kw_6_40 : (Cond.methodLink RX5 58 yX5_has) ∈ uG := uG_mem (tb_6 (List.mem_of_getElem? (i := 40) (by decide +kernel))) rfl
theorem kw_6_41 : (Cond.methodLink RX5 61 yX5_isFree) ∈ uG := uG_mem (tb_6 (List.mem_of_getElem? (i := 41) (by decide +kernel))) rfl
theorem kw_6_42 : (Cond.instanceMethod yX5_isFree) ∈ uG := uG_mem (tb_6 (List.mem_of_getElem? (i := 42) (by decide +kernel))) rfl
theorem kw_6_43 : (Cond.selects RX5 yX5_isFree yX5_isFree) ∈ uG := uG_mem (tb_6 (List.mem_of_getElem? (i := 43) (by decide +kernel))) rfl
theorem kw_6_44 : (Cond.code yX5_isFree cX5_isFree 2 (some .boolean)) ∈ uG := uG_mem (tb_6 (List.mem_of_getElem? (i := 44) (by decide +kernel))) rfl
theorem kw_6_45 : (Cond.methodLink RX5 64 yX5_isExpression) ∈ uG := uG_mem (tb_6 (List.mem_of_getElem? (i := 45) (by decide +kernel))) rfl
theorem kw_6_46 : (Cond.methodLink RX5 67 yX5_isStatement) ∈ uG := uG_mem (tb_6 (List.mem_of_getElem? (i := 46) (by decide +kernel))) rfl
theorem kw_6_47 : (Cond.instanceMethod yX5_isStatement) ∈ uG := uG_mem (tb_6 (List.mem_of_getElem? (i := 47) (by decide +kernel))) rfl
theorem kw_6_48 : (Cond.selects RX5 yX5_isStatement yX5_isStatement) ∈ uG := uG_mem (tb_6 (List.mem_of_getElem? (i := 48) (by decide +kernel))) rfl
theorem kw_6_49 : (Cond.code yX5_isStatement cX5_isStatement 2 (some .boolean)) ∈ uG := uG_mem (tb_6 (List.mem_of_getElem? (i := 49) (by decide +kernel))) rfl
theorem kw_6_50 : (Cond.methodLink RX5 47 yX5_isSamePart) ∈ uG := uG_mem (tb_6 (List.mem_of_getElem? (i := 50) (by decide +kernel))) rfl
theorem kw_6_51 : (Cond.static yX5_isSamePart) ∈ uG := uG_mem (tb_6 (List.mem_of_getElem? (i := 51) (by decide +kernel))) rfl
theorem kw_6_52 : (Cond.code yX5_isSamePart cX5_isSamePart 4 (some .boolean)) ∈ uG := uG_mem (tb_6 (List.mem_of_getElem? (i := 52) (by decide +kernel))) rfl
theorem kw_6_53 : (Cond.methodLink RX8 180 yX5_add) ∈ uG := uG_mem (tb_6 (List.mem_of_getElem? (i := 53) (by decide +kernel))) rfl
theorem kw_6_54 : (Cond.instanceMethod yX5_add) ∈ uG := uG_mem (tb_6 (List.mem_of_getElem? (i := 54) (by decide +kernel))) rfl
theorem kw_6_55 : (Cond.selects RX5 yX5_add yX5_add) ∈ uG := uG_mem (tb_6 (List.mem_of_getElem? (i := 55) (by decide +kernel))) rfl
theorem kw_6_56 : (Cond.code yX5_add cX5_add 6 (some .int)) ∈ uG := uG_mem (tb_6 (List.mem_of_getElem? (i := 56) (by decide +kernel))) rfl
theorem kw_6_57 : (Cond.methodLink RX5 70 yX5_partA) ∈ uG := uG_mem (tb_6 (List.mem_of_getElem? (i := 57) (by decide +kernel))) rfl
theorem kw_6_58 : (Cond.methodLink RX5 74 yX5_claim) ∈ uG := uG_mem (tb_6 (List.mem_of_getElem? (i := 58) (by decide +kernel))) rfl
theorem kw_6_60 : (Cond.instanceMethod yX5_claim) ∈ uG := uG_mem (tb_6 (List.mem_of_getElem? (i := 60) (by decide +kernel))) rfl
theorem kw_6_61 : (Cond.code yX5_claim cX5_claim 3 none) ∈ uG := uG_mem (tb_6 (List.mem_of_getElem? (i := 61) (by decide +kernel))) rfl
theorem kw_6_62 : (Cond.methodLink RX5 78 yX5_partB) ∈ uG := uG_mem (tb_6 (List.mem_of_getElem? (i := 62) (by decide +kernel))) rfl
theorem kw_6_63 : (Cond.methodLink RX5 81 yX5_partC) ∈ uG := uG_mem (tb_6 (List.mem_of_getElem? (i := 63) (by decide +kernel))) rfl
theorem kw_6_64 : (Cond.methodLink RL 107 yL_body) ∈ uG := uG_mem (tb_6 (List.mem_of_getElem? (i := 64) (by decide +kernel))) rfl
theorem kw_6_65 : (Cond.static yL_body) ∈ uG := uG_mem (tb_6 (List.mem_of_getElem? (i := 65) (by decide +kernel))) rfl
theorem kw_6_66 : (Cond.codeWith yL_body cL_body 5 (some .int) [(0, 10, 13, 13), (0, 10, 17, 15), (0, 10, 21, 17)]) ∈ uG := uG_mem (tb_6 (List.mem_of_getElem? (i := 66) (by decide +kernel))) rfl
theorem kw_6_67 : (Cond.methodLink RL 36 yX8_body) ∈ uG := uG_mem (tb_6 (List.mem_of_getElem? (i := 67) (by decide +kernel))) rfl
theorem kw_6_68 : (Cond.instanceMethod yX8_body) ∈ uG := uG_mem (tb_6 (List.mem_of_getElem? (i := 68) (by decide +kernel))) rfl
theorem kw_6_69 : (Cond.selects RX8 yX8_body yX8_body) ∈ uG := uG_mem (tb_6 (List.mem_of_getElem? (i := 69) (by decide +kernel))) rfl
theorem kw_6_70 : (Cond.code yX8_body cX8_body 4 (some .int)) ∈ uG := uG_mem (tb_6 (List.mem_of_getElem? (i := 70) (by decide +kernel))) rfl
theorem kw_6_71 : (Cond.methodLink RX8 186 yX5_isStatement) ∈ uG := uG_mem (tb_6 (List.mem_of_getElem? (i := 71) (by decide +kernel))) rfl
theorem kw_6_72 : (Cond.methodLink RX8 189 yX5_isFree) ∈ uG := uG_mem (tb_6 (List.mem_of_getElem? (i := 72) (by decide +kernel))) rfl
theorem kw_6_73 : (Cond.methodLink RL 110 yL_ofNode) ∈ uG := uG_mem (tb_6 (List.mem_of_getElem? (i := 73) (by decide +kernel))) rfl
theorem kw_6_74 : (Cond.static yL_ofNode) ∈ uG := uG_mem (tb_6 (List.mem_of_getElem? (i := 74) (by decide +kernel))) rfl
theorem kw_6_75 : (Cond.codeWith yL_ofNode cL_ofNode 5 (some .int) [(0, 10, 13, 13), (0, 10, 17, 15)]) ∈ uG := uG_mem (tb_6 (List.mem_of_getElem? (i := 75) (by decide +kernel))) rfl
theorem kw_6_76 : (Cond.methodLink RL 39 yX8_ofNode) ∈ uG := uG_mem (tb_6 (List.mem_of_getElem? (i := 76) (by decide +kernel))) rfl
theorem kw_6_77 : (Cond.methodLink RL 113 yL_fault) ∈ uG := uG_mem (tb_6 (List.mem_of_getElem? (i := 77) (by decide +kernel))) rfl
theorem kw_6_78 : (Cond.static yL_fault) ∈ uG := uG_mem (tb_6 (List.mem_of_getElem? (i := 78) (by decide +kernel))) rfl
theorem kw_6_79 : (Cond.codeWith yL_fault cL_fault 5 (some .int) [(0, 10, 13, 13), (0, 10, 17, 15)]) ∈ uG := uG_mem (tb_6 (List.mem_of_getElem? (i := 79) (by decide +kernel))) rfl
theorem kw_6_80 : (Cond.methodLink RL 42 yX8_fault) ∈ uG := uG_mem (tb_6 (List.mem_of_getElem? (i := 80) (by decide +kernel))) rfl
theorem kw_6_81 : (Cond.methodLink RL 116 yL_passes) ∈ uG := uG_mem (tb_6 (List.mem_of_getElem? (i := 81) (by decide +kernel))) rfl
theorem kw_6_82 : (Cond.static yL_passes) ∈ uG := uG_mem (tb_6 (List.mem_of_getElem? (i := 82) (by decide +kernel))) rfl
theorem kw_6_83 : (Cond.codeWith yL_passes cL_passes 4 (some .int) [(0, 9, 12, 15)]) ∈ uG := uG_mem (tb_6 (List.mem_of_getElem? (i := 83) (by decide +kernel))) rfl
theorem kw_6_84 : (Cond.methodLink RL 45 yX8_passes) ∈ uG := uG_mem (tb_6 (List.mem_of_getElem? (i := 84) (by decide +kernel))) rfl
theorem kw_6_85 : (Cond.instanceMethod yX8_passes) ∈ uG := uG_mem (tb_6 (List.mem_of_getElem? (i := 85) (by decide +kernel))) rfl
theorem kw_6_86 : (Cond.selects RX8 yX8_passes yX8_passes) ∈ uG := uG_mem (tb_6 (List.mem_of_getElem? (i := 86) (by decide +kernel))) rfl
theorem kw_6_87 : (Cond.code yX8_passes cX8_passes 3 (some .int)) ∈ uG := uG_mem (tb_6 (List.mem_of_getElem? (i := 87) (by decide +kernel))) rfl
theorem kw_6_88 : (Cond.methodLink RX8 232 yX8_isPasses) ∈ uG := uG_mem (tb_6 (List.mem_of_getElem? (i := 88) (by decide +kernel))) rfl
theorem kw_6_89 : (Cond.static yX8_isPasses) ∈ uG := uG_mem (tb_6 (List.mem_of_getElem? (i := 89) (by decide +kernel))) rfl
theorem kw_6_90 : (Cond.code yX8_isPasses cX8_isPasses 1 (some .boolean)) ∈ uG := uG_mem (tb_6 (List.mem_of_getElem? (i := 90) (by decide +kernel))) rfl
theorem kw_6_91 : (Cond.methodLink RL 120 yL_code) ∈ uG := uG_mem (tb_6 (List.mem_of_getElem? (i := 91) (by decide +kernel))) rfl
theorem kw_6_92 : (Cond.static yL_code) ∈ uG := uG_mem (tb_6 (List.mem_of_getElem? (i := 92) (by decide +kernel))) rfl
theorem kw_6_93 : (Cond.codeWith yL_code cL_code 6 (some .int) [(0, 12, 15, 13), (0, 12, 19, 15)]) ∈ uG := uG_mem (tb_6 (List.mem_of_getElem? (i := 93) (by decide +kernel))) rfl
theorem kw_6_94 : (Cond.methodLink RL 49 yX8_code) ∈ uG := uG_mem (tb_6 (List.mem_of_getElem? (i := 94) (by decide +kernel))) rfl
theorem kw_6_95 : (Cond.methodLink RL 123 yL_limits) ∈ uG := uG_mem (tb_6 (List.mem_of_getElem? (i := 95) (by decide +kernel))) rfl
theorem kw_6_96 : (Cond.static yL_limits) ∈ uG := uG_mem (tb_6 (List.mem_of_getElem? (i := 96) (by decide +kernel))) rfl
theorem kw_6_97 : (Cond.codeWith yL_limits cL_limits 5 (some .int) [(0, 10, 13, 15)]) ∈ uG := uG_mem (tb_6 (List.mem_of_getElem? (i := 97) (by decide +kernel))) rfl
theorem kw_6_98 : (Cond.methodLink RL 52 yX8_limits) ∈ uG := uG_mem (tb_6 (List.mem_of_getElem? (i := 98) (by decide +kernel))) rfl
theorem kw_6_99 : (Cond.instanceMethod yX8_limits) ∈ uG := uG_mem (tb_6 (List.mem_of_getElem? (i := 99) (by decide +kernel))) rfl
theorem kw_6_100 : (Cond.selects RX8 yX8_limits yX8_limits) ∈ uG := uG_mem (tb_6 (List.mem_of_getElem? (i := 100) (by decide +kernel))) rfl
theorem kw_6_101 : (Cond.code yX8_limits cX8_limits 4 (some .int)) ∈ uG := uG_mem (tb_6 (List.mem_of_getElem? (i := 101) (by decide +kernel))) rfl
theorem kw_6_102 : (Cond.methodLink RX8 250 yX8_areLimits) ∈ uG := uG_mem (tb_6 (List.mem_of_getElem? (i := 102) (by decide +kernel))) rfl
theorem kw_6_103 : (Cond.static yX8_areLimits) ∈ uG := uG_mem (tb_6 (List.mem_of_getElem? (i := 103) (by decide +kernel))) rfl
theorem kw_6_104 : (Cond.code yX8_areLimits cX8_areLimits 2 (some .boolean)) ∈ uG := uG_mem (tb_6 (List.mem_of_getElem? (i := 104) (by decide +kernel))) rfl
theorem kw_6_105 : (Cond.methodLink RL 126 yL_run) ∈ uG := uG_mem (tb_6 (List.mem_of_getElem? (i := 105) (by decide +kernel))) rfl
theorem kw_6_106 : (Cond.static yL_run) ∈ uG := uG_mem (tb_6 (List.mem_of_getElem? (i := 106) (by decide +kernel))) rfl
theorem kw_6_107 : (Cond.codeWith yL_run cL_run 3 (some .int) [(0, 8, 11, 17)]) ∈ uG := uG_mem (tb_6 (List.mem_of_getElem? (i := 107) (by decide +kernel))) rfl
theorem kw_6_108 : (Cond.methodLink RL 55 yX8_run) ∈ uG := uG_mem (tb_6 (List.mem_of_getElem? (i := 108) (by decide +kernel))) rfl
theorem kw_6_109 : (Cond.instanceMethod yX8_run) ∈ uG := uG_mem (tb_6 (List.mem_of_getElem? (i := 109) (by decide +kernel))) rfl
theorem kw_6_110 : (Cond.selects RX8 yX8_run yX8_run) ∈ uG := uG_mem (tb_6 (List.mem_of_getElem? (i := 110) (by decide +kernel))) rfl
theorem kw_6_111 : (Cond.code yX8_run cX8_run 1 (some .int)) ∈ uG := uG_mem (tb_6 (List.mem_of_getElem? (i := 111) (by decide +kernel))) rfl
theorem kw_6_112 : (Cond.methodLink RL 130 yL_ofRun) ∈ uG := uG_mem (tb_6 (List.mem_of_getElem? (i := 112) (by decide +kernel))) rfl
theorem kw_6_113 : (Cond.static yL_ofRun) ∈ uG := uG_mem (tb_6 (List.mem_of_getElem? (i := 113) (by decide +kernel))) rfl
theorem kw_6_114 : (Cond.codeWith yL_ofRun cL_ofRun 4 (some .int) [(0, 9, 12, 15)]) ∈ uG := uG_mem (tb_6 (List.mem_of_getElem? (i := 114) (by decide +kernel))) rfl
theorem kw_6_115 : (Cond.methodLink RL 59 yX8_ofRun) ∈ uG := uG_mem (tb_6 (List.mem_of_getElem? (i := 115) (by decide +kernel))) rfl
theorem kw_6_116 : (Cond.methodLink RL 133 yL_printed) ∈ uG := uG_mem (tb_6 (List.mem_of_getElem? (i := 116) (by decide +kernel))) rfl
theorem kw_6_117 : (Cond.static yL_printed) ∈ uG := uG_mem (tb_6 (List.mem_of_getElem? (i := 117) (by decide +kernel))) rfl
theorem kw_6_118 : (Cond.codeWith yL_printed cL_printed 5 (some .int) [(0, 10, 13, 13), (0, 10, 17, 15)]) ∈ uG := uG_mem (tb_6 (List.mem_of_getElem? (i := 118) (by decide +kernel))) rfl
theorem kw_6_119 : (Cond.methodLink RL 62 yX8_printed) ∈ uG := uG_mem (tb_6 (List.mem_of_getElem? (i := 119) (by decide +kernel))) rfl
theorem kw_6_120 : (Cond.methodLink RL 141 yL_many) ∈ uG := uG_mem (tb_6 (List.mem_of_getElem? (i := 120) (by decide +kernel))) rfl
theorem kw_6_121 : (Cond.static yL_many) ∈ uG := uG_mem (tb_6 (List.mem_of_getElem? (i := 121) (by decide +kernel))) rfl
theorem kw_6_122 : (Cond.codeWith yL_many cL_many 4 (some .int) [(0, 9, 12, 15)]) ∈ uG := uG_mem (tb_6 (List.mem_of_getElem? (i := 122) (by decide +kernel))) rfl
theorem kw_6_123 : (Cond.methodLink RL 65 yX8_many) ∈ uG := uG_mem (tb_6 (List.mem_of_getElem? (i := 123) (by decide +kernel))) rfl
theorem kw_6_124 : (Cond.methodLink RL 144 yL_wouldRun) ∈ uG := uG_mem (tb_6 (List.mem_of_getElem? (i := 124) (by decide +kernel))) rfl
theorem kw_6_125 : (Cond.static yL_wouldRun) ∈ uG := uG_mem (tb_6 (List.mem_of_getElem? (i := 125) (by decide +kernel))) rfl
theorem kw_6_126 : (Cond.codeWith yL_wouldRun cL_wouldRun 6 (some .int) [(0, 12, 15, 15), (0, 12, 19, 17)]) ∈ uG := uG_mem (tb_6 (List.mem_of_getElem? (i := 126) (by decide +kernel))) rfl
theorem kw_6_127 : (Cond.methodLink RL 68 yX8_wouldRun) ∈ uG := uG_mem (tb_6 (List.mem_of_getElem? (i := 127) (by decide +kernel))) rfl
theorem kw_6_128 : (Cond.instanceMethod yX8_wouldRun) ∈ uG := uG_mem (tb_6 (List.mem_of_getElem? (i := 128) (by decide +kernel))) rfl
theorem kw_6_129 : (Cond.selects RX8 yX8_wouldRun yX8_wouldRun) ∈ uG := uG_mem (tb_6 (List.mem_of_getElem? (i := 129) (by decide +kernel))) rfl
theorem kw_6_130 : (Cond.code yX8_wouldRun cX8_wouldRun 4 (some .int)) ∈ uG := uG_mem (tb_6 (List.mem_of_getElem? (i := 130) (by decide +kernel))) rfl
theorem kw_6_131 : (Cond.methodLink RL 147 yL_with) ∈ uG := uG_mem (tb_6 (List.mem_of_getElem? (i := 131) (by decide +kernel))) rfl
theorem kw_6_132 : (Cond.static yL_with) ∈ uG := uG_mem (tb_6 (List.mem_of_getElem? (i := 132) (by decide +kernel))) rfl
theorem kw_6_133 : (Cond.codeWith yL_with cL_with 5 (some .int) [(0, 10, 13, 15), (0, 10, 17, 17)]) ∈ uG := uG_mem (tb_6 (List.mem_of_getElem? (i := 133) (by decide +kernel))) rfl
theorem kw_6_134 : (Cond.methodLink RL 71 yX8_with) ∈ uG := uG_mem (tb_6 (List.mem_of_getElem? (i := 134) (by decide +kernel))) rfl
theorem kw_6_135 : (Cond.instanceMethod yX8_with) ∈ uG := uG_mem (tb_6 (List.mem_of_getElem? (i := 135) (by decide +kernel))) rfl
theorem kw_6_136 : (Cond.selects RX8 yX8_with yX8_with) ∈ uG := uG_mem (tb_6 (List.mem_of_getElem? (i := 136) (by decide +kernel))) rfl
theorem kw_6_137 : (Cond.code yX8_with cX8_with 3 (some .int)) ∈ uG := uG_mem (tb_6 (List.mem_of_getElem? (i := 137) (by decide +kernel))) rfl
theorem kw_6_138 : (Cond.methodLink RL 150 yL_hiddenBy) ∈ uG := uG_mem (tb_6 (List.mem_of_getElem? (i := 138) (by decide +kernel))) rfl
theorem kw_6_139 : (Cond.static yL_hiddenBy) ∈ uG := uG_mem (tb_6 (List.mem_of_getElem? (i := 139) (by decide +kernel))) rfl
theorem kw_6_140 : (Cond.codeWith yL_hiddenBy cL_hiddenBy 5 (some .int) [(0, 10, 13, 13), (0, 10, 17, 15)]) ∈ uG := uG_mem (tb_6 (List.mem_of_getElem? (i := 140) (by decide +kernel))) rfl
theorem kw_6_141 : (Cond.methodLink RL 74 yX8_hiddenBy) ∈ uG := uG_mem (tb_6 (List.mem_of_getElem? (i := 141) (by decide +kernel))) rfl
theorem kw_6_142 : (Cond.classLink RL 78 RX9) ∈ uG := uG_mem (tb_6 (List.mem_of_getElem? (i := 142) (by decide +kernel))) rfl
theorem kw_6_143 : (Cond.instantiable RX9 60) ∈ uG := uG_mem (tb_6 (List.mem_of_getElem? (i := 143) (by decide +kernel))) rfl
theorem kw_6_144 : (Cond.methodLink RL 80 yX9_init) ∈ uG := uG_mem (tb_6 (List.mem_of_getElem? (i := 144) (by decide +kernel))) rfl
theorem kw_6_145 : (Cond.instanceMethod yX9_init) ∈ uG := uG_mem (tb_6 (List.mem_of_getElem? (i := 145) (by decide +kernel))) rfl
theorem kw_6_146 : (Cond.code yX9_init cX9_init 2 none) ∈ uG := uG_mem (tb_6 (List.mem_of_getElem? (i := 146) (by decide +kernel))) rfl
theorem kw_6_147 : (Cond.methodLink RX9 1 ⟨"java/lang/Object", "<init>", "()V"⟩) ∈ uG := uG_mem (tb_6 (List.mem_of_getElem? (i := 147) (by decide +kernel))) rfl
theorem kw_6_148 : (Cond.fieldLink RX9 114 "StaticLinkModel" "thrown" "I") ∈ uG := uG_mem (tb_6 (List.mem_of_getElem? (i := 148) (by decide +kernel))) rfl
theorem kw_6_149 : (Cond.fieldLink RX9 7 "StaticLinkModel" "procedures" "I") ∈ uG := uG_mem (tb_6 (List.mem_of_getElem? (i := 149) (by decide +kernel))) rfl
theorem kw_6_150 : (Cond.fieldLink RX9 13 "StaticLinkModel" "parent" "[I") ∈ uG := uG_mem (tb_6 (List.mem_of_getElem? (i := 150) (by decide +kernel))) rfl
theorem kw_6_151 : (Cond.fieldLink RX9 17 "StaticLinkModel" "named" "[I") ∈ uG := uG_mem (tb_6 (List.mem_of_getElem? (i := 151) (by decide +kernel))) rfl
theorem kw_6_152 : (Cond.fieldLink RX9 20 "StaticLinkModel" "parameters" "[I") ∈ uG := uG_mem (tb_6 (List.mem_of_getElem? (i := 152) (by decide +kernel))) rfl
theorem kw_6_153 : (Cond.fieldLink RX9 23 "StaticLinkModel" "variables" "[I") ∈ uG := uG_mem (tb_6 (List.mem_of_getElem? (i := 153) (by decide +kernel))) rfl
theorem kw_6_154 : (Cond.fieldLink RX9 26 "StaticLinkModel" "places" "[I") ∈ uG := uG_mem (tb_6 (List.mem_of_getElem? (i := 154) (by decide +kernel))) rfl
theorem kw_6_155 : (Cond.fieldLink RX9 29 "StaticLinkModel" "bodies" "[I") ∈ uG := uG_mem (tb_6 (List.mem_of_getElem? (i := 155) (by decide +kernel))) rfl
theorem kw_6_156 : (Cond.fieldLink RX9 32 "StaticLinkModel" "what" "[I") ∈ uG := uG_mem (tb_6 (List.mem_of_getElem? (i := 156) (by decide +kernel))) rfl
theorem kw_6_157 : (Cond.fieldLink RX9 35 "StaticLinkModel" "place" "[I") ∈ uG := uG_mem (tb_6 (List.mem_of_getElem? (i := 157) (by decide +kernel))) rfl
theorem kw_6_158 : (Cond.fieldLink RX9 38 "StaticLinkModel" "size" "[I") ∈ uG := uG_mem (tb_6 (List.mem_of_getElem? (i := 158) (by decide +kernel))) rfl
theorem kw_6_159 : (Cond.fieldLink RX9 41 "StaticLinkModel" "at" "[I") ∈ uG := uG_mem (tb_6 (List.mem_of_getElem? (i := 159) (by decide +kernel))) rfl
theorem kw_6_160 : (Cond.fieldLink RX9 44 "StaticLinkModel" "sizeAt" "[I") ∈ uG := uG_mem (tb_6 (List.mem_of_getElem? (i := 160) (by decide +kernel))) rfl
theorem kw_6_161 : (Cond.fieldLink RX9 121 "StaticLinkModel" "nodes" "I") ∈ uG := uG_mem (tb_6 (List.mem_of_getElem? (i := 161) (by decide +kernel))) rfl
theorem kw_6_162 : (Cond.fieldLink RX9 47 "StaticLinkModel" "kind" "[I") ∈ uG := uG_mem (tb_6 (List.mem_of_getElem? (i := 162) (by decide +kernel))) rfl
theorem kw_6_163 : (Cond.fieldLink RX9 50 "StaticLinkModel" "a" "[I") ∈ uG := uG_mem (tb_6 (List.mem_of_getElem? (i := 163) (by decide +kernel))) rfl
theorem kw_6_164 : (Cond.fieldLink RX9 53 "StaticLinkModel" "b" "[I") ∈ uG := uG_mem (tb_6 (List.mem_of_getElem? (i := 164) (by decide +kernel))) rfl
theorem kw_6_165 : (Cond.fieldLink RX9 56 "StaticLinkModel" "c" "[I") ∈ uG := uG_mem (tb_6 (List.mem_of_getElem? (i := 165) (by decide +kernel))) rfl
theorem kw_6_166 : (Cond.fieldLink RX9 59 "StaticLinkModel" "above" "[I") ∈ uG := uG_mem (tb_6 (List.mem_of_getElem? (i := 166) (by decide +kernel))) rfl
theorem kw_6_167 : (Cond.fieldLink RX9 62 "StaticLinkModel" "bodyOf" "[I") ∈ uG := uG_mem (tb_6 (List.mem_of_getElem? (i := 167) (by decide +kernel))) rfl
theorem kw_6_168 : (Cond.fieldLink RX9 65 "StaticLinkModel" "passes" "I") ∈ uG := uG_mem (tb_6 (List.mem_of_getElem? (i := 168) (by decide +kernel))) rfl
theorem kw_6_169 : (Cond.fieldLink RX9 68 "StaticLinkModel" "most" "I") ∈ uG := uG_mem (tb_6 (List.mem_of_getElem? (i := 169) (by decide +kernel))) rfl
theorem kw_6_170 : (Cond.fieldLink RX9 71 "StaticLinkModel" "deep" "I") ∈ uG := uG_mem (tb_6 (List.mem_of_getElem? (i := 170) (by decide +kernel))) rfl
theorem kw_6_171 : (Cond.fieldLink RX9 488 "StaticLinkModel" "runs" "I") ∈ uG := uG_mem (tb_6 (List.mem_of_getElem? (i := 171) (by decide +kernel))) rfl
theorem kw_6_172 : (Cond.fieldLink RX9 74 "StaticLinkModel" "latest" "[I") ∈ uG := uG_mem (tb_6 (List.mem_of_getElem? (i := 172) (by decide +kernel))) rfl
theorem kw_6_173 : (Cond.fieldLink RX9 77 "StaticLinkModel" "printed" "[I") ∈ uG := uG_mem (tb_6 (List.mem_of_getElem? (i := 173) (by decide +kernel))) rfl
theorem kw_6_174 : (Cond.fieldLink RX9 80 "StaticLinkModel" "written" "[I") ∈ uG := uG_mem (tb_6 (List.mem_of_getElem? (i := 174) (by decide +kernel))) rfl
theorem kw_6_175 : (Cond.fieldLink RX9 283 "StaticLinkModel" "end" "I") ∈ uG := uG_mem (tb_6 (List.mem_of_getElem? (i := 175) (by decide +kernel))) rfl
theorem kw_6_176 : (Cond.fieldLink RX9 316 "StaticLinkModel" "set" "I") ∈ uG := uG_mem (tb_6 (List.mem_of_getElem? (i := 176) (by decide +kernel))) rfl
theorem kw_6_177 : (Cond.fieldLink RX9 83 "StaticLinkModel" "begins" "[I") ∈ uG := uG_mem (tb_6 (List.mem_of_getElem? (i := 177) (by decide +kernel))) rfl
theorem kw_6_178 : (Cond.fieldLink RX9 86 "StaticLinkModel" "tasks" "[I") ∈ uG := uG_mem (tb_6 (List.mem_of_getElem? (i := 178) (by decide +kernel))) rfl
theorem kw_6_179 : (Cond.fieldLink RX9 89 "StaticLinkModel" "values" "[I") ∈ uG := uG_mem (tb_6 (List.mem_of_getElem? (i := 179) (by decide +kernel))) rfl
theorem kw_6_180 : (Cond.fieldLink RX9 92 "StaticLinkModel" "memory" "[I") ∈ uG := uG_mem (tb_6 (List.mem_of_getElem? (i := 180) (by decide +kernel))) rfl
theorem kw_6_181 : (Cond.fieldLink RX9 95 "StaticLinkModel" "frames" "[I") ∈ uG := uG_mem (tb_6 (List.mem_of_getElem? (i := 181) (by decide +kernel))) rfl
theorem kw_6_182 : (Cond.fieldLink RX9 98 "StaticLinkModel" "arrays" "[I") ∈ uG := uG_mem (tb_6 (List.mem_of_getElem? (i := 182) (by decide +kernel))) rfl
theorem kw_6_183 : (Cond.fieldLink RX9 358 "StaticLinkModel" "top" "I") ∈ uG := uG_mem (tb_6 (List.mem_of_getElem? (i := 183) (by decide +kernel))) rfl
theorem kw_6_184 : (Cond.fieldLink RX9 342 "StaticLinkModel" "filled" "I") ∈ uG := uG_mem (tb_6 (List.mem_of_getElem? (i := 184) (by decide +kernel))) rfl
theorem kw_6_185 : (Cond.fieldLink RX9 370 "StaticLinkModel" "used" "I") ∈ uG := uG_mem (tb_6 (List.mem_of_getElem? (i := 185) (by decide +kernel))) rfl
theorem kw_6_186 : (Cond.fieldLink RX9 385 "StaticLinkModel" "framed" "I") ∈ uG := uG_mem (tb_6 (List.mem_of_getElem? (i := 186) (by decide +kernel))) rfl
theorem kw_6_187 : (Cond.fieldLink RX9 373 "StaticLinkModel" "arrayed" "I") ∈ uG := uG_mem (tb_6 (List.mem_of_getElem? (i := 187) (by decide +kernel))) rfl
theorem kw_6_188 : (Cond.fieldLink RX9 349 "StaticLinkModel" "steps" "I") ∈ uG := uG_mem (tb_6 (List.mem_of_getElem? (i := 188) (by decide +kernel))) rfl
theorem kw_6_189 : (Cond.fieldLink RX9 352 "StaticLinkModel" "limit" "I") ∈ uG := uG_mem (tb_6 (List.mem_of_getElem? (i := 189) (by decide +kernel))) rfl
theorem kw_6_190 : (Cond.fieldLink RX9 440 "StaticLinkModel" "bound" "I") ∈ uG := uG_mem (tb_6 (List.mem_of_getElem? (i := 190) (by decide +kernel))) rfl
theorem kw_6_191 : (Cond.fieldLink RX9 336 "StaticLinkModel" "trap" "I") ∈ uG := uG_mem (tb_6 (List.mem_of_getElem? (i := 191) (by decide +kernel))) rfl
theorem kw_6_192 : (Cond.fieldLink RX9 339 "StaticLinkModel" "trapNode" "I") ∈ uG := uG_mem (tb_6 (List.mem_of_getElem? (i := 192) (by decide +kernel))) rfl
theorem kw_6_193 : (Cond.fieldLink RX9 388 "StaticLinkModel" "calls" "I") ∈ uG := uG_mem (tb_6 (List.mem_of_getElem? (i := 193) (by decide +kernel))) rfl
theorem kw_6_194 : (Cond.fieldLink RX9 391 "StaticLinkModel" "cells" "I") ∈ uG := uG_mem (tb_6 (List.mem_of_getElem? (i := 194) (by decide +kernel))) rfl
theorem kw_6_195 : (Cond.fieldLink RX9 361 "StaticLinkModel" "depth" "I") ∈ uG := uG_mem (tb_6 (List.mem_of_getElem? (i := 195) (by decide +kernel))) rfl
theorem kw_6_196 : (Cond.fieldLink RX9 364 "StaticLinkModel" "live" "I") ∈ uG := uG_mem (tb_6 (List.mem_of_getElem? (i := 196) (by decide +kernel))) rfl
theorem kw_6_197 : (Cond.fieldLink RX9 394 "StaticLinkModel" "mostDepth" "I") ∈ uG := uG_mem (tb_6 (List.mem_of_getElem? (i := 197) (by decide +kernel))) rfl
theorem kw_6_198 : (Cond.fieldLink RX9 397 "StaticLinkModel" "mostLive" "I") ∈ uG := uG_mem (tb_6 (List.mem_of_getElem? (i := 198) (by decide +kernel))) rfl
theorem kw_6_199 : (Cond.fieldLink RX9 462 "StaticLinkModel" "gave" "I") ∈ uG := uG_mem (tb_6 (List.mem_of_getElem? (i := 199) (by decide +kernel))) rfl
theorem kw_6_200 : (Cond.fieldLink RX9 469 "StaticLinkModel" "outs" "I") ∈ uG := uG_mem (tb_6 (List.mem_of_getElem? (i := 200) (by decide +kernel))) rfl
theorem kw_6_201 : (Cond.fieldLink RX9 465 "StaticLinkModel" "total" "J") ∈ uG := uG_mem (tb_6 (List.mem_of_getElem? (i := 201) (by decide +kernel))) rfl
theorem kw_6_202 : (Cond.fieldLink RX9 482 "StaticLinkModel" "latestTotal" "J") ∈ uG := uG_mem (tb_6 (List.mem_of_getElem? (i := 202) (by decide +kernel))) rfl
theorem kw_6_203 : (Cond.fieldLink RX9 443 "StaticLinkModel" "doesCut" "Z") ∈ uG := uG_mem (tb_6 (List.mem_of_getElem? (i := 203) (by decide +kernel))) rfl
theorem kw_6_204 : (Cond.fieldLink RX9 101 "StaticLinkModel" "out" "[I") ∈ uG := uG_mem (tb_6 (List.mem_of_getElem? (i := 204) (by decide +kernel))) rfl
theorem kw_6_205 : (Cond.fieldLink RX9 104 "StaticLinkModel" "home" "[I") ∈ uG := uG_mem (tb_6 (List.mem_of_getElem? (i := 205) (by decide +kernel))) rfl
theorem kw_6_206 : (Cond.fieldLink RX9 107 "StaticLinkModel" "cost" "[I") ∈ uG := uG_mem (tb_6 (List.mem_of_getElem? (i := 206) (by decide +kernel))) rfl
theorem kw_6_207 : (Cond.fieldLink RX9 110 "StaticLinkModel" "tails" "[Z") ∈ uG := uG_mem (tb_6 (List.mem_of_getElem? (i := 207) (by decide +kernel))) rfl
theorem kw_6_208 : (Cond.lays RX9 "StaticLinkModel" "thrown" "I") ∈ uG := uG_mem (tb_6 (List.mem_of_getElem? (i := 208) (by decide +kernel))) rfl
theorem kw_6_210 : (Cond.lays RX9 "StaticLinkModel" "procedures" "I") ∈ uG := uG_mem (tb_6 (List.mem_of_getElem? (i := 210) (by decide +kernel))) rfl
theorem kw_6_212 : (Cond.laysFinal RX9 "StaticLinkModel" "parent" "[I") ∈ uG := uG_mem (tb_6 (List.mem_of_getElem? (i := 212) (by decide +kernel))) rfl
theorem kw_6_214 : (Cond.laysFinal RX9 "StaticLinkModel" "named" "[I") ∈ uG := uG_mem (tb_6 (List.mem_of_getElem? (i := 214) (by decide +kernel))) rfl
theorem kw_6_216 : (Cond.laysFinal RX9 "StaticLinkModel" "parameters" "[I") ∈ uG := uG_mem (tb_6 (List.mem_of_getElem? (i := 216) (by decide +kernel))) rfl
theorem kw_6_218 : (Cond.laysFinal RX9 "StaticLinkModel" "variables" "[I") ∈ uG := uG_mem (tb_6 (List.mem_of_getElem? (i := 218) (by decide +kernel))) rfl
theorem kw_6_220 : (Cond.laysFinal RX9 "StaticLinkModel" "places" "[I") ∈ uG := uG_mem (tb_6 (List.mem_of_getElem? (i := 220) (by decide +kernel))) rfl
theorem kw_6_222 : (Cond.laysFinal RX9 "StaticLinkModel" "bodies" "[I") ∈ uG := uG_mem (tb_6 (List.mem_of_getElem? (i := 222) (by decide +kernel))) rfl
theorem kw_6_224 : (Cond.laysFinal RX9 "StaticLinkModel" "what" "[I") ∈ uG := uG_mem (tb_6 (List.mem_of_getElem? (i := 224) (by decide +kernel))) rfl
theorem kw_6_226 : (Cond.laysFinal RX9 "StaticLinkModel" "place" "[I") ∈ uG := uG_mem (tb_6 (List.mem_of_getElem? (i := 226) (by decide +kernel))) rfl
theorem kw_6_228 : (Cond.laysFinal RX9 "StaticLinkModel" "size" "[I") ∈ uG := uG_mem (tb_6 (List.mem_of_getElem? (i := 228) (by decide +kernel))) rfl
theorem kw_6_230 : (Cond.laysFinal RX9 "StaticLinkModel" "at" "[I") ∈ uG := uG_mem (tb_6 (List.mem_of_getElem? (i := 230) (by decide +kernel))) rfl
theorem kw_6_232 : (Cond.laysFinal RX9 "StaticLinkModel" "sizeAt" "[I") ∈ uG := uG_mem (tb_6 (List.mem_of_getElem? (i := 232) (by decide +kernel))) rfl
theorem kw_6_234 : (Cond.lays RX9 "StaticLinkModel" "nodes" "I") ∈ uG := uG_mem (tb_6 (List.mem_of_getElem? (i := 234) (by decide +kernel))) rfl
theorem kw_6_236 : (Cond.laysFinal RX9 "StaticLinkModel" "kind" "[I") ∈ uG := uG_mem (tb_6 (List.mem_of_getElem? (i := 236) (by decide +kernel))) rfl
theorem kw_6_238 : (Cond.laysFinal RX9 "StaticLinkModel" "a" "[I") ∈ uG := uG_mem (tb_6 (List.mem_of_getElem? (i := 238) (by decide +kernel))) rfl
theorem kw_7_0 : (Cond.laysFinal RX9 "StaticLinkModel" "b" "[I") ∈ uG := uG_mem (tb_7 (List.mem_of_getElem? (i := 0) (by decide +kernel))) rfl
theorem kw_7_2 : (Cond.laysFinal RX9 "StaticLinkModel" "c" "[I") ∈ uG := uG_mem (tb_7 (List.mem_of_getElem? (i := 2) (by decide +kernel))) rfl
theorem kw_7_4 : (Cond.laysFinal RX9 "StaticLinkModel" "above" "[I") ∈ uG := uG_mem (tb_7 (List.mem_of_getElem? (i := 4) (by decide +kernel))) rfl
theorem kw_7_6 : (Cond.laysFinal RX9 "StaticLinkModel" "bodyOf" "[I") ∈ uG := uG_mem (tb_7 (List.mem_of_getElem? (i := 6) (by decide +kernel))) rfl
theorem kw_7_8 : (Cond.lays RX9 "StaticLinkModel" "passes" "I") ∈ uG := uG_mem (tb_7 (List.mem_of_getElem? (i := 8) (by decide +kernel))) rfl
theorem kw_7_10 : (Cond.lays RX9 "StaticLinkModel" "most" "I") ∈ uG := uG_mem (tb_7 (List.mem_of_getElem? (i := 10) (by decide +kernel))) rfl
theorem kw_7_12 : (Cond.lays RX9 "StaticLinkModel" "deep" "I") ∈ uG := uG_mem (tb_7 (List.mem_of_getElem? (i := 12) (by decide +kernel))) rfl
theorem kw_7_14 : (Cond.lays RX9 "StaticLinkModel" "runs" "I") ∈ uG := uG_mem (tb_7 (List.mem_of_getElem? (i := 14) (by decide +kernel))) rfl
theorem kw_7_16 : (Cond.lays RX9 "StaticLinkModel" "latest" "[I") ∈ uG := uG_mem (tb_7 (List.mem_of_getElem? (i := 16) (by decide +kernel))) rfl
theorem kw_7_18 : (Cond.lays RX9 "StaticLinkModel" "printed" "[I") ∈ uG := uG_mem (tb_7 (List.mem_of_getElem? (i := 18) (by decide +kernel))) rfl
end XW2
