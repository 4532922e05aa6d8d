section XW1
theorem tb_1 {w : Cond} (h : w ∈ tables_1_1) : w ∈ tables_1 := List.mem_append_left _ h
theorem tb_2 {w : Cond} (h : w ∈ tables_1_2) : w ∈ tables_1 := List.mem_append_right _ (List.mem_append_left _ h)
theorem tb_3 {w : Cond} (h : w ∈ tables_1_3) : w ∈ tables_1 := List.mem_append_right _ (List.mem_append_right _ (List.mem_append_left _ h))
theorem tb_4 {w : Cond} (h : w ∈ tables_1_4) : w ∈ tables_1 := List.mem_append_right _ (List.mem_append_right _ (List.mem_append_right _ (List.mem_append_left _ h)))
theorem tb_5 {w : Cond} (h : w ∈ tables_1_5) : w ∈ tables_1 := List.mem_append_right _ (List.mem_append_right _ (List.mem_append_right _ (List.mem_append_right _ (List.mem_append_left _ h))))
theorem tb_6 {w : Cond} (h : w ∈ tables_1_6) : w ∈ tables_1 := List.mem_append_right _ (List.mem_append_right _ (List.mem_append_right _ (List.mem_append_right _ (List.mem_append_right _ (List.mem_append_left _ h)))))
theorem tb_7 {w : Cond} (h : w ∈ tables_1_7) : w ∈ tables_1 := List.mem_append_right _ (List.mem_append_right _ (List.mem_append_right _ (List.mem_append_right _ (List.mem_append_right _ (List.mem_append_right _ (List.mem_append_left _ h))))))
theorem tb_8 {w : Cond} (h : w ∈ tables_1_8) : w ∈ tables_1 := List.mem_append_right _ (List.mem_append_right _ (List.mem_append_right _ (List.mem_append_right _ (List.mem_append_right _ (List.mem_append_right _ (List.mem_append_right _ (List.mem_append_left _ h)))))))
theorem tb_9 {w : Cond} (h : w ∈ tables_1_9) : w ∈ tables_1 := List.mem_append_right _ (List.mem_append_right _ (List.mem_append_right _ (List.mem_append_right _ (List.mem_append_right _ (List.mem_append_right _ (List.mem_append_right _ (List.mem_append_right _ (h))))))))
theorem pv_1 {w : MethodName × Nat} (h : w ∈ lw_privs_1) : w ∈ lw_privs := List.mem_append_left _ h
theorem pv_2 {w : MethodName × Nat} (h : w ∈ lw_privs_2) : w ∈ lw_privs := List.mem_append_right _ (List.mem_append_left _ h)
theorem pv_3 {w : MethodName × Nat} (h : w ∈ lw_privs_3) : w ∈ lw_privs := List.mem_append_right _ (List.mem_append_right _ (List.mem_append_left _ h))
theorem pv_4 {w : MethodName × Nat} (h : w ∈ lw_privs_4) : w ∈ lw_privs := List.mem_append_right _ (List.mem_append_right _ (List.mem_append_right _ (List.mem_append_left _ h)))
theorem pv_5 {w : MethodName × Nat} (h : w ∈ lw_privs_5) : w ∈ lw_privs := List.mem_append_right _ (List.mem_append_right _ (List.mem_append_right _ (List.mem_append_right _ (List.mem_append_left _ h))))
theorem pv_6 {w : MethodName × Nat} (h : w ∈ lw_privs_6) : w ∈ lw_privs := List.mem_append_right _ (List.mem_append_right _ (List.mem_append_right _ (List.mem_append_right _ (List.mem_append_right _ (List.mem_append_left _ h)))))
theorem pv_7 {w : MethodName × Nat} (h : w ∈ lw_privs_7) : w ∈ lw_privs := List.mem_append_right _ (List.mem_append_right _ (List.mem_append_right _ (List.mem_append_right _ (List.mem_append_right _ (List.mem_append_right _ (List.mem_append_left _ h))))))
theorem pv_8 {w : MethodName × Nat} (h : w ∈ lw_privs_8) : w ∈ lw_privs := List.mem_append_right _ (List.mem_append_right _ (List.mem_append_right _ (List.mem_append_right _ (List.mem_append_right _ (List.mem_append_right _ (List.mem_append_right _ (List.mem_append_left _ h)))))))
theorem pv_9 {w : MethodName × Nat} (h : w ∈ lw_privs_9) : w ∈ lw_privs := List.mem_append_right _ (List.mem_append_right _ (List.mem_append_right _ (List.mem_append_right _ (List.mem_append_right _ (List.mem_append_right _ (List.mem_append_right _ (List.mem_append_right _ (List.mem_append_left _ h))))))))
theorem pv_10 {w : MethodName × Nat} (h : w ∈ lw_privs_10) : w ∈ lw_privs := List.mem_append_right _ (List.mem_append_right _ (List.mem_append_right _ (List.mem_append_right _ (List.mem_append_right _ (List.mem_append_right _ (List.mem_append_right _ (List.mem_append_right _ (List.mem_append_right _ (h)))))))))
theorem kw_1_0 : (Cond.initialized RL) ∈ uG := uG_mem (tb_1 (List.mem_of_getElem? (i := 0) (by decide +kernel))) rfl
theorem kw_1_1 : (Cond.initialized RX8) ∈ uG := uG_mem (tb_1 (List.mem_of_getElem? (i := 1) (by decide +kernel))) rfl
theorem kw_1_2 : (Cond.initialized RX1) ∈ uG := uG_mem (tb_1 (List.mem_of_getElem? (i := 2) (by decide +kernel))) rfl
theorem kw_1_3 : (Cond.initialized RJ7) ∈ uG := uG_mem (tb_1 (List.mem_of_getElem? (i := 3) (by decide +kernel))) rfl
theorem kw_1_4 : (Cond.initialized RX5) ∈ uG := uG_mem (tb_1 (List.mem_of_getElem? (i := 4) (by decide +kernel))) rfl
theorem kw_1_5 : (Cond.initialized RX4) ∈ uG := uG_mem (tb_1 (List.mem_of_getElem? (i := 5) (by decide +kernel))) rfl
theorem kw_1_6 : (Cond.initialized RX2) ∈ uG := uG_mem (tb_1 (List.mem_of_getElem? (i := 6) (by decide +kernel))) rfl
theorem kw_1_7 : (Cond.initialized RX0) ∈ uG := uG_mem (tb_1 (List.mem_of_getElem? (i := 7) (by decide +kernel))) rfl
theorem kw_1_8 : (Cond.initialized RX3) ∈ uG := uG_mem (tb_1 (List.mem_of_getElem? (i := 8) (by decide +kernel))) rfl
theorem kw_1_9 : (Cond.initialized RX7) ∈ uG := uG_mem (tb_1 (List.mem_of_getElem? (i := 9) (by decide +kernel))) rfl
theorem kw_1_10 : (Cond.initialized RX6) ∈ uG := uG_mem (tb_1 (List.mem_of_getElem? (i := 10) (by decide +kernel))) rfl
theorem kw_1_11 : (Cond.initialized RX9) ∈ uG := uG_mem (tb_1 (List.mem_of_getElem? (i := 11) (by decide +kernel))) rfl
theorem kw_1_12 : (Cond.initialized "java/lang/Throwable") ∈ uG := uG_mem (tb_1 (List.mem_of_getElem? (i := 12) (by decide +kernel))) rfl
theorem kw_1_13 : (Cond.initialized "java/lang/Exception") ∈ uG := uG_mem (tb_1 (List.mem_of_getElem? (i := 13) (by decide +kernel))) rfl
theorem kw_1_14 : (Cond.initialized "java/lang/RuntimeException") ∈ uG := uG_mem (tb_1 (List.mem_of_getElem? (i := 14) (by decide +kernel))) rfl
theorem kw_1_15 : (Cond.initialized "java/lang/IndexOutOfBoundsException") ∈ uG := uG_mem (tb_1 (List.mem_of_getElem? (i := 15) (by decide +kernel))) rfl
theorem kw_1_16 : (Cond.initialized "java/lang/IllegalArgumentException") ∈ uG := uG_mem (tb_1 (List.mem_of_getElem? (i := 16) (by decide +kernel))) rfl
theorem kw_1_17 : (Cond.initialized "java/lang/IllegalStateException") ∈ uG := uG_mem (tb_1 (List.mem_of_getElem? (i := 17) (by decide +kernel))) rfl
theorem kw_1_18 : (Cond.initialized RJ6) ∈ uG := uG_mem (tb_1 (List.mem_of_getElem? (i := 18) (by decide +kernel))) rfl
theorem kw_1_19 : (Cond.initialized RJ10) ∈ uG := uG_mem (tb_1 (List.mem_of_getElem? (i := 19) (by decide +kernel))) rfl
theorem kw_1_20 : (Cond.initialized RJ9) ∈ uG := uG_mem (tb_1 (List.mem_of_getElem? (i := 20) (by decide +kernel))) rfl
theorem kw_1_21 : (Cond.classLink RL 8 RX8) ∈ uG := uG_mem (tb_1 (List.mem_of_getElem? (i := 21) (by decide +kernel))) rfl
theorem kw_1_22 : (Cond.instantiable RX8 14) ∈ uG := uG_mem (tb_1 (List.mem_of_getElem? (i := 22) (by decide +kernel))) rfl
theorem kw_1_23 : (Cond.methodLink RL 77 yX8_init) ∈ uG := uG_mem (tb_1 (List.mem_of_getElem? (i := 23) (by decide +kernel))) rfl
theorem kw_1_24 : (Cond.instanceMethod yX8_init) ∈ uG := uG_mem (tb_1 (List.mem_of_getElem? (i := 24) (by decide +kernel))) rfl
theorem kw_1_25 : (Cond.code yX8_init cX8_init 1 none) ∈ uG := uG_mem (tb_1 (List.mem_of_getElem? (i := 25) (by decide +kernel))) rfl
theorem kw_1_26 : (Cond.methodLink RX8 3 ⟨"java/lang/Object", "<init>", "()V"⟩) ∈ uG := uG_mem (tb_1 (List.mem_of_getElem? (i := 26) (by decide +kernel))) rfl
theorem kw_1_27 : (Cond.instanceMethod ⟨"java/lang/Object", "<init>", "()V"⟩) ∈ uG := uG_mem (tb_1 (List.mem_of_getElem? (i := 27) (by decide +kernel))) rfl
theorem kw_1_28 : (Cond.code ⟨"java/lang/Object", "<init>", "()V"⟩ object_method_1_code 1 none) ∈ uG := uG_mem (tb_1 (List.mem_of_getElem? (i := 28) (by decide +kernel))) rfl
theorem kw_1_29 : (Cond.classLink RX8 9 RX1) ∈ uG := uG_mem (tb_1 (List.mem_of_getElem? (i := 29) (by decide +kernel))) rfl
theorem kw_1_30 : (Cond.instantiable RX1 12) ∈ uG := uG_mem (tb_1 (List.mem_of_getElem? (i := 30) (by decide +kernel))) rfl
theorem kw_1_31 : (Cond.methodLink RX8 11 yX1_init) ∈ uG := uG_mem (tb_1 (List.mem_of_getElem? (i := 31) (by decide +kernel))) rfl
theorem kw_1_32 : (Cond.instanceMethod yX1_init) ∈ uG := uG_mem (tb_1 (List.mem_of_getElem? (i := 32) (by decide +kernel))) rfl
theorem kw_1_33 : (Cond.code yX1_init cX1_init 1 none) ∈ uG := uG_mem (tb_1 (List.mem_of_getElem? (i := 33) (by decide +kernel))) rfl
theorem kw_1_34 : (Cond.methodLink RX1 3 ⟨"java/lang/Object", "<init>", "()V"⟩) ∈ uG := uG_mem (tb_1 (List.mem_of_getElem? (i := 34) (by decide +kernel))) rfl
theorem kw_1_35 : (Cond.methodLink RX1 49 yJ7_fill_53178) ∈ uG := uG_mem (tb_1 (List.mem_of_getElem? (i := 35) (by decide +kernel))) rfl
theorem kw_1_36 : (Cond.static yJ7_fill_53178) ∈ uG := uG_mem (tb_1 (List.mem_of_getElem? (i := 36) (by decide +kernel))) rfl
theorem kw_1_37 : (Cond.code yJ7_fill_53178 cJ7_fill_53178 4 none) ∈ uG := uG_mem (tb_1 (List.mem_of_getElem? (i := 37) (by decide +kernel))) rfl
theorem kw_1_38 : (Cond.fieldLink RX1 9 "StaticLink$Declarations" "count" "I") ∈ uG := uG_mem (tb_1 (List.mem_of_getElem? (i := 38) (by decide +kernel))) rfl
theorem kw_1_39 : (Cond.fieldLink RX2 43 "StaticLink$Declarations" "count" "I") ∈ uG := uG_mem (tb_1 (List.mem_of_getElem? (i := 39) (by decide +kernel))) rfl
theorem kw_1_40 : (Cond.fieldLink RX8 99 "StaticLink$Declarations" "count" "I") ∈ uG := uG_mem (tb_1 (List.mem_of_getElem? (i := 40) (by decide +kernel))) rfl
theorem kw_1_41 : (Cond.fieldLink RX0 129 "StaticLink$Declarations" "count" "I") ∈ uG := uG_mem (tb_1 (List.mem_of_getElem? (i := 41) (by decide +kernel))) rfl
theorem kw_1_42 : (Cond.fieldLink RX4 191 "StaticLink$Declarations" "count" "I") ∈ uG := uG_mem (tb_1 (List.mem_of_getElem? (i := 42) (by decide +kernel))) rfl
theorem kw_1_43 : (Cond.fieldLink RX1 15 "StaticLink$Declarations" "parent" "[I") ∈ uG := uG_mem (tb_1 (List.mem_of_getElem? (i := 43) (by decide +kernel))) rfl
theorem kw_1_44 : (Cond.fieldLink RX8 149 "StaticLink$Declarations" "parent" "[I") ∈ uG := uG_mem (tb_1 (List.mem_of_getElem? (i := 44) (by decide +kernel))) rfl
theorem kw_1_45 : (Cond.fieldLink RX4 173 "StaticLink$Declarations" "parent" "[I") ∈ uG := uG_mem (tb_1 (List.mem_of_getElem? (i := 45) (by decide +kernel))) rfl
theorem kw_1_46 : (Cond.fieldLink RX1 19 "StaticLink$Declarations" "called" "[I") ∈ uG := uG_mem (tb_1 (List.mem_of_getElem? (i := 46) (by decide +kernel))) rfl
theorem kw_1_47 : (Cond.fieldLink RX8 152 "StaticLink$Declarations" "called" "[I") ∈ uG := uG_mem (tb_1 (List.mem_of_getElem? (i := 47) (by decide +kernel))) rfl
theorem kw_1_48 : (Cond.fieldLink RX1 22 "StaticLink$Declarations" "parameters" "[I") ∈ uG := uG_mem (tb_1 (List.mem_of_getElem? (i := 48) (by decide +kernel))) rfl
theorem kw_1_49 : (Cond.fieldLink RX8 155 "StaticLink$Declarations" "parameters" "[I") ∈ uG := uG_mem (tb_1 (List.mem_of_getElem? (i := 49) (by decide +kernel))) rfl
theorem kw_1_50 : (Cond.fieldLink RX2 108 "StaticLink$Declarations" "parameters" "[I") ∈ uG := uG_mem (tb_1 (List.mem_of_getElem? (i := 50) (by decide +kernel))) rfl
theorem kw_1_51 : (Cond.fieldLink RX4 185 "StaticLink$Declarations" "parameters" "[I") ∈ uG := uG_mem (tb_1 (List.mem_of_getElem? (i := 51) (by decide +kernel))) rfl
theorem kw_1_52 : (Cond.fieldLink RX3 261 "StaticLink$Declarations" "parameters" "[I") ∈ uG := uG_mem (tb_1 (List.mem_of_getElem? (i := 52) (by decide +kernel))) rfl
theorem kw_1_53 : (Cond.fieldLink RX1 25 "StaticLink$Declarations" "variables" "[I") ∈ uG := uG_mem (tb_1 (List.mem_of_getElem? (i := 53) (by decide +kernel))) rfl
theorem kw_1_54 : (Cond.fieldLink RX8 158 "StaticLink$Declarations" "variables" "[I") ∈ uG := uG_mem (tb_1 (List.mem_of_getElem? (i := 54) (by decide +kernel))) rfl
theorem kw_1_55 : (Cond.fieldLink RX1 28 "StaticLink$Declarations" "places" "[I") ∈ uG := uG_mem (tb_1 (List.mem_of_getElem? (i := 55) (by decide +kernel))) rfl
theorem kw_1_56 : (Cond.fieldLink RX3 281 "StaticLink$Declarations" "places" "[I") ∈ uG := uG_mem (tb_1 (List.mem_of_getElem? (i := 56) (by decide +kernel))) rfl
theorem kw_1_57 : (Cond.fieldLink RX1 31 "StaticLink$Declarations" "bodyNode" "[I") ∈ uG := uG_mem (tb_1 (List.mem_of_getElem? (i := 57) (by decide +kernel))) rfl
theorem kw_1_58 : (Cond.fieldLink RX2 46 "StaticLink$Declarations" "bodyNode" "[I") ∈ uG := uG_mem (tb_1 (List.mem_of_getElem? (i := 58) (by decide +kernel))) rfl
theorem kw_1_59 : (Cond.fieldLink RX8 168 "StaticLink$Declarations" "bodyNode" "[I") ∈ uG := uG_mem (tb_1 (List.mem_of_getElem? (i := 59) (by decide +kernel))) rfl
theorem kw_1_60 : (Cond.fieldLink RX0 132 "StaticLink$Declarations" "bodyNode" "[I") ∈ uG := uG_mem (tb_1 (List.mem_of_getElem? (i := 60) (by decide +kernel))) rfl
theorem kw_1_61 : (Cond.fieldLink RX1 34 "StaticLink$Declarations" "what" "[I") ∈ uG := uG_mem (tb_1 (List.mem_of_getElem? (i := 61) (by decide +kernel))) rfl
theorem kw_1_62 : (Cond.fieldLink RX4 135 "StaticLink$Declarations" "what" "[I") ∈ uG := uG_mem (tb_1 (List.mem_of_getElem? (i := 62) (by decide +kernel))) rfl
theorem kw_1_63 : (Cond.fieldLink RX8 140 "StaticLink$Declarations" "what" "[I") ∈ uG := uG_mem (tb_1 (List.mem_of_getElem? (i := 63) (by decide +kernel))) rfl
theorem kw_1_64 : (Cond.fieldLink RX1 37 "StaticLink$Declarations" "place" "[I") ∈ uG := uG_mem (tb_1 (List.mem_of_getElem? (i := 64) (by decide +kernel))) rfl
theorem kw_1_65 : (Cond.fieldLink RX4 141 "StaticLink$Declarations" "place" "[I") ∈ uG := uG_mem (tb_1 (List.mem_of_getElem? (i := 65) (by decide +kernel))) rfl
theorem kw_1_66 : (Cond.fieldLink RX8 136 "StaticLink$Declarations" "place" "[I") ∈ uG := uG_mem (tb_1 (List.mem_of_getElem? (i := 66) (by decide +kernel))) rfl
theorem kw_1_67 : (Cond.fieldLink RX1 40 "StaticLink$Declarations" "detail" "[I") ∈ uG := uG_mem (tb_1 (List.mem_of_getElem? (i := 67) (by decide +kernel))) rfl
theorem kw_1_68 : (Cond.fieldLink RX4 144 "StaticLink$Declarations" "detail" "[I") ∈ uG := uG_mem (tb_1 (List.mem_of_getElem? (i := 68) (by decide +kernel))) rfl
theorem kw_1_69 : (Cond.fieldLink RX8 143 "StaticLink$Declarations" "detail" "[I") ∈ uG := uG_mem (tb_1 (List.mem_of_getElem? (i := 69) (by decide +kernel))) rfl
theorem kw_1_70 : (Cond.fieldLink RX1 43 "StaticLink$Declarations" "whatAt" "[I") ∈ uG := uG_mem (tb_1 (List.mem_of_getElem? (i := 70) (by decide +kernel))) rfl
theorem kw_1_71 : (Cond.fieldLink RX4 188 "StaticLink$Declarations" "whatAt" "[I") ∈ uG := uG_mem (tb_1 (List.mem_of_getElem? (i := 71) (by decide +kernel))) rfl
theorem kw_1_72 : (Cond.fieldLink RX3 298 "StaticLink$Declarations" "whatAt" "[I") ∈ uG := uG_mem (tb_1 (List.mem_of_getElem? (i := 72) (by decide +kernel))) rfl
theorem kw_1_73 : (Cond.fieldLink RX1 46 "StaticLink$Declarations" "sizeAt" "[I") ∈ uG := uG_mem (tb_1 (List.mem_of_getElem? (i := 73) (by decide +kernel))) rfl
theorem kw_1_74 : (Cond.fieldLink RX3 301 "StaticLink$Declarations" "sizeAt" "[I") ∈ uG := uG_mem (tb_1 (List.mem_of_getElem? (i := 74) (by decide +kernel))) rfl
theorem kw_1_75 : (Cond.lays RX1 "StaticLink$Declarations" "count" "I") ∈ uG := uG_mem (tb_1 (List.mem_of_getElem? (i := 75) (by decide +kernel))) rfl
theorem kw_1_77 : (Cond.laysFinal RX1 "StaticLink$Declarations" "parent" "[I") ∈ uG := uG_mem (tb_1 (List.mem_of_getElem? (i := 77) (by decide +kernel))) rfl
theorem kw_1_79 : (Cond.laysFinal RX1 "StaticLink$Declarations" "called" "[I") ∈ uG := uG_mem (tb_1 (List.mem_of_getElem? (i := 79) (by decide +kernel))) rfl
theorem kw_1_81 : (Cond.laysFinal RX1 "StaticLink$Declarations" "parameters" "[I") ∈ uG := uG_mem (tb_1 (List.mem_of_getElem? (i := 81) (by decide +kernel))) rfl
theorem kw_1_83 : (Cond.laysFinal RX1 "StaticLink$Declarations" "variables" "[I") ∈ uG := uG_mem (tb_1 (List.mem_of_getElem? (i := 83) (by decide +kernel))) rfl
theorem kw_1_85 : (Cond.laysFinal RX1 "StaticLink$Declarations" "places" "[I") ∈ uG := uG_mem (tb_1 (List.mem_of_getElem? (i := 85) (by decide +kernel))) rfl
theorem kw_1_87 : (Cond.laysFinal RX1 "StaticLink$Declarations" "bodyNode" "[I") ∈ uG := uG_mem (tb_1 (List.mem_of_getElem? (i := 87) (by decide +kernel))) rfl
theorem kw_1_89 : (Cond.laysFinal RX1 "StaticLink$Declarations" "what" "[I") ∈ uG := uG_mem (tb_1 (List.mem_of_getElem? (i := 89) (by decide +kernel))) rfl
theorem kw_1_91 : (Cond.laysFinal RX1 "StaticLink$Declarations" "place" "[I") ∈ uG := uG_mem (tb_1 (List.mem_of_getElem? (i := 91) (by decide +kernel))) rfl
theorem kw_1_93 : (Cond.laysFinal RX1 "StaticLink$Declarations" "detail" "[I") ∈ uG := uG_mem (tb_1 (List.mem_of_getElem? (i := 93) (by decide +kernel))) rfl
theorem kw_1_95 : (Cond.laysFinal RX1 "StaticLink$Declarations" "whatAt" "[I") ∈ uG := uG_mem (tb_1 (List.mem_of_getElem? (i := 95) (by decide +kernel))) rfl
theorem kw_1_97 : (Cond.laysFinal RX1 "StaticLink$Declarations" "sizeAt" "[I") ∈ uG := uG_mem (tb_1 (List.mem_of_getElem? (i := 97) (by decide +kernel))) rfl
theorem kw_1_100 : (Cond.arrayClass FieldType.int) ∈ uG := uG_mem (tb_1 (List.mem_of_getElem? (i := 100) (by decide +kernel))) rfl
theorem kw_1_101 : (Cond.classLink RX8 16 RX5) ∈ uG := uG_mem (tb_1 (List.mem_of_getElem? (i := 101) (by decide +kernel))) rfl
theorem kw_1_102 : (Cond.instantiable RX5 7) ∈ uG := uG_mem (tb_1 (List.mem_of_getElem? (i := 102) (by decide +kernel))) rfl
theorem kw_1_104 : (Cond.instanceMethod yX5_init) ∈ uG := uG_mem (tb_1 (List.mem_of_getElem? (i := 104) (by decide +kernel))) rfl
theorem kw_1_105 : (Cond.code yX5_init cX5_init 1 none) ∈ uG := uG_mem (tb_1 (List.mem_of_getElem? (i := 105) (by decide +kernel))) rfl
theorem kw_1_106 : (Cond.methodLink RX5 3 ⟨"java/lang/Object", "<init>", "()V"⟩) ∈ uG := uG_mem (tb_1 (List.mem_of_getElem? (i := 106) (by decide +kernel))) rfl
theorem kw_1_107 : (Cond.fieldLink RX5 9 "StaticLink$Nodes" "count" "I") ∈ uG := uG_mem (tb_1 (List.mem_of_getElem? (i := 107) (by decide +kernel))) rfl
theorem kw_1_108 : (Cond.fieldLink RX4 76 "StaticLink$Nodes" "count" "I") ∈ uG := uG_mem (tb_1 (List.mem_of_getElem? (i := 108) (by decide +kernel))) rfl
theorem kw_1_109 : (Cond.fieldLink RX0 68 "StaticLink$Nodes" "count" "I") ∈ uG := uG_mem (tb_1 (List.mem_of_getElem? (i := 109) (by decide +kernel))) rfl
theorem kw_1_110 : (Cond.fieldLink RX8 179 "StaticLink$Nodes" "count" "I") ∈ uG := uG_mem (tb_1 (List.mem_of_getElem? (i := 110) (by decide +kernel))) rfl
theorem kw_1_111 : (Cond.fieldLink RX5 15 "StaticLink$Nodes" "kind" "[I") ∈ uG := uG_mem (tb_1 (List.mem_of_getElem? (i := 111) (by decide +kernel))) rfl
theorem kw_1_112 : (Cond.fieldLink RX4 101 "StaticLink$Nodes" "kind" "[I") ∈ uG := uG_mem (tb_1 (List.mem_of_getElem? (i := 112) (by decide +kernel))) rfl
theorem kw_1_113 : (Cond.fieldLink RX2 72 "StaticLink$Nodes" "kind" "[I") ∈ uG := uG_mem (tb_1 (List.mem_of_getElem? (i := 113) (by decide +kernel))) rfl
theorem kw_1_114 : (Cond.fieldLink RX0 117 "StaticLink$Nodes" "kind" "[I") ∈ uG := uG_mem (tb_1 (List.mem_of_getElem? (i := 114) (by decide +kernel))) rfl
theorem kw_1_115 : (Cond.fieldLink RX8 195 "StaticLink$Nodes" "kind" "[I") ∈ uG := uG_mem (tb_1 (List.mem_of_getElem? (i := 115) (by decide +kernel))) rfl
theorem kw_1_116 : (Cond.fieldLink RX5 19 "StaticLink$Nodes" "a" "[I") ∈ uG := uG_mem (tb_1 (List.mem_of_getElem? (i := 116) (by decide +kernel))) rfl
theorem kw_1_117 : (Cond.fieldLink RX4 123 "StaticLink$Nodes" "a" "[I") ∈ uG := uG_mem (tb_1 (List.mem_of_getElem? (i := 117) (by decide +kernel))) rfl
theorem kw_1_118 : (Cond.fieldLink RX0 123 "StaticLink$Nodes" "a" "[I") ∈ uG := uG_mem (tb_1 (List.mem_of_getElem? (i := 118) (by decide +kernel))) rfl
theorem kw_1_119 : (Cond.fieldLink RX8 198 "StaticLink$Nodes" "a" "[I") ∈ uG := uG_mem (tb_1 (List.mem_of_getElem? (i := 119) (by decide +kernel))) rfl
theorem kw_1_120 : (Cond.fieldLink RX5 22 "StaticLink$Nodes" "b" "[I") ∈ uG := uG_mem (tb_1 (List.mem_of_getElem? (i := 120) (by decide +kernel))) rfl
theorem kw_1_121 : (Cond.fieldLink RX4 150 "StaticLink$Nodes" "b" "[I") ∈ uG := uG_mem (tb_1 (List.mem_of_getElem? (i := 121) (by decide +kernel))) rfl
theorem kw_1_122 : (Cond.fieldLink RX2 111 "StaticLink$Nodes" "b" "[I") ∈ uG := uG_mem (tb_1 (List.mem_of_getElem? (i := 122) (by decide +kernel))) rfl
theorem kw_1_123 : (Cond.fieldLink RX8 201 "StaticLink$Nodes" "b" "[I") ∈ uG := uG_mem (tb_1 (List.mem_of_getElem? (i := 123) (by decide +kernel))) rfl
theorem kw_1_124 : (Cond.fieldLink RX0 180 "StaticLink$Nodes" "b" "[I") ∈ uG := uG_mem (tb_1 (List.mem_of_getElem? (i := 124) (by decide +kernel))) rfl
theorem kw_1_125 : (Cond.fieldLink RX5 25 "StaticLink$Nodes" "c" "[I") ∈ uG := uG_mem (tb_1 (List.mem_of_getElem? (i := 125) (by decide +kernel))) rfl
theorem kw_1_126 : (Cond.fieldLink RX4 156 "StaticLink$Nodes" "c" "[I") ∈ uG := uG_mem (tb_1 (List.mem_of_getElem? (i := 126) (by decide +kernel))) rfl
theorem kw_1_127 : (Cond.fieldLink RX8 204 "StaticLink$Nodes" "c" "[I") ∈ uG := uG_mem (tb_1 (List.mem_of_getElem? (i := 127) (by decide +kernel))) rfl
theorem kw_1_128 : (Cond.fieldLink RX2 121 "StaticLink$Nodes" "c" "[I") ∈ uG := uG_mem (tb_1 (List.mem_of_getElem? (i := 128) (by decide +kernel))) rfl
theorem kw_1_129 : (Cond.fieldLink RX0 192 "StaticLink$Nodes" "c" "[I") ∈ uG := uG_mem (tb_1 (List.mem_of_getElem? (i := 129) (by decide +kernel))) rfl
theorem kw_1_130 : (Cond.fieldLink RX5 28 "StaticLink$Nodes" "whole" "[I") ∈ uG := uG_mem (tb_1 (List.mem_of_getElem? (i := 130) (by decide +kernel))) rfl
theorem kw_1_131 : (Cond.fieldLink RX4 117 "StaticLink$Nodes" "whole" "[I") ∈ uG := uG_mem (tb_1 (List.mem_of_getElem? (i := 131) (by decide +kernel))) rfl
theorem kw_1_132 : (Cond.fieldLink RX0 177 "StaticLink$Nodes" "whole" "[I") ∈ uG := uG_mem (tb_1 (List.mem_of_getElem? (i := 132) (by decide +kernel))) rfl
theorem kw_1_133 : (Cond.fieldLink RX3 249 "StaticLink$Nodes" "whole" "[I") ∈ uG := uG_mem (tb_1 (List.mem_of_getElem? (i := 133) (by decide +kernel))) rfl
theorem kw_1_134 : (Cond.fieldLink RX5 31 "StaticLink$Nodes" "bodyOf" "[I") ∈ uG := uG_mem (tb_1 (List.mem_of_getElem? (i := 134) (by decide +kernel))) rfl
theorem kw_1_135 : (Cond.fieldLink RX4 114 "StaticLink$Nodes" "bodyOf" "[I") ∈ uG := uG_mem (tb_1 (List.mem_of_getElem? (i := 135) (by decide +kernel))) rfl
theorem kw_1_136 : (Cond.fieldLink RX8 192 "StaticLink$Nodes" "bodyOf" "[I") ∈ uG := uG_mem (tb_1 (List.mem_of_getElem? (i := 136) (by decide +kernel))) rfl
theorem kw_1_137 : (Cond.lays RX5 "StaticLink$Nodes" "count" "I") ∈ uG := uG_mem (tb_1 (List.mem_of_getElem? (i := 137) (by decide +kernel))) rfl
theorem kw_1_139 : (Cond.laysFinal RX5 "StaticLink$Nodes" "kind" "[I") ∈ uG := uG_mem (tb_1 (List.mem_of_getElem? (i := 139) (by decide +kernel))) rfl
theorem kw_1_141 : (Cond.laysFinal RX5 "StaticLink$Nodes" "a" "[I") ∈ uG := uG_mem (tb_1 (List.mem_of_getElem? (i := 141) (by decide +kernel))) rfl
theorem kw_1_143 : (Cond.laysFinal RX5 "StaticLink$Nodes" "b" "[I") ∈ uG := uG_mem (tb_1 (List.mem_of_getElem? (i := 143) (by decide +kernel))) rfl
theorem kw_1_145 : (Cond.laysFinal RX5 "StaticLink$Nodes" "c" "[I") ∈ uG := uG_mem (tb_1 (List.mem_of_getElem? (i := 145) (by decide +kernel))) rfl
theorem kw_1_147 : (Cond.laysFinal RX5 "StaticLink$Nodes" "whole" "[I") ∈ uG := uG_mem (tb_1 (List.mem_of_getElem? (i := 147) (by decide +kernel))) rfl
theorem kw_1_149 : (Cond.laysFinal RX5 "StaticLink$Nodes" "bodyOf" "[I") ∈ uG := uG_mem (tb_1 (List.mem_of_getElem? (i := 149) (by decide +kernel))) rfl
theorem kw_1_152 : (Cond.classLink RX8 23 RX4) ∈ uG := uG_mem (tb_1 (List.mem_of_getElem? (i := 152) (by decide +kernel))) rfl
theorem kw_1_153 : (Cond.instantiable RX4 19) ∈ uG := uG_mem (tb_1 (List.mem_of_getElem? (i := 153) (by decide +kernel))) rfl
theorem kw_1_154 : (Cond.methodLink RX8 25 yX4_init) ∈ uG := uG_mem (tb_1 (List.mem_of_getElem? (i := 154) (by decide +kernel))) rfl
theorem kw_1_155 : (Cond.instanceMethod yX4_init) ∈ uG := uG_mem (tb_1 (List.mem_of_getElem? (i := 155) (by decide +kernel))) rfl
theorem kw_1_156 : (Cond.code yX4_init cX4_init 3 none) ∈ uG := uG_mem (tb_1 (List.mem_of_getElem? (i := 156) (by decide +kernel))) rfl
theorem kw_1_157 : (Cond.methodLink RX4 3 ⟨"java/lang/Object", "<init>", "()V"⟩) ∈ uG := uG_mem (tb_1 (List.mem_of_getElem? (i := 157) (by decide +kernel))) rfl
theorem kw_1_158 : (Cond.fieldLink RX4 65 "StaticLink$Meaning" "declarations" "LStaticLink$Declarations;") ∈ uG := uG_mem (tb_1 (List.mem_of_getElem? (i := 158) (by decide +kernel))) rfl
theorem kw_1_159 : (Cond.fieldLink RX4 69 "StaticLink$Meaning" "nodes" "LStaticLink$Nodes;") ∈ uG := uG_mem (tb_1 (List.mem_of_getElem? (i := 159) (by decide +kernel))) rfl
theorem kw_1_160 : (Cond.fieldLink RX4 9 "StaticLink$Meaning" "in" "[I") ∈ uG := uG_mem (tb_1 (List.mem_of_getElem? (i := 160) (by decide +kernel))) rfl
theorem kw_1_161 : (Cond.fieldLink RX0 96 "StaticLink$Meaning" "in" "[I") ∈ uG := uG_mem (tb_1 (List.mem_of_getElem? (i := 161) (by decide +kernel))) rfl
theorem kw_1_162 : (Cond.fieldLink RX3 131 "StaticLink$Meaning" "in" "[I") ∈ uG := uG_mem (tb_1 (List.mem_of_getElem? (i := 162) (by decide +kernel))) rfl
theorem kw_1_163 : (Cond.fieldLink RX8 207 "StaticLink$Meaning" "in" "[I") ∈ uG := uG_mem (tb_1 (List.mem_of_getElem? (i := 163) (by decide +kernel))) rfl
theorem kw_1_164 : (Cond.fieldLink RX4 15 "StaticLink$Meaning" "owner" "[I") ∈ uG := uG_mem (tb_1 (List.mem_of_getElem? (i := 164) (by decide +kernel))) rfl
theorem kw_1_165 : (Cond.fieldLink RX4 18 "StaticLink$Meaning" "hops" "[I") ∈ uG := uG_mem (tb_1 (List.mem_of_getElem? (i := 165) (by decide +kernel))) rfl
theorem kw_1_166 : (Cond.fieldLink RX8 216 "StaticLink$Meaning" "hops" "[I") ∈ uG := uG_mem (tb_1 (List.mem_of_getElem? (i := 166) (by decide +kernel))) rfl
theorem kw_1_167 : (Cond.fieldLink RX0 149 "StaticLink$Meaning" "hops" "[I") ∈ uG := uG_mem (tb_1 (List.mem_of_getElem? (i := 167) (by decide +kernel))) rfl
theorem kw_1_168 : (Cond.fieldLink RX4 21 "StaticLink$Meaning" "is" "[I") ∈ uG := uG_mem (tb_1 (List.mem_of_getElem? (i := 168) (by decide +kernel))) rfl
theorem kw_1_169 : (Cond.fieldLink RX2 79 "StaticLink$Meaning" "is" "[I") ∈ uG := uG_mem (tb_1 (List.mem_of_getElem? (i := 169) (by decide +kernel))) rfl
theorem kw_1_170 : (Cond.fieldLink RX3 228 "StaticLink$Meaning" "is" "[I") ∈ uG := uG_mem (tb_1 (List.mem_of_getElem? (i := 170) (by decide +kernel))) rfl
theorem kw_1_171 : (Cond.fieldLink RX0 171 "StaticLink$Meaning" "is" "[I") ∈ uG := uG_mem (tb_1 (List.mem_of_getElem? (i := 171) (by decide +kernel))) rfl
theorem kw_1_172 : (Cond.fieldLink RX4 24 "StaticLink$Meaning" "target" "[I") ∈ uG := uG_mem (tb_1 (List.mem_of_getElem? (i := 172) (by decide +kernel))) rfl
theorem kw_1_173 : (Cond.fieldLink RX2 99 "StaticLink$Meaning" "target" "[I") ∈ uG := uG_mem (tb_1 (List.mem_of_getElem? (i := 173) (by decide +kernel))) rfl
theorem kw_1_174 : (Cond.fieldLink RX0 152 "StaticLink$Meaning" "target" "[I") ∈ uG := uG_mem (tb_1 (List.mem_of_getElem? (i := 174) (by decide +kernel))) rfl
theorem kw_1_175 : (Cond.fieldLink RX4 27 "StaticLink$Meaning" "folded" "[Z") ∈ uG := uG_mem (tb_1 (List.mem_of_getElem? (i := 175) (by decide +kernel))) rfl
theorem kw_1_176 : (Cond.fieldLink RX0 111 "StaticLink$Meaning" "folded" "[Z") ∈ uG := uG_mem (tb_1 (List.mem_of_getElem? (i := 176) (by decide +kernel))) rfl
theorem kw_1_177 : (Cond.fieldLink RX8 210 "StaticLink$Meaning" "folded" "[Z") ∈ uG := uG_mem (tb_1 (List.mem_of_getElem? (i := 177) (by decide +kernel))) rfl
theorem kw_1_178 : (Cond.fieldLink RX4 31 "StaticLink$Meaning" "worth" "[I") ∈ uG := uG_mem (tb_1 (List.mem_of_getElem? (i := 178) (by decide +kernel))) rfl
theorem kw_1_179 : (Cond.fieldLink RX0 155 "StaticLink$Meaning" "worth" "[I") ∈ uG := uG_mem (tb_1 (List.mem_of_getElem? (i := 179) (by decide +kernel))) rfl
theorem kw_1_180 : (Cond.fieldLink RX4 34 "StaticLink$Meaning" "tail" "[Z") ∈ uG := uG_mem (tb_1 (List.mem_of_getElem? (i := 180) (by decide +kernel))) rfl
theorem kw_1_181 : (Cond.fieldLink RX0 114 "StaticLink$Meaning" "tail" "[Z") ∈ uG := uG_mem (tb_1 (List.mem_of_getElem? (i := 181) (by decide +kernel))) rfl
theorem kw_1_182 : (Cond.fieldLink RX8 213 "StaticLink$Meaning" "tail" "[Z") ∈ uG := uG_mem (tb_1 (List.mem_of_getElem? (i := 182) (by decide +kernel))) rfl
theorem kw_1_183 : (Cond.fieldLink RX3 254 "StaticLink$Meaning" "tail" "[Z") ∈ uG := uG_mem (tb_1 (List.mem_of_getElem? (i := 183) (by decide +kernel))) rfl
theorem kw_1_184 : (Cond.fieldLink RX4 37 "StaticLink$Meaning" "mode" "[I") ∈ uG := uG_mem (tb_1 (List.mem_of_getElem? (i := 184) (by decide +kernel))) rfl
theorem kw_1_185 : (Cond.fieldLink RX0 120 "StaticLink$Meaning" "mode" "[I") ∈ uG := uG_mem (tb_1 (List.mem_of_getElem? (i := 185) (by decide +kernel))) rfl
theorem kw_1_186 : (Cond.fieldLink RX2 114 "StaticLink$Meaning" "mode" "[I") ∈ uG := uG_mem (tb_1 (List.mem_of_getElem? (i := 186) (by decide +kernel))) rfl
theorem kw_1_187 : (Cond.fieldLink RX4 40 "StaticLink$Meaning" "leaves" "[I") ∈ uG := uG_mem (tb_1 (List.mem_of_getElem? (i := 187) (by decide +kernel))) rfl
theorem kw_1_188 : (Cond.fieldLink RX2 90 "StaticLink$Meaning" "leaves" "[I") ∈ uG := uG_mem (tb_1 (List.mem_of_getElem? (i := 188) (by decide +kernel))) rfl
theorem kw_1_189 : (Cond.fieldLink RX0 189 "StaticLink$Meaning" "leaves" "[I") ∈ uG := uG_mem (tb_1 (List.mem_of_getElem? (i := 189) (by decide +kernel))) rfl
theorem kw_1_190 : (Cond.fieldLink RX4 43 "StaticLink$Meaning" "labels" "[I") ∈ uG := uG_mem (tb_1 (List.mem_of_getElem? (i := 190) (by decide +kernel))) rfl
theorem kw_1_191 : (Cond.fieldLink RX4 46 "StaticLink$Meaning" "handedOn" "[Z") ∈ uG := uG_mem (tb_1 (List.mem_of_getElem? (i := 191) (by decide +kernel))) rfl
theorem kw_1_192 : (Cond.fieldLink RX8 164 "StaticLink$Meaning" "handedOn" "[Z") ∈ uG := uG_mem (tb_1 (List.mem_of_getElem? (i := 192) (by decide +kernel))) rfl
theorem kw_1_193 : (Cond.fieldLink RX4 49 "StaticLink$Meaning" "escapes" "[I") ∈ uG := uG_mem (tb_1 (List.mem_of_getElem? (i := 193) (by decide +kernel))) rfl
theorem kw_1_194 : (Cond.fieldLink RX8 161 "StaticLink$Meaning" "escapes" "[I") ∈ uG := uG_mem (tb_1 (List.mem_of_getElem? (i := 194) (by decide +kernel))) rfl
theorem kw_1_195 : (Cond.fieldLink RX3 273 "StaticLink$Meaning" "escapes" "[I") ∈ uG := uG_mem (tb_1 (List.mem_of_getElem? (i := 195) (by decide +kernel))) rfl
theorem kw_1_196 : (Cond.fieldLink RX4 52 "StaticLink$Meaning" "nodesInNone" "I") ∈ uG := uG_mem (tb_1 (List.mem_of_getElem? (i := 196) (by decide +kernel))) rfl
theorem kw_1_197 : (Cond.fieldLink RX8 283 "StaticLink$Meaning" "nodesInNone" "I") ∈ uG := uG_mem (tb_1 (List.mem_of_getElem? (i := 197) (by decide +kernel))) rfl
theorem kw_1_198 : (Cond.fieldLink RX4 56 "StaticLink$Meaning" "nodesFolded" "I") ∈ uG := uG_mem (tb_1 (List.mem_of_getElem? (i := 198) (by decide +kernel))) rfl
theorem kw_1_199 : (Cond.fieldLink RX8 289 "StaticLink$Meaning" "nodesFolded" "I") ∈ uG := uG_mem (tb_1 (List.mem_of_getElem? (i := 199) (by decide +kernel))) rfl
theorem kw_1_200 : (Cond.fieldLink RX4 59 "StaticLink$Meaning" "tails" "I") ∈ uG := uG_mem (tb_1 (List.mem_of_getElem? (i := 200) (by decide +kernel))) rfl
theorem kw_1_201 : (Cond.fieldLink RX8 286 "StaticLink$Meaning" "tails" "I") ∈ uG := uG_mem (tb_1 (List.mem_of_getElem? (i := 201) (by decide +kernel))) rfl
theorem kw_1_202 : (Cond.fieldLink RX4 62 "StaticLink$Meaning" "placesEscaping" "I") ∈ uG := uG_mem (tb_1 (List.mem_of_getElem? (i := 202) (by decide +kernel))) rfl
theorem kw_1_203 : (Cond.fieldLink RX8 292 "StaticLink$Meaning" "placesEscaping" "I") ∈ uG := uG_mem (tb_1 (List.mem_of_getElem? (i := 203) (by decide +kernel))) rfl
theorem kw_1_204 : (Cond.laysFinal RX4 "StaticLink$Meaning" "declarations" "LStaticLink$Declarations;") ∈ uG := uG_mem (tb_1 (List.mem_of_getElem? (i := 204) (by decide +kernel))) rfl
theorem kw_1_206 : (Cond.laysFinal RX4 "StaticLink$Meaning" "nodes" "LStaticLink$Nodes;") ∈ uG := uG_mem (tb_1 (List.mem_of_getElem? (i := 206) (by decide +kernel))) rfl
theorem kw_1_208 : (Cond.laysFinal RX4 "StaticLink$Meaning" "in" "[I") ∈ uG := uG_mem (tb_1 (List.mem_of_getElem? (i := 208) (by decide +kernel))) rfl
theorem kw_1_210 : (Cond.laysFinal RX4 "StaticLink$Meaning" "owner" "[I") ∈ uG := uG_mem (tb_1 (List.mem_of_getElem? (i := 210) (by decide +kernel))) rfl
theorem kw_1_212 : (Cond.laysFinal RX4 "StaticLink$Meaning" "hops" "[I") ∈ uG := uG_mem (tb_1 (List.mem_of_getElem? (i := 212) (by decide +kernel))) rfl
theorem kw_1_214 : (Cond.laysFinal RX4 "StaticLink$Meaning" "is" "[I") ∈ uG := uG_mem (tb_1 (List.mem_of_getElem? (i := 214) (by decide +kernel))) rfl
theorem kw_1_216 : (Cond.laysFinal RX4 "StaticLink$Meaning" "target" "[I") ∈ uG := uG_mem (tb_1 (List.mem_of_getElem? (i := 216) (by decide +kernel))) rfl
theorem kw_1_218 : (Cond.laysFinal RX4 "StaticLink$Meaning" "folded" "[Z") ∈ uG := uG_mem (tb_1 (List.mem_of_getElem? (i := 218) (by decide +kernel))) rfl
theorem kw_1_220 : (Cond.laysFinal RX4 "StaticLink$Meaning" "worth" "[I") ∈ uG := uG_mem (tb_1 (List.mem_of_getElem? (i := 220) (by decide +kernel))) rfl
theorem kw_1_222 : (Cond.laysFinal RX4 "StaticLink$Meaning" "tail" "[Z") ∈ uG := uG_mem (tb_1 (List.mem_of_getElem? (i := 222) (by decide +kernel))) rfl
theorem kw_1_224 : (Cond.laysFinal RX4 "StaticLink$Meaning" "mode" "[I") ∈ uG := uG_mem (tb_1 (List.mem_of_getElem? (i := 224) (by decide +kernel))) rfl
theorem kw_1_226 : (Cond.laysFinal RX4 "StaticLink$Meaning" "leaves" "[I") ∈ uG := uG_mem (tb_1 (List.mem_of_getElem? (i := 226) (by decide +kernel))) rfl
theorem kw_1_228 : (Cond.laysFinal RX4 "StaticLink$Meaning" "labels" "[I") ∈ uG := uG_mem (tb_1 (List.mem_of_getElem? (i := 228) (by decide +kernel))) rfl
theorem kw_1_230 : (Cond.laysFinal RX4 "StaticLink$Meaning" "handedOn" "[Z") ∈ uG := uG_mem (tb_1 (List.mem_of_getElem? (i := 230) (by decide +kernel))) rfl
theorem kw_1_232 : (Cond.laysFinal RX4 "StaticLink$Meaning" "escapes" "[I") ∈ uG := uG_mem (tb_1 (List.mem_of_getElem? (i := 232) (by decide +kernel))) rfl
theorem kw_1_234 : (Cond.lays RX4 "StaticLink$Meaning" "nodesInNone" "I") ∈ uG := uG_mem (tb_1 (List.mem_of_getElem? (i := 234) (by decide +kernel))) rfl
theorem kw_1_236 : (Cond.lays RX4 "StaticLink$Meaning" "nodesFolded" "I") ∈ uG := uG_mem (tb_1 (List.mem_of_getElem? (i := 236) (by decide +kernel))) rfl
theorem kw_1_238 : (Cond.lays RX4 "StaticLink$Meaning" "tails" "I") ∈ uG := uG_mem (tb_1 (List.mem_of_getElem? (i := 238) (by decide +kernel))) rfl
theorem kw_2_0 : (Cond.lays RX4 "StaticLink$Meaning" "placesEscaping" "I") ∈ uG := uG_mem (tb_2 (List.mem_of_getElem? (i := 0) (by decide +kernel))) rfl
theorem kw_2_3 : (Cond.arrayClass FieldType.boolean) ∈ uG := uG_mem (tb_2 (List.mem_of_getElem? (i := 3) (by decide +kernel))) rfl
theorem kw_2_4 : (Cond.classLink RX8 32 RX2) ∈ uG := uG_mem (tb_2 (List.mem_of_getElem? (i := 4) (by decide +kernel))) rfl
theorem kw_2_5 : (Cond.instantiable RX2 9) ∈ uG := uG_mem (tb_2 (List.mem_of_getElem? (i := 5) (by decide +kernel))) rfl
theorem kw_2_6 : (Cond.methodLink RX8 34 yX2_init) ∈ uG := uG_mem (tb_2 (List.mem_of_getElem? (i := 6) (by decide +kernel))) rfl
theorem kw_2_7 : (Cond.instanceMethod yX2_init) ∈ uG := uG_mem (tb_2 (List.mem_of_getElem? (i := 7) (by decide +kernel))) rfl
theorem kw_2_8 : (Cond.code yX2_init cX2_init 4 none) ∈ uG := uG_mem (tb_2 (List.mem_of_getElem? (i := 8) (by decide +kernel))) rfl
theorem kw_2_9 : (Cond.methodLink RX2 3 ⟨"java/lang/Object", "<init>", "()V"⟩) ∈ uG := uG_mem (tb_2 (List.mem_of_getElem? (i := 9) (by decide +kernel))) rfl
theorem kw_2_10 : (Cond.fieldLink RX2 31 "StaticLink$Faults" "declarations" "LStaticLink$Declarations;") ∈ uG := uG_mem (tb_2 (List.mem_of_getElem? (i := 10) (by decide +kernel))) rfl
theorem kw_2_11 : (Cond.fieldLink RX2 35 "StaticLink$Faults" "nodes" "LStaticLink$Nodes;") ∈ uG := uG_mem (tb_2 (List.mem_of_getElem? (i := 11) (by decide +kernel))) rfl
theorem kw_2_12 : (Cond.fieldLink RX2 39 "StaticLink$Faults" "meaning" "LStaticLink$Meaning;") ∈ uG := uG_mem (tb_2 (List.mem_of_getElem? (i := 12) (by decide +kernel))) rfl
theorem kw_2_13 : (Cond.fieldLink RX2 9 "StaticLink$Faults" "count" "I") ∈ uG := uG_mem (tb_2 (List.mem_of_getElem? (i := 13) (by decide +kernel))) rfl
theorem kw_2_14 : (Cond.fieldLink RX8 219 "StaticLink$Faults" "count" "I") ∈ uG := uG_mem (tb_2 (List.mem_of_getElem? (i := 14) (by decide +kernel))) rfl
theorem kw_2_15 : (Cond.fieldLink RX2 15 "StaticLink$Faults" "which" "[I") ∈ uG := uG_mem (tb_2 (List.mem_of_getElem? (i := 15) (by decide +kernel))) rfl
theorem kw_2_16 : (Cond.fieldLink RX8 223 "StaticLink$Faults" "which" "[I") ∈ uG := uG_mem (tb_2 (List.mem_of_getElem? (i := 16) (by decide +kernel))) rfl
theorem kw_2_17 : (Cond.fieldLink RX2 19 "StaticLink$Faults" "procedureOf" "[I") ∈ uG := uG_mem (tb_2 (List.mem_of_getElem? (i := 17) (by decide +kernel))) rfl
theorem kw_2_18 : (Cond.fieldLink RX8 226 "StaticLink$Faults" "procedureOf" "[I") ∈ uG := uG_mem (tb_2 (List.mem_of_getElem? (i := 18) (by decide +kernel))) rfl
theorem kw_2_19 : (Cond.fieldLink RX2 22 "StaticLink$Faults" "nodeOf" "[I") ∈ uG := uG_mem (tb_2 (List.mem_of_getElem? (i := 19) (by decide +kernel))) rfl
theorem kw_2_20 : (Cond.fieldLink RX8 229 "StaticLink$Faults" "nodeOf" "[I") ∈ uG := uG_mem (tb_2 (List.mem_of_getElem? (i := 20) (by decide +kernel))) rfl
theorem kw_2_21 : (Cond.fieldLink RX2 25 "StaticLink$Faults" "waiting" "[I") ∈ uG := uG_mem (tb_2 (List.mem_of_getElem? (i := 21) (by decide +kernel))) rfl
theorem kw_2_22 : (Cond.fieldLink RX2 28 "StaticLink$Faults" "waits" "I") ∈ uG := uG_mem (tb_2 (List.mem_of_getElem? (i := 22) (by decide +kernel))) rfl
theorem kw_2_23 : (Cond.laysFinal RX2 "StaticLink$Faults" "declarations" "LStaticLink$Declarations;") ∈ uG := uG_mem (tb_2 (List.mem_of_getElem? (i := 23) (by decide +kernel))) rfl
theorem kw_2_25 : (Cond.laysFinal RX2 "StaticLink$Faults" "nodes" "LStaticLink$Nodes;") ∈ uG := uG_mem (tb_2 (List.mem_of_getElem? (i := 25) (by decide +kernel))) rfl
theorem kw_2_27 : (Cond.laysFinal RX2 "StaticLink$Faults" "meaning" "LStaticLink$Meaning;") ∈ uG := uG_mem (tb_2 (List.mem_of_getElem? (i := 27) (by decide +kernel))) rfl
theorem kw_2_29 : (Cond.lays RX2 "StaticLink$Faults" "count" "I") ∈ uG := uG_mem (tb_2 (List.mem_of_getElem? (i := 29) (by decide +kernel))) rfl
theorem kw_2_31 : (Cond.laysFinal RX2 "StaticLink$Faults" "which" "[I") ∈ uG := uG_mem (tb_2 (List.mem_of_getElem? (i := 31) (by decide +kernel))) rfl
theorem kw_2_33 : (Cond.laysFinal RX2 "StaticLink$Faults" "procedureOf" "[I") ∈ uG := uG_mem (tb_2 (List.mem_of_getElem? (i := 33) (by decide +kernel))) rfl
theorem kw_2_35 : (Cond.laysFinal RX2 "StaticLink$Faults" "nodeOf" "[I") ∈ uG := uG_mem (tb_2 (List.mem_of_getElem? (i := 35) (by decide +kernel))) rfl
theorem kw_2_37 : (Cond.laysFinal RX2 "StaticLink$Faults" "waiting" "[I") ∈ uG := uG_mem (tb_2 (List.mem_of_getElem? (i := 37) (by decide +kernel))) rfl
theorem kw_2_39 : (Cond.lays RX2 "StaticLink$Faults" "waits" "I") ∈ uG := uG_mem (tb_2 (List.mem_of_getElem? (i := 39) (by decide +kernel))) rfl
theorem kw_2_42 : (Cond.classLink RX8 41 RX0) ∈ uG := uG_mem (tb_2 (List.mem_of_getElem? (i := 42) (by decide +kernel))) rfl
theorem kw_2_43 : (Cond.instantiable RX0 17) ∈ uG := uG_mem (tb_2 (List.mem_of_getElem? (i := 43) (by decide +kernel))) rfl
theorem kw_2_44 : (Cond.methodLink RX8 43 yX0_init) ∈ uG := uG_mem (tb_2 (List.mem_of_getElem? (i := 44) (by decide +kernel))) rfl
theorem kw_2_45 : (Cond.instanceMethod yX0_init) ∈ uG := uG_mem (tb_2 (List.mem_of_getElem? (i := 45) (by decide +kernel))) rfl
theorem kw_2_46 : (Cond.code yX0_init cX0_init 4 none) ∈ uG := uG_mem (tb_2 (List.mem_of_getElem? (i := 46) (by decide +kernel))) rfl
theorem kw_2_47 : (Cond.methodLink RX0 3 ⟨"java/lang/Object", "<init>", "()V"⟩) ∈ uG := uG_mem (tb_2 (List.mem_of_getElem? (i := 47) (by decide +kernel))) rfl
theorem kw_2_48 : (Cond.fieldLink RX0 56 "StaticLink$Code" "declarations" "LStaticLink$Declarations;") ∈ uG := uG_mem (tb_2 (List.mem_of_getElem? (i := 48) (by decide +kernel))) rfl
theorem kw_2_49 : (Cond.fieldLink RX0 60 "StaticLink$Code" "nodes" "LStaticLink$Nodes;") ∈ uG := uG_mem (tb_2 (List.mem_of_getElem? (i := 49) (by decide +kernel))) rfl
theorem kw_2_50 : (Cond.fieldLink RX0 64 "StaticLink$Code" "meaning" "LStaticLink$Meaning;") ∈ uG := uG_mem (tb_2 (List.mem_of_getElem? (i := 50) (by decide +kernel))) rfl
theorem kw_2_51 : (Cond.fieldLink RX0 9 "StaticLink$Code" "laidOut" "I") ∈ uG := uG_mem (tb_2 (List.mem_of_getElem? (i := 51) (by decide +kernel))) rfl
theorem kw_2_52 : (Cond.fieldLink RX0 15 "StaticLink$Code" "total" "I") ∈ uG := uG_mem (tb_2 (List.mem_of_getElem? (i := 52) (by decide +kernel))) rfl
theorem kw_2_53 : (Cond.fieldLink RX3 97 "StaticLink$Code" "total" "I") ∈ uG := uG_mem (tb_2 (List.mem_of_getElem? (i := 53) (by decide +kernel))) rfl
theorem kw_2_54 : (Cond.fieldLink RX8 348 "StaticLink$Code" "total" "I") ∈ uG := uG_mem (tb_2 (List.mem_of_getElem? (i := 54) (by decide +kernel))) rfl
theorem kw_2_55 : (Cond.fieldLink RX0 18 "StaticLink$Code" "from" "[I") ∈ uG := uG_mem (tb_2 (List.mem_of_getElem? (i := 55) (by decide +kernel))) rfl
theorem kw_2_56 : (Cond.fieldLink RX8 235 "StaticLink$Code" "from" "[I") ∈ uG := uG_mem (tb_2 (List.mem_of_getElem? (i := 56) (by decide +kernel))) rfl
theorem kw_2_57 : (Cond.fieldLink RX3 237 "StaticLink$Code" "from" "[I") ∈ uG := uG_mem (tb_2 (List.mem_of_getElem? (i := 57) (by decide +kernel))) rfl
theorem kw_2_58 : (Cond.fieldLink RX0 22 "StaticLink$Code" "size" "[I") ∈ uG := uG_mem (tb_2 (List.mem_of_getElem? (i := 58) (by decide +kernel))) rfl
theorem kw_2_59 : (Cond.fieldLink RX8 345 "StaticLink$Code" "size" "[I") ∈ uG := uG_mem (tb_2 (List.mem_of_getElem? (i := 59) (by decide +kernel))) rfl
theorem kw_2_60 : (Cond.fieldLink RX0 25 "StaticLink$Code" "op" "[I") ∈ uG := uG_mem (tb_2 (List.mem_of_getElem? (i := 60) (by decide +kernel))) rfl
theorem kw_2_61 : (Cond.fieldLink RX3 104 "StaticLink$Code" "op" "[I") ∈ uG := uG_mem (tb_2 (List.mem_of_getElem? (i := 61) (by decide +kernel))) rfl
theorem kw_2_62 : (Cond.fieldLink RX8 238 "StaticLink$Code" "op" "[I") ∈ uG := uG_mem (tb_2 (List.mem_of_getElem? (i := 62) (by decide +kernel))) rfl
theorem kw_2_63 : (Cond.fieldLink RX0 28 "StaticLink$Code" "x" "[I") ∈ uG := uG_mem (tb_2 (List.mem_of_getElem? (i := 63) (by decide +kernel))) rfl
theorem kw_2_64 : (Cond.fieldLink RX3 139 "StaticLink$Code" "x" "[I") ∈ uG := uG_mem (tb_2 (List.mem_of_getElem? (i := 64) (by decide +kernel))) rfl
theorem kw_2_65 : (Cond.fieldLink RX8 241 "StaticLink$Code" "x" "[I") ∈ uG := uG_mem (tb_2 (List.mem_of_getElem? (i := 65) (by decide +kernel))) rfl
theorem kw_2_66 : (Cond.fieldLink RX0 31 "StaticLink$Code" "y" "[I") ∈ uG := uG_mem (tb_2 (List.mem_of_getElem? (i := 66) (by decide +kernel))) rfl
theorem kw_2_67 : (Cond.fieldLink RX3 177 "StaticLink$Code" "y" "[I") ∈ uG := uG_mem (tb_2 (List.mem_of_getElem? (i := 67) (by decide +kernel))) rfl
theorem kw_2_68 : (Cond.fieldLink RX8 244 "StaticLink$Code" "y" "[I") ∈ uG := uG_mem (tb_2 (List.mem_of_getElem? (i := 68) (by decide +kernel))) rfl
theorem kw_2_69 : (Cond.fieldLink RX0 34 "StaticLink$Code" "node" "[I") ∈ uG := uG_mem (tb_2 (List.mem_of_getElem? (i := 69) (by decide +kernel))) rfl
theorem kw_2_70 : (Cond.fieldLink RX3 206 "StaticLink$Code" "node" "[I") ∈ uG := uG_mem (tb_2 (List.mem_of_getElem? (i := 70) (by decide +kernel))) rfl
theorem kw_2_71 : (Cond.fieldLink RX0 37 "StaticLink$Code" "first" "[I") ∈ uG := uG_mem (tb_2 (List.mem_of_getElem? (i := 71) (by decide +kernel))) rfl
theorem kw_2_72 : (Cond.fieldLink RX3 114 "StaticLink$Code" "first" "[I") ∈ uG := uG_mem (tb_2 (List.mem_of_getElem? (i := 72) (by decide +kernel))) rfl
theorem kw_2_73 : (Cond.fieldLink RX0 40 "StaticLink$Code" "begins" "[I") ∈ uG := uG_mem (tb_2 (List.mem_of_getElem? (i := 73) (by decide +kernel))) rfl
theorem kw_2_74 : (Cond.fieldLink RX8 247 "StaticLink$Code" "begins" "[I") ∈ uG := uG_mem (tb_2 (List.mem_of_getElem? (i := 74) (by decide +kernel))) rfl
theorem kw_2_75 : (Cond.fieldLink RX0 43 "StaticLink$Code" "start" "[I") ∈ uG := uG_mem (tb_2 (List.mem_of_getElem? (i := 75) (by decide +kernel))) rfl
theorem kw_2_76 : (Cond.fieldLink RX3 240 "StaticLink$Code" "start" "[I") ∈ uG := uG_mem (tb_2 (List.mem_of_getElem? (i := 76) (by decide +kernel))) rfl
theorem kw_2_77 : (Cond.fieldLink RX0 46 "StaticLink$Code" "length" "[I") ∈ uG := uG_mem (tb_2 (List.mem_of_getElem? (i := 77) (by decide +kernel))) rfl
theorem kw_2_78 : (Cond.fieldLink RX3 242 "StaticLink$Code" "length" "[I") ∈ uG := uG_mem (tb_2 (List.mem_of_getElem? (i := 78) (by decide +kernel))) rfl
theorem kw_2_79 : (Cond.fieldLink RX0 49 "StaticLink$Code" "next" "[I") ∈ uG := uG_mem (tb_2 (List.mem_of_getElem? (i := 79) (by decide +kernel))) rfl
theorem kw_2_80 : (Cond.fieldLink RX3 123 "StaticLink$Code" "next" "[I") ∈ uG := uG_mem (tb_2 (List.mem_of_getElem? (i := 80) (by decide +kernel))) rfl
theorem kw_2_81 : (Cond.fieldLink RX0 52 "StaticLink$Code" "swallowed" "[Z") ∈ uG := uG_mem (tb_2 (List.mem_of_getElem? (i := 81) (by decide +kernel))) rfl
theorem kw_2_82 : (Cond.laysFinal RX0 "StaticLink$Code" "declarations" "LStaticLink$Declarations;") ∈ uG := uG_mem (tb_2 (List.mem_of_getElem? (i := 82) (by decide +kernel))) rfl
theorem kw_2_84 : (Cond.laysFinal RX0 "StaticLink$Code" "nodes" "LStaticLink$Nodes;") ∈ uG := uG_mem (tb_2 (List.mem_of_getElem? (i := 84) (by decide +kernel))) rfl
theorem kw_2_86 : (Cond.laysFinal RX0 "StaticLink$Code" "meaning" "LStaticLink$Meaning;") ∈ uG := uG_mem (tb_2 (List.mem_of_getElem? (i := 86) (by decide +kernel))) rfl
theorem kw_2_88 : (Cond.lays RX0 "StaticLink$Code" "laidOut" "I") ∈ uG := uG_mem (tb_2 (List.mem_of_getElem? (i := 88) (by decide +kernel))) rfl
theorem kw_2_90 : (Cond.lays RX0 "StaticLink$Code" "total" "I") ∈ uG := uG_mem (tb_2 (List.mem_of_getElem? (i := 90) (by decide +kernel))) rfl
theorem kw_2_92 : (Cond.laysFinal RX0 "StaticLink$Code" "from" "[I") ∈ uG := uG_mem (tb_2 (List.mem_of_getElem? (i := 92) (by decide +kernel))) rfl
theorem kw_2_94 : (Cond.laysFinal RX0 "StaticLink$Code" "size" "[I") ∈ uG := uG_mem (tb_2 (List.mem_of_getElem? (i := 94) (by decide +kernel))) rfl
theorem kw_2_96 : (Cond.laysFinal RX0 "StaticLink$Code" "op" "[I") ∈ uG := uG_mem (tb_2 (List.mem_of_getElem? (i := 96) (by decide +kernel))) rfl
theorem kw_2_98 : (Cond.laysFinal RX0 "StaticLink$Code" "x" "[I") ∈ uG := uG_mem (tb_2 (List.mem_of_getElem? (i := 98) (by decide +kernel))) rfl
theorem kw_2_100 : (Cond.laysFinal RX0 "StaticLink$Code" "y" "[I") ∈ uG := uG_mem (tb_2 (List.mem_of_getElem? (i := 100) (by decide +kernel))) rfl
theorem kw_2_102 : (Cond.laysFinal RX0 "StaticLink$Code" "node" "[I") ∈ uG := uG_mem (tb_2 (List.mem_of_getElem? (i := 102) (by decide +kernel))) rfl
theorem kw_2_104 : (Cond.laysFinal RX0 "StaticLink$Code" "first" "[I") ∈ uG := uG_mem (tb_2 (List.mem_of_getElem? (i := 104) (by decide +kernel))) rfl
theorem kw_2_106 : (Cond.laysFinal RX0 "StaticLink$Code" "begins" "[I") ∈ uG := uG_mem (tb_2 (List.mem_of_getElem? (i := 106) (by decide +kernel))) rfl
theorem kw_2_108 : (Cond.laysFinal RX0 "StaticLink$Code" "start" "[I") ∈ uG := uG_mem (tb_2 (List.mem_of_getElem? (i := 108) (by decide +kernel))) rfl
theorem kw_2_110 : (Cond.laysFinal RX0 "StaticLink$Code" "length" "[I") ∈ uG := uG_mem (tb_2 (List.mem_of_getElem? (i := 110) (by decide +kernel))) rfl
theorem kw_2_112 : (Cond.laysFinal RX0 "StaticLink$Code" "next" "[I") ∈ uG := uG_mem (tb_2 (List.mem_of_getElem? (i := 112) (by decide +kernel))) rfl
theorem kw_2_114 : (Cond.laysFinal RX0 "StaticLink$Code" "swallowed" "[Z") ∈ uG := uG_mem (tb_2 (List.mem_of_getElem? (i := 114) (by decide +kernel))) rfl
theorem kw_2_117 : (Cond.classLink RX8 51 RX3) ∈ uG := uG_mem (tb_2 (List.mem_of_getElem? (i := 117) (by decide +kernel))) rfl
theorem kw_2_118 : (Cond.instantiable RX3 17) ∈ uG := uG_mem (tb_2 (List.mem_of_getElem? (i := 118) (by decide +kernel))) rfl
theorem kw_2_119 : (Cond.methodLink RX8 53 yX3_init) ∈ uG := uG_mem (tb_2 (List.mem_of_getElem? (i := 119) (by decide +kernel))) rfl
theorem kw_2_120 : (Cond.instanceMethod yX3_init) ∈ uG := uG_mem (tb_2 (List.mem_of_getElem? (i := 120) (by decide +kernel))) rfl
theorem kw_2_121 : (Cond.code yX3_init cX3_init 5 none) ∈ uG := uG_mem (tb_2 (List.mem_of_getElem? (i := 121) (by decide +kernel))) rfl
theorem kw_2_122 : (Cond.methodLink RX3 3 ⟨"java/lang/Object", "<init>", "()V"⟩) ∈ uG := uG_mem (tb_2 (List.mem_of_getElem? (i := 122) (by decide +kernel))) rfl
theorem kw_2_123 : (Cond.classLink RX3 9 RX7) ∈ uG := uG_mem (tb_2 (List.mem_of_getElem? (i := 123) (by decide +kernel))) rfl
theorem kw_2_124 : (Cond.instantiable RX7 3) ∈ uG := uG_mem (tb_2 (List.mem_of_getElem? (i := 124) (by decide +kernel))) rfl
theorem kw_2_125 : (Cond.methodLink RX3 11 yX7_init) ∈ uG := uG_mem (tb_2 (List.mem_of_getElem? (i := 125) (by decide +kernel))) rfl
theorem kw_2_126 : (Cond.instanceMethod yX7_init) ∈ uG := uG_mem (tb_2 (List.mem_of_getElem? (i := 126) (by decide +kernel))) rfl
theorem kw_2_127 : (Cond.code yX7_init cX7_init 2 none) ∈ uG := uG_mem (tb_2 (List.mem_of_getElem? (i := 127) (by decide +kernel))) rfl
theorem kw_2_128 : (Cond.methodLink RX7 3 ⟨"java/lang/Object", "<init>", "()V"⟩) ∈ uG := uG_mem (tb_2 (List.mem_of_getElem? (i := 128) (by decide +kernel))) rfl
theorem kw_2_129 : (Cond.fieldLink RX7 15 "StaticLink$Table" "width" "I") ∈ uG := uG_mem (tb_2 (List.mem_of_getElem? (i := 129) (by decide +kernel))) rfl
theorem kw_2_130 : (Cond.fieldLink RX7 18 "StaticLink$Table" "numbers" "[I") ∈ uG := uG_mem (tb_2 (List.mem_of_getElem? (i := 130) (by decide +kernel))) rfl
theorem kw_2_131 : (Cond.fieldLink RX7 9 "StaticLink$Table" "count" "I") ∈ uG := uG_mem (tb_2 (List.mem_of_getElem? (i := 131) (by decide +kernel))) rfl
theorem kw_2_132 : (Cond.fieldLink RX3 200 "StaticLink$Table" "count" "I") ∈ uG := uG_mem (tb_2 (List.mem_of_getElem? (i := 132) (by decide +kernel))) rfl
theorem kw_2_133 : (Cond.laysFinal RX7 "StaticLink$Table" "width" "I") ∈ uG := uG_mem (tb_2 (List.mem_of_getElem? (i := 133) (by decide +kernel))) rfl
theorem kw_2_135 : (Cond.lays RX7 "StaticLink$Table" "numbers" "[I") ∈ uG := uG_mem (tb_2 (List.mem_of_getElem? (i := 135) (by decide +kernel))) rfl
theorem kw_2_137 : (Cond.lays RX7 "StaticLink$Table" "count" "I") ∈ uG := uG_mem (tb_2 (List.mem_of_getElem? (i := 137) (by decide +kernel))) rfl
theorem kw_2_140 : (Cond.classLink RX3 32 RX6) ∈ uG := uG_mem (tb_2 (List.mem_of_getElem? (i := 140) (by decide +kernel))) rfl
theorem kw_2_141 : (Cond.instantiable RX6 14) ∈ uG := uG_mem (tb_2 (List.mem_of_getElem? (i := 141) (by decide +kernel))) rfl
theorem kw_2_143 : (Cond.instanceMethod yX6_init) ∈ uG := uG_mem (tb_2 (List.mem_of_getElem? (i := 143) (by decide +kernel))) rfl
theorem kw_2_144 : (Cond.code yX6_init cX6_init 1 none) ∈ uG := uG_mem (tb_2 (List.mem_of_getElem? (i := 144) (by decide +kernel))) rfl
theorem kw_2_145 : (Cond.methodLink RX6 3 ⟨"java/lang/Object", "<init>", "()V"⟩) ∈ uG := uG_mem (tb_2 (List.mem_of_getElem? (i := 145) (by decide +kernel))) rfl
theorem kw_2_146 : (Cond.fieldLink RX6 9 "StaticLink$Outcome" "trap" "I") ∈ uG := uG_mem (tb_2 (List.mem_of_getElem? (i := 146) (by decide +kernel))) rfl
theorem kw_2_147 : (Cond.fieldLink RX3 126 "StaticLink$Outcome" "trap" "I") ∈ uG := uG_mem (tb_2 (List.mem_of_getElem? (i := 147) (by decide +kernel))) rfl
theorem kw_2_148 : (Cond.fieldLink RX8 257 "StaticLink$Outcome" "trap" "I") ∈ uG := uG_mem (tb_2 (List.mem_of_getElem? (i := 148) (by decide +kernel))) rfl
theorem kw_2_149 : (Cond.fieldLink RX6 15 "StaticLink$Outcome" "trapNode" "I") ∈ uG := uG_mem (tb_2 (List.mem_of_getElem? (i := 149) (by decide +kernel))) rfl
theorem kw_2_150 : (Cond.fieldLink RX3 128 "StaticLink$Outcome" "trapNode" "I") ∈ uG := uG_mem (tb_2 (List.mem_of_getElem? (i := 150) (by decide +kernel))) rfl
theorem kw_2_151 : (Cond.fieldLink RX6 18 "StaticLink$Outcome" "trapProcedure" "I") ∈ uG := uG_mem (tb_2 (List.mem_of_getElem? (i := 151) (by decide +kernel))) rfl
theorem kw_2_152 : (Cond.fieldLink RX3 136 "StaticLink$Outcome" "trapProcedure" "I") ∈ uG := uG_mem (tb_2 (List.mem_of_getElem? (i := 152) (by decide +kernel))) rfl
theorem kw_2_153 : (Cond.fieldLink RX6 21 "StaticLink$Outcome" "steps" "I") ∈ uG := uG_mem (tb_2 (List.mem_of_getElem? (i := 153) (by decide +kernel))) rfl
theorem kw_2_154 : (Cond.fieldLink RX3 117 "StaticLink$Outcome" "steps" "I") ∈ uG := uG_mem (tb_2 (List.mem_of_getElem? (i := 154) (by decide +kernel))) rfl
theorem kw_2_155 : (Cond.fieldLink RX6 24 "StaticLink$Outcome" "numbers" "I") ∈ uG := uG_mem (tb_2 (List.mem_of_getElem? (i := 155) (by decide +kernel))) rfl
theorem kw_2_156 : (Cond.fieldLink RX8 276 "StaticLink$Outcome" "numbers" "I") ∈ uG := uG_mem (tb_2 (List.mem_of_getElem? (i := 156) (by decide +kernel))) rfl
theorem kw_2_157 : (Cond.fieldLink RX6 27 "StaticLink$Outcome" "calls" "I") ∈ uG := uG_mem (tb_2 (List.mem_of_getElem? (i := 157) (by decide +kernel))) rfl
theorem kw_2_158 : (Cond.fieldLink RX3 267 "StaticLink$Outcome" "calls" "I") ∈ uG := uG_mem (tb_2 (List.mem_of_getElem? (i := 158) (by decide +kernel))) rfl
theorem kw_2_159 : (Cond.fieldLink RX6 30 "StaticLink$Outcome" "cells" "I") ∈ uG := uG_mem (tb_2 (List.mem_of_getElem? (i := 159) (by decide +kernel))) rfl
theorem kw_2_160 : (Cond.fieldLink RX8 298 "StaticLink$Outcome" "cells" "I") ∈ uG := uG_mem (tb_2 (List.mem_of_getElem? (i := 160) (by decide +kernel))) rfl
theorem kw_2_161 : (Cond.fieldLink RX3 270 "StaticLink$Outcome" "cells" "I") ∈ uG := uG_mem (tb_2 (List.mem_of_getElem? (i := 161) (by decide +kernel))) rfl
theorem kw_2_162 : (Cond.fieldLink RX6 33 "StaticLink$Outcome" "mostLive" "I") ∈ uG := uG_mem (tb_2 (List.mem_of_getElem? (i := 162) (by decide +kernel))) rfl
theorem kw_2_163 : (Cond.fieldLink RX8 301 "StaticLink$Outcome" "mostLive" "I") ∈ uG := uG_mem (tb_2 (List.mem_of_getElem? (i := 163) (by decide +kernel))) rfl
theorem kw_2_164 : (Cond.fieldLink RX3 284 "StaticLink$Outcome" "mostLive" "I") ∈ uG := uG_mem (tb_2 (List.mem_of_getElem? (i := 164) (by decide +kernel))) rfl
theorem kw_2_165 : (Cond.fieldLink RX6 36 "StaticLink$Outcome" "mostDepth" "I") ∈ uG := uG_mem (tb_2 (List.mem_of_getElem? (i := 165) (by decide +kernel))) rfl
theorem kw_2_166 : (Cond.fieldLink RX3 292 "StaticLink$Outcome" "mostDepth" "I") ∈ uG := uG_mem (tb_2 (List.mem_of_getElem? (i := 166) (by decide +kernel))) rfl
theorem kw_2_167 : (Cond.fieldLink RX6 39 "StaticLink$Outcome" "gave" "I") ∈ uG := uG_mem (tb_2 (List.mem_of_getElem? (i := 167) (by decide +kernel))) rfl
theorem kw_2_168 : (Cond.fieldLink RX3 264 "StaticLink$Outcome" "gave" "I") ∈ uG := uG_mem (tb_2 (List.mem_of_getElem? (i := 168) (by decide +kernel))) rfl
theorem kw_2_169 : (Cond.fieldLink RX6 42 "StaticLink$Outcome" "sum" "J") ∈ uG := uG_mem (tb_2 (List.mem_of_getElem? (i := 169) (by decide +kernel))) rfl
theorem kw_2_170 : (Cond.fieldLink RX8 279 "StaticLink$Outcome" "sum" "J") ∈ uG := uG_mem (tb_2 (List.mem_of_getElem? (i := 170) (by decide +kernel))) rfl
theorem kw_2_171 : (Cond.fieldLink RX6 46 "StaticLink$Outcome" "number" "[I") ∈ uG := uG_mem (tb_2 (List.mem_of_getElem? (i := 171) (by decide +kernel))) rfl
theorem kw_2_172 : (Cond.fieldLink RX8 267 "StaticLink$Outcome" "number" "[I") ∈ uG := uG_mem (tb_2 (List.mem_of_getElem? (i := 172) (by decide +kernel))) rfl
theorem kw_2_173 : (Cond.fieldLink RX6 50 "StaticLink$Outcome" "stepsBy" "[I") ∈ uG := uG_mem (tb_2 (List.mem_of_getElem? (i := 173) (by decide +kernel))) rfl
theorem kw_2_174 : (Cond.fieldLink RX8 270 "StaticLink$Outcome" "stepsBy" "[I") ∈ uG := uG_mem (tb_2 (List.mem_of_getElem? (i := 174) (by decide +kernel))) rfl
theorem kw_2_175 : (Cond.fieldLink RX6 53 "StaticLink$Outcome" "printNode" "[I") ∈ uG := uG_mem (tb_2 (List.mem_of_getElem? (i := 175) (by decide +kernel))) rfl
theorem kw_2_176 : (Cond.fieldLink RX8 273 "StaticLink$Outcome" "printNode" "[I") ∈ uG := uG_mem (tb_2 (List.mem_of_getElem? (i := 176) (by decide +kernel))) rfl
theorem kw_2_177 : (Cond.lays RX6 "StaticLink$Outcome" "trap" "I") ∈ uG := uG_mem (tb_2 (List.mem_of_getElem? (i := 177) (by decide +kernel))) rfl
theorem kw_2_179 : (Cond.lays RX6 "StaticLink$Outcome" "trapNode" "I") ∈ uG := uG_mem (tb_2 (List.mem_of_getElem? (i := 179) (by decide +kernel))) rfl
theorem kw_2_181 : (Cond.lays RX6 "StaticLink$Outcome" "trapProcedure" "I") ∈ uG := uG_mem (tb_2 (List.mem_of_getElem? (i := 181) (by decide +kernel))) rfl
theorem kw_2_183 : (Cond.lays RX6 "StaticLink$Outcome" "steps" "I") ∈ uG := uG_mem (tb_2 (List.mem_of_getElem? (i := 183) (by decide +kernel))) rfl
theorem kw_2_185 : (Cond.lays RX6 "StaticLink$Outcome" "numbers" "I") ∈ uG := uG_mem (tb_2 (List.mem_of_getElem? (i := 185) (by decide +kernel))) rfl
theorem kw_2_187 : (Cond.lays RX6 "StaticLink$Outcome" "calls" "I") ∈ uG := uG_mem (tb_2 (List.mem_of_getElem? (i := 187) (by decide +kernel))) rfl
theorem kw_2_189 : (Cond.lays RX6 "StaticLink$Outcome" "cells" "I") ∈ uG := uG_mem (tb_2 (List.mem_of_getElem? (i := 189) (by decide +kernel))) rfl
theorem kw_2_191 : (Cond.lays RX6 "StaticLink$Outcome" "mostLive" "I") ∈ uG := uG_mem (tb_2 (List.mem_of_getElem? (i := 191) (by decide +kernel))) rfl
theorem kw_2_193 : (Cond.lays RX6 "StaticLink$Outcome" "mostDepth" "I") ∈ uG := uG_mem (tb_2 (List.mem_of_getElem? (i := 193) (by decide +kernel))) rfl
theorem kw_2_195 : (Cond.lays RX6 "StaticLink$Outcome" "gave" "I") ∈ uG := uG_mem (tb_2 (List.mem_of_getElem? (i := 195) (by decide +kernel))) rfl
theorem kw_2_197 : (Cond.lays RX6 "StaticLink$Outcome" "sum" "J") ∈ uG := uG_mem (tb_2 (List.mem_of_getElem? (i := 197) (by decide +kernel))) rfl
theorem kw_2_199 : (Cond.laysFinal RX6 "StaticLink$Outcome" "number" "[I") ∈ uG := uG_mem (tb_2 (List.mem_of_getElem? (i := 199) (by decide +kernel))) rfl
theorem kw_2_201 : (Cond.laysFinal RX6 "StaticLink$Outcome" "stepsBy" "[I") ∈ uG := uG_mem (tb_2 (List.mem_of_getElem? (i := 201) (by decide +kernel))) rfl
theorem kw_2_203 : (Cond.laysFinal RX6 "StaticLink$Outcome" "printNode" "[I") ∈ uG := uG_mem (tb_2 (List.mem_of_getElem? (i := 203) (by decide +kernel))) rfl
theorem kw_2_206 : (Cond.fieldLink RX3 62 "StaticLink$Machine" "declarations" "LStaticLink$Declarations;") ∈ uG := uG_mem (tb_2 (List.mem_of_getElem? (i := 206) (by decide +kernel))) rfl
theorem kw_2_207 : (Cond.fieldLink RX3 66 "StaticLink$Machine" "nodes" "LStaticLink$Nodes;") ∈ uG := uG_mem (tb_2 (List.mem_of_getElem? (i := 207) (by decide +kernel))) rfl
theorem kw_2_208 : (Cond.fieldLink RX3 70 "StaticLink$Machine" "meaning" "LStaticLink$Meaning;") ∈ uG := uG_mem (tb_2 (List.mem_of_getElem? (i := 208) (by decide +kernel))) rfl
theorem kw_2_209 : (Cond.fieldLink RX3 74 "StaticLink$Machine" "plain" "LStaticLink$Code;") ∈ uG := uG_mem (tb_2 (List.mem_of_getElem? (i := 209) (by decide +kernel))) rfl
theorem kw_2_210 : (Cond.fieldLink RX3 14 "StaticLink$Machine" "memory" "LStaticLink$Table;") ∈ uG := uG_mem (tb_2 (List.mem_of_getElem? (i := 210) (by decide +kernel))) rfl
theorem kw_2_211 : (Cond.fieldLink RX3 20 "StaticLink$Machine" "operands" "LStaticLink$Table;") ∈ uG := uG_mem (tb_2 (List.mem_of_getElem? (i := 211) (by decide +kernel))) rfl
theorem kw_2_212 : (Cond.fieldLink RX3 23 "StaticLink$Machine" "frames" "LStaticLink$Table;") ∈ uG := uG_mem (tb_2 (List.mem_of_getElem? (i := 212) (by decide +kernel))) rfl
theorem kw_2_213 : (Cond.fieldLink RX3 26 "StaticLink$Machine" "returns" "LStaticLink$Table;") ∈ uG := uG_mem (tb_2 (List.mem_of_getElem? (i := 213) (by decide +kernel))) rfl
theorem kw_2_214 : (Cond.fieldLink RX3 29 "StaticLink$Machine" "loops" "LStaticLink$Table;") ∈ uG := uG_mem (tb_2 (List.mem_of_getElem? (i := 214) (by decide +kernel))) rfl
theorem kw_2_215 : (Cond.fieldLink RX3 35 "StaticLink$Machine" "told" "LStaticLink$Outcome;") ∈ uG := uG_mem (tb_2 (List.mem_of_getElem? (i := 215) (by decide +kernel))) rfl
theorem kw_2_216 : (Cond.fieldLink RX3 39 "StaticLink$Machine" "passes" "I") ∈ uG := uG_mem (tb_2 (List.mem_of_getElem? (i := 216) (by decide +kernel))) rfl
theorem kw_2_217 : (Cond.fieldLink RX3 43 "StaticLink$Machine" "deep" "I") ∈ uG := uG_mem (tb_2 (List.mem_of_getElem? (i := 217) (by decide +kernel))) rfl
theorem kw_2_218 : (Cond.fieldLink RX3 46 "StaticLink$Machine" "pc" "I") ∈ uG := uG_mem (tb_2 (List.mem_of_getElem? (i := 218) (by decide +kernel))) rfl
theorem kw_2_219 : (Cond.fieldLink RX3 49 "StaticLink$Machine" "frame" "I") ∈ uG := uG_mem (tb_2 (List.mem_of_getElem? (i := 219) (by decide +kernel))) rfl
theorem kw_2_220 : (Cond.fieldLink RX3 52 "StaticLink$Machine" "live" "I") ∈ uG := uG_mem (tb_2 (List.mem_of_getElem? (i := 220) (by decide +kernel))) rfl
theorem kw_2_221 : (Cond.fieldLink RX3 55 "StaticLink$Machine" "depth" "I") ∈ uG := uG_mem (tb_2 (List.mem_of_getElem? (i := 221) (by decide +kernel))) rfl
theorem kw_2_222 : (Cond.fieldLink RX3 58 "StaticLink$Machine" "isOver" "Z") ∈ uG := uG_mem (tb_2 (List.mem_of_getElem? (i := 222) (by decide +kernel))) rfl
theorem kw_2_223 : (Cond.laysFinal RX3 "StaticLink$Machine" "declarations" "LStaticLink$Declarations;") ∈ uG := uG_mem (tb_2 (List.mem_of_getElem? (i := 223) (by decide +kernel))) rfl
theorem kw_2_225 : (Cond.laysFinal RX3 "StaticLink$Machine" "nodes" "LStaticLink$Nodes;") ∈ uG := uG_mem (tb_2 (List.mem_of_getElem? (i := 225) (by decide +kernel))) rfl
theorem kw_2_227 : (Cond.laysFinal RX3 "StaticLink$Machine" "meaning" "LStaticLink$Meaning;") ∈ uG := uG_mem (tb_2 (List.mem_of_getElem? (i := 227) (by decide +kernel))) rfl
theorem kw_2_229 : (Cond.laysFinal RX3 "StaticLink$Machine" "plain" "LStaticLink$Code;") ∈ uG := uG_mem (tb_2 (List.mem_of_getElem? (i := 229) (by decide +kernel))) rfl
theorem kw_2_231 : (Cond.laysFinal RX3 "StaticLink$Machine" "memory" "LStaticLink$Table;") ∈ uG := uG_mem (tb_2 (List.mem_of_getElem? (i := 231) (by decide +kernel))) rfl
theorem kw_2_233 : (Cond.laysFinal RX3 "StaticLink$Machine" "operands" "LStaticLink$Table;") ∈ uG := uG_mem (tb_2 (List.mem_of_getElem? (i := 233) (by decide +kernel))) rfl
theorem kw_2_235 : (Cond.laysFinal RX3 "StaticLink$Machine" "frames" "LStaticLink$Table;") ∈ uG := uG_mem (tb_2 (List.mem_of_getElem? (i := 235) (by decide +kernel))) rfl
theorem kw_2_237 : (Cond.laysFinal RX3 "StaticLink$Machine" "returns" "LStaticLink$Table;") ∈ uG := uG_mem (tb_2 (List.mem_of_getElem? (i := 237) (by decide +kernel))) rfl
theorem kw_2_239 : (Cond.laysFinal RX3 "StaticLink$Machine" "loops" "LStaticLink$Table;") ∈ uG := uG_mem (tb_2 (List.mem_of_getElem? (i := 239) (by decide +kernel))) rfl
theorem kw_3_1 : (Cond.lays RX3 "StaticLink$Machine" "told" "LStaticLink$Outcome;") ∈ uG := uG_mem (tb_3 (List.mem_of_getElem? (i := 1) (by decide +kernel))) rfl
theorem kw_3_3 : (Cond.lays RX3 "StaticLink$Machine" "passes" "I") ∈ uG := uG_mem (tb_3 (List.mem_of_getElem? (i := 3) (by decide +kernel))) rfl
theorem kw_3_5 : (Cond.lays RX3 "StaticLink$Machine" "deep" "I") ∈ uG := uG_mem (tb_3 (List.mem_of_getElem? (i := 5) (by decide +kernel))) rfl
theorem kw_3_7 : (Cond.lays RX3 "StaticLink$Machine" "pc" "I") ∈ uG := uG_mem (tb_3 (List.mem_of_getElem? (i := 7) (by decide +kernel))) rfl
theorem kw_3_9 : (Cond.lays RX3 "StaticLink$Machine" "frame" "I") ∈ uG := uG_mem (tb_3 (List.mem_of_getElem? (i := 9) (by decide +kernel))) rfl
theorem kw_3_11 : (Cond.lays RX3 "StaticLink$Machine" "live" "I") ∈ uG := uG_mem (tb_3 (List.mem_of_getElem? (i := 11) (by decide +kernel))) rfl
theorem kw_3_13 : (Cond.lays RX3 "StaticLink$Machine" "depth" "I") ∈ uG := uG_mem (tb_3 (List.mem_of_getElem? (i := 13) (by decide +kernel))) rfl
theorem kw_3_15 : (Cond.lays RX3 "StaticLink$Machine" "isOver" "Z") ∈ uG := uG_mem (tb_3 (List.mem_of_getElem? (i := 15) (by decide +kernel))) rfl
theorem kw_3_18 : (Cond.classLink RX8 60 RX6) ∈ uG := uG_mem (tb_3 (List.mem_of_getElem? (i := 18) (by decide +kernel))) rfl
theorem kw_3_20 : (Cond.fieldLink RX8 12 "StaticLink" "declarations" "LStaticLink$Declarations;") ∈ uG := uG_mem (tb_3 (List.mem_of_getElem? (i := 20) (by decide +kernel))) rfl
theorem kw_3_21 : (Cond.fieldLink RX8 19 "StaticLink" "nodes" "LStaticLink$Nodes;") ∈ uG := uG_mem (tb_3 (List.mem_of_getElem? (i := 21) (by decide +kernel))) rfl
theorem kw_3_22 : (Cond.fieldLink RX8 28 "StaticLink" "meaning" "LStaticLink$Meaning;") ∈ uG := uG_mem (tb_3 (List.mem_of_getElem? (i := 22) (by decide +kernel))) rfl
theorem kw_3_23 : (Cond.fieldLink RX8 37 "StaticLink" "faults" "LStaticLink$Faults;") ∈ uG := uG_mem (tb_3 (List.mem_of_getElem? (i := 23) (by decide +kernel))) rfl
theorem kw_3_24 : (Cond.fieldLink RX8 44 "StaticLink" "written" "LStaticLink$Code;") ∈ uG := uG_mem (tb_3 (List.mem_of_getElem? (i := 24) (by decide +kernel))) rfl
theorem kw_3_25 : (Cond.fieldLink RX8 48 "StaticLink" "plain" "LStaticLink$Code;") ∈ uG := uG_mem (tb_3 (List.mem_of_getElem? (i := 25) (by decide +kernel))) rfl
theorem kw_3_26 : (Cond.fieldLink RX8 56 "StaticLink" "machine" "LStaticLink$Machine;") ∈ uG := uG_mem (tb_3 (List.mem_of_getElem? (i := 26) (by decide +kernel))) rfl
theorem kw_3_27 : (Cond.fieldLink RX8 63 "StaticLink" "latest" "LStaticLink$Outcome;") ∈ uG := uG_mem (tb_3 (List.mem_of_getElem? (i := 27) (by decide +kernel))) rfl
theorem kw_3_28 : (Cond.fieldLink RX8 67 "StaticLink" "trial" "LStaticLink$Outcome;") ∈ uG := uG_mem (tb_3 (List.mem_of_getElem? (i := 28) (by decide +kernel))) rfl
theorem kw_3_29 : (Cond.fieldLink RX8 70 "StaticLink" "stale" "Z") ∈ uG := uG_mem (tb_3 (List.mem_of_getElem? (i := 29) (by decide +kernel))) rfl
theorem kw_3_30 : (Cond.fieldLink RX8 74 "StaticLink" "passes" "I") ∈ uG := uG_mem (tb_3 (List.mem_of_getElem? (i := 30) (by decide +kernel))) rfl
theorem kw_3_31 : (Cond.fieldLink RX8 78 "StaticLink" "most" "I") ∈ uG := uG_mem (tb_3 (List.mem_of_getElem? (i := 31) (by decide +kernel))) rfl
theorem kw_3_32 : (Cond.fieldLink RX8 81 "StaticLink" "deep" "I") ∈ uG := uG_mem (tb_3 (List.mem_of_getElem? (i := 32) (by decide +kernel))) rfl
theorem kw_3_33 : (Cond.fieldLink RX8 84 "StaticLink" "runs" "I") ∈ uG := uG_mem (tb_3 (List.mem_of_getElem? (i := 33) (by decide +kernel))) rfl
theorem kw_3_34 : (Cond.laysFinal RX8 "StaticLink" "declarations" "LStaticLink$Declarations;") ∈ uG := uG_mem (tb_3 (List.mem_of_getElem? (i := 34) (by decide +kernel))) rfl
theorem kw_3_36 : (Cond.laysFinal RX8 "StaticLink" "nodes" "LStaticLink$Nodes;") ∈ uG := uG_mem (tb_3 (List.mem_of_getElem? (i := 36) (by decide +kernel))) rfl
theorem kw_3_38 : (Cond.laysFinal RX8 "StaticLink" "meaning" "LStaticLink$Meaning;") ∈ uG := uG_mem (tb_3 (List.mem_of_getElem? (i := 38) (by decide +kernel))) rfl
theorem kw_3_40 : (Cond.laysFinal RX8 "StaticLink" "faults" "LStaticLink$Faults;") ∈ uG := uG_mem (tb_3 (List.mem_of_getElem? (i := 40) (by decide +kernel))) rfl
theorem kw_3_42 : (Cond.laysFinal RX8 "StaticLink" "written" "LStaticLink$Code;") ∈ uG := uG_mem (tb_3 (List.mem_of_getElem? (i := 42) (by decide +kernel))) rfl
theorem kw_3_44 : (Cond.laysFinal RX8 "StaticLink" "plain" "LStaticLink$Code;") ∈ uG := uG_mem (tb_3 (List.mem_of_getElem? (i := 44) (by decide +kernel))) rfl
theorem kw_3_46 : (Cond.laysFinal RX8 "StaticLink" "machine" "LStaticLink$Machine;") ∈ uG := uG_mem (tb_3 (List.mem_of_getElem? (i := 46) (by decide +kernel))) rfl
theorem kw_3_48 : (Cond.laysFinal RX8 "StaticLink" "latest" "LStaticLink$Outcome;") ∈ uG := uG_mem (tb_3 (List.mem_of_getElem? (i := 48) (by decide +kernel))) rfl
theorem kw_3_50 : (Cond.laysFinal RX8 "StaticLink" "trial" "LStaticLink$Outcome;") ∈ uG := uG_mem (tb_3 (List.mem_of_getElem? (i := 50) (by decide +kernel))) rfl
theorem kw_3_52 : (Cond.lays RX8 "StaticLink" "stale" "Z") ∈ uG := uG_mem (tb_3 (List.mem_of_getElem? (i := 52) (by decide +kernel))) rfl
theorem kw_3_54 : (Cond.lays RX8 "StaticLink" "passes" "I") ∈ uG := uG_mem (tb_3 (List.mem_of_getElem? (i := 54) (by decide +kernel))) rfl
theorem kw_3_56 : (Cond.lays RX8 "StaticLink" "most" "I") ∈ uG := uG_mem (tb_3 (List.mem_of_getElem? (i := 56) (by decide +kernel))) rfl
theorem kw_3_58 : (Cond.lays RX8 "StaticLink" "deep" "I") ∈ uG := uG_mem (tb_3 (List.mem_of_getElem? (i := 58) (by decide +kernel))) rfl
theorem kw_3_60 : (Cond.lays RX8 "StaticLink" "runs" "I") ∈ uG := uG_mem (tb_3 (List.mem_of_getElem? (i := 60) (by decide +kernel))) rfl
theorem kw_3_63 : (Cond.methodLink RL 136 yX8_meanPrinted) ∈ uG := uG_mem (tb_3 (List.mem_of_getElem? (i := 63) (by decide +kernel))) rfl
theorem kw_3_64 : (Cond.instanceMethod yX8_meanPrinted) ∈ uG := uG_mem (tb_3 (List.mem_of_getElem? (i := 64) (by decide +kernel))) rfl
theorem kw_3_65 : (Cond.selects RX8 yX8_meanPrinted yX8_meanPrinted) ∈ uG := uG_mem (tb_3 (List.mem_of_getElem? (i := 65) (by decide +kernel))) rfl
theorem kw_3_66 : (Cond.code yX8_meanPrinted cX8_meanPrinted 1 (some .double)) ∈ uG := uG_mem (tb_3 (List.mem_of_getElem? (i := 66) (by decide +kernel))) rfl
theorem kw_3_67 : (Cond.methodLink RL 153 yX8_digest) ∈ uG := uG_mem (tb_3 (List.mem_of_getElem? (i := 67) (by decide +kernel))) rfl
theorem kw_3_68 : (Cond.instanceMethod yX8_digest) ∈ uG := uG_mem (tb_3 (List.mem_of_getElem? (i := 68) (by decide +kernel))) rfl
theorem kw_3_69 : (Cond.selects RX8 yX8_digest yX8_digest) ∈ uG := uG_mem (tb_3 (List.mem_of_getElem? (i := 69) (by decide +kernel))) rfl
theorem kw_3_70 : (Cond.code yX8_digest cX8_digest 6 (some .long)) ∈ uG := uG_mem (tb_3 (List.mem_of_getElem? (i := 70) (by decide +kernel))) rfl
theorem kw_3_71 : (Cond.methodLink RX8 146 yX8_refresh) ∈ uG := uG_mem (tb_3 (List.mem_of_getElem? (i := 71) (by decide +kernel))) rfl
theorem kw_3_73 : (Cond.instanceMethod yX8_refresh) ∈ uG := uG_mem (tb_3 (List.mem_of_getElem? (i := 73) (by decide +kernel))) rfl
theorem kw_3_74 : (Cond.code yX8_refresh cX8_refresh 1 none) ∈ uG := uG_mem (tb_3 (List.mem_of_getElem? (i := 74) (by decide +kernel))) rfl
theorem kw_3_75 : (Cond.methodLink RX8 335 yX4_find) ∈ uG := uG_mem (tb_3 (List.mem_of_getElem? (i := 75) (by decide +kernel))) rfl
theorem kw_3_76 : (Cond.instanceMethod yX4_find) ∈ uG := uG_mem (tb_3 (List.mem_of_getElem? (i := 76) (by decide +kernel))) rfl
theorem kw_3_77 : (Cond.selects RX4 yX4_find yX4_find) ∈ uG := uG_mem (tb_3 (List.mem_of_getElem? (i := 77) (by decide +kernel))) rfl
theorem kw_3_78 : (Cond.code yX4_find cX4_find 2 none) ∈ uG := uG_mem (tb_3 (List.mem_of_getElem? (i := 78) (by decide +kernel))) rfl
theorem kw_3_79 : (Cond.methodLink RX4 73 yX4_findWhereNodesAre) ∈ uG := uG_mem (tb_3 (List.mem_of_getElem? (i := 79) (by decide +kernel))) rfl
theorem kw_3_81 : (Cond.instanceMethod yX4_findWhereNodesAre) ∈ uG := uG_mem (tb_3 (List.mem_of_getElem? (i := 81) (by decide +kernel))) rfl
theorem kw_3_82 : (Cond.code yX4_findWhereNodesAre cX4_findWhereNodesAre 2 none) ∈ uG := uG_mem (tb_3 (List.mem_of_getElem? (i := 82) (by decide +kernel))) rfl
theorem kw_3_83 : (Cond.methodLink RX4 81 yX4_bind) ∈ uG := uG_mem (tb_3 (List.mem_of_getElem? (i := 83) (by decide +kernel))) rfl
theorem kw_3_85 : (Cond.instanceMethod yX4_bind) ∈ uG := uG_mem (tb_3 (List.mem_of_getElem? (i := 85) (by decide +kernel))) rfl
theorem kw_3_86 : (Cond.code yX4_bind cX4_bind 4 none) ∈ uG := uG_mem (tb_3 (List.mem_of_getElem? (i := 86) (by decide +kernel))) rfl
theorem kw_3_87 : (Cond.methodLink RX4 120 yX5_hasName) ∈ uG := uG_mem (tb_3 (List.mem_of_getElem? (i := 87) (by decide +kernel))) rfl
theorem kw_3_88 : (Cond.instanceMethod yX5_hasName) ∈ uG := uG_mem (tb_3 (List.mem_of_getElem? (i := 88) (by decide +kernel))) rfl
theorem kw_3_89 : (Cond.selects RX5 yX5_hasName yX5_hasName) ∈ uG := uG_mem (tb_3 (List.mem_of_getElem? (i := 89) (by decide +kernel))) rfl
theorem kw_3_90 : (Cond.code yX5_hasName cX5_hasName 2 (some .boolean)) ∈ uG := uG_mem (tb_3 (List.mem_of_getElem? (i := 90) (by decide +kernel))) rfl
theorem kw_3_91 : (Cond.fieldLink RX5 34 "StaticLink$Nodes" "ROLE_A" "[I") ∈ uG := uG_mem (tb_3 (List.mem_of_getElem? (i := 91) (by decide +kernel))) rfl
theorem kw_3_93 : (Cond.methodLink RX4 126 yX1_declarer) ∈ uG := uG_mem (tb_3 (List.mem_of_getElem? (i := 93) (by decide +kernel))) rfl
theorem kw_3_94 : (Cond.instanceMethod yX1_declarer) ∈ uG := uG_mem (tb_3 (List.mem_of_getElem? (i := 94) (by decide +kernel))) rfl
theorem kw_3_95 : (Cond.selects RX1 yX1_declarer yX1_declarer) ∈ uG := uG_mem (tb_3 (List.mem_of_getElem? (i := 95) (by decide +kernel))) rfl
theorem kw_3_96 : (Cond.code yX1_declarer cX1_declarer 5 (some .int)) ∈ uG := uG_mem (tb_3 (List.mem_of_getElem? (i := 96) (by decide +kernel))) rfl
theorem kw_3_97 : (Cond.methodLink RX1 55 yX1_declares) ∈ uG := uG_mem (tb_3 (List.mem_of_getElem? (i := 97) (by decide +kernel))) rfl
theorem kw_3_98 : (Cond.instanceMethod yX1_declares) ∈ uG := uG_mem (tb_3 (List.mem_of_getElem? (i := 98) (by decide +kernel))) rfl
theorem kw_3_99 : (Cond.selects RX1 yX1_declares yX1_declares) ∈ uG := uG_mem (tb_3 (List.mem_of_getElem? (i := 99) (by decide +kernel))) rfl
theorem kw_3_100 : (Cond.code yX1_declares cX1_declares 3 (some .boolean)) ∈ uG := uG_mem (tb_3 (List.mem_of_getElem? (i := 100) (by decide +kernel))) rfl
theorem kw_3_101 : (Cond.methodLink RX4 132 yX1_hopsTo) ∈ uG := uG_mem (tb_3 (List.mem_of_getElem? (i := 101) (by decide +kernel))) rfl
theorem kw_3_102 : (Cond.instanceMethod yX1_hopsTo) ∈ uG := uG_mem (tb_3 (List.mem_of_getElem? (i := 102) (by decide +kernel))) rfl
theorem kw_3_103 : (Cond.selects RX1 yX1_hopsTo yX1_hopsTo) ∈ uG := uG_mem (tb_3 (List.mem_of_getElem? (i := 103) (by decide +kernel))) rfl
theorem kw_3_104 : (Cond.code yX1_hopsTo cX1_hopsTo 5 (some .int)) ∈ uG := uG_mem (tb_3 (List.mem_of_getElem? (i := 104) (by decide +kernel))) rfl
theorem kw_3_105 : (Cond.methodLink RX4 138 yX4_hasPlace) ∈ uG := uG_mem (tb_3 (List.mem_of_getElem? (i := 105) (by decide +kernel))) rfl
theorem kw_3_107 : (Cond.instanceMethod yX4_hasPlace) ∈ uG := uG_mem (tb_3 (List.mem_of_getElem? (i := 107) (by decide +kernel))) rfl
theorem kw_3_108 : (Cond.code yX4_hasPlace cX4_hasPlace 2 (some .boolean)) ∈ uG := uG_mem (tb_3 (List.mem_of_getElem? (i := 108) (by decide +kernel))) rfl
theorem kw_3_109 : (Cond.methodLink RX4 85 yX4_fold) ∈ uG := uG_mem (tb_3 (List.mem_of_getElem? (i := 109) (by decide +kernel))) rfl
theorem kw_3_111 : (Cond.instanceMethod yX4_fold) ∈ uG := uG_mem (tb_3 (List.mem_of_getElem? (i := 111) (by decide +kernel))) rfl
theorem kw_3_112 : (Cond.code yX4_fold cX4_fold 4 none) ∈ uG := uG_mem (tb_3 (List.mem_of_getElem? (i := 112) (by decide +kernel))) rfl
theorem kw_3_113 : (Cond.methodLink RX4 147 yX4_isReckoned) ∈ uG := uG_mem (tb_3 (List.mem_of_getElem? (i := 113) (by decide +kernel))) rfl
theorem kw_3_114 : (Cond.static yX4_isReckoned) ∈ uG := uG_mem (tb_3 (List.mem_of_getElem? (i := 114) (by decide +kernel))) rfl
theorem kw_3_115 : (Cond.code yX4_isReckoned cX4_isReckoned 1 (some .boolean)) ∈ uG := uG_mem (tb_3 (List.mem_of_getElem? (i := 115) (by decide +kernel))) rfl
theorem kw_3_116 : (Cond.methodLink RX4 153 yX4_isKnown) ∈ uG := uG_mem (tb_3 (List.mem_of_getElem? (i := 116) (by decide +kernel))) rfl
theorem kw_3_118 : (Cond.instanceMethod yX4_isKnown) ∈ uG := uG_mem (tb_3 (List.mem_of_getElem? (i := 118) (by decide +kernel))) rfl
theorem kw_3_119 : (Cond.code yX4_isKnown cX4_isKnown 2 (some .boolean)) ∈ uG := uG_mem (tb_3 (List.mem_of_getElem? (i := 119) (by decide +kernel))) rfl
theorem kw_3_120 : (Cond.methodLink RX4 159 yX4_reckon) ∈ uG := uG_mem (tb_3 (List.mem_of_getElem? (i := 120) (by decide +kernel))) rfl
theorem kw_3_121 : (Cond.static yX4_reckon) ∈ uG := uG_mem (tb_3 (List.mem_of_getElem? (i := 121) (by decide +kernel))) rfl
theorem kw_3_122 : (Cond.code yX4_reckon cX4_reckon 3 (some .int)) ∈ uG := uG_mem (tb_3 (List.mem_of_getElem? (i := 122) (by decide +kernel))) rfl
theorem kw_3_123 : (Cond.methodLink RX4 88 yX4_findHandedOn) ∈ uG := uG_mem (tb_3 (List.mem_of_getElem? (i := 123) (by decide +kernel))) rfl
theorem kw_3_125 : (Cond.instanceMethod yX4_findHandedOn) ∈ uG := uG_mem (tb_3 (List.mem_of_getElem? (i := 125) (by decide +kernel))) rfl
theorem kw_3_126 : (Cond.code yX4_findHandedOn cX4_findHandedOn 2 none) ∈ uG := uG_mem (tb_3 (List.mem_of_getElem? (i := 126) (by decide +kernel))) rfl
theorem kw_3_127 : (Cond.methodLink RX4 163 yJ7_fill_53178) ∈ uG := uG_mem (tb_3 (List.mem_of_getElem? (i := 127) (by decide +kernel))) rfl
theorem kw_3_128 : (Cond.methodLink RX4 91 yX4_findEscapes) ∈ uG := uG_mem (tb_3 (List.mem_of_getElem? (i := 128) (by decide +kernel))) rfl
theorem kw_3_130 : (Cond.instanceMethod yX4_findEscapes) ∈ uG := uG_mem (tb_3 (List.mem_of_getElem? (i := 130) (by decide +kernel))) rfl
theorem kw_3_131 : (Cond.code yX4_findEscapes cX4_findEscapes 2 none) ∈ uG := uG_mem (tb_3 (List.mem_of_getElem? (i := 131) (by decide +kernel))) rfl
theorem kw_3_132 : (Cond.methodLink RX4 169 yX4_isOutliving) ∈ uG := uG_mem (tb_3 (List.mem_of_getElem? (i := 132) (by decide +kernel))) rfl
theorem kw_3_134 : (Cond.instanceMethod yX4_isOutliving) ∈ uG := uG_mem (tb_3 (List.mem_of_getElem? (i := 134) (by decide +kernel))) rfl
theorem kw_3_135 : (Cond.code yX4_isOutliving cX4_isOutliving 5 (some .boolean)) ∈ uG := uG_mem (tb_3 (List.mem_of_getElem? (i := 135) (by decide +kernel))) rfl
theorem kw_3_136 : (Cond.methodLink RX4 94 yX4_findLabels) ∈ uG := uG_mem (tb_3 (List.mem_of_getElem? (i := 136) (by decide +kernel))) rfl
theorem kw_3_138 : (Cond.instanceMethod yX4_findLabels) ∈ uG := uG_mem (tb_3 (List.mem_of_getElem? (i := 138) (by decide +kernel))) rfl
theorem kw_3_139 : (Cond.code yX4_findLabels cX4_findLabels 2 none) ∈ uG := uG_mem (tb_3 (List.mem_of_getElem? (i := 139) (by decide +kernel))) rfl
theorem kw_3_140 : (Cond.methodLink RX4 97 yX4_isTail) ∈ uG := uG_mem (tb_3 (List.mem_of_getElem? (i := 140) (by decide +kernel))) rfl
theorem kw_3_142 : (Cond.instanceMethod yX4_isTail) ∈ uG := uG_mem (tb_3 (List.mem_of_getElem? (i := 142) (by decide +kernel))) rfl
theorem kw_3_143 : (Cond.code yX4_isTail cX4_isTail 4 (some .boolean)) ∈ uG := uG_mem (tb_3 (List.mem_of_getElem? (i := 143) (by decide +kernel))) rfl
theorem kw_3_144 : (Cond.methodLink RX4 176 yX1_takesValuesAlone) ∈ uG := uG_mem (tb_3 (List.mem_of_getElem? (i := 144) (by decide +kernel))) rfl
theorem kw_3_145 : (Cond.instanceMethod yX1_takesValuesAlone) ∈ uG := uG_mem (tb_3 (List.mem_of_getElem? (i := 145) (by decide +kernel))) rfl
theorem kw_3_146 : (Cond.selects RX1 yX1_takesValuesAlone yX1_takesValuesAlone) ∈ uG := uG_mem (tb_3 (List.mem_of_getElem? (i := 146) (by decide +kernel))) rfl
theorem kw_3_147 : (Cond.code yX1_takesValuesAlone cX1_takesValuesAlone 3 (some .boolean)) ∈ uG := uG_mem (tb_3 (List.mem_of_getElem? (i := 147) (by decide +kernel))) rfl
theorem kw_3_148 : (Cond.methodLink RX4 179 yX1_isInside) ∈ uG := uG_mem (tb_3 (List.mem_of_getElem? (i := 148) (by decide +kernel))) rfl
theorem kw_3_149 : (Cond.instanceMethod yX1_isInside) ∈ uG := uG_mem (tb_3 (List.mem_of_getElem? (i := 149) (by decide +kernel))) rfl
theorem kw_3_150 : (Cond.selects RX1 yX1_isInside yX1_isInside) ∈ uG := uG_mem (tb_3 (List.mem_of_getElem? (i := 150) (by decide +kernel))) rfl
theorem kw_3_151 : (Cond.code yX1_isInside cX1_isInside 5 (some .boolean)) ∈ uG := uG_mem (tb_3 (List.mem_of_getElem? (i := 151) (by decide +kernel))) rfl
theorem kw_3_152 : (Cond.methodLink RX4 104 yX4_hopsToLoop) ∈ uG := uG_mem (tb_3 (List.mem_of_getElem? (i := 152) (by decide +kernel))) rfl
theorem kw_3_154 : (Cond.instanceMethod yX4_hopsToLoop) ∈ uG := uG_mem (tb_3 (List.mem_of_getElem? (i := 154) (by decide +kernel))) rfl
theorem kw_3_155 : (Cond.code yX4_hopsToLoop cX4_hopsToLoop 4 (some .int)) ∈ uG := uG_mem (tb_3 (List.mem_of_getElem? (i := 155) (by decide +kernel))) rfl
theorem kw_3_156 : (Cond.methodLink RX4 182 yX4_isInLoop) ∈ uG := uG_mem (tb_3 (List.mem_of_getElem? (i := 156) (by decide +kernel))) rfl
theorem kw_3_158 : (Cond.instanceMethod yX4_isInLoop) ∈ uG := uG_mem (tb_3 (List.mem_of_getElem? (i := 158) (by decide +kernel))) rfl
theorem kw_3_159 : (Cond.code yX4_isInLoop cX4_isInLoop 4 (some .boolean)) ∈ uG := uG_mem (tb_3 (List.mem_of_getElem? (i := 159) (by decide +kernel))) rfl
theorem kw_3_160 : (Cond.methodLink RX4 108 yX4_findModes) ∈ uG := uG_mem (tb_3 (List.mem_of_getElem? (i := 160) (by decide +kernel))) rfl
theorem kw_3_162 : (Cond.instanceMethod yX4_findModes) ∈ uG := uG_mem (tb_3 (List.mem_of_getElem? (i := 162) (by decide +kernel))) rfl
theorem kw_3_163 : (Cond.code yX4_findModes cX4_findModes 5 none) ∈ uG := uG_mem (tb_3 (List.mem_of_getElem? (i := 163) (by decide +kernel))) rfl
theorem kw_3_164 : (Cond.methodLink RX4 111 yX4_sumUp) ∈ uG := uG_mem (tb_3 (List.mem_of_getElem? (i := 164) (by decide +kernel))) rfl
theorem kw_3_166 : (Cond.instanceMethod yX4_sumUp) ∈ uG := uG_mem (tb_3 (List.mem_of_getElem? (i := 166) (by decide +kernel))) rfl
theorem kw_3_167 : (Cond.code yX4_sumUp cX4_sumUp 2 none) ∈ uG := uG_mem (tb_3 (List.mem_of_getElem? (i := 167) (by decide +kernel))) rfl
theorem kw_3_168 : (Cond.methodLink RX4 192 yJ6_bitCount_0f7a4) ∈ uG := uG_mem (tb_3 (List.mem_of_getElem? (i := 168) (by decide +kernel))) rfl
theorem kw_3_169 : (Cond.static yJ6_bitCount_0f7a4) ∈ uG := uG_mem (tb_3 (List.mem_of_getElem? (i := 169) (by decide +kernel))) rfl
theorem kw_3_170 : (Cond.code yJ6_bitCount_0f7a4 cJ6_bitCount_0f7a4 1 (some .int)) ∈ uG := uG_mem (tb_3 (List.mem_of_getElem? (i := 170) (by decide +kernel))) rfl
theorem kw_3_171 : (Cond.constant RJ6 265 (1431655765 : Int32)) ∈ uG := uG_mem (tb_3 (List.mem_of_getElem? (i := 171) (by decide +kernel))) rfl
theorem kw_3_172 : (Cond.constant RJ6 266 (858993459 : Int32)) ∈ uG := uG_mem (tb_3 (List.mem_of_getElem? (i := 172) (by decide +kernel))) rfl
theorem kw_3_173 : (Cond.constant RJ6 267 (252645135 : Int32)) ∈ uG := uG_mem (tb_3 (List.mem_of_getElem? (i := 173) (by decide +kernel))) rfl
theorem kw_3_174 : (Cond.methodLink RX8 338 yX2_find) ∈ uG := uG_mem (tb_3 (List.mem_of_getElem? (i := 174) (by decide +kernel))) rfl
theorem kw_3_175 : (Cond.instanceMethod yX2_find) ∈ uG := uG_mem (tb_3 (List.mem_of_getElem? (i := 175) (by decide +kernel))) rfl
theorem kw_3_176 : (Cond.selects RX2 yX2_find yX2_find) ∈ uG := uG_mem (tb_3 (List.mem_of_getElem? (i := 176) (by decide +kernel))) rfl
theorem kw_3_177 : (Cond.code yX2_find cX2_find 4 none) ∈ uG := uG_mem (tb_3 (List.mem_of_getElem? (i := 177) (by decide +kernel))) rfl
theorem kw_3_178 : (Cond.methodLink RX2 49 yX2_tell) ∈ uG := uG_mem (tb_3 (List.mem_of_getElem? (i := 178) (by decide +kernel))) rfl
theorem kw_3_180 : (Cond.instanceMethod yX2_tell) ∈ uG := uG_mem (tb_3 (List.mem_of_getElem? (i := 180) (by decide +kernel))) rfl
theorem kw_3_181 : (Cond.code yX2_tell cX2_tell 4 none) ∈ uG := uG_mem (tb_3 (List.mem_of_getElem? (i := 181) (by decide +kernel))) rfl
theorem kw_3_182 : (Cond.methodLink RX2 53 yX2_await) ∈ uG := uG_mem (tb_3 (List.mem_of_getElem? (i := 182) (by decide +kernel))) rfl
theorem kw_3_184 : (Cond.instanceMethod yX2_await) ∈ uG := uG_mem (tb_3 (List.mem_of_getElem? (i := 184) (by decide +kernel))) rfl
theorem kw_3_185 : (Cond.code yX2_await cX2_await 2 none) ∈ uG := uG_mem (tb_3 (List.mem_of_getElem? (i := 185) (by decide +kernel))) rfl
theorem kw_3_186 : (Cond.methodLink RX2 57 yX2_faultOf) ∈ uG := uG_mem (tb_3 (List.mem_of_getElem? (i := 186) (by decide +kernel))) rfl
theorem kw_3_188 : (Cond.instanceMethod yX2_faultOf) ∈ uG := uG_mem (tb_3 (List.mem_of_getElem? (i := 188) (by decide +kernel))) rfl
theorem kw_3_189 : (Cond.code yX2_faultOf cX2_faultOf 4 (some .int)) ∈ uG := uG_mem (tb_3 (List.mem_of_getElem? (i := 189) (by decide +kernel))) rfl
theorem kw_3_190 : (Cond.methodLink RX2 75 yX5_hasName) ∈ uG := uG_mem (tb_3 (List.mem_of_getElem? (i := 190) (by decide +kernel))) rfl
theorem kw_3_191 : (Cond.methodLink RX2 84 yX2_isAsItHasToBe) ∈ uG := uG_mem (tb_3 (List.mem_of_getElem? (i := 191) (by decide +kernel))) rfl
theorem kw_3_193 : (Cond.instanceMethod yX2_isAsItHasToBe) ∈ uG := uG_mem (tb_3 (List.mem_of_getElem? (i := 193) (by decide +kernel))) rfl
theorem kw_3_194 : (Cond.code yX2_isAsItHasToBe cX2_isAsItHasToBe 3 (some .boolean)) ∈ uG := uG_mem (tb_3 (List.mem_of_getElem? (i := 194) (by decide +kernel))) rfl
theorem kw_3_195 : (Cond.methodLink RX2 93 yX2_isToBeSet) ∈ uG := uG_mem (tb_3 (List.mem_of_getElem? (i := 195) (by decide +kernel))) rfl
theorem kw_3_196 : (Cond.static yX2_isToBeSet) ∈ uG := uG_mem (tb_3 (List.mem_of_getElem? (i := 196) (by decide +kernel))) rfl
theorem kw_3_197 : (Cond.code yX2_isToBeSet cX2_isToBeSet 1 (some .boolean)) ∈ uG := uG_mem (tb_3 (List.mem_of_getElem? (i := 197) (by decide +kernel))) rfl
theorem kw_3_198 : (Cond.methodLink RX2 96 yX2_isProc) ∈ uG := uG_mem (tb_3 (List.mem_of_getElem? (i := 198) (by decide +kernel))) rfl
theorem kw_3_199 : (Cond.static yX2_isProc) ∈ uG := uG_mem (tb_3 (List.mem_of_getElem? (i := 199) (by decide +kernel))) rfl
theorem kw_3_200 : (Cond.code yX2_isProc cX2_isProc 1 (some .boolean)) ∈ uG := uG_mem (tb_3 (List.mem_of_getElem? (i := 200) (by decide +kernel))) rfl
theorem kw_3_201 : (Cond.methodLink RX2 102 yX1_takesValuesAlone) ∈ uG := uG_mem (tb_3 (List.mem_of_getElem? (i := 201) (by decide +kernel))) rfl
theorem kw_3_202 : (Cond.methodLink RX2 87 yX2_faultOfArguments) ∈ uG := uG_mem (tb_3 (List.mem_of_getElem? (i := 202) (by decide +kernel))) rfl
theorem kw_3_204 : (Cond.instanceMethod yX2_faultOfArguments) ∈ uG := uG_mem (tb_3 (List.mem_of_getElem? (i := 204) (by decide +kernel))) rfl
theorem kw_3_205 : (Cond.code yX2_faultOfArguments cX2_faultOfArguments 6 (some .int)) ∈ uG := uG_mem (tb_3 (List.mem_of_getElem? (i := 205) (by decide +kernel))) rfl
theorem kw_3_206 : (Cond.methodLink RX2 105 yX5_argumentsOf) ∈ uG := uG_mem (tb_3 (List.mem_of_getElem? (i := 206) (by decide +kernel))) rfl
theorem kw_3_207 : (Cond.instanceMethod yX5_argumentsOf) ∈ uG := uG_mem (tb_3 (List.mem_of_getElem? (i := 207) (by decide +kernel))) rfl
theorem kw_3_208 : (Cond.selects RX5 yX5_argumentsOf yX5_argumentsOf) ∈ uG := uG_mem (tb_3 (List.mem_of_getElem? (i := 208) (by decide +kernel))) rfl
theorem kw_3_209 : (Cond.code yX5_argumentsOf cX5_argumentsOf 4 (some .int)) ∈ uG := uG_mem (tb_3 (List.mem_of_getElem? (i := 209) (by decide +kernel))) rfl
theorem kw_3_210 : (Cond.methodLink RX2 117 yX2_suits) ∈ uG := uG_mem (tb_3 (List.mem_of_getElem? (i := 210) (by decide +kernel))) rfl
theorem kw_3_212 : (Cond.instanceMethod yX2_suits) ∈ uG := uG_mem (tb_3 (List.mem_of_getElem? (i := 212) (by decide +kernel))) rfl
theorem kw_3_213 : (Cond.code yX2_suits cX2_suits 3 (some .boolean)) ∈ uG := uG_mem (tb_3 (List.mem_of_getElem? (i := 213) (by decide +kernel))) rfl
theorem kw_3_214 : (Cond.methodLink RX2 124 yX5_isExpression) ∈ uG := uG_mem (tb_3 (List.mem_of_getElem? (i := 214) (by decide +kernel))) rfl
theorem kw_3_215 : (Cond.instanceMethod yX5_isExpression) ∈ uG := uG_mem (tb_3 (List.mem_of_getElem? (i := 215) (by decide +kernel))) rfl
theorem kw_3_216 : (Cond.selects RX5 yX5_isExpression yX5_isExpression) ∈ uG := uG_mem (tb_3 (List.mem_of_getElem? (i := 216) (by decide +kernel))) rfl
theorem kw_3_217 : (Cond.code yX5_isExpression cX5_isExpression 2 (some .boolean)) ∈ uG := uG_mem (tb_3 (List.mem_of_getElem? (i := 217) (by decide +kernel))) rfl
theorem kw_3_218 : (Cond.methodLink RX2 61 yX5_partC) ∈ uG := uG_mem (tb_3 (List.mem_of_getElem? (i := 218) (by decide +kernel))) rfl
theorem kw_3_219 : (Cond.instanceMethod yX5_partC) ∈ uG := uG_mem (tb_3 (List.mem_of_getElem? (i := 219) (by decide +kernel))) rfl
theorem kw_3_220 : (Cond.selects RX5 yX5_partC yX5_partC) ∈ uG := uG_mem (tb_3 (List.mem_of_getElem? (i := 220) (by decide +kernel))) rfl
theorem kw_3_221 : (Cond.code yX5_partC cX5_partC 2 (some .int)) ∈ uG := uG_mem (tb_3 (List.mem_of_getElem? (i := 221) (by decide +kernel))) rfl
theorem kw_3_222 : (Cond.fieldLink RX5 40 "StaticLink$Nodes" "ROLE_C" "[I") ∈ uG := uG_mem (tb_3 (List.mem_of_getElem? (i := 222) (by decide +kernel))) rfl
theorem kw_3_224 : (Cond.methodLink RX2 66 yX5_partB) ∈ uG := uG_mem (tb_3 (List.mem_of_getElem? (i := 224) (by decide +kernel))) rfl
theorem kw_3_225 : (Cond.instanceMethod yX5_partB) ∈ uG := uG_mem (tb_3 (List.mem_of_getElem? (i := 225) (by decide +kernel))) rfl
theorem kw_3_226 : (Cond.selects RX5 yX5_partB yX5_partB) ∈ uG := uG_mem (tb_3 (List.mem_of_getElem? (i := 226) (by decide +kernel))) rfl
theorem kw_3_227 : (Cond.code yX5_partB cX5_partB 2 (some .int)) ∈ uG := uG_mem (tb_3 (List.mem_of_getElem? (i := 227) (by decide +kernel))) rfl
theorem kw_3_228 : (Cond.fieldLink RX5 37 "StaticLink$Nodes" "ROLE_B" "[I") ∈ uG := uG_mem (tb_3 (List.mem_of_getElem? (i := 228) (by decide +kernel))) rfl
theorem kw_3_230 : (Cond.methodLink RX2 69 yX5_partA) ∈ uG := uG_mem (tb_3 (List.mem_of_getElem? (i := 230) (by decide +kernel))) rfl
theorem kw_3_231 : (Cond.instanceMethod yX5_partA) ∈ uG := uG_mem (tb_3 (List.mem_of_getElem? (i := 231) (by decide +kernel))) rfl
theorem kw_3_232 : (Cond.selects RX5 yX5_partA yX5_partA) ∈ uG := uG_mem (tb_3 (List.mem_of_getElem? (i := 232) (by decide +kernel))) rfl
theorem kw_3_233 : (Cond.code yX5_partA cX5_partA 2 (some .int)) ∈ uG := uG_mem (tb_3 (List.mem_of_getElem? (i := 233) (by decide +kernel))) rfl
theorem kw_3_234 : (Cond.methodLink RX8 339 yX0_forget) ∈ uG := uG_mem (tb_3 (List.mem_of_getElem? (i := 234) (by decide +kernel))) rfl
theorem kw_3_235 : (Cond.instanceMethod yX0_forget) ∈ uG := uG_mem (tb_3 (List.mem_of_getElem? (i := 235) (by decide +kernel))) rfl
theorem kw_3_236 : (Cond.selects RX0 yX0_forget yX0_forget) ∈ uG := uG_mem (tb_3 (List.mem_of_getElem? (i := 236) (by decide +kernel))) rfl
theorem kw_3_237 : (Cond.code yX0_forget cX0_forget 1 none) ∈ uG := uG_mem (tb_3 (List.mem_of_getElem? (i := 237) (by decide +kernel))) rfl
theorem kw_3_238 : (Cond.constantLong RX8 307 (58126 : Int64)) ∈ uG := uG_mem (tb_3 (List.mem_of_getElem? (i := 238) (by decide +kernel))) rfl
theorem kw_3_239 : (Cond.constantLong RX8 309 (31 : Int64)) ∈ uG := uG_mem (tb_3 (List.mem_of_getElem? (i := 239) (by decide +kernel))) rfl
theorem kw_4_0 : (Cond.methodLink RX8 311 yX8_many) ∈ uG := uG_mem (tb_4 (List.mem_of_getElem? (i := 0) (by decide +kernel))) rfl
theorem kw_4_1 : (Cond.instanceMethod yX8_many) ∈ uG := uG_mem (tb_4 (List.mem_of_getElem? (i := 1) (by decide +kernel))) rfl
theorem kw_4_2 : (Cond.selects RX8 yX8_many yX8_many) ∈ uG := uG_mem (tb_4 (List.mem_of_getElem? (i := 2) (by decide +kernel))) rfl
theorem kw_4_3 : (Cond.code yX8_many cX8_many 2 (some .int)) ∈ uG := uG_mem (tb_4 (List.mem_of_getElem? (i := 3) (by decide +kernel))) rfl
theorem kw_4_4 : (Cond.methodLink RX8 95 yX8_needArgument) ∈ uG := uG_mem (tb_4 (List.mem_of_getElem? (i := 4) (by decide +kernel))) rfl
theorem kw_4_5 : (Cond.static yX8_needArgument) ∈ uG := uG_mem (tb_4 (List.mem_of_getElem? (i := 5) (by decide +kernel))) rfl
theorem kw_4_6 : (Cond.code yX8_needArgument cX8_needArgument 1 none) ∈ uG := uG_mem (tb_4 (List.mem_of_getElem? (i := 6) (by decide +kernel))) rfl
theorem kw_4_7 : (Cond.classLink RX8 366 "java/lang/IllegalArgumentException") ∈ uG := uG_mem (tb_4 (List.mem_of_getElem? (i := 7) (by decide +kernel))) rfl
theorem kw_4_8 : (Cond.instantiable "java/lang/IllegalArgumentException" 6) ∈ uG := uG_mem (tb_4 (List.mem_of_getElem? (i := 8) (by decide +kernel))) rfl
theorem kw_4_16 : (Cond.selects "java/lang/IllegalArgumentException" ⟨"java/lang/Throwable", "fillInStackTrace", "(I)Ljava/lang/Throwable;"⟩ ⟨"java/lang/Throwable", "fillInStackTrace", "(I)Ljava/lang/Throwable;"⟩) ∈ uG := uG_mem (tb_4 (List.mem_of_getElem? (i := 16) (by decide +kernel))) rfl
end XW1
