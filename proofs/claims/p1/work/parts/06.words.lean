section XW
theorem tb_1 {w : Cond} (h : w ∈ tables_1_1) : w ∈ tables_1 := List.mem_append_left _ h
theorem tb_2 {w : Cond} (h : w ∈ tables_1_2) : w ∈ tables_1 := List.mem_append_right _ (List.mem_append_left _ h)
theorem tb_3 {w : Cond} (h : w ∈ tables_1_3) : w ∈ tables_1 := List.mem_append_right _ (List.mem_append_right _ (List.mem_append_left _ h))
theorem tb_4 {w : Cond} (h : w ∈ tables_1_4) : w ∈ tables_1 := List.mem_append_right _ (List.mem_append_right _ (List.mem_append_right _ (List.mem_append_left _ h)))
theorem tb_5 {w : Cond} (h : w ∈ tables_1_5) : w ∈ tables_1 := List.mem_append_right _ (List.mem_append_right _ (List.mem_append_right _ (List.mem_append_right _ (List.mem_append_left _ h))))
theorem tb_6 {w : Cond} (h : w ∈ tables_1_6) : w ∈ tables_1 := List.mem_append_right _ (List.mem_append_right _ (List.mem_append_right _ (List.mem_append_right _ (List.mem_append_right _ (List.mem_append_left _ h)))))
theorem tb_7 {w : Cond} (h : w ∈ tables_1_7) : w ∈ tables_1 := List.mem_append_right _ (List.mem_append_right _ (List.mem_append_right _ (List.mem_append_right _ (List.mem_append_right _ (List.mem_append_right _ (List.mem_append_left _ h))))))
theorem tb_8 {w : Cond} (h : w ∈ tables_1_8) : w ∈ tables_1 := List.mem_append_right _ (List.mem_append_right _ (List.mem_append_right _ (List.mem_append_right _ (List.mem_append_right _ (List.mem_append_right _ (List.mem_append_right _ (List.mem_append_left _ h)))))))
theorem tb_9 {w : Cond} (h : w ∈ tables_1_9) : w ∈ tables_1 := List.mem_append_right _ (List.mem_append_right _ (List.mem_append_right _ (List.mem_append_right _ (List.mem_append_right _ (List.mem_append_right _ (List.mem_append_right _ (List.mem_append_right _ (h))))))))
theorem pv_1 {w : MethodName × Nat} (h : w ∈ lw_privs_1) : w ∈ lw_privs := List.mem_append_left _ h
theorem pv_2 {w : MethodName × Nat} (h : w ∈ lw_privs_2) : w ∈ lw_privs := List.mem_append_right _ (List.mem_append_left _ h)
theorem pv_3 {w : MethodName × Nat} (h : w ∈ lw_privs_3) : w ∈ lw_privs := List.mem_append_right _ (List.mem_append_right _ (List.mem_append_left _ h))
theorem pv_4 {w : MethodName × Nat} (h : w ∈ lw_privs_4) : w ∈ lw_privs := List.mem_append_right _ (List.mem_append_right _ (List.mem_append_right _ (List.mem_append_left _ h)))
theorem pv_5 {w : MethodName × Nat} (h : w ∈ lw_privs_5) : w ∈ lw_privs := List.mem_append_right _ (List.mem_append_right _ (List.mem_append_right _ (List.mem_append_right _ (List.mem_append_left _ h))))
theorem pv_6 {w : MethodName × Nat} (h : w ∈ lw_privs_6) : w ∈ lw_privs := List.mem_append_right _ (List.mem_append_right _ (List.mem_append_right _ (List.mem_append_right _ (List.mem_append_right _ (List.mem_append_left _ h)))))
theorem pv_7 {w : MethodName × Nat} (h : w ∈ lw_privs_7) : w ∈ lw_privs := List.mem_append_right _ (List.mem_append_right _ (List.mem_append_right _ (List.mem_append_right _ (List.mem_append_right _ (List.mem_append_right _ (List.mem_append_left _ h))))))
theorem pv_8 {w : MethodName × Nat} (h : w ∈ lw_privs_8) : w ∈ lw_privs := List.mem_append_right _ (List.mem_append_right _ (List.mem_append_right _ (List.mem_append_right _ (List.mem_append_right _ (List.mem_append_right _ (List.mem_append_right _ (List.mem_append_left _ h)))))))
theorem pv_9 {w : MethodName × Nat} (h : w ∈ lw_privs_9) : w ∈ lw_privs := List.mem_append_right _ (List.mem_append_right _ (List.mem_append_right _ (List.mem_append_right _ (List.mem_append_right _ (List.mem_append_right _ (List.mem_append_right _ (List.mem_append_right _ (List.mem_append_left _ h))))))))
theorem pv_10 {w : MethodName × Nat} (h : w ∈ lw_privs_10) : w ∈ lw_privs := List.mem_append_right _ (List.mem_append_right _ (List.mem_append_right _ (List.mem_append_right _ (List.mem_append_right _ (List.mem_append_right _ (List.mem_append_right _ (List.mem_append_right _ (List.mem_append_right _ (h)))))))))
theorem kw_1_0 : (Cond.initialized RL) ∈ uG := uG_mem (tb_1 (List.mem_of_getElem? (i := 0) (by decide +kernel))) rfl
theorem kw_1_1 : (Cond.initialized RX8) ∈ uG := uG_mem (tb_1 (List.mem_of_getElem? (i := 1) (by decide +kernel))) rfl
theorem kw_1_2 : (Cond.initialized RX1) ∈ uG := uG_mem (tb_1 (List.mem_of_getElem? (i := 2) (by decide +kernel))) rfl
theorem kw_1_3 : (Cond.initialized RJ7) ∈ uG := uG_mem (tb_1 (List.mem_of_getElem? (i := 3) (by decide +kernel))) rfl
theorem kw_1_4 : (Cond.initialized RX5) ∈ uG := uG_mem (tb_1 (List.mem_of_getElem? (i := 4) (by decide +kernel))) rfl
theorem kw_1_5 : (Cond.initialized RX4) ∈ uG := uG_mem (tb_1 (List.mem_of_getElem? (i := 5) (by decide +kernel))) rfl
theorem kw_1_6 : (Cond.initialized RX2) ∈ uG := uG_mem (tb_1 (List.mem_of_getElem? (i := 6) (by decide +kernel))) rfl
theorem kw_1_7 : (Cond.initialized RX0) ∈ uG := uG_mem (tb_1 (List.mem_of_getElem? (i := 7) (by decide +kernel))) rfl
theorem kw_1_8 : (Cond.initialized RX3) ∈ uG := uG_mem (tb_1 (List.mem_of_getElem? (i := 8) (by decide +kernel))) rfl
theorem kw_1_9 : (Cond.initialized RX7) ∈ uG := uG_mem (tb_1 (List.mem_of_getElem? (i := 9) (by decide +kernel))) rfl
theorem kw_1_10 : (Cond.initialized RX6) ∈ uG := uG_mem (tb_1 (List.mem_of_getElem? (i := 10) (by decide +kernel))) rfl
theorem kw_1_11 : (Cond.initialized RX9) ∈ uG := uG_mem (tb_1 (List.mem_of_getElem? (i := 11) (by decide +kernel))) rfl
theorem kw_1_12 : (Cond.initialized "java/lang/Throwable") ∈ uG := uG_mem (tb_1 (List.mem_of_getElem? (i := 12) (by decide +kernel))) rfl
theorem kw_1_13 : (Cond.initialized "java/lang/Exception") ∈ uG := uG_mem (tb_1 (List.mem_of_getElem? (i := 13) (by decide +kernel))) rfl
theorem kw_1_14 : (Cond.initialized "java/lang/RuntimeException") ∈ uG := uG_mem (tb_1 (List.mem_of_getElem? (i := 14) (by decide +kernel))) rfl
theorem kw_1_15 : (Cond.initialized "java/lang/IndexOutOfBoundsException") ∈ uG := uG_mem (tb_1 (List.mem_of_getElem? (i := 15) (by decide +kernel))) rfl
theorem kw_1_16 : (Cond.initialized "java/lang/IllegalArgumentException") ∈ uG := uG_mem (tb_1 (List.mem_of_getElem? (i := 16) (by decide +kernel))) rfl
theorem kw_1_17 : (Cond.initialized "java/lang/IllegalStateException") ∈ uG := uG_mem (tb_1 (List.mem_of_getElem? (i := 17) (by decide +kernel))) rfl
theorem kw_1_18 : (Cond.initialized RJ6) ∈ uG := uG_mem (tb_1 (List.mem_of_getElem? (i := 18) (by decide +kernel))) rfl
theorem kw_1_19 : (Cond.initialized RJ10) ∈ uG := uG_mem (tb_1 (List.mem_of_getElem? (i := 19) (by decide +kernel))) rfl
theorem kw_1_20 : (Cond.initialized RJ9) ∈ uG := uG_mem (tb_1 (List.mem_of_getElem? (i := 20) (by decide +kernel))) rfl
theorem kw_1_21 : (Cond.classLink RL 8 RX8) ∈ uG := uG_mem (tb_1 (List.mem_of_getElem? (i := 21) (by decide +kernel))) rfl
theorem kw_1_22 : (Cond.instantiable RX8 14) ∈ uG := uG_mem (tb_1 (List.mem_of_getElem? (i := 22) (by decide +kernel))) rfl
theorem kw_1_23 : (Cond.methodLink RL 77 yX8_init) ∈ uG := uG_mem (tb_1 (List.mem_of_getElem? (i := 23) (by decide +kernel))) rfl
theorem kw_1_24 : (Cond.instanceMethod yX8_init) ∈ uG := uG_mem (tb_1 (List.mem_of_getElem? (i := 24) (by decide +kernel))) rfl
theorem kw_1_25 : (Cond.code yX8_init cX8_init 1 none) ∈ uG := uG_mem (tb_1 (List.mem_of_getElem? (i := 25) (by decide +kernel))) rfl
theorem kw_1_26 : (Cond.methodLink RX8 3 ⟨"java/lang/Object", "<init>", "()V"⟩) ∈ uG := uG_mem (tb_1 (List.mem_of_getElem? (i := 26) (by decide +kernel))) rfl
theorem kw_1_27 : (Cond.instanceMethod ⟨"java/lang/Object", "<init>", "()V"⟩) ∈ uG := uG_mem (tb_1 (List.mem_of_getElem? (i := 27) (by decide +kernel))) rfl
theorem kw_1_28 : (Cond.code ⟨"java/lang/Object", "<init>", "()V"⟩ object_method_1_code 1 none) ∈ uG := uG_mem (tb_1 (List.mem_of_getElem? (i := 28) (by decide +kernel))) rfl
theorem kw_1_29 : (Cond.classLink RX8 9 RX1) ∈ uG := uG_mem (tb_1 (List.mem_of_getElem? (i := 29) (by decide +kernel))) rfl
theorem kw_1_30 : (Cond.instantiable RX1 12) ∈ uG := uG_mem (tb_1 (List.mem_of_getElem? (i := 30) (by decide +kernel))) rfl
theorem kw_1_31 : (Cond.methodLink RX8 11 yX1_init) ∈ uG := uG_mem (tb_1 (List.mem_of_getElem? (i := 31) (by decide +kernel))) rfl
theorem kw_1_32 : (Cond.instanceMethod yX1_init) ∈ uG := uG_mem (tb_1 (List.mem_of_getElem? (i := 32) (by decide +kernel))) rfl
theorem kw_1_33 : (Cond.code yX1_init cX1_init 1 none) ∈ uG := uG_mem (tb_1 (List.mem_of_getElem? (i := 33) (by decide +kernel))) rfl
theorem kw_1_34 : (Cond.methodLink RX1 3 ⟨"java/lang/Object", "<init>", "()V"⟩) ∈ uG := uG_mem (tb_1 (List.mem_of_getElem? (i := 34) (by decide +kernel))) rfl
theorem kw_1_35 : (Cond.methodLink RX1 49 yJ7_fill_53178) ∈ uG := uG_mem (tb_1 (List.mem_of_getElem? (i := 35) (by decide +kernel))) rfl
theorem kw_1_36 : (Cond.static yJ7_fill_53178) ∈ uG := uG_mem (tb_1 (List.mem_of_getElem? (i := 36) (by decide +kernel))) rfl
theorem kw_1_37 : (Cond.code yJ7_fill_53178 cJ7_fill_53178 4 none) ∈ uG := uG_mem (tb_1 (List.mem_of_getElem? (i := 37) (by decide +kernel))) rfl
theorem kw_1_38 : (Cond.fieldLink RX1 9 "StaticLink$Declarations" "count" "I") ∈ uG := uG_mem (tb_1 (List.mem_of_getElem? (i := 38) (by decide +kernel))) rfl
theorem kw_1_39 : (Cond.fieldLink RX2 43 "StaticLink$Declarations" "count" "I") ∈ uG := uG_mem (tb_1 (List.mem_of_getElem? (i := 39) (by decide +kernel))) rfl
theorem kw_1_40 : (Cond.fieldLink RX8 99 "StaticLink$Declarations" "count" "I") ∈ uG := uG_mem (tb_1 (List.mem_of_getElem? (i := 40) (by decide +kernel))) rfl
theorem kw_1_41 : (Cond.fieldLink RX0 129 "StaticLink$Declarations" "count" "I") ∈ uG := uG_mem (tb_1 (List.mem_of_getElem? (i := 41) (by decide +kernel))) rfl
theorem kw_1_42 : (Cond.fieldLink RX4 191 "StaticLink$Declarations" "count" "I") ∈ uG := uG_mem (tb_1 (List.mem_of_getElem? (i := 42) (by decide +kernel))) rfl
theorem kw_1_43 : (Cond.fieldLink RX1 15 "StaticLink$Declarations" "parent" "[I") ∈ uG := uG_mem (tb_1 (List.mem_of_getElem? (i := 43) (by decide +kernel))) rfl
theorem kw_1_44 : (Cond.fieldLink RX8 149 "StaticLink$Declarations" "parent" "[I") ∈ uG := uG_mem (tb_1 (List.mem_of_getElem? (i := 44) (by decide +kernel))) rfl
theorem kw_1_45 : (Cond.fieldLink RX4 173 "StaticLink$Declarations" "parent" "[I") ∈ uG := uG_mem (tb_1 (List.mem_of_getElem? (i := 45) (by decide +kernel))) rfl
theorem kw_1_46 : (Cond.fieldLink RX1 19 "StaticLink$Declarations" "called" "[I") ∈ uG := uG_mem (tb_1 (List.mem_of_getElem? (i := 46) (by decide +kernel))) rfl
theorem kw_1_47 : (Cond.fieldLink RX8 152 "StaticLink$Declarations" "called" "[I") ∈ uG := uG_mem (tb_1 (List.mem_of_getElem? (i := 47) (by decide +kernel))) rfl
theorem kw_1_48 : (Cond.fieldLink RX1 22 "StaticLink$Declarations" "parameters" "[I") ∈ uG := uG_mem (tb_1 (List.mem_of_getElem? (i := 48) (by decide +kernel))) rfl
theorem kw_1_49 : (Cond.fieldLink RX8 155 "StaticLink$Declarations" "parameters" "[I") ∈ uG := uG_mem (tb_1 (List.mem_of_getElem? (i := 49) (by decide +kernel))) rfl
theorem kw_1_50 : (Cond.fieldLink RX2 108 "StaticLink$Declarations" "parameters" "[I") ∈ uG := uG_mem (tb_1 (List.mem_of_getElem? (i := 50) (by decide +kernel))) rfl
theorem kw_1_51 : (Cond.fieldLink RX4 185 "StaticLink$Declarations" "parameters" "[I") ∈ uG := uG_mem (tb_1 (List.mem_of_getElem? (i := 51) (by decide +kernel))) rfl
theorem kw_1_52 : (Cond.fieldLink RX3 261 "StaticLink$Declarations" "parameters" "[I") ∈ uG := uG_mem (tb_1 (List.mem_of_getElem? (i := 52) (by decide +kernel))) rfl
theorem kw_1_53 : (Cond.fieldLink RX1 25 "StaticLink$Declarations" "variables" "[I") ∈ uG := uG_mem (tb_1 (List.mem_of_getElem? (i := 53) (by decide +kernel))) rfl
theorem kw_1_54 : (Cond.fieldLink RX8 158 "StaticLink$Declarations" "variables" "[I") ∈ uG := uG_mem (tb_1 (List.mem_of_getElem? (i := 54) (by decide +kernel))) rfl
theorem kw_1_55 : (Cond.fieldLink RX1 28 "StaticLink$Declarations" "places" "[I") ∈ uG := uG_mem (tb_1 (List.mem_of_getElem? (i := 55) (by decide +kernel))) rfl
theorem kw_1_56 : (Cond.fieldLink RX3 281 "StaticLink$Declarations" "places" "[I") ∈ uG := uG_mem (tb_1 (List.mem_of_getElem? (i := 56) (by decide +kernel))) rfl
theorem kw_1_57 : (Cond.fieldLink RX1 31 "StaticLink$Declarations" "bodyNode" "[I") ∈ uG := uG_mem (tb_1 (List.mem_of_getElem? (i := 57) (by decide +kernel))) rfl
theorem kw_1_58 : (Cond.fieldLink RX2 46 "StaticLink$Declarations" "bodyNode" "[I") ∈ uG := uG_mem (tb_1 (List.mem_of_getElem? (i := 58) (by decide +kernel))) rfl
theorem kw_1_59 : (Cond.fieldLink RX8 168 "StaticLink$Declarations" "bodyNode" "[I") ∈ uG := uG_mem (tb_1 (List.mem_of_getElem? (i := 59) (by decide +kernel))) rfl
theorem kw_1_60 : (Cond.fieldLink RX0 132 "StaticLink$Declarations" "bodyNode" "[I") ∈ uG := uG_mem (tb_1 (List.mem_of_getElem? (i := 60) (by decide +kernel))) rfl
theorem kw_1_61 : (Cond.fieldLink RX1 34 "StaticLink$Declarations" "what" "[I") ∈ uG := uG_mem (tb_1 (List.mem_of_getElem? (i := 61) (by decide +kernel))) rfl
theorem kw_1_62 : (Cond.fieldLink RX4 135 "StaticLink$Declarations" "what" "[I") ∈ uG := uG_mem (tb_1 (List.mem_of_getElem? (i := 62) (by decide +kernel))) rfl
theorem kw_1_63 : (Cond.fieldLink RX8 140 "StaticLink$Declarations" "what" "[I") ∈ uG := uG_mem (tb_1 (List.mem_of_getElem? (i := 63) (by decide +kernel))) rfl
theorem kw_1_64 : (Cond.fieldLink RX1 37 "StaticLink$Declarations" "place" "[I") ∈ uG := uG_mem (tb_1 (List.mem_of_getElem? (i := 64) (by decide +kernel))) rfl
theorem kw_1_65 : (Cond.fieldLink RX4 141 "StaticLink$Declarations" "place" "[I") ∈ uG := uG_mem (tb_1 (List.mem_of_getElem? (i := 65) (by decide +kernel))) rfl
theorem kw_1_66 : (Cond.fieldLink RX8 136 "StaticLink$Declarations" "place" "[I") ∈ uG := uG_mem (tb_1 (List.mem_of_getElem? (i := 66) (by decide +kernel))) rfl
theorem kw_1_67 : (Cond.fieldLink RX1 40 "StaticLink$Declarations" "detail" "[I") ∈ uG := uG_mem (tb_1 (List.mem_of_getElem? (i := 67) (by decide +kernel))) rfl
theorem kw_1_68 : (Cond.fieldLink RX4 144 "StaticLink$Declarations" "detail" "[I") ∈ uG := uG_mem (tb_1 (List.mem_of_getElem? (i := 68) (by decide +kernel))) rfl
theorem kw_1_69 : (Cond.fieldLink RX8 143 "StaticLink$Declarations" "detail" "[I") ∈ uG := uG_mem (tb_1 (List.mem_of_getElem? (i := 69) (by decide +kernel))) rfl
theorem kw_1_70 : (Cond.fieldLink RX1 43 "StaticLink$Declarations" "whatAt" "[I") ∈ uG := uG_mem (tb_1 (List.mem_of_getElem? (i := 70) (by decide +kernel))) rfl
theorem kw_1_71 : (Cond.fieldLink RX4 188 "StaticLink$Declarations" "whatAt" "[I") ∈ uG := uG_mem (tb_1 (List.mem_of_getElem? (i := 71) (by decide +kernel))) rfl
theorem kw_1_72 : (Cond.fieldLink RX3 298 "StaticLink$Declarations" "whatAt" "[I") ∈ uG := uG_mem (tb_1 (List.mem_of_getElem? (i := 72) (by decide +kernel))) rfl
theorem kw_1_73 : (Cond.fieldLink RX1 46 "StaticLink$Declarations" "sizeAt" "[I") ∈ uG := uG_mem (tb_1 (List.mem_of_getElem? (i := 73) (by decide +kernel))) rfl
theorem kw_1_74 : (Cond.fieldLink RX3 301 "StaticLink$Declarations" "sizeAt" "[I") ∈ uG := uG_mem (tb_1 (List.mem_of_getElem? (i := 74) (by decide +kernel))) rfl
theorem kw_1_75 : (Cond.lays RX1 "StaticLink$Declarations" "count" "I") ∈ uG := uG_mem (tb_1 (List.mem_of_getElem? (i := 75) (by decide +kernel))) rfl
theorem kw_1_77 : (Cond.laysFinal RX1 "StaticLink$Declarations" "parent" "[I") ∈ uG := uG_mem (tb_1 (List.mem_of_getElem? (i := 77) (by decide +kernel))) rfl
theorem kw_1_79 : (Cond.laysFinal RX1 "StaticLink$Declarations" "called" "[I") ∈ uG := uG_mem (tb_1 (List.mem_of_getElem? (i := 79) (by decide +kernel))) rfl
theorem kw_1_81 : (Cond.laysFinal RX1 "StaticLink$Declarations" "parameters" "[I") ∈ uG := uG_mem (tb_1 (List.mem_of_getElem? (i := 81) (by decide +kernel))) rfl
theorem kw_1_83 : (Cond.laysFinal RX1 "StaticLink$Declarations" "variables" "[I") ∈ uG := uG_mem (tb_1 (List.mem_of_getElem? (i := 83) (by decide +kernel))) rfl
theorem kw_1_85 : (Cond.laysFinal RX1 "StaticLink$Declarations" "places" "[I") ∈ uG := uG_mem (tb_1 (List.mem_of_getElem? (i := 85) (by decide +kernel))) rfl
theorem kw_1_87 : (Cond.laysFinal RX1 "StaticLink$Declarations" "bodyNode" "[I") ∈ uG := uG_mem (tb_1 (List.mem_of_getElem? (i := 87) (by decide +kernel))) rfl
theorem kw_1_89 : (Cond.laysFinal RX1 "StaticLink$Declarations" "what" "[I") ∈ uG := uG_mem (tb_1 (List.mem_of_getElem? (i := 89) (by decide +kernel))) rfl
theorem kw_1_91 : (Cond.laysFinal RX1 "StaticLink$Declarations" "place" "[I") ∈ uG := uG_mem (tb_1 (List.mem_of_getElem? (i := 91) (by decide +kernel))) rfl
theorem kw_1_93 : (Cond.laysFinal RX1 "StaticLink$Declarations" "detail" "[I") ∈ uG := uG_mem (tb_1 (List.mem_of_getElem? (i := 93) (by decide +kernel))) rfl
theorem kw_1_95 : (Cond.laysFinal RX1 "StaticLink$Declarations" "whatAt" "[I") ∈ uG := uG_mem (tb_1 (List.mem_of_getElem? (i := 95) (by decide +kernel))) rfl
theorem kw_1_97 : (Cond.laysFinal RX1 "StaticLink$Declarations" "sizeAt" "[I") ∈ uG := uG_mem (tb_1 (List.mem_of_getElem? (i := 97) (by decide +kernel))) rfl
theorem kw_1_100 : (Cond.arrayClass FieldType.int) ∈ uG := uG_mem (tb_1 (List.mem_of_getElem? (i := 100) (by decide +kernel))) rfl
theorem kw_1_101 : (Cond.classLink RX8 16 RX5) ∈ uG := uG_mem (tb_1 (List.mem_of_getElem? (i := 101) (by decide +kernel))) rfl
theorem kw_1_102 : (Cond.instantiable RX5 7) ∈ uG := uG_mem (tb_1 (List.mem_of_getElem? (i := 102) (by decide +kernel))) rfl
theorem kw_1_104 : (Cond.instanceMethod yX5_init) ∈ uG := uG_mem (tb_1 (List.mem_of_getElem? (i := 104) (by decide +kernel))) rfl
theorem kw_1_105 : (Cond.code yX5_init cX5_init 1 none) ∈ uG := uG_mem (tb_1 (List.mem_of_getElem? (i := 105) (by decide +kernel))) rfl
theorem kw_1_106 : (Cond.methodLink RX5 3 ⟨"java/lang/Object", "<init>", "()V"⟩) ∈ uG := uG_mem (tb_1 (List.mem_of_getElem? (i := 106) (by decide +kernel))) rfl
theorem kw_1_107 : (Cond.fieldLink RX5 9 "StaticLink$Nodes" "count" "I") ∈ uG := uG_mem (tb_1 (List.mem_of_getElem? (i := 107) (by decide +kernel))) rfl
theorem kw_1_108 : (Cond.fieldLink RX4 76 "StaticLink$Nodes" "count" "I") ∈ uG := uG_mem (tb_1 (List.mem_of_getElem? (i := 108) (by decide +kernel))) rfl
theorem kw_1_109 : (Cond.fieldLink RX0 68 "StaticLink$Nodes" "count" "I") ∈ uG := uG_mem (tb_1 (List.mem_of_getElem? (i := 109) (by decide +kernel))) rfl
theorem kw_1_110 : (Cond.fieldLink RX8 179 "StaticLink$Nodes" "count" "I") ∈ uG := uG_mem (tb_1 (List.mem_of_getElem? (i := 110) (by decide +kernel))) rfl
theorem kw_1_111 : (Cond.fieldLink RX5 15 "StaticLink$Nodes" "kind" "[I") ∈ uG := uG_mem (tb_1 (List.mem_of_getElem? (i := 111) (by decide +kernel))) rfl
theorem kw_1_112 : (Cond.fieldLink RX4 101 "StaticLink$Nodes" "kind" "[I") ∈ uG := uG_mem (tb_1 (List.mem_of_getElem? (i := 112) (by decide +kernel))) rfl
theorem kw_1_113 : (Cond.fieldLink RX2 72 "StaticLink$Nodes" "kind" "[I") ∈ uG := uG_mem (tb_1 (List.mem_of_getElem? (i := 113) (by decide +kernel))) rfl
theorem kw_1_114 : (Cond.fieldLink RX0 117 "StaticLink$Nodes" "kind" "[I") ∈ uG := uG_mem (tb_1 (List.mem_of_getElem? (i := 114) (by decide +kernel))) rfl
theorem kw_1_115 : (Cond.fieldLink RX8 195 "StaticLink$Nodes" "kind" "[I") ∈ uG := uG_mem (tb_1 (List.mem_of_getElem? (i := 115) (by decide +kernel))) rfl
theorem kw_1_116 : (Cond.fieldLink RX5 19 "StaticLink$Nodes" "a" "[I") ∈ uG := uG_mem (tb_1 (List.mem_of_getElem? (i := 116) (by decide +kernel))) rfl
theorem kw_1_117 : (Cond.fieldLink RX4 123 "StaticLink$Nodes" "a" "[I") ∈ uG := uG_mem (tb_1 (List.mem_of_getElem? (i := 117) (by decide +kernel))) rfl
theorem kw_1_118 : (Cond.fieldLink RX0 123 "StaticLink$Nodes" "a" "[I") ∈ uG := uG_mem (tb_1 (List.mem_of_getElem? (i := 118) (by decide +kernel))) rfl
theorem kw_1_119 : (Cond.fieldLink RX8 198 "StaticLink$Nodes" "a" "[I") ∈ uG := uG_mem (tb_1 (List.mem_of_getElem? (i := 119) (by decide +kernel))) rfl
theorem kw_1_120 : (Cond.fieldLink RX5 22 "StaticLink$Nodes" "b" "[I") ∈ uG := uG_mem (tb_1 (List.mem_of_getElem? (i := 120) (by decide +kernel))) rfl
theorem kw_1_121 : (Cond.fieldLink RX4 150 "StaticLink$Nodes" "b" "[I") ∈ uG := uG_mem (tb_1 (List.mem_of_getElem? (i := 121) (by decide +kernel))) rfl
theorem kw_1_122 : (Cond.fieldLink RX2 111 "StaticLink$Nodes" "b" "[I") ∈ uG := uG_mem (tb_1 (List.mem_of_getElem? (i := 122) (by decide +kernel))) rfl
theorem kw_1_123 : (Cond.fieldLink RX8 201 "StaticLink$Nodes" "b" "[I") ∈ uG := uG_mem (tb_1 (List.mem_of_getElem? (i := 123) (by decide +kernel))) rfl
theorem kw_1_124 : (Cond.fieldLink RX0 180 "StaticLink$Nodes" "b" "[I") ∈ uG := uG_mem (tb_1 (List.mem_of_getElem? (i := 124) (by decide +kernel))) rfl
theorem kw_1_125 : (Cond.fieldLink RX5 25 "StaticLink$Nodes" "c" "[I") ∈ uG := uG_mem (tb_1 (List.mem_of_getElem? (i := 125) (by decide +kernel))) rfl
theorem kw_1_126 : (Cond.fieldLink RX4 156 "StaticLink$Nodes" "c" "[I") ∈ uG := uG_mem (tb_1 (List.mem_of_getElem? (i := 126) (by decide +kernel))) rfl
theorem kw_1_127 : (Cond.fieldLink RX8 204 "StaticLink$Nodes" "c" "[I") ∈ uG := uG_mem (tb_1 (List.mem_of_getElem? (i := 127) (by decide +kernel))) rfl
theorem kw_1_128 : (Cond.fieldLink RX2 121 "StaticLink$Nodes" "c" "[I") ∈ uG := uG_mem (tb_1 (List.mem_of_getElem? (i := 128) (by decide +kernel))) rfl
theorem kw_1_129 : (Cond.fieldLink RX0 192 "StaticLink$Nodes" "c" "[I") ∈ uG := uG_mem (tb_1 (List.mem_of_getElem? (i := 129) (by decide +kernel))) rfl
theorem kw_1_130 : (Cond.fieldLink RX5 28 "StaticLink$Nodes" "whole" "[I") ∈ uG := uG_mem (tb_1 (List.mem_of_getElem? (i := 130) (by decide +kernel))) rfl
theorem kw_1_131 : (Cond.fieldLink RX4 117 "StaticLink$Nodes" "whole" "[I") ∈ uG := uG_mem (tb_1 (List.mem_of_getElem? (i := 131) (by decide +kernel))) rfl
theorem kw_1_132 : (Cond.fieldLink RX0 177 "StaticLink$Nodes" "whole" "[I") ∈ uG := uG_mem (tb_1 (List.mem_of_getElem? (i := 132) (by decide +kernel))) rfl
theorem kw_1_133 : (Cond.fieldLink RX3 249 "StaticLink$Nodes" "whole" "[I") ∈ uG := uG_mem (tb_1 (List.mem_of_getElem? (i := 133) (by decide +kernel))) rfl
theorem kw_1_134 : (Cond.fieldLink RX5 31 "StaticLink$Nodes" "bodyOf" "[I") ∈ uG := uG_mem (tb_1 (List.mem_of_getElem? (i := 134) (by decide +kernel))) rfl
theorem kw_1_135 : (Cond.fieldLink RX4 114 "StaticLink$Nodes" "bodyOf" "[I") ∈ uG := uG_mem (tb_1 (List.mem_of_getElem? (i := 135) (by decide +kernel))) rfl
theorem kw_1_136 : (Cond.fieldLink RX8 192 "StaticLink$Nodes" "bodyOf" "[I") ∈ uG := uG_mem (tb_1 (List.mem_of_getElem? (i := 136) (by decide +kernel))) rfl
theorem kw_1_137 : (Cond.lays RX5 "StaticLink$Nodes" "count" "I") ∈ uG := uG_mem (tb_1 (List.mem_of_getElem? (i := 137) (by decide +kernel))) rfl
theorem kw_1_139 : (Cond.laysFinal RX5 "StaticLink$Nodes" "kind" "[I") ∈ uG := uG_mem (tb_1 (List.mem_of_getElem? (i := 139) (by decide +kernel))) rfl
theorem kw_1_141 : (Cond.laysFinal RX5 "StaticLink$Nodes" "a" "[I") ∈ uG := uG_mem (tb_1 (List.mem_of_getElem? (i := 141) (by decide +kernel))) rfl
theorem kw_1_143 : (Cond.laysFinal RX5 "StaticLink$Nodes" "b" "[I") ∈ uG := uG_mem (tb_1 (List.mem_of_getElem? (i := 143) (by decide +kernel))) rfl
theorem kw_1_145 : (Cond.laysFinal RX5 "StaticLink$Nodes" "c" "[I") ∈ uG := uG_mem (tb_1 (List.mem_of_getElem? (i := 145) (by decide +kernel))) rfl
theorem kw_1_147 : (Cond.laysFinal RX5 "StaticLink$Nodes" "whole" "[I") ∈ uG := uG_mem (tb_1 (List.mem_of_getElem? (i := 147) (by decide +kernel))) rfl
theorem kw_1_149 : (Cond.laysFinal RX5 "StaticLink$Nodes" "bodyOf" "[I") ∈ uG := uG_mem (tb_1 (List.mem_of_getElem? (i := 149) (by decide +kernel))) rfl
theorem kw_1_152 : (Cond.classLink RX8 23 RX4) ∈ uG := uG_mem (tb_1 (List.mem_of_getElem? (i := 152) (by decide +kernel))) rfl
theorem kw_1_153 : (Cond.instantiable RX4 19) ∈ uG := uG_mem (tb_1 (List.mem_of_getElem? (i := 153) (by decide +kernel))) rfl
theorem kw_1_154 : (Cond.methodLink RX8 25 yX4_init) ∈ uG := uG_mem (tb_1 (List.mem_of_getElem? (i := 154) (by decide +kernel))) rfl
theorem kw_1_155 : (Cond.instanceMethod yX4_init) ∈ uG := uG_mem (tb_1 (List.mem_of_getElem? (i := 155) (by decide +kernel))) rfl
theorem kw_1_156 : (Cond.code yX4_init cX4_init 3 none) ∈ uG := uG_mem (tb_1 (List.mem_of_getElem? (i := 156) (by decide +kernel))) rfl
theorem kw_1_157 : (Cond.methodLink RX4 3 ⟨"java/lang/Object", "<init>", "()V"⟩) ∈ uG := uG_mem (tb_1 (List.mem_of_getElem? (i := 157) (by decide +kernel))) rfl
theorem kw_1_158 : (Cond.fieldLink RX4 65 "StaticLink$Meaning" "declarations" "LStaticLink$Declarations;") ∈ uG := uG_mem (tb_1 (List.mem_of_getElem? (i := 158) (by decide +kernel))) rfl
theorem kw_1_159 : (Cond.fieldLink RX4 69 "StaticLink$Meaning" "nodes" "LStaticLink$Nodes;") ∈ uG := uG_mem (tb_1 (List.mem_of_getElem? (i := 159) (by decide +kernel))) rfl
theorem kw_1_160 : (Cond.fieldLink RX4 9 "StaticLink$Meaning" "in" "[I") ∈ uG := uG_mem (tb_1 (List.mem_of_getElem? (i := 160) (by decide +kernel))) rfl
theorem kw_1_161 : (Cond.fieldLink RX0 96 "StaticLink$Meaning" "in" "[I") ∈ uG := uG_mem (tb_1 (List.mem_of_getElem? (i := 161) (by decide +kernel))) rfl
theorem kw_1_162 : (Cond.fieldLink RX3 131 "StaticLink$Meaning" "in" "[I") ∈ uG := uG_mem (tb_1 (List.mem_of_getElem? (i := 162) (by decide +kernel))) rfl
theorem kw_1_163 : (Cond.fieldLink RX8 207 "StaticLink$Meaning" "in" "[I") ∈ uG := uG_mem (tb_1 (List.mem_of_getElem? (i := 163) (by decide +kernel))) rfl
theorem kw_1_164 : (Cond.fieldLink RX4 15 "StaticLink$Meaning" "owner" "[I") ∈ uG := uG_mem (tb_1 (List.mem_of_getElem? (i := 164) (by decide +kernel))) rfl
theorem kw_1_165 : (Cond.fieldLink RX4 18 "StaticLink$Meaning" "hops" "[I") ∈ uG := uG_mem (tb_1 (List.mem_of_getElem? (i := 165) (by decide +kernel))) rfl
theorem kw_1_166 : (Cond.fieldLink RX8 216 "StaticLink$Meaning" "hops" "[I") ∈ uG := uG_mem (tb_1 (List.mem_of_getElem? (i := 166) (by decide +kernel))) rfl
theorem kw_1_167 : (Cond.fieldLink RX0 149 "StaticLink$Meaning" "hops" "[I") ∈ uG := uG_mem (tb_1 (List.mem_of_getElem? (i := 167) (by decide +kernel))) rfl
theorem kw_1_168 : (Cond.fieldLink RX4 21 "StaticLink$Meaning" "is" "[I") ∈ uG := uG_mem (tb_1 (List.mem_of_getElem? (i := 168) (by decide +kernel))) rfl
theorem kw_1_169 : (Cond.fieldLink RX2 79 "StaticLink$Meaning" "is" "[I") ∈ uG := uG_mem (tb_1 (List.mem_of_getElem? (i := 169) (by decide +kernel))) rfl
theorem kw_1_170 : (Cond.fieldLink RX3 228 "StaticLink$Meaning" "is" "[I") ∈ uG := uG_mem (tb_1 (List.mem_of_getElem? (i := 170) (by decide +kernel))) rfl
theorem kw_1_171 : (Cond.fieldLink RX0 171 "StaticLink$Meaning" "is" "[I") ∈ uG := uG_mem (tb_1 (List.mem_of_getElem? (i := 171) (by decide +kernel))) rfl
theorem kw_1_172 : (Cond.fieldLink RX4 24 "StaticLink$Meaning" "target" "[I") ∈ uG := uG_mem (tb_1 (List.mem_of_getElem? (i := 172) (by decide +kernel))) rfl
theorem kw_1_173 : (Cond.fieldLink RX2 99 "StaticLink$Meaning" "target" "[I") ∈ uG := uG_mem (tb_1 (List.mem_of_getElem? (i := 173) (by decide +kernel))) rfl
theorem kw_1_174 : (Cond.fieldLink RX0 152 "StaticLink$Meaning" "target" "[I") ∈ uG := uG_mem (tb_1 (List.mem_of_getElem? (i := 174) (by decide +kernel))) rfl
theorem kw_1_175 : (Cond.fieldLink RX4 27 "StaticLink$Meaning" "folded" "[Z") ∈ uG := uG_mem (tb_1 (List.mem_of_getElem? (i := 175) (by decide +kernel))) rfl
theorem kw_1_176 : (Cond.fieldLink RX0 111 "StaticLink$Meaning" "folded" "[Z") ∈ uG := uG_mem (tb_1 (List.mem_of_getElem? (i := 176) (by decide +kernel))) rfl
theorem kw_1_177 : (Cond.fieldLink RX8 210 "StaticLink$Meaning" "folded" "[Z") ∈ uG := uG_mem (tb_1 (List.mem_of_getElem? (i := 177) (by decide +kernel))) rfl
theorem kw_1_178 : (Cond.fieldLink RX4 31 "StaticLink$Meaning" "worth" "[I") ∈ uG := uG_mem (tb_1 (List.mem_of_getElem? (i := 178) (by decide +kernel))) rfl
theorem kw_1_179 : (Cond.fieldLink RX0 155 "StaticLink$Meaning" "worth" "[I") ∈ uG := uG_mem (tb_1 (List.mem_of_getElem? (i := 179) (by decide +kernel))) rfl
theorem kw_1_180 : (Cond.fieldLink RX4 34 "StaticLink$Meaning" "tail" "[Z") ∈ uG := uG_mem (tb_1 (List.mem_of_getElem? (i := 180) (by decide +kernel))) rfl
theorem kw_1_181 : (Cond.fieldLink RX0 114 "StaticLink$Meaning" "tail" "[Z") ∈ uG := uG_mem (tb_1 (List.mem_of_getElem? (i := 181) (by decide +kernel))) rfl
theorem kw_1_182 : (Cond.fieldLink RX8 213 "StaticLink$Meaning" "tail" "[Z") ∈ uG := uG_mem (tb_1 (List.mem_of_getElem? (i := 182) (by decide +kernel))) rfl
theorem kw_1_183 : (Cond.fieldLink RX3 254 "StaticLink$Meaning" "tail" "[Z") ∈ uG := uG_mem (tb_1 (List.mem_of_getElem? (i := 183) (by decide +kernel))) rfl
theorem kw_1_184 : (Cond.fieldLink RX4 37 "StaticLink$Meaning" "mode" "[I") ∈ uG := uG_mem (tb_1 (List.mem_of_getElem? (i := 184) (by decide +kernel))) rfl
theorem kw_1_185 : (Cond.fieldLink RX0 120 "StaticLink$Meaning" "mode" "[I") ∈ uG := uG_mem (tb_1 (List.mem_of_getElem? (i := 185) (by decide +kernel))) rfl
theorem kw_1_186 : (Cond.fieldLink RX2 114 "StaticLink$Meaning" "mode" "[I") ∈ uG := uG_mem (tb_1 (List.mem_of_getElem? (i := 186) (by decide +kernel))) rfl
theorem kw_1_187 : (Cond.fieldLink RX4 40 "StaticLink$Meaning" "leaves" "[I") ∈ uG := uG_mem (tb_1 (List.mem_of_getElem? (i := 187) (by decide +kernel))) rfl
theorem kw_1_188 : (Cond.fieldLink RX2 90 "StaticLink$Meaning" "leaves" "[I") ∈ uG := uG_mem (tb_1 (List.mem_of_getElem? (i := 188) (by decide +kernel))) rfl
theorem kw_1_189 : (Cond.fieldLink RX0 189 "StaticLink$Meaning" "leaves" "[I") ∈ uG := uG_mem (tb_1 (List.mem_of_getElem? (i := 189) (by decide +kernel))) rfl
theorem kw_1_190 : (Cond.fieldLink RX4 43 "StaticLink$Meaning" "labels" "[I") ∈ uG := uG_mem (tb_1 (List.mem_of_getElem? (i := 190) (by decide +kernel))) rfl
theorem kw_1_191 : (Cond.fieldLink RX4 46 "StaticLink$Meaning" "handedOn" "[Z") ∈ uG := uG_mem (tb_1 (List.mem_of_getElem? (i := 191) (by decide +kernel))) rfl
theorem kw_1_192 : (Cond.fieldLink RX8 164 "StaticLink$Meaning" "handedOn" "[Z") ∈ uG := uG_mem (tb_1 (List.mem_of_getElem? (i := 192) (by decide +kernel))) rfl
theorem kw_1_193 : (Cond.fieldLink RX4 49 "StaticLink$Meaning" "escapes" "[I") ∈ uG := uG_mem (tb_1 (List.mem_of_getElem? (i := 193) (by decide +kernel))) rfl
theorem kw_1_194 : (Cond.fieldLink RX8 161 "StaticLink$Meaning" "escapes" "[I") ∈ uG := uG_mem (tb_1 (List.mem_of_getElem? (i := 194) (by decide +kernel))) rfl
theorem kw_1_195 : (Cond.fieldLink RX3 273 "StaticLink$Meaning" "escapes" "[I") ∈ uG := uG_mem (tb_1 (List.mem_of_getElem? (i := 195) (by decide +kernel))) rfl
theorem kw_1_196 : (Cond.fieldLink RX4 52 "StaticLink$Meaning" "nodesInNone" "I") ∈ uG := uG_mem (tb_1 (List.mem_of_getElem? (i := 196) (by decide +kernel))) rfl
theorem kw_1_197 : (Cond.fieldLink RX8 283 "StaticLink$Meaning" "nodesInNone" "I") ∈ uG := uG_mem (tb_1 (List.mem_of_getElem? (i := 197) (by decide +kernel))) rfl
theorem kw_1_198 : (Cond.fieldLink RX4 56 "StaticLink$Meaning" "nodesFolded" "I") ∈ uG := uG_mem (tb_1 (List.mem_of_getElem? (i := 198) (by decide +kernel))) rfl
theorem kw_1_199 : (Cond.fieldLink RX8 289 "StaticLink$Meaning" "nodesFolded" "I") ∈ uG := uG_mem (tb_1 (List.mem_of_getElem? (i := 199) (by decide +kernel))) rfl
theorem kw_1_200 : (Cond.fieldLink RX4 59 "StaticLink$Meaning" "tails" "I") ∈ uG := uG_mem (tb_1 (List.mem_of_getElem? (i := 200) (by decide +kernel))) rfl
theorem kw_1_201 : (Cond.fieldLink RX8 286 "StaticLink$Meaning" "tails" "I") ∈ uG := uG_mem (tb_1 (List.mem_of_getElem? (i := 201) (by decide +kernel))) rfl
theorem kw_1_202 : (Cond.fieldLink RX4 62 "StaticLink$Meaning" "placesEscaping" "I") ∈ uG := uG_mem (tb_1 (List.mem_of_getElem? (i := 202) (by decide +kernel))) rfl
theorem kw_1_203 : (Cond.fieldLink RX8 292 "StaticLink$Meaning" "placesEscaping" "I") ∈ uG := uG_mem (tb_1 (List.mem_of_getElem? (i := 203) (by decide +kernel))) rfl
theorem kw_1_204 : (Cond.laysFinal RX4 "StaticLink$Meaning" "declarations" "LStaticLink$Declarations;") ∈ uG := uG_mem (tb_1 (List.mem_of_getElem? (i := 204) (by decide +kernel))) rfl
theorem kw_1_206 : (Cond.laysFinal RX4 "StaticLink$Meaning" "nodes" "LStaticLink$Nodes;") ∈ uG := uG_mem (tb_1 (List.mem_of_getElem? (i := 206) (by decide +kernel))) rfl
theorem kw_1_208 : (Cond.laysFinal RX4 "StaticLink$Meaning" "in" "[I") ∈ uG := uG_mem (tb_1 (List.mem_of_getElem? (i := 208) (by decide +kernel))) rfl
theorem kw_1_210 : (Cond.laysFinal RX4 "StaticLink$Meaning" "owner" "[I") ∈ uG := uG_mem (tb_1 (List.mem_of_getElem? (i := 210) (by decide +kernel))) rfl
theorem kw_1_212 : (Cond.laysFinal RX4 "StaticLink$Meaning" "hops" "[I") ∈ uG := uG_mem (tb_1 (List.mem_of_getElem? (i := 212) (by decide +kernel))) rfl
theorem kw_1_214 : (Cond.laysFinal RX4 "StaticLink$Meaning" "is" "[I") ∈ uG := uG_mem (tb_1 (List.mem_of_getElem? (i := 214) (by decide +kernel))) rfl
theorem kw_1_216 : (Cond.laysFinal RX4 "StaticLink$Meaning" "target" "[I") ∈ uG := uG_mem (tb_1 (List.mem_of_getElem? (i := 216) (by decide +kernel))) rfl
theorem kw_1_218 : (Cond.laysFinal RX4 "StaticLink$Meaning" "folded" "[Z") ∈ uG := uG_mem (tb_1 (List.mem_of_getElem? (i := 218) (by decide +kernel))) rfl
theorem kw_1_220 : (Cond.laysFinal RX4 "StaticLink$Meaning" "worth" "[I") ∈ uG := uG_mem (tb_1 (List.mem_of_getElem? (i := 220) (by decide +kernel))) rfl
theorem kw_1_222 : (Cond.laysFinal RX4 "StaticLink$Meaning" "tail" "[Z") ∈ uG := uG_mem (tb_1 (List.mem_of_getElem? (i := 222) (by decide +kernel))) rfl
theorem kw_1_224 : (Cond.laysFinal RX4 "StaticLink$Meaning" "mode" "[I") ∈ uG := uG_mem (tb_1 (List.mem_of_getElem? (i := 224) (by decide +kernel))) rfl
theorem kw_1_226 : (Cond.laysFinal RX4 "StaticLink$Meaning" "leaves" "[I") ∈ uG := uG_mem (tb_1 (List.mem_of_getElem? (i := 226) (by decide +kernel))) rfl
theorem kw_1_228 : (Cond.laysFinal RX4 "StaticLink$Meaning" "labels" "[I") ∈ uG := uG_mem (tb_1 (List.mem_of_getElem? (i := 228) (by decide +kernel))) rfl
theorem kw_1_230 : (Cond.laysFinal RX4 "StaticLink$Meaning" "handedOn" "[Z") ∈ uG := uG_mem (tb_1 (List.mem_of_getElem? (i := 230) (by decide +kernel))) rfl
theorem kw_1_232 : (Cond.laysFinal RX4 "StaticLink$Meaning" "escapes" "[I") ∈ uG := uG_mem (tb_1 (List.mem_of_getElem? (i := 232) (by decide +kernel))) rfl
theorem kw_1_234 : (Cond.lays RX4 "StaticLink$Meaning" "nodesInNone" "I") ∈ uG := uG_mem (tb_1 (List.mem_of_getElem? (i := 234) (by decide +kernel))) rfl
theorem kw_1_236 : (Cond.lays RX4 "StaticLink$Meaning" "nodesFolded" "I") ∈ uG := uG_mem (tb_1 (List.mem_of_getElem? (i := 236) (by decide +kernel))) rfl
theorem kw_1_238 : (Cond.lays RX4 "StaticLink$Meaning" "tails" "I") ∈ uG := uG_mem (tb_1 (List.mem_of_getElem? (i := 238) (by decide +kernel))) rfl
theorem kw_2_0 : (Cond.lays RX4 "StaticLink$Meaning" "placesEscaping" "I") ∈ uG := uG_mem (tb_2 (List.mem_of_getElem? (i := 0) (by decide +kernel))) rfl
theorem kw_2_3 : (Cond.arrayClass FieldType.boolean) ∈ uG := uG_mem (tb_2 (List.mem_of_getElem? (i := 3) (by decide +kernel))) rfl
theorem kw_2_4 : (Cond.classLink RX8 32 RX2) ∈ uG := uG_mem (tb_2 (List.mem_of_getElem? (i := 4) (by decide +kernel))) rfl
theorem kw_2_5 : (Cond.instantiable RX2 9) ∈ uG := uG_mem (tb_2 (List.mem_of_getElem? (i := 5) (by decide +kernel))) rfl
theorem kw_2_6 : (Cond.methodLink RX8 34 yX2_init) ∈ uG := uG_mem (tb_2 (List.mem_of_getElem? (i := 6) (by decide +kernel))) rfl
theorem kw_2_7 : (Cond.instanceMethod yX2_init) ∈ uG := uG_mem (tb_2 (List.mem_of_getElem? (i := 7) (by decide +kernel))) rfl
theorem kw_2_8 : (Cond.code yX2_init cX2_init 4 none) ∈ uG := uG_mem (tb_2 (List.mem_of_getElem? (i := 8) (by decide +kernel))) rfl
theorem kw_2_9 : (Cond.methodLink RX2 3 ⟨"java/lang/Object", "<init>", "()V"⟩) ∈ uG := uG_mem (tb_2 (List.mem_of_getElem? (i := 9) (by decide +kernel))) rfl
theorem kw_2_10 : (Cond.fieldLink RX2 31 "StaticLink$Faults" "declarations" "LStaticLink$Declarations;") ∈ uG := uG_mem (tb_2 (List.mem_of_getElem? (i := 10) (by decide +kernel))) rfl
theorem kw_2_11 : (Cond.fieldLink RX2 35 "StaticLink$Faults" "nodes" "LStaticLink$Nodes;") ∈ uG := uG_mem (tb_2 (List.mem_of_getElem? (i := 11) (by decide +kernel))) rfl
theorem kw_2_12 : (Cond.fieldLink RX2 39 "StaticLink$Faults" "meaning" "LStaticLink$Meaning;") ∈ uG := uG_mem (tb_2 (List.mem_of_getElem? (i := 12) (by decide +kernel))) rfl
theorem kw_2_13 : (Cond.fieldLink RX2 9 "StaticLink$Faults" "count" "I") ∈ uG := uG_mem (tb_2 (List.mem_of_getElem? (i := 13) (by decide +kernel))) rfl
theorem kw_2_14 : (Cond.fieldLink RX8 219 "StaticLink$Faults" "count" "I") ∈ uG := uG_mem (tb_2 (List.mem_of_getElem? (i := 14) (by decide +kernel))) rfl
theorem kw_2_15 : (Cond.fieldLink RX2 15 "StaticLink$Faults" "which" "[I") ∈ uG := uG_mem (tb_2 (List.mem_of_getElem? (i := 15) (by decide +kernel))) rfl
theorem kw_2_16 : (Cond.fieldLink RX8 223 "StaticLink$Faults" "which" "[I") ∈ uG := uG_mem (tb_2 (List.mem_of_getElem? (i := 16) (by decide +kernel))) rfl
theorem kw_2_17 : (Cond.fieldLink RX2 19 "StaticLink$Faults" "procedureOf" "[I") ∈ uG := uG_mem (tb_2 (List.mem_of_getElem? (i := 17) (by decide +kernel))) rfl
theorem kw_2_18 : (Cond.fieldLink RX8 226 "StaticLink$Faults" "procedureOf" "[I") ∈ uG := uG_mem (tb_2 (List.mem_of_getElem? (i := 18) (by decide +kernel))) rfl
theorem kw_2_19 : (Cond.fieldLink RX2 22 "StaticLink$Faults" "nodeOf" "[I") ∈ uG := uG_mem (tb_2 (List.mem_of_getElem? (i := 19) (by decide +kernel))) rfl
theorem kw_2_20 : (Cond.fieldLink RX8 229 "StaticLink$Faults" "nodeOf" "[I") ∈ uG := uG_mem (tb_2 (List.mem_of_getElem? (i := 20) (by decide +kernel))) rfl
theorem kw_2_21 : (Cond.fieldLink RX2 25 "StaticLink$Faults" "waiting" "[I") ∈ uG := uG_mem (tb_2 (List.mem_of_getElem? (i := 21) (by decide +kernel))) rfl
theorem kw_2_22 : (Cond.fieldLink RX2 28 "StaticLink$Faults" "waits" "I") ∈ uG := uG_mem (tb_2 (List.mem_of_getElem? (i := 22) (by decide +kernel))) rfl
theorem kw_2_23 : (Cond.laysFinal RX2 "StaticLink$Faults" "declarations" "LStaticLink$Declarations;") ∈ uG := uG_mem (tb_2 (List.mem_of_getElem? (i := 23) (by decide +kernel))) rfl
theorem kw_2_25 : (Cond.laysFinal RX2 "StaticLink$Faults" "nodes" "LStaticLink$Nodes;") ∈ uG := uG_mem (tb_2 (List.mem_of_getElem? (i := 25) (by decide +kernel))) rfl
theorem kw_2_27 : (Cond.laysFinal RX2 "StaticLink$Faults" "meaning" "LStaticLink$Meaning;") ∈ uG := uG_mem (tb_2 (List.mem_of_getElem? (i := 27) (by decide +kernel))) rfl
theorem kw_2_29 : (Cond.lays RX2 "StaticLink$Faults" "count" "I") ∈ uG := uG_mem (tb_2 (List.mem_of_getElem? (i := 29) (by decide +kernel))) rfl
theorem kw_2_31 : (Cond.laysFinal RX2 "StaticLink$Faults" "which" "[I") ∈ uG := uG_mem (tb_2 (List.mem_of_getElem? (i := 31) (by decide +kernel))) rfl
theorem kw_2_33 : (Cond.laysFinal RX2 "StaticLink$Faults" "procedureOf" "[I") ∈ uG := uG_mem (tb_2 (List.mem_of_getElem? (i := 33) (by decide +kernel))) rfl
theorem kw_2_35 : (Cond.laysFinal RX2 "StaticLink$Faults" "nodeOf" "[I") ∈ uG := uG_mem (tb_2 (List.mem_of_getElem? (i := 35) (by decide +kernel))) rfl
theorem kw_2_37 : (Cond.laysFinal RX2 "StaticLink$Faults" "waiting" "[I") ∈ uG := uG_mem (tb_2 (List.mem_of_getElem? (i := 37) (by decide +kernel))) rfl
theorem kw_2_39 : (Cond.lays RX2 "StaticLink$Faults" "waits" "I") ∈ uG := uG_mem (tb_2 (List.mem_of_getElem? (i := 39) (by decide +kernel))) rfl
theorem kw_2_42 : (Cond.classLink RX8 41 RX0) ∈ uG := uG_mem (tb_2 (List.mem_of_getElem? (i := 42) (by decide +kernel))) rfl
theorem kw_2_43 : (Cond.instantiable RX0 17) ∈ uG := uG_mem (tb_2 (List.mem_of_getElem? (i := 43) (by decide +kernel))) rfl
theorem kw_2_44 : (Cond.methodLink RX8 43 yX0_init) ∈ uG := uG_mem (tb_2 (List.mem_of_getElem? (i := 44) (by decide +kernel))) rfl
theorem kw_2_45 : (Cond.instanceMethod yX0_init) ∈ uG := uG_mem (tb_2 (List.mem_of_getElem? (i := 45) (by decide +kernel))) rfl
theorem kw_2_46 : (Cond.code yX0_init cX0_init 4 none) ∈ uG := uG_mem (tb_2 (List.mem_of_getElem? (i := 46) (by decide +kernel))) rfl
theorem kw_2_47 : (Cond.methodLink RX0 3 ⟨"java/lang/Object", "<init>", "()V"⟩) ∈ uG := uG_mem (tb_2 (List.mem_of_getElem? (i := 47) (by decide +kernel))) rfl
theorem kw_2_48 : (Cond.fieldLink RX0 56 "StaticLink$Code" "declarations" "LStaticLink$Declarations;") ∈ uG := uG_mem (tb_2 (List.mem_of_getElem? (i := 48) (by decide +kernel))) rfl
theorem kw_2_49 : (Cond.fieldLink RX0 60 "StaticLink$Code" "nodes" "LStaticLink$Nodes;") ∈ uG := uG_mem (tb_2 (List.mem_of_getElem? (i := 49) (by decide +kernel))) rfl
theorem kw_2_50 : (Cond.fieldLink RX0 64 "StaticLink$Code" "meaning" "LStaticLink$Meaning;") ∈ uG := uG_mem (tb_2 (List.mem_of_getElem? (i := 50) (by decide +kernel))) rfl
theorem kw_2_51 : (Cond.fieldLink RX0 9 "StaticLink$Code" "laidOut" "I") ∈ uG := uG_mem (tb_2 (List.mem_of_getElem? (i := 51) (by decide +kernel))) rfl
theorem kw_2_52 : (Cond.fieldLink RX0 15 "StaticLink$Code" "total" "I") ∈ uG := uG_mem (tb_2 (List.mem_of_getElem? (i := 52) (by decide +kernel))) rfl
theorem kw_2_53 : (Cond.fieldLink RX3 97 "StaticLink$Code" "total" "I") ∈ uG := uG_mem (tb_2 (List.mem_of_getElem? (i := 53) (by decide +kernel))) rfl
theorem kw_2_54 : (Cond.fieldLink RX8 348 "StaticLink$Code" "total" "I") ∈ uG := uG_mem (tb_2 (List.mem_of_getElem? (i := 54) (by decide +kernel))) rfl
theorem kw_2_55 : (Cond.fieldLink RX0 18 "StaticLink$Code" "from" "[I") ∈ uG := uG_mem (tb_2 (List.mem_of_getElem? (i := 55) (by decide +kernel))) rfl
theorem kw_2_56 : (Cond.fieldLink RX8 235 "StaticLink$Code" "from" "[I") ∈ uG := uG_mem (tb_2 (List.mem_of_getElem? (i := 56) (by decide +kernel))) rfl
theorem kw_2_57 : (Cond.fieldLink RX3 237 "StaticLink$Code" "from" "[I") ∈ uG := uG_mem (tb_2 (List.mem_of_getElem? (i := 57) (by decide +kernel))) rfl
theorem kw_2_58 : (Cond.fieldLink RX0 22 "StaticLink$Code" "size" "[I") ∈ uG := uG_mem (tb_2 (List.mem_of_getElem? (i := 58) (by decide +kernel))) rfl
theorem kw_2_59 : (Cond.fieldLink RX8 345 "StaticLink$Code" "size" "[I") ∈ uG := uG_mem (tb_2 (List.mem_of_getElem? (i := 59) (by decide +kernel))) rfl
theorem kw_2_60 : (Cond.fieldLink RX0 25 "StaticLink$Code" "op" "[I") ∈ uG := uG_mem (tb_2 (List.mem_of_getElem? (i := 60) (by decide +kernel))) rfl
theorem kw_2_61 : (Cond.fieldLink RX3 104 "StaticLink$Code" "op" "[I") ∈ uG := uG_mem (tb_2 (List.mem_of_getElem? (i := 61) (by decide +kernel))) rfl
theorem kw_2_62 : (Cond.fieldLink RX8 238 "StaticLink$Code" "op" "[I") ∈ uG := uG_mem (tb_2 (List.mem_of_getElem? (i := 62) (by decide +kernel))) rfl
theorem kw_2_63 : (Cond.fieldLink RX0 28 "StaticLink$Code" "x" "[I") ∈ uG := uG_mem (tb_2 (List.mem_of_getElem? (i := 63) (by decide +kernel))) rfl
theorem kw_2_64 : (Cond.fieldLink RX3 139 "StaticLink$Code" "x" "[I") ∈ uG := uG_mem (tb_2 (List.mem_of_getElem? (i := 64) (by decide +kernel))) rfl
theorem kw_2_65 : (Cond.fieldLink RX8 241 "StaticLink$Code" "x" "[I") ∈ uG := uG_mem (tb_2 (List.mem_of_getElem? (i := 65) (by decide +kernel))) rfl
theorem kw_2_66 : (Cond.fieldLink RX0 31 "StaticLink$Code" "y" "[I") ∈ uG := uG_mem (tb_2 (List.mem_of_getElem? (i := 66) (by decide +kernel))) rfl
theorem kw_2_67 : (Cond.fieldLink RX3 177 "StaticLink$Code" "y" "[I") ∈ uG := uG_mem (tb_2 (List.mem_of_getElem? (i := 67) (by decide +kernel))) rfl
theorem kw_2_68 : (Cond.fieldLink RX8 244 "StaticLink$Code" "y" "[I") ∈ uG := uG_mem (tb_2 (List.mem_of_getElem? (i := 68) (by decide +kernel))) rfl
theorem kw_2_69 : (Cond.fieldLink RX0 34 "StaticLink$Code" "node" "[I") ∈ uG := uG_mem (tb_2 (List.mem_of_getElem? (i := 69) (by decide +kernel))) rfl
theorem kw_2_70 : (Cond.fieldLink RX3 206 "StaticLink$Code" "node" "[I") ∈ uG := uG_mem (tb_2 (List.mem_of_getElem? (i := 70) (by decide +kernel))) rfl
theorem kw_2_71 : (Cond.fieldLink RX0 37 "StaticLink$Code" "first" "[I") ∈ uG := uG_mem (tb_2 (List.mem_of_getElem? (i := 71) (by decide +kernel))) rfl
theorem kw_2_72 : (Cond.fieldLink RX3 114 "StaticLink$Code" "first" "[I") ∈ uG := uG_mem (tb_2 (List.mem_of_getElem? (i := 72) (by decide +kernel))) rfl
theorem kw_2_73 : (Cond.fieldLink RX0 40 "StaticLink$Code" "begins" "[I") ∈ uG := uG_mem (tb_2 (List.mem_of_getElem? (i := 73) (by decide +kernel))) rfl
theorem kw_2_74 : (Cond.fieldLink RX8 247 "StaticLink$Code" "begins" "[I") ∈ uG := uG_mem (tb_2 (List.mem_of_getElem? (i := 74) (by decide +kernel))) rfl
theorem kw_2_75 : (Cond.fieldLink RX0 43 "StaticLink$Code" "start" "[I") ∈ uG := uG_mem (tb_2 (List.mem_of_getElem? (i := 75) (by decide +kernel))) rfl
theorem kw_2_76 : (Cond.fieldLink RX3 240 "StaticLink$Code" "start" "[I") ∈ uG := uG_mem (tb_2 (List.mem_of_getElem? (i := 76) (by decide +kernel))) rfl
theorem kw_2_77 : (Cond.fieldLink RX0 46 "StaticLink$Code" "length" "[I") ∈ uG := uG_mem (tb_2 (List.mem_of_getElem? (i := 77) (by decide +kernel))) rfl
theorem kw_2_78 : (Cond.fieldLink RX3 242 "StaticLink$Code" "length" "[I") ∈ uG := uG_mem (tb_2 (List.mem_of_getElem? (i := 78) (by decide +kernel))) rfl
theorem kw_2_79 : (Cond.fieldLink RX0 49 "StaticLink$Code" "next" "[I") ∈ uG := uG_mem (tb_2 (List.mem_of_getElem? (i := 79) (by decide +kernel))) rfl
theorem kw_2_80 : (Cond.fieldLink RX3 123 "StaticLink$Code" "next" "[I") ∈ uG := uG_mem (tb_2 (List.mem_of_getElem? (i := 80) (by decide +kernel))) rfl
theorem kw_2_81 : (Cond.fieldLink RX0 52 "StaticLink$Code" "swallowed" "[Z") ∈ uG := uG_mem (tb_2 (List.mem_of_getElem? (i := 81) (by decide +kernel))) rfl
theorem kw_2_82 : (Cond.laysFinal RX0 "StaticLink$Code" "declarations" "LStaticLink$Declarations;") ∈ uG := uG_mem (tb_2 (List.mem_of_getElem? (i := 82) (by decide +kernel))) rfl
theorem kw_2_84 : (Cond.laysFinal RX0 "StaticLink$Code" "nodes" "LStaticLink$Nodes;") ∈ uG := uG_mem (tb_2 (List.mem_of_getElem? (i := 84) (by decide +kernel))) rfl
theorem kw_2_86 : (Cond.laysFinal RX0 "StaticLink$Code" "meaning" "LStaticLink$Meaning;") ∈ uG := uG_mem (tb_2 (List.mem_of_getElem? (i := 86) (by decide +kernel))) rfl
theorem kw_2_88 : (Cond.lays RX0 "StaticLink$Code" "laidOut" "I") ∈ uG := uG_mem (tb_2 (List.mem_of_getElem? (i := 88) (by decide +kernel))) rfl
theorem kw_2_90 : (Cond.lays RX0 "StaticLink$Code" "total" "I") ∈ uG := uG_mem (tb_2 (List.mem_of_getElem? (i := 90) (by decide +kernel))) rfl
theorem kw_2_92 : (Cond.laysFinal RX0 "StaticLink$Code" "from" "[I") ∈ uG := uG_mem (tb_2 (List.mem_of_getElem? (i := 92) (by decide +kernel))) rfl
theorem kw_2_94 : (Cond.laysFinal RX0 "StaticLink$Code" "size" "[I") ∈ uG := uG_mem (tb_2 (List.mem_of_getElem? (i := 94) (by decide +kernel))) rfl
theorem kw_2_96 : (Cond.laysFinal RX0 "StaticLink$Code" "op" "[I") ∈ uG := uG_mem (tb_2 (List.mem_of_getElem? (i := 96) (by decide +kernel))) rfl
theorem kw_2_98 : (Cond.laysFinal RX0 "StaticLink$Code" "x" "[I") ∈ uG := uG_mem (tb_2 (List.mem_of_getElem? (i := 98) (by decide +kernel))) rfl
theorem kw_2_100 : (Cond.laysFinal RX0 "StaticLink$Code" "y" "[I") ∈ uG := uG_mem (tb_2 (List.mem_of_getElem? (i := 100) (by decide +kernel))) rfl
theorem kw_2_102 : (Cond.laysFinal RX0 "StaticLink$Code" "node" "[I") ∈ uG := uG_mem (tb_2 (List.mem_of_getElem? (i := 102) (by decide +kernel))) rfl
theorem kw_2_104 : (Cond.laysFinal RX0 "StaticLink$Code" "first" "[I") ∈ uG := uG_mem (tb_2 (List.mem_of_getElem? (i := 104) (by decide +kernel))) rfl
theorem kw_2_106 : (Cond.laysFinal RX0 "StaticLink$Code" "begins" "[I") ∈ uG := uG_mem (tb_2 (List.mem_of_getElem? (i := 106) (by decide +kernel))) rfl
theorem kw_2_108 : (Cond.laysFinal RX0 "StaticLink$Code" "start" "[I") ∈ uG := uG_mem (tb_2 (List.mem_of_getElem? (i := 108) (by decide +kernel))) rfl
theorem kw_2_110 : (Cond.laysFinal RX0 "StaticLink$Code" "length" "[I") ∈ uG := uG_mem (tb_2 (List.mem_of_getElem? (i := 110) (by decide +kernel))) rfl
theorem kw_2_112 : (Cond.laysFinal RX0 "StaticLink$Code" "next" "[I") ∈ uG := uG_mem (tb_2 (List.mem_of_getElem? (i := 112) (by decide +kernel))) rfl
theorem kw_2_114 : (Cond.laysFinal RX0 "StaticLink$Code" "swallowed" "[Z") ∈ uG := uG_mem (tb_2 (List.mem_of_getElem? (i := 114) (by decide +kernel))) rfl
theorem kw_2_117 : (Cond.classLink RX8 51 RX3) ∈ uG := uG_mem (tb_2 (List.mem_of_getElem? (i := 117) (by decide +kernel))) rfl
theorem kw_2_118 : (Cond.instantiable RX3 17) ∈ uG := uG_mem (tb_2 (List.mem_of_getElem? (i := 118) (by decide +kernel))) rfl
theorem kw_2_119 : (Cond.methodLink RX8 53 yX3_init) ∈ uG := uG_mem (tb_2 (List.mem_of_getElem? (i := 119) (by decide +kernel))) rfl
theorem kw_2_120 : (Cond.instanceMethod yX3_init) ∈ uG := uG_mem (tb_2 (List.mem_of_getElem? (i := 120) (by decide +kernel))) rfl
theorem kw_2_121 : (Cond.code yX3_init cX3_init 5 none) ∈ uG := uG_mem (tb_2 (List.mem_of_getElem? (i := 121) (by decide +kernel))) rfl
theorem kw_2_122 : (Cond.methodLink RX3 3 ⟨"java/lang/Object", "<init>", "()V"⟩) ∈ uG := uG_mem (tb_2 (List.mem_of_getElem? (i := 122) (by decide +kernel))) rfl
theorem kw_2_123 : (Cond.classLink RX3 9 RX7) ∈ uG := uG_mem (tb_2 (List.mem_of_getElem? (i := 123) (by decide +kernel))) rfl
theorem kw_2_124 : (Cond.instantiable RX7 3) ∈ uG := uG_mem (tb_2 (List.mem_of_getElem? (i := 124) (by decide +kernel))) rfl
theorem kw_2_125 : (Cond.methodLink RX3 11 yX7_init) ∈ uG := uG_mem (tb_2 (List.mem_of_getElem? (i := 125) (by decide +kernel))) rfl
theorem kw_2_126 : (Cond.instanceMethod yX7_init) ∈ uG := uG_mem (tb_2 (List.mem_of_getElem? (i := 126) (by decide +kernel))) rfl
theorem kw_2_127 : (Cond.code yX7_init cX7_init 2 none) ∈ uG := uG_mem (tb_2 (List.mem_of_getElem? (i := 127) (by decide +kernel))) rfl
theorem kw_2_128 : (Cond.methodLink RX7 3 ⟨"java/lang/Object", "<init>", "()V"⟩) ∈ uG := uG_mem (tb_2 (List.mem_of_getElem? (i := 128) (by decide +kernel))) rfl
theorem kw_2_129 : (Cond.fieldLink RX7 15 "StaticLink$Table" "width" "I") ∈ uG := uG_mem (tb_2 (List.mem_of_getElem? (i := 129) (by decide +kernel))) rfl
theorem kw_2_130 : (Cond.fieldLink RX7 18 "StaticLink$Table" "numbers" "[I") ∈ uG := uG_mem (tb_2 (List.mem_of_getElem? (i := 130) (by decide +kernel))) rfl
theorem kw_2_131 : (Cond.fieldLink RX7 9 "StaticLink$Table" "count" "I") ∈ uG := uG_mem (tb_2 (List.mem_of_getElem? (i := 131) (by decide +kernel))) rfl
theorem kw_2_132 : (Cond.fieldLink RX3 200 "StaticLink$Table" "count" "I") ∈ uG := uG_mem (tb_2 (List.mem_of_getElem? (i := 132) (by decide +kernel))) rfl
theorem kw_2_133 : (Cond.laysFinal RX7 "StaticLink$Table" "width" "I") ∈ uG := uG_mem (tb_2 (List.mem_of_getElem? (i := 133) (by decide +kernel))) rfl
theorem kw_2_135 : (Cond.lays RX7 "StaticLink$Table" "numbers" "[I") ∈ uG := uG_mem (tb_2 (List.mem_of_getElem? (i := 135) (by decide +kernel))) rfl
theorem kw_2_137 : (Cond.lays RX7 "StaticLink$Table" "count" "I") ∈ uG := uG_mem (tb_2 (List.mem_of_getElem? (i := 137) (by decide +kernel))) rfl
theorem kw_2_140 : (Cond.classLink RX3 32 RX6) ∈ uG := uG_mem (tb_2 (List.mem_of_getElem? (i := 140) (by decide +kernel))) rfl
theorem kw_2_141 : (Cond.instantiable RX6 14) ∈ uG := uG_mem (tb_2 (List.mem_of_getElem? (i := 141) (by decide +kernel))) rfl
theorem kw_2_143 : (Cond.instanceMethod yX6_init) ∈ uG := uG_mem (tb_2 (List.mem_of_getElem? (i := 143) (by decide +kernel))) rfl
theorem kw_2_144 : (Cond.code yX6_init cX6_init 1 none) ∈ uG := uG_mem (tb_2 (List.mem_of_getElem? (i := 144) (by decide +kernel))) rfl
theorem kw_2_145 : (Cond.methodLink RX6 3 ⟨"java/lang/Object", "<init>", "()V"⟩) ∈ uG := uG_mem (tb_2 (List.mem_of_getElem? (i := 145) (by decide +kernel))) rfl
theorem kw_2_146 : (Cond.fieldLink RX6 9 "StaticLink$Outcome" "trap" "I") ∈ uG := uG_mem (tb_2 (List.mem_of_getElem? (i := 146) (by decide +kernel))) rfl
theorem kw_2_147 : (Cond.fieldLink RX3 126 "StaticLink$Outcome" "trap" "I") ∈ uG := uG_mem (tb_2 (List.mem_of_getElem? (i := 147) (by decide +kernel))) rfl
theorem kw_2_148 : (Cond.fieldLink RX8 257 "StaticLink$Outcome" "trap" "I") ∈ uG := uG_mem (tb_2 (List.mem_of_getElem? (i := 148) (by decide +kernel))) rfl
theorem kw_2_149 : (Cond.fieldLink RX6 15 "StaticLink$Outcome" "trapNode" "I") ∈ uG := uG_mem (tb_2 (List.mem_of_getElem? (i := 149) (by decide +kernel))) rfl
theorem kw_2_150 : (Cond.fieldLink RX3 128 "StaticLink$Outcome" "trapNode" "I") ∈ uG := uG_mem (tb_2 (List.mem_of_getElem? (i := 150) (by decide +kernel))) rfl
theorem kw_2_151 : (Cond.fieldLink RX6 18 "StaticLink$Outcome" "trapProcedure" "I") ∈ uG := uG_mem (tb_2 (List.mem_of_getElem? (i := 151) (by decide +kernel))) rfl
theorem kw_2_152 : (Cond.fieldLink RX3 136 "StaticLink$Outcome" "trapProcedure" "I") ∈ uG := uG_mem (tb_2 (List.mem_of_getElem? (i := 152) (by decide +kernel))) rfl
theorem kw_2_153 : (Cond.fieldLink RX6 21 "StaticLink$Outcome" "steps" "I") ∈ uG := uG_mem (tb_2 (List.mem_of_getElem? (i := 153) (by decide +kernel))) rfl
theorem kw_2_154 : (Cond.fieldLink RX3 117 "StaticLink$Outcome" "steps" "I") ∈ uG := uG_mem (tb_2 (List.mem_of_getElem? (i := 154) (by decide +kernel))) rfl
theorem kw_2_155 : (Cond.fieldLink RX6 24 "StaticLink$Outcome" "numbers" "I") ∈ uG := uG_mem (tb_2 (List.mem_of_getElem? (i := 155) (by decide +kernel))) rfl
theorem kw_2_156 : (Cond.fieldLink RX8 276 "StaticLink$Outcome" "numbers" "I") ∈ uG := uG_mem (tb_2 (List.mem_of_getElem? (i := 156) (by decide +kernel))) rfl
theorem kw_2_157 : (Cond.fieldLink RX6 27 "StaticLink$Outcome" "calls" "I") ∈ uG := uG_mem (tb_2 (List.mem_of_getElem? (i := 157) (by decide +kernel))) rfl
theorem kw_2_158 : (Cond.fieldLink RX3 267 "StaticLink$Outcome" "calls" "I") ∈ uG := uG_mem (tb_2 (List.mem_of_getElem? (i := 158) (by decide +kernel))) rfl
theorem kw_2_159 : (Cond.fieldLink RX6 30 "StaticLink$Outcome" "cells" "I") ∈ uG := uG_mem (tb_2 (List.mem_of_getElem? (i := 159) (by decide +kernel))) rfl
theorem kw_2_160 : (Cond.fieldLink RX8 298 "StaticLink$Outcome" "cells" "I") ∈ uG := uG_mem (tb_2 (List.mem_of_getElem? (i := 160) (by decide +kernel))) rfl
theorem kw_2_161 : (Cond.fieldLink RX3 270 "StaticLink$Outcome" "cells" "I") ∈ uG := uG_mem (tb_2 (List.mem_of_getElem? (i := 161) (by decide +kernel))) rfl
theorem kw_2_162 : (Cond.fieldLink RX6 33 "StaticLink$Outcome" "mostLive" "I") ∈ uG := uG_mem (tb_2 (List.mem_of_getElem? (i := 162) (by decide +kernel))) rfl
theorem kw_2_163 : (Cond.fieldLink RX8 301 "StaticLink$Outcome" "mostLive" "I") ∈ uG := uG_mem (tb_2 (List.mem_of_getElem? (i := 163) (by decide +kernel))) rfl
theorem kw_2_164 : (Cond.fieldLink RX3 284 "StaticLink$Outcome" "mostLive" "I") ∈ uG := uG_mem (tb_2 (List.mem_of_getElem? (i := 164) (by decide +kernel))) rfl
theorem kw_2_165 : (Cond.fieldLink RX6 36 "StaticLink$Outcome" "mostDepth" "I") ∈ uG := uG_mem (tb_2 (List.mem_of_getElem? (i := 165) (by decide +kernel))) rfl
theorem kw_2_166 : (Cond.fieldLink RX3 292 "StaticLink$Outcome" "mostDepth" "I") ∈ uG := uG_mem (tb_2 (List.mem_of_getElem? (i := 166) (by decide +kernel))) rfl
theorem kw_2_167 : (Cond.fieldLink RX6 39 "StaticLink$Outcome" "gave" "I") ∈ uG := uG_mem (tb_2 (List.mem_of_getElem? (i := 167) (by decide +kernel))) rfl
theorem kw_2_168 : (Cond.fieldLink RX3 264 "StaticLink$Outcome" "gave" "I") ∈ uG := uG_mem (tb_2 (List.mem_of_getElem? (i := 168) (by decide +kernel))) rfl
theorem kw_2_169 : (Cond.fieldLink RX6 42 "StaticLink$Outcome" "sum" "J") ∈ uG := uG_mem (tb_2 (List.mem_of_getElem? (i := 169) (by decide +kernel))) rfl
theorem kw_2_170 : (Cond.fieldLink RX8 279 "StaticLink$Outcome" "sum" "J") ∈ uG := uG_mem (tb_2 (List.mem_of_getElem? (i := 170) (by decide +kernel))) rfl
theorem kw_2_171 : (Cond.fieldLink RX6 46 "StaticLink$Outcome" "number" "[I") ∈ uG := uG_mem (tb_2 (List.mem_of_getElem? (i := 171) (by decide +kernel))) rfl
theorem kw_2_172 : (Cond.fieldLink RX8 267 "StaticLink$Outcome" "number" "[I") ∈ uG := uG_mem (tb_2 (List.mem_of_getElem? (i := 172) (by decide +kernel))) rfl
theorem kw_2_173 : (Cond.fieldLink RX6 50 "StaticLink$Outcome" "stepsBy" "[I") ∈ uG := uG_mem (tb_2 (List.mem_of_getElem? (i := 173) (by decide +kernel))) rfl
theorem kw_2_174 : (Cond.fieldLink RX8 270 "StaticLink$Outcome" "stepsBy" "[I") ∈ uG := uG_mem (tb_2 (List.mem_of_getElem? (i := 174) (by decide +kernel))) rfl
theorem kw_2_175 : (Cond.fieldLink RX6 53 "StaticLink$Outcome" "printNode" "[I") ∈ uG := uG_mem (tb_2 (List.mem_of_getElem? (i := 175) (by decide +kernel))) rfl
theorem kw_2_176 : (Cond.fieldLink RX8 273 "StaticLink$Outcome" "printNode" "[I") ∈ uG := uG_mem (tb_2 (List.mem_of_getElem? (i := 176) (by decide +kernel))) rfl
theorem kw_2_177 : (Cond.lays RX6 "StaticLink$Outcome" "trap" "I") ∈ uG := uG_mem (tb_2 (List.mem_of_getElem? (i := 177) (by decide +kernel))) rfl
theorem kw_2_179 : (Cond.lays RX6 "StaticLink$Outcome" "trapNode" "I") ∈ uG := uG_mem (tb_2 (List.mem_of_getElem? (i := 179) (by decide +kernel))) rfl
theorem kw_2_181 : (Cond.lays RX6 "StaticLink$Outcome" "trapProcedure" "I") ∈ uG := uG_mem (tb_2 (List.mem_of_getElem? (i := 181) (by decide +kernel))) rfl
theorem kw_2_183 : (Cond.lays RX6 "StaticLink$Outcome" "steps" "I") ∈ uG := uG_mem (tb_2 (List.mem_of_getElem? (i := 183) (by decide +kernel))) rfl
theorem kw_2_185 : (Cond.lays RX6 "StaticLink$Outcome" "numbers" "I") ∈ uG := uG_mem (tb_2 (List.mem_of_getElem? (i := 185) (by decide +kernel))) rfl
theorem kw_2_187 : (Cond.lays RX6 "StaticLink$Outcome" "calls" "I") ∈ uG := uG_mem (tb_2 (List.mem_of_getElem? (i := 187) (by decide +kernel))) rfl
theorem kw_2_189 : (Cond.lays RX6 "StaticLink$Outcome" "cells" "I") ∈ uG := uG_mem (tb_2 (List.mem_of_getElem? (i := 189) (by decide +kernel))) rfl
theorem kw_2_191 : (Cond.lays RX6 "StaticLink$Outcome" "mostLive" "I") ∈ uG := uG_mem (tb_2 (List.mem_of_getElem? (i := 191) (by decide +kernel))) rfl
theorem kw_2_193 : (Cond.lays RX6 "StaticLink$Outcome" "mostDepth" "I") ∈ uG := uG_mem (tb_2 (List.mem_of_getElem? (i := 193) (by decide +kernel))) rfl
theorem kw_2_195 : (Cond.lays RX6 "StaticLink$Outcome" "gave" "I") ∈ uG := uG_mem (tb_2 (List.mem_of_getElem? (i := 195) (by decide +kernel))) rfl
theorem kw_2_197 : (Cond.lays RX6 "StaticLink$Outcome" "sum" "J") ∈ uG := uG_mem (tb_2 (List.mem_of_getElem? (i := 197) (by decide +kernel))) rfl
theorem kw_2_199 : (Cond.laysFinal RX6 "StaticLink$Outcome" "number" "[I") ∈ uG := uG_mem (tb_2 (List.mem_of_getElem? (i := 199) (by decide +kernel))) rfl
theorem kw_2_201 : (Cond.laysFinal RX6 "StaticLink$Outcome" "stepsBy" "[I") ∈ uG := uG_mem (tb_2 (List.mem_of_getElem? (i := 201) (by decide +kernel))) rfl
theorem kw_2_203 : (Cond.laysFinal RX6 "StaticLink$Outcome" "printNode" "[I") ∈ uG := uG_mem (tb_2 (List.mem_of_getElem? (i := 203) (by decide +kernel))) rfl
theorem kw_2_206 : (Cond.fieldLink RX3 62 "StaticLink$Machine" "declarations" "LStaticLink$Declarations;") ∈ uG := uG_mem (tb_2 (List.mem_of_getElem? (i := 206) (by decide +kernel))) rfl
theorem kw_2_207 : (Cond.fieldLink RX3 66 "StaticLink$Machine" "nodes" "LStaticLink$Nodes;") ∈ uG := uG_mem (tb_2 (List.mem_of_getElem? (i := 207) (by decide +kernel))) rfl
theorem kw_2_208 : (Cond.fieldLink RX3 70 "StaticLink$Machine" "meaning" "LStaticLink$Meaning;") ∈ uG := uG_mem (tb_2 (List.mem_of_getElem? (i := 208) (by decide +kernel))) rfl
theorem kw_2_209 : (Cond.fieldLink RX3 74 "StaticLink$Machine" "plain" "LStaticLink$Code;") ∈ uG := uG_mem (tb_2 (List.mem_of_getElem? (i := 209) (by decide +kernel))) rfl
theorem kw_2_210 : (Cond.fieldLink RX3 14 "StaticLink$Machine" "memory" "LStaticLink$Table;") ∈ uG := uG_mem (tb_2 (List.mem_of_getElem? (i := 210) (by decide +kernel))) rfl
theorem kw_2_211 : (Cond.fieldLink RX3 20 "StaticLink$Machine" "operands" "LStaticLink$Table;") ∈ uG := uG_mem (tb_2 (List.mem_of_getElem? (i := 211) (by decide +kernel))) rfl
theorem kw_2_212 : (Cond.fieldLink RX3 23 "StaticLink$Machine" "frames" "LStaticLink$Table;") ∈ uG := uG_mem (tb_2 (List.mem_of_getElem? (i := 212) (by decide +kernel))) rfl
theorem kw_2_213 : (Cond.fieldLink RX3 26 "StaticLink$Machine" "returns" "LStaticLink$Table;") ∈ uG := uG_mem (tb_2 (List.mem_of_getElem? (i := 213) (by decide +kernel))) rfl
theorem kw_2_214 : (Cond.fieldLink RX3 29 "StaticLink$Machine" "loops" "LStaticLink$Table;") ∈ uG := uG_mem (tb_2 (List.mem_of_getElem? (i := 214) (by decide +kernel))) rfl
theorem kw_2_215 : (Cond.fieldLink RX3 35 "StaticLink$Machine" "told" "LStaticLink$Outcome;") ∈ uG := uG_mem (tb_2 (List.mem_of_getElem? (i := 215) (by decide +kernel))) rfl
theorem kw_2_216 : (Cond.fieldLink RX3 39 "StaticLink$Machine" "passes" "I") ∈ uG := uG_mem (tb_2 (List.mem_of_getElem? (i := 216) (by decide +kernel))) rfl
theorem kw_2_217 : (Cond.fieldLink RX3 43 "StaticLink$Machine" "deep" "I") ∈ uG := uG_mem (tb_2 (List.mem_of_getElem? (i := 217) (by decide +kernel))) rfl
theorem kw_2_218 : (Cond.fieldLink RX3 46 "StaticLink$Machine" "pc" "I") ∈ uG := uG_mem (tb_2 (List.mem_of_getElem? (i := 218) (by decide +kernel))) rfl
theorem kw_2_219 : (Cond.fieldLink RX3 49 "StaticLink$Machine" "frame" "I") ∈ uG := uG_mem (tb_2 (List.mem_of_getElem? (i := 219) (by decide +kernel))) rfl
theorem kw_2_220 : (Cond.fieldLink RX3 52 "StaticLink$Machine" "live" "I") ∈ uG := uG_mem (tb_2 (List.mem_of_getElem? (i := 220) (by decide +kernel))) rfl
theorem kw_2_221 : (Cond.fieldLink RX3 55 "StaticLink$Machine" "depth" "I") ∈ uG := uG_mem (tb_2 (List.mem_of_getElem? (i := 221) (by decide +kernel))) rfl
theorem kw_2_222 : (Cond.fieldLink RX3 58 "StaticLink$Machine" "isOver" "Z") ∈ uG := uG_mem (tb_2 (List.mem_of_getElem? (i := 222) (by decide +kernel))) rfl
theorem kw_2_223 : (Cond.laysFinal RX3 "StaticLink$Machine" "declarations" "LStaticLink$Declarations;") ∈ uG := uG_mem (tb_2 (List.mem_of_getElem? (i := 223) (by decide +kernel))) rfl
theorem kw_2_225 : (Cond.laysFinal RX3 "StaticLink$Machine" "nodes" "LStaticLink$Nodes;") ∈ uG := uG_mem (tb_2 (List.mem_of_getElem? (i := 225) (by decide +kernel))) rfl
theorem kw_2_227 : (Cond.laysFinal RX3 "StaticLink$Machine" "meaning" "LStaticLink$Meaning;") ∈ uG := uG_mem (tb_2 (List.mem_of_getElem? (i := 227) (by decide +kernel))) rfl
theorem kw_2_229 : (Cond.laysFinal RX3 "StaticLink$Machine" "plain" "LStaticLink$Code;") ∈ uG := uG_mem (tb_2 (List.mem_of_getElem? (i := 229) (by decide +kernel))) rfl
theorem kw_2_231 : (Cond.laysFinal RX3 "StaticLink$Machine" "memory" "LStaticLink$Table;") ∈ uG := uG_mem (tb_2 (List.mem_of_getElem? (i := 231) (by decide +kernel))) rfl
theorem kw_2_233 : (Cond.laysFinal RX3 "StaticLink$Machine" "operands" "LStaticLink$Table;") ∈ uG := uG_mem (tb_2 (List.mem_of_getElem? (i := 233) (by decide +kernel))) rfl
theorem kw_2_235 : (Cond.laysFinal RX3 "StaticLink$Machine" "frames" "LStaticLink$Table;") ∈ uG := uG_mem (tb_2 (List.mem_of_getElem? (i := 235) (by decide +kernel))) rfl
theorem kw_2_237 : (Cond.laysFinal RX3 "StaticLink$Machine" "returns" "LStaticLink$Table;") ∈ uG := uG_mem (tb_2 (List.mem_of_getElem? (i := 237) (by decide +kernel))) rfl
theorem kw_2_239 : (Cond.laysFinal RX3 "StaticLink$Machine" "loops" "LStaticLink$Table;") ∈ uG := uG_mem (tb_2 (List.mem_of_getElem? (i := 239) (by decide +kernel))) rfl
theorem kw_3_1 : (Cond.lays RX3 "StaticLink$Machine" "told" "LStaticLink$Outcome;") ∈ uG := uG_mem (tb_3 (List.mem_of_getElem? (i := 1) (by decide +kernel))) rfl
theorem kw_3_3 : (Cond.lays RX3 "StaticLink$Machine" "passes" "I") ∈ uG := uG_mem (tb_3 (List.mem_of_getElem? (i := 3) (by decide +kernel))) rfl
theorem kw_3_5 : (Cond.lays RX3 "StaticLink$Machine" "deep" "I") ∈ uG := uG_mem (tb_3 (List.mem_of_getElem? (i := 5) (by decide +kernel))) rfl
theorem kw_3_7 : (Cond.lays RX3 "StaticLink$Machine" "pc" "I") ∈ uG := uG_mem (tb_3 (List.mem_of_getElem? (i := 7) (by decide +kernel))) rfl
theorem kw_3_9 : (Cond.lays RX3 "StaticLink$Machine" "frame" "I") ∈ uG := uG_mem (tb_3 (List.mem_of_getElem? (i := 9) (by decide +kernel))) rfl
theorem kw_3_11 : (Cond.lays RX3 "StaticLink$Machine" "live" "I") ∈ uG := uG_mem (tb_3 (List.mem_of_getElem? (i := 11) (by decide +kernel))) rfl
theorem kw_3_13 : (Cond.lays RX3 "StaticLink$Machine" "depth" "I") ∈ uG := uG_mem (tb_3 (List.mem_of_getElem? (i := 13) (by decide +kernel))) rfl
theorem kw_3_15 : (Cond.lays RX3 "StaticLink$Machine" "isOver" "Z") ∈ uG := uG_mem (tb_3 (List.mem_of_getElem? (i := 15) (by decide +kernel))) rfl
theorem kw_3_18 : (Cond.classLink RX8 60 RX6) ∈ uG := uG_mem (tb_3 (List.mem_of_getElem? (i := 18) (by decide +kernel))) rfl
theorem kw_3_20 : (Cond.fieldLink RX8 12 "StaticLink" "declarations" "LStaticLink$Declarations;") ∈ uG := uG_mem (tb_3 (List.mem_of_getElem? (i := 20) (by decide +kernel))) rfl
theorem kw_3_21 : (Cond.fieldLink RX8 19 "StaticLink" "nodes" "LStaticLink$Nodes;") ∈ uG := uG_mem (tb_3 (List.mem_of_getElem? (i := 21) (by decide +kernel))) rfl
theorem kw_3_22 : (Cond.fieldLink RX8 28 "StaticLink" "meaning" "LStaticLink$Meaning;") ∈ uG := uG_mem (tb_3 (List.mem_of_getElem? (i := 22) (by decide +kernel))) rfl
theorem kw_3_23 : (Cond.fieldLink RX8 37 "StaticLink" "faults" "LStaticLink$Faults;") ∈ uG := uG_mem (tb_3 (List.mem_of_getElem? (i := 23) (by decide +kernel))) rfl
theorem kw_3_24 : (Cond.fieldLink RX8 44 "StaticLink" "written" "LStaticLink$Code;") ∈ uG := uG_mem (tb_3 (List.mem_of_getElem? (i := 24) (by decide +kernel))) rfl
theorem kw_3_25 : (Cond.fieldLink RX8 48 "StaticLink" "plain" "LStaticLink$Code;") ∈ uG := uG_mem (tb_3 (List.mem_of_getElem? (i := 25) (by decide +kernel))) rfl
theorem kw_3_26 : (Cond.fieldLink RX8 56 "StaticLink" "machine" "LStaticLink$Machine;") ∈ uG := uG_mem (tb_3 (List.mem_of_getElem? (i := 26) (by decide +kernel))) rfl
theorem kw_3_27 : (Cond.fieldLink RX8 63 "StaticLink" "latest" "LStaticLink$Outcome;") ∈ uG := uG_mem (tb_3 (List.mem_of_getElem? (i := 27) (by decide +kernel))) rfl
theorem kw_3_28 : (Cond.fieldLink RX8 67 "StaticLink" "trial" "LStaticLink$Outcome;") ∈ uG := uG_mem (tb_3 (List.mem_of_getElem? (i := 28) (by decide +kernel))) rfl
theorem kw_3_29 : (Cond.fieldLink RX8 70 "StaticLink" "stale" "Z") ∈ uG := uG_mem (tb_3 (List.mem_of_getElem? (i := 29) (by decide +kernel))) rfl
theorem kw_3_30 : (Cond.fieldLink RX8 74 "StaticLink" "passes" "I") ∈ uG := uG_mem (tb_3 (List.mem_of_getElem? (i := 30) (by decide +kernel))) rfl
theorem kw_3_31 : (Cond.fieldLink RX8 78 "StaticLink" "most" "I") ∈ uG := uG_mem (tb_3 (List.mem_of_getElem? (i := 31) (by decide +kernel))) rfl
theorem kw_3_32 : (Cond.fieldLink RX8 81 "StaticLink" "deep" "I") ∈ uG := uG_mem (tb_3 (List.mem_of_getElem? (i := 32) (by decide +kernel))) rfl
theorem kw_3_33 : (Cond.fieldLink RX8 84 "StaticLink" "runs" "I") ∈ uG := uG_mem (tb_3 (List.mem_of_getElem? (i := 33) (by decide +kernel))) rfl
theorem kw_3_34 : (Cond.laysFinal RX8 "StaticLink" "declarations" "LStaticLink$Declarations;") ∈ uG := uG_mem (tb_3 (List.mem_of_getElem? (i := 34) (by decide +kernel))) rfl
theorem kw_3_36 : (Cond.laysFinal RX8 "StaticLink" "nodes" "LStaticLink$Nodes;") ∈ uG := uG_mem (tb_3 (List.mem_of_getElem? (i := 36) (by decide +kernel))) rfl
theorem kw_3_38 : (Cond.laysFinal RX8 "StaticLink" "meaning" "LStaticLink$Meaning;") ∈ uG := uG_mem (tb_3 (List.mem_of_getElem? (i := 38) (by decide +kernel))) rfl
theorem kw_3_40 : (Cond.laysFinal RX8 "StaticLink" "faults" "LStaticLink$Faults;") ∈ uG := uG_mem (tb_3 (List.mem_of_getElem? (i := 40) (by decide +kernel))) rfl
theorem kw_3_42 : (Cond.laysFinal RX8 "StaticLink" "written" "LStaticLink$Code;") ∈ uG := uG_mem (tb_3 (List.mem_of_getElem? (i := 42) (by decide +kernel))) rfl
theorem kw_3_44 : (Cond.laysFinal RX8 "StaticLink" "plain" "LStaticLink$Code;") ∈ uG := uG_mem (tb_3 (List.mem_of_getElem? (i := 44) (by decide +kernel))) rfl
theorem kw_3_46 : (Cond.laysFinal RX8 "StaticLink" "machine" "LStaticLink$Machine;") ∈ uG := uG_mem (tb_3 (List.mem_of_getElem? (i := 46) (by decide +kernel))) rfl
theorem kw_3_48 : (Cond.laysFinal RX8 "StaticLink" "latest" "LStaticLink$Outcome;") ∈ uG := uG_mem (tb_3 (List.mem_of_getElem? (i := 48) (by decide +kernel))) rfl
theorem kw_3_50 : (Cond.laysFinal RX8 "StaticLink" "trial" "LStaticLink$Outcome;") ∈ uG := uG_mem (tb_3 (List.mem_of_getElem? (i := 50) (by decide +kernel))) rfl
theorem kw_3_52 : (Cond.lays RX8 "StaticLink" "stale" "Z") ∈ uG := uG_mem (tb_3 (List.mem_of_getElem? (i := 52) (by decide +kernel))) rfl
theorem kw_3_54 : (Cond.lays RX8 "StaticLink" "passes" "I") ∈ uG := uG_mem (tb_3 (List.mem_of_getElem? (i := 54) (by decide +kernel))) rfl
theorem kw_3_56 : (Cond.lays RX8 "StaticLink" "most" "I") ∈ uG := uG_mem (tb_3 (List.mem_of_getElem? (i := 56) (by decide +kernel))) rfl
theorem kw_3_58 : (Cond.lays RX8 "StaticLink" "deep" "I") ∈ uG := uG_mem (tb_3 (List.mem_of_getElem? (i := 58) (by decide +kernel))) rfl
theorem kw_3_60 : (Cond.lays RX8 "StaticLink" "runs" "I") ∈ uG := uG_mem (tb_3 (List.mem_of_getElem? (i := 60) (by decide +kernel))) rfl
theorem kw_3_63 : (Cond.methodLink RL 136 yX8_meanPrinted) ∈ uG := uG_mem (tb_3 (List.mem_of_getElem? (i := 63) (by decide +kernel))) rfl
theorem kw_3_64 : (Cond.instanceMethod yX8_meanPrinted) ∈ uG := uG_mem (tb_3 (List.mem_of_getElem? (i := 64) (by decide +kernel))) rfl
theorem kw_3_65 : (Cond.selects RX8 yX8_meanPrinted yX8_meanPrinted) ∈ uG := uG_mem (tb_3 (List.mem_of_getElem? (i := 65) (by decide +kernel))) rfl
theorem kw_3_66 : (Cond.code yX8_meanPrinted cX8_meanPrinted 1 (some .double)) ∈ uG := uG_mem (tb_3 (List.mem_of_getElem? (i := 66) (by decide +kernel))) rfl
theorem kw_3_67 : (Cond.methodLink RL 153 yX8_digest) ∈ uG := uG_mem (tb_3 (List.mem_of_getElem? (i := 67) (by decide +kernel))) rfl
theorem kw_3_68 : (Cond.instanceMethod yX8_digest) ∈ uG := uG_mem (tb_3 (List.mem_of_getElem? (i := 68) (by decide +kernel))) rfl
theorem kw_3_69 : (Cond.selects RX8 yX8_digest yX8_digest) ∈ uG := uG_mem (tb_3 (List.mem_of_getElem? (i := 69) (by decide +kernel))) rfl
theorem kw_3_70 : (Cond.code yX8_digest cX8_digest 6 (some .long)) ∈ uG := uG_mem (tb_3 (List.mem_of_getElem? (i := 70) (by decide +kernel))) rfl
theorem kw_3_71 : (Cond.methodLink RX8 146 yX8_refresh) ∈ uG := uG_mem (tb_3 (List.mem_of_getElem? (i := 71) (by decide +kernel))) rfl
theorem kw_3_73 : (Cond.instanceMethod yX8_refresh) ∈ uG := uG_mem (tb_3 (List.mem_of_getElem? (i := 73) (by decide +kernel))) rfl
theorem kw_3_74 : (Cond.code yX8_refresh cX8_refresh 1 none) ∈ uG := uG_mem (tb_3 (List.mem_of_getElem? (i := 74) (by decide +kernel))) rfl
theorem kw_3_75 : (Cond.methodLink RX8 335 yX4_find) ∈ uG := uG_mem (tb_3 (List.mem_of_getElem? (i := 75) (by decide +kernel))) rfl
theorem kw_3_76 : (Cond.instanceMethod yX4_find) ∈ uG := uG_mem (tb_3 (List.mem_of_getElem? (i := 76) (by decide +kernel))) rfl
theorem kw_3_77 : (Cond.selects RX4 yX4_find yX4_find) ∈ uG := uG_mem (tb_3 (List.mem_of_getElem? (i := 77) (by decide +kernel))) rfl
theorem kw_3_78 : (Cond.code yX4_find cX4_find 2 none) ∈ uG := uG_mem (tb_3 (List.mem_of_getElem? (i := 78) (by decide +kernel))) rfl
theorem kw_3_79 : (Cond.methodLink RX4 73 yX4_findWhereNodesAre) ∈ uG := uG_mem (tb_3 (List.mem_of_getElem? (i := 79) (by decide +kernel))) rfl
theorem kw_3_81 : (Cond.instanceMethod yX4_findWhereNodesAre) ∈ uG := uG_mem (tb_3 (List.mem_of_getElem? (i := 81) (by decide +kernel))) rfl
theorem kw_3_82 : (Cond.code yX4_findWhereNodesAre cX4_findWhereNodesAre 2 none) ∈ uG := uG_mem (tb_3 (List.mem_of_getElem? (i := 82) (by decide +kernel))) rfl
theorem kw_3_83 : (Cond.methodLink RX4 81 yX4_bind) ∈ uG := uG_mem (tb_3 (List.mem_of_getElem? (i := 83) (by decide +kernel))) rfl
theorem kw_3_85 : (Cond.instanceMethod yX4_bind) ∈ uG := uG_mem (tb_3 (List.mem_of_getElem? (i := 85) (by decide +kernel))) rfl
theorem kw_3_86 : (Cond.code yX4_bind cX4_bind 4 none) ∈ uG := uG_mem (tb_3 (List.mem_of_getElem? (i := 86) (by decide +kernel))) rfl
theorem kw_3_87 : (Cond.methodLink RX4 120 yX5_hasName) ∈ uG := uG_mem (tb_3 (List.mem_of_getElem? (i := 87) (by decide +kernel))) rfl
theorem kw_3_88 : (Cond.instanceMethod yX5_hasName) ∈ uG := uG_mem (tb_3 (List.mem_of_getElem? (i := 88) (by decide +kernel))) rfl
theorem kw_3_89 : (Cond.selects RX5 yX5_hasName yX5_hasName) ∈ uG := uG_mem (tb_3 (List.mem_of_getElem? (i := 89) (by decide +kernel))) rfl
theorem kw_3_90 : (Cond.code yX5_hasName cX5_hasName 2 (some .boolean)) ∈ uG := uG_mem (tb_3 (List.mem_of_getElem? (i := 90) (by decide +kernel))) rfl
theorem kw_3_91 : (Cond.fieldLink RX5 34 "StaticLink$Nodes" "ROLE_A" "[I") ∈ uG := uG_mem (tb_3 (List.mem_of_getElem? (i := 91) (by decide +kernel))) rfl
theorem kw_3_93 : (Cond.methodLink RX4 126 yX1_declarer) ∈ uG := uG_mem (tb_3 (List.mem_of_getElem? (i := 93) (by decide +kernel))) rfl
theorem kw_3_94 : (Cond.instanceMethod yX1_declarer) ∈ uG := uG_mem (tb_3 (List.mem_of_getElem? (i := 94) (by decide +kernel))) rfl
theorem kw_3_95 : (Cond.selects RX1 yX1_declarer yX1_declarer) ∈ uG := uG_mem (tb_3 (List.mem_of_getElem? (i := 95) (by decide +kernel))) rfl
theorem kw_3_96 : (Cond.code yX1_declarer cX1_declarer 5 (some .int)) ∈ uG := uG_mem (tb_3 (List.mem_of_getElem? (i := 96) (by decide +kernel))) rfl
theorem kw_3_97 : (Cond.methodLink RX1 55 yX1_declares) ∈ uG := uG_mem (tb_3 (List.mem_of_getElem? (i := 97) (by decide +kernel))) rfl
theorem kw_3_98 : (Cond.instanceMethod yX1_declares) ∈ uG := uG_mem (tb_3 (List.mem_of_getElem? (i := 98) (by decide +kernel))) rfl
theorem kw_3_99 : (Cond.selects RX1 yX1_declares yX1_declares) ∈ uG := uG_mem (tb_3 (List.mem_of_getElem? (i := 99) (by decide +kernel))) rfl
theorem kw_3_100 : (Cond.code yX1_declares cX1_declares 3 (some .boolean)) ∈ uG := uG_mem (tb_3 (List.mem_of_getElem? (i := 100) (by decide +kernel))) rfl
theorem kw_3_101 : (Cond.methodLink RX4 132 yX1_hopsTo) ∈ uG := uG_mem (tb_3 (List.mem_of_getElem? (i := 101) (by decide +kernel))) rfl
theorem kw_3_102 : (Cond.instanceMethod yX1_hopsTo) ∈ uG := uG_mem (tb_3 (List.mem_of_getElem? (i := 102) (by decide +kernel))) rfl
theorem kw_3_103 : (Cond.selects RX1 yX1_hopsTo yX1_hopsTo) ∈ uG := uG_mem (tb_3 (List.mem_of_getElem? (i := 103) (by decide +kernel))) rfl
theorem kw_3_104 : (Cond.code yX1_hopsTo cX1_hopsTo 5 (some .int)) ∈ uG := uG_mem (tb_3 (List.mem_of_getElem? (i := 104) (by decide +kernel))) rfl
theorem kw_3_105 : (Cond.methodLink RX4 138 yX4_hasPlace) ∈ uG := uG_mem (tb_3 (List.mem_of_getElem? (i := 105) (by decide +kernel))) rfl
theorem kw_3_107 : (Cond.instanceMethod yX4_hasPlace) ∈ uG := uG_mem (tb_3 (List.mem_of_getElem? (i := 107) (by decide +kernel))) rfl
theorem kw_3_108 : (Cond.code yX4_hasPlace cX4_hasPlace 2 (some .boolean)) ∈ uG := uG_mem (tb_3 (List.mem_of_getElem? (i := 108) (by decide +kernel))) rfl
theorem kw_3_109 : (Cond.methodLink RX4 85 yX4_fold) ∈ uG := uG_mem (tb_3 (List.mem_of_getElem? (i := 109) (by decide +kernel))) rfl
theorem kw_3_111 : (Cond.instanceMethod yX4_fold) ∈ uG := uG_mem (tb_3 (List.mem_of_getElem? (i := 111) (by decide +kernel))) rfl
theorem kw_3_112 : (Cond.code yX4_fold cX4_fold 4 none) ∈ uG := uG_mem (tb_3 (List.mem_of_getElem? (i := 112) (by decide +kernel))) rfl
theorem kw_3_113 : (Cond.methodLink RX4 147 yX4_isReckoned) ∈ uG := uG_mem (tb_3 (List.mem_of_getElem? (i := 113) (by decide +kernel))) rfl
theorem kw_3_114 : (Cond.static yX4_isReckoned) ∈ uG := uG_mem (tb_3 (List.mem_of_getElem? (i := 114) (by decide +kernel))) rfl
theorem kw_3_115 : (Cond.code yX4_isReckoned cX4_isReckoned 1 (some .boolean)) ∈ uG := uG_mem (tb_3 (List.mem_of_getElem? (i := 115) (by decide +kernel))) rfl
theorem kw_3_116 : (Cond.methodLink RX4 153 yX4_isKnown) ∈ uG := uG_mem (tb_3 (List.mem_of_getElem? (i := 116) (by decide +kernel))) rfl
theorem kw_3_118 : (Cond.instanceMethod yX4_isKnown) ∈ uG := uG_mem (tb_3 (List.mem_of_getElem? (i := 118) (by decide +kernel))) rfl
theorem kw_3_119 : (Cond.code yX4_isKnown cX4_isKnown 2 (some .boolean)) ∈ uG := uG_mem (tb_3 (List.mem_of_getElem? (i := 119) (by decide +kernel))) rfl
theorem kw_3_120 : (Cond.methodLink RX4 159 yX4_reckon) ∈ uG := uG_mem (tb_3 (List.mem_of_getElem? (i := 120) (by decide +kernel))) rfl
theorem kw_3_121 : (Cond.static yX4_reckon) ∈ uG := uG_mem (tb_3 (List.mem_of_getElem? (i := 121) (by decide +kernel))) rfl
theorem kw_3_122 : (Cond.code yX4_reckon cX4_reckon 3 (some .int)) ∈ uG := uG_mem (tb_3 (List.mem_of_getElem? (i := 122) (by decide +kernel))) rfl
theorem kw_3_123 : (Cond.methodLink RX4 88 yX4_findHandedOn) ∈ uG := uG_mem (tb_3 (List.mem_of_getElem? (i := 123) (by decide +kernel))) rfl
theorem kw_3_125 : (Cond.instanceMethod yX4_findHandedOn) ∈ uG := uG_mem (tb_3 (List.mem_of_getElem? (i := 125) (by decide +kernel))) rfl
theorem kw_3_126 : (Cond.code yX4_findHandedOn cX4_findHandedOn 2 none) ∈ uG := uG_mem (tb_3 (List.mem_of_getElem? (i := 126) (by decide +kernel))) rfl
theorem kw_3_127 : (Cond.methodLink RX4 163 yJ7_fill_53178) ∈ uG := uG_mem (tb_3 (List.mem_of_getElem? (i := 127) (by decide +kernel))) rfl
theorem kw_3_128 : (Cond.methodLink RX4 91 yX4_findEscapes) ∈ uG := uG_mem (tb_3 (List.mem_of_getElem? (i := 128) (by decide +kernel))) rfl
theorem kw_3_130 : (Cond.instanceMethod yX4_findEscapes) ∈ uG := uG_mem (tb_3 (List.mem_of_getElem? (i := 130) (by decide +kernel))) rfl
theorem kw_3_131 : (Cond.code yX4_findEscapes cX4_findEscapes 2 none) ∈ uG := uG_mem (tb_3 (List.mem_of_getElem? (i := 131) (by decide +kernel))) rfl
theorem kw_3_132 : (Cond.methodLink RX4 169 yX4_isOutliving) ∈ uG := uG_mem (tb_3 (List.mem_of_getElem? (i := 132) (by decide +kernel))) rfl
theorem kw_3_134 : (Cond.instanceMethod yX4_isOutliving) ∈ uG := uG_mem (tb_3 (List.mem_of_getElem? (i := 134) (by decide +kernel))) rfl
theorem kw_3_135 : (Cond.code yX4_isOutliving cX4_isOutliving 5 (some .boolean)) ∈ uG := uG_mem (tb_3 (List.mem_of_getElem? (i := 135) (by decide +kernel))) rfl
theorem kw_3_136 : (Cond.methodLink RX4 94 yX4_findLabels) ∈ uG := uG_mem (tb_3 (List.mem_of_getElem? (i := 136) (by decide +kernel))) rfl
theorem kw_3_138 : (Cond.instanceMethod yX4_findLabels) ∈ uG := uG_mem (tb_3 (List.mem_of_getElem? (i := 138) (by decide +kernel))) rfl
theorem kw_3_139 : (Cond.code yX4_findLabels cX4_findLabels 2 none) ∈ uG := uG_mem (tb_3 (List.mem_of_getElem? (i := 139) (by decide +kernel))) rfl
theorem kw_3_140 : (Cond.methodLink RX4 97 yX4_isTail) ∈ uG := uG_mem (tb_3 (List.mem_of_getElem? (i := 140) (by decide +kernel))) rfl
theorem kw_3_142 : (Cond.instanceMethod yX4_isTail) ∈ uG := uG_mem (tb_3 (List.mem_of_getElem? (i := 142) (by decide +kernel))) rfl
theorem kw_3_143 : (Cond.code yX4_isTail cX4_isTail 4 (some .boolean)) ∈ uG := uG_mem (tb_3 (List.mem_of_getElem? (i := 143) (by decide +kernel))) rfl
theorem kw_3_144 : (Cond.methodLink RX4 176 yX1_takesValuesAlone) ∈ uG := uG_mem (tb_3 (List.mem_of_getElem? (i := 144) (by decide +kernel))) rfl
theorem kw_3_145 : (Cond.instanceMethod yX1_takesValuesAlone) ∈ uG := uG_mem (tb_3 (List.mem_of_getElem? (i := 145) (by decide +kernel))) rfl
theorem kw_3_146 : (Cond.selects RX1 yX1_takesValuesAlone yX1_takesValuesAlone) ∈ uG := uG_mem (tb_3 (List.mem_of_getElem? (i := 146) (by decide +kernel))) rfl
theorem kw_3_147 : (Cond.code yX1_takesValuesAlone cX1_takesValuesAlone 3 (some .boolean)) ∈ uG := uG_mem (tb_3 (List.mem_of_getElem? (i := 147) (by decide +kernel))) rfl
theorem kw_3_148 : (Cond.methodLink RX4 179 yX1_isInside) ∈ uG := uG_mem (tb_3 (List.mem_of_getElem? (i := 148) (by decide +kernel))) rfl
theorem kw_3_149 : (Cond.instanceMethod yX1_isInside) ∈ uG := uG_mem (tb_3 (List.mem_of_getElem? (i := 149) (by decide +kernel))) rfl
theorem kw_3_150 : (Cond.selects RX1 yX1_isInside yX1_isInside) ∈ uG := uG_mem (tb_3 (List.mem_of_getElem? (i := 150) (by decide +kernel))) rfl
theorem kw_3_151 : (Cond.code yX1_isInside cX1_isInside 5 (some .boolean)) ∈ uG := uG_mem (tb_3 (List.mem_of_getElem? (i := 151) (by decide +kernel))) rfl
theorem kw_3_152 : (Cond.methodLink RX4 104 yX4_hopsToLoop) ∈ uG := uG_mem (tb_3 (List.mem_of_getElem? (i := 152) (by decide +kernel))) rfl
theorem kw_3_154 : (Cond.instanceMethod yX4_hopsToLoop) ∈ uG := uG_mem (tb_3 (List.mem_of_getElem? (i := 154) (by decide +kernel))) rfl
theorem kw_3_155 : (Cond.code yX4_hopsToLoop cX4_hopsToLoop 4 (some .int)) ∈ uG := uG_mem (tb_3 (List.mem_of_getElem? (i := 155) (by decide +kernel))) rfl
theorem kw_3_156 : (Cond.methodLink RX4 182 yX4_isInLoop) ∈ uG := uG_mem (tb_3 (List.mem_of_getElem? (i := 156) (by decide +kernel))) rfl
theorem kw_3_158 : (Cond.instanceMethod yX4_isInLoop) ∈ uG := uG_mem (tb_3 (List.mem_of_getElem? (i := 158) (by decide +kernel))) rfl
theorem kw_3_159 : (Cond.code yX4_isInLoop cX4_isInLoop 4 (some .boolean)) ∈ uG := uG_mem (tb_3 (List.mem_of_getElem? (i := 159) (by decide +kernel))) rfl
theorem kw_3_160 : (Cond.methodLink RX4 108 yX4_findModes) ∈ uG := uG_mem (tb_3 (List.mem_of_getElem? (i := 160) (by decide +kernel))) rfl
theorem kw_3_162 : (Cond.instanceMethod yX4_findModes) ∈ uG := uG_mem (tb_3 (List.mem_of_getElem? (i := 162) (by decide +kernel))) rfl
theorem kw_3_163 : (Cond.code yX4_findModes cX4_findModes 5 none) ∈ uG := uG_mem (tb_3 (List.mem_of_getElem? (i := 163) (by decide +kernel))) rfl
theorem kw_3_164 : (Cond.methodLink RX4 111 yX4_sumUp) ∈ uG := uG_mem (tb_3 (List.mem_of_getElem? (i := 164) (by decide +kernel))) rfl
theorem kw_3_166 : (Cond.instanceMethod yX4_sumUp) ∈ uG := uG_mem (tb_3 (List.mem_of_getElem? (i := 166) (by decide +kernel))) rfl
theorem kw_3_167 : (Cond.code yX4_sumUp cX4_sumUp 2 none) ∈ uG := uG_mem (tb_3 (List.mem_of_getElem? (i := 167) (by decide +kernel))) rfl
theorem kw_3_168 : (Cond.methodLink RX4 192 yJ6_bitCount_0f7a4) ∈ uG := uG_mem (tb_3 (List.mem_of_getElem? (i := 168) (by decide +kernel))) rfl
theorem kw_3_169 : (Cond.static yJ6_bitCount_0f7a4) ∈ uG := uG_mem (tb_3 (List.mem_of_getElem? (i := 169) (by decide +kernel))) rfl
theorem kw_3_170 : (Cond.code yJ6_bitCount_0f7a4 cJ6_bitCount_0f7a4 1 (some .int)) ∈ uG := uG_mem (tb_3 (List.mem_of_getElem? (i := 170) (by decide +kernel))) rfl
theorem kw_3_171 : (Cond.constant RJ6 265 (1431655765 : Int32)) ∈ uG := uG_mem (tb_3 (List.mem_of_getElem? (i := 171) (by decide +kernel))) rfl
theorem kw_3_172 : (Cond.constant RJ6 266 (858993459 : Int32)) ∈ uG := uG_mem (tb_3 (List.mem_of_getElem? (i := 172) (by decide +kernel))) rfl
theorem kw_3_173 : (Cond.constant RJ6 267 (252645135 : Int32)) ∈ uG := uG_mem (tb_3 (List.mem_of_getElem? (i := 173) (by decide +kernel))) rfl
theorem kw_3_174 : (Cond.methodLink RX8 338 yX2_find) ∈ uG := uG_mem (tb_3 (List.mem_of_getElem? (i := 174) (by decide +kernel))) rfl
theorem kw_3_175 : (Cond.instanceMethod yX2_find) ∈ uG := uG_mem (tb_3 (List.mem_of_getElem? (i := 175) (by decide +kernel))) rfl
theorem kw_3_176 : (Cond.selects RX2 yX2_find yX2_find) ∈ uG := uG_mem (tb_3 (List.mem_of_getElem? (i := 176) (by decide +kernel))) rfl
theorem kw_3_177 : (Cond.code yX2_find cX2_find 4 none) ∈ uG := uG_mem (tb_3 (List.mem_of_getElem? (i := 177) (by decide +kernel))) rfl
theorem kw_3_178 : (Cond.methodLink RX2 49 yX2_tell) ∈ uG := uG_mem (tb_3 (List.mem_of_getElem? (i := 178) (by decide +kernel))) rfl
theorem kw_3_180 : (Cond.instanceMethod yX2_tell) ∈ uG := uG_mem (tb_3 (List.mem_of_getElem? (i := 180) (by decide +kernel))) rfl
theorem kw_3_181 : (Cond.code yX2_tell cX2_tell 4 none) ∈ uG := uG_mem (tb_3 (List.mem_of_getElem? (i := 181) (by decide +kernel))) rfl
theorem kw_3_182 : (Cond.methodLink RX2 53 yX2_await) ∈ uG := uG_mem (tb_3 (List.mem_of_getElem? (i := 182) (by decide +kernel))) rfl
theorem kw_3_184 : (Cond.instanceMethod yX2_await) ∈ uG := uG_mem (tb_3 (List.mem_of_getElem? (i := 184) (by decide +kernel))) rfl
theorem kw_3_185 : (Cond.code yX2_await cX2_await 2 none) ∈ uG := uG_mem (tb_3 (List.mem_of_getElem? (i := 185) (by decide +kernel))) rfl
theorem kw_3_186 : (Cond.methodLink RX2 57 yX2_faultOf) ∈ uG := uG_mem (tb_3 (List.mem_of_getElem? (i := 186) (by decide +kernel))) rfl
theorem kw_3_188 : (Cond.instanceMethod yX2_faultOf) ∈ uG := uG_mem (tb_3 (List.mem_of_getElem? (i := 188) (by decide +kernel))) rfl
theorem kw_3_189 : (Cond.code yX2_faultOf cX2_faultOf 4 (some .int)) ∈ uG := uG_mem (tb_3 (List.mem_of_getElem? (i := 189) (by decide +kernel))) rfl
theorem kw_3_190 : (Cond.methodLink RX2 75 yX5_hasName) ∈ uG := uG_mem (tb_3 (List.mem_of_getElem? (i := 190) (by decide +kernel))) rfl
theorem kw_3_191 : (Cond.methodLink RX2 84 yX2_isAsItHasToBe) ∈ uG := uG_mem (tb_3 (List.mem_of_getElem? (i := 191) (by decide +kernel))) rfl
theorem kw_3_193 : (Cond.instanceMethod yX2_isAsItHasToBe) ∈ uG := uG_mem (tb_3 (List.mem_of_getElem? (i := 193) (by decide +kernel))) rfl
theorem kw_3_194 : (Cond.code yX2_isAsItHasToBe cX2_isAsItHasToBe 3 (some .boolean)) ∈ uG := uG_mem (tb_3 (List.mem_of_getElem? (i := 194) (by decide +kernel))) rfl
theorem kw_3_195 : (Cond.methodLink RX2 93 yX2_isToBeSet) ∈ uG := uG_mem (tb_3 (List.mem_of_getElem? (i := 195) (by decide +kernel))) rfl
theorem kw_3_196 : (Cond.static yX2_isToBeSet) ∈ uG := uG_mem (tb_3 (List.mem_of_getElem? (i := 196) (by decide +kernel))) rfl
theorem kw_3_197 : (Cond.code yX2_isToBeSet cX2_isToBeSet 1 (some .boolean)) ∈ uG := uG_mem (tb_3 (List.mem_of_getElem? (i := 197) (by decide +kernel))) rfl
theorem kw_3_198 : (Cond.methodLink RX2 96 yX2_isProc) ∈ uG := uG_mem (tb_3 (List.mem_of_getElem? (i := 198) (by decide +kernel))) rfl
theorem kw_3_199 : (Cond.static yX2_isProc) ∈ uG := uG_mem (tb_3 (List.mem_of_getElem? (i := 199) (by decide +kernel))) rfl
theorem kw_3_200 : (Cond.code yX2_isProc cX2_isProc 1 (some .boolean)) ∈ uG := uG_mem (tb_3 (List.mem_of_getElem? (i := 200) (by decide +kernel))) rfl
theorem kw_3_201 : (Cond.methodLink RX2 102 yX1_takesValuesAlone) ∈ uG := uG_mem (tb_3 (List.mem_of_getElem? (i := 201) (by decide +kernel))) rfl
theorem kw_3_202 : (Cond.methodLink RX2 87 yX2_faultOfArguments) ∈ uG := uG_mem (tb_3 (List.mem_of_getElem? (i := 202) (by decide +kernel))) rfl
theorem kw_3_204 : (Cond.instanceMethod yX2_faultOfArguments) ∈ uG := uG_mem (tb_3 (List.mem_of_getElem? (i := 204) (by decide +kernel))) rfl
theorem kw_3_205 : (Cond.code yX2_faultOfArguments cX2_faultOfArguments 6 (some .int)) ∈ uG := uG_mem (tb_3 (List.mem_of_getElem? (i := 205) (by decide +kernel))) rfl
theorem kw_3_206 : (Cond.methodLink RX2 105 yX5_argumentsOf) ∈ uG := uG_mem (tb_3 (List.mem_of_getElem? (i := 206) (by decide +kernel))) rfl
theorem kw_3_207 : (Cond.instanceMethod yX5_argumentsOf) ∈ uG := uG_mem (tb_3 (List.mem_of_getElem? (i := 207) (by decide +kernel))) rfl
theorem kw_3_208 : (Cond.selects RX5 yX5_argumentsOf yX5_argumentsOf) ∈ uG := uG_mem (tb_3 (List.mem_of_getElem? (i := 208) (by decide +kernel))) rfl
theorem kw_3_209 : (Cond.code yX5_argumentsOf cX5_argumentsOf 4 (some .int)) ∈ uG := uG_mem (tb_3 (List.mem_of_getElem? (i := 209) (by decide +kernel))) rfl
theorem kw_3_210 : (Cond.methodLink RX2 117 yX2_suits) ∈ uG := uG_mem (tb_3 (List.mem_of_getElem? (i := 210) (by decide +kernel))) rfl
theorem kw_3_212 : (Cond.instanceMethod yX2_suits) ∈ uG := uG_mem (tb_3 (List.mem_of_getElem? (i := 212) (by decide +kernel))) rfl
theorem kw_3_213 : (Cond.code yX2_suits cX2_suits 3 (some .boolean)) ∈ uG := uG_mem (tb_3 (List.mem_of_getElem? (i := 213) (by decide +kernel))) rfl
theorem kw_3_214 : (Cond.methodLink RX2 124 yX5_isExpression) ∈ uG := uG_mem (tb_3 (List.mem_of_getElem? (i := 214) (by decide +kernel))) rfl
theorem kw_3_215 : (Cond.instanceMethod yX5_isExpression) ∈ uG := uG_mem (tb_3 (List.mem_of_getElem? (i := 215) (by decide +kernel))) rfl
theorem kw_3_216 : (Cond.selects RX5 yX5_isExpression yX5_isExpression) ∈ uG := uG_mem (tb_3 (List.mem_of_getElem? (i := 216) (by decide +kernel))) rfl
theorem kw_3_217 : (Cond.code yX5_isExpression cX5_isExpression 2 (some .boolean)) ∈ uG := uG_mem (tb_3 (List.mem_of_getElem? (i := 217) (by decide +kernel))) rfl
theorem kw_3_218 : (Cond.methodLink RX2 61 yX5_partC) ∈ uG := uG_mem (tb_3 (List.mem_of_getElem? (i := 218) (by decide +kernel))) rfl
theorem kw_3_219 : (Cond.instanceMethod yX5_partC) ∈ uG := uG_mem (tb_3 (List.mem_of_getElem? (i := 219) (by decide +kernel))) rfl
theorem kw_3_220 : (Cond.selects RX5 yX5_partC yX5_partC) ∈ uG := uG_mem (tb_3 (List.mem_of_getElem? (i := 220) (by decide +kernel))) rfl
theorem kw_3_221 : (Cond.code yX5_partC cX5_partC 2 (some .int)) ∈ uG := uG_mem (tb_3 (List.mem_of_getElem? (i := 221) (by decide +kernel))) rfl
theorem kw_3_222 : (Cond.fieldLink RX5 40 "StaticLink$Nodes" "ROLE_C" "[I") ∈ uG := uG_mem (tb_3 (List.mem_of_getElem? (i := 222) (by decide +kernel))) rfl
theorem kw_3_224 : (Cond.methodLink RX2 66 yX5_partB) ∈ uG := uG_mem (tb_3 (List.mem_of_getElem? (i := 224) (by decide +kernel))) rfl
theorem kw_3_225 : (Cond.instanceMethod yX5_partB) ∈ uG := uG_mem (tb_3 (List.mem_of_getElem? (i := 225) (by decide +kernel))) rfl
theorem kw_3_226 : (Cond.selects RX5 yX5_partB yX5_partB) ∈ uG := uG_mem (tb_3 (List.mem_of_getElem? (i := 226) (by decide +kernel))) rfl
theorem kw_3_227 : (Cond.code yX5_partB cX5_partB 2 (some .int)) ∈ uG := uG_mem (tb_3 (List.mem_of_getElem? (i := 227) (by decide +kernel))) rfl
theorem kw_3_228 : (Cond.fieldLink RX5 37 "StaticLink$Nodes" "ROLE_B" "[I") ∈ uG := uG_mem (tb_3 (List.mem_of_getElem? (i := 228) (by decide +kernel))) rfl
theorem kw_3_230 : (Cond.methodLink RX2 69 yX5_partA) ∈ uG := uG_mem (tb_3 (List.mem_of_getElem? (i := 230) (by decide +kernel))) rfl
theorem kw_3_231 : (Cond.instanceMethod yX5_partA) ∈ uG := uG_mem (tb_3 (List.mem_of_getElem? (i := 231) (by decide +kernel))) rfl
theorem kw_3_232 : (Cond.selects RX5 yX5_partA yX5_partA) ∈ uG := uG_mem (tb_3 (List.mem_of_getElem? (i := 232) (by decide +kernel))) rfl
theorem kw_3_233 : (Cond.code yX5_partA cX5_partA 2 (some .int)) ∈ uG := uG_mem (tb_3 (List.mem_of_getElem? (i := 233) (by decide +kernel))) rfl
theorem kw_3_234 : (Cond.methodLink RX8 339 yX0_forget) ∈ uG := uG_mem (tb_3 (List.mem_of_getElem? (i := 234) (by decide +kernel))) rfl
theorem kw_3_235 : (Cond.instanceMethod yX0_forget) ∈ uG := uG_mem (tb_3 (List.mem_of_getElem? (i := 235) (by decide +kernel))) rfl
theorem kw_3_236 : (Cond.selects RX0 yX0_forget yX0_forget) ∈ uG := uG_mem (tb_3 (List.mem_of_getElem? (i := 236) (by decide +kernel))) rfl
theorem kw_3_237 : (Cond.code yX0_forget cX0_forget 1 none) ∈ uG := uG_mem (tb_3 (List.mem_of_getElem? (i := 237) (by decide +kernel))) rfl
theorem kw_3_238 : (Cond.constantLong RX8 307 (58126 : Int64)) ∈ uG := uG_mem (tb_3 (List.mem_of_getElem? (i := 238) (by decide +kernel))) rfl
theorem kw_3_239 : (Cond.constantLong RX8 309 (31 : Int64)) ∈ uG := uG_mem (tb_3 (List.mem_of_getElem? (i := 239) (by decide +kernel))) rfl
theorem kw_4_0 : (Cond.methodLink RX8 311 yX8_many) ∈ uG := uG_mem (tb_4 (List.mem_of_getElem? (i := 0) (by decide +kernel))) rfl
theorem kw_4_1 : (Cond.instanceMethod yX8_many) ∈ uG := uG_mem (tb_4 (List.mem_of_getElem? (i := 1) (by decide +kernel))) rfl
theorem kw_4_2 : (Cond.selects RX8 yX8_many yX8_many) ∈ uG := uG_mem (tb_4 (List.mem_of_getElem? (i := 2) (by decide +kernel))) rfl
theorem kw_4_3 : (Cond.code yX8_many cX8_many 2 (some .int)) ∈ uG := uG_mem (tb_4 (List.mem_of_getElem? (i := 3) (by decide +kernel))) rfl
theorem kw_4_4 : (Cond.methodLink RX8 95 yX8_needArgument) ∈ uG := uG_mem (tb_4 (List.mem_of_getElem? (i := 4) (by decide +kernel))) rfl
theorem kw_4_5 : (Cond.static yX8_needArgument) ∈ uG := uG_mem (tb_4 (List.mem_of_getElem? (i := 5) (by decide +kernel))) rfl
theorem kw_4_6 : (Cond.code yX8_needArgument cX8_needArgument 1 none) ∈ uG := uG_mem (tb_4 (List.mem_of_getElem? (i := 6) (by decide +kernel))) rfl
theorem kw_4_7 : (Cond.classLink RX8 366 "java/lang/IllegalArgumentException") ∈ uG := uG_mem (tb_4 (List.mem_of_getElem? (i := 7) (by decide +kernel))) rfl
theorem kw_4_8 : (Cond.instantiable "java/lang/IllegalArgumentException" 6) ∈ uG := uG_mem (tb_4 (List.mem_of_getElem? (i := 8) (by decide +kernel))) rfl
theorem kw_4_16 : (Cond.selects "java/lang/IllegalArgumentException" ⟨"java/lang/Throwable", "fillInStackTrace", "(I)Ljava/lang/Throwable;"⟩ ⟨"java/lang/Throwable", "fillInStackTrace", "(I)Ljava/lang/Throwable;"⟩) ∈ uG := uG_mem (tb_4 (List.mem_of_getElem? (i := 16) (by decide +kernel))) rfl
theorem kw_4_17 : (Cond.selects "java/lang/IllegalArgumentException" ⟨"java/lang/Throwable", "fillInStackTrace", "()Ljava/lang/Throwable;"⟩ ⟨"java/lang/Throwable", "fillInStackTrace", "()Ljava/lang/Throwable;"⟩) ∈ uG := uG_mem (tb_4 (List.mem_of_getElem? (i := 17) (by decide +kernel))) rfl
theorem kw_4_18 : (Cond.lays "java/lang/IllegalArgumentException" "java/lang/Throwable" "cause" "Ljava/lang/Throwable;") ∈ uG := uG_mem (tb_4 (List.mem_of_getElem? (i := 18) (by decide +kernel))) rfl
theorem kw_4_19 : (Cond.lays "java/lang/Throwable" "java/lang/Throwable" "cause" "Ljava/lang/Throwable;") ∈ uG := uG_mem (tb_4 (List.mem_of_getElem? (i := 19) (by decide +kernel))) rfl
theorem kw_4_20 : (Cond.lays "java/lang/IllegalArgumentException" "java/lang/Throwable" "stackTrace" "[Ljava/lang/StackTraceElement;") ∈ uG := uG_mem (tb_4 (List.mem_of_getElem? (i := 20) (by decide +kernel))) rfl
theorem kw_4_21 : (Cond.lays "java/lang/Throwable" "java/lang/Throwable" "stackTrace" "[Ljava/lang/StackTraceElement;") ∈ uG := uG_mem (tb_4 (List.mem_of_getElem? (i := 21) (by decide +kernel))) rfl
theorem kw_4_22 : (Cond.lays "java/lang/IllegalArgumentException" "java/lang/Throwable" "suppressedExceptions" "Ljava/util/List;") ∈ uG := uG_mem (tb_4 (List.mem_of_getElem? (i := 22) (by decide +kernel))) rfl
theorem kw_4_23 : (Cond.lays "java/lang/Throwable" "java/lang/Throwable" "suppressedExceptions" "Ljava/util/List;") ∈ uG := uG_mem (tb_4 (List.mem_of_getElem? (i := 23) (by decide +kernel))) rfl
theorem kw_4_24 : (Cond.lays "java/lang/IllegalArgumentException" "java/lang/Throwable" "detailMessage" "Ljava/lang/String;") ∈ uG := uG_mem (tb_4 (List.mem_of_getElem? (i := 24) (by decide +kernel))) rfl
theorem kw_4_25 : (Cond.lays "java/lang/Throwable" "java/lang/Throwable" "detailMessage" "Ljava/lang/String;") ∈ uG := uG_mem (tb_4 (List.mem_of_getElem? (i := 25) (by decide +kernel))) rfl
theorem kw_4_26 : (Cond.lays "java/lang/IllegalArgumentException" "java/lang/Throwable" "backtrace" "Ljava/lang/Object;") ∈ uG := uG_mem (tb_4 (List.mem_of_getElem? (i := 26) (by decide +kernel))) rfl
theorem kw_4_27 : (Cond.lays "java/lang/Throwable" "java/lang/Throwable" "backtrace" "Ljava/lang/Object;") ∈ uG := uG_mem (tb_4 (List.mem_of_getElem? (i := 27) (by decide +kernel))) rfl
theorem kw_4_61 : (Cond.fieldLink "java/lang/Throwable" 198 "java/lang/Throwable" "backtrace" "Ljava/lang/Object;") ∈ uG := uG_mem (tb_4 (List.mem_of_getElem? (i := 61) (by decide +kernel))) rfl
theorem kw_4_30 : (Cond.instanceMethod ⟨"java/lang/Throwable", "<init>", "()V"⟩) ∈ uG := uG_mem (tb_4 (List.mem_of_getElem? (i := 30) (by decide +kernel))) rfl
theorem kw_4_31 : (Cond.code ⟨"java/lang/Throwable", "<init>", "()V"⟩ prog_22_method_1_code 1 none) ∈ uG := uG_mem (tb_4 (List.mem_of_getElem? (i := 31) (by decide +kernel))) rfl
theorem kw_4_32 : (Cond.methodLink "java/lang/Throwable" 1 ⟨"java/lang/Object", "<init>", "()V"⟩) ∈ uG := uG_mem (tb_4 (List.mem_of_getElem? (i := 32) (by decide +kernel))) rfl
theorem kw_4_33 : (Cond.fieldLink "java/lang/Throwable" 13 "java/lang/Throwable" "UNASSIGNED_STACK" "[Ljava/lang/StackTraceElement;") ∈ uG := uG_mem (tb_4 (List.mem_of_getElem? (i := 33) (by decide +kernel))) rfl
theorem kw_4_35 : (Cond.fieldLink "java/lang/Throwable" 20 "java/lang/Throwable" "SUPPRESSED_SENTINEL" "Ljava/util/List;") ∈ uG := uG_mem (tb_4 (List.mem_of_getElem? (i := 35) (by decide +kernel))) rfl
theorem kw_4_37 : (Cond.methodLink "java/lang/Throwable" 27 ⟨"java/lang/Throwable", "fillInStackTrace", "()Ljava/lang/Throwable;"⟩) ∈ uG := uG_mem (tb_4 (List.mem_of_getElem? (i := 37) (by decide +kernel))) rfl
theorem kw_4_38 : (Cond.instanceMethod ⟨"java/lang/Throwable", "fillInStackTrace", "()Ljava/lang/Throwable;"⟩) ∈ uG := uG_mem (tb_4 (List.mem_of_getElem? (i := 38) (by decide +kernel))) rfl
theorem kw_4_40 : (Cond.selects "java/lang/IllegalStateException" ⟨"java/lang/Throwable", "fillInStackTrace", "()Ljava/lang/Throwable;"⟩ ⟨"java/lang/Throwable", "fillInStackTrace", "()Ljava/lang/Throwable;"⟩) ∈ uG := uG_mem (tb_4 (List.mem_of_getElem? (i := 40) (by decide +kernel))) rfl
theorem kw_4_41 : (Cond.selects "java/lang/IndexOutOfBoundsException" ⟨"java/lang/Throwable", "fillInStackTrace", "()Ljava/lang/Throwable;"⟩ ⟨"java/lang/Throwable", "fillInStackTrace", "()Ljava/lang/Throwable;"⟩) ∈ uG := uG_mem (tb_4 (List.mem_of_getElem? (i := 41) (by decide +kernel))) rfl
theorem kw_4_43 : (Cond.methodLink "java/lang/Throwable" 202 ⟨"java/lang/Throwable", "fillInStackTrace", "(I)Ljava/lang/Throwable;"⟩) ∈ uG := uG_mem (tb_4 (List.mem_of_getElem? (i := 43) (by decide +kernel))) rfl
theorem kw_4_45 : (Cond.instanceMethod ⟨"java/lang/Throwable", "fillInStackTrace", "(I)Ljava/lang/Throwable;"⟩) ∈ uG := uG_mem (tb_4 (List.mem_of_getElem? (i := 45) (by decide +kernel))) rfl
theorem kw_4_46 : (Cond.instantiable "java/lang/Throwable" 6) ∈ uG := uG_mem (tb_4 (List.mem_of_getElem? (i := 46) (by decide +kernel))) rfl
theorem kw_4_49 : (Cond.methodLink RX8 370 ⟨"java/lang/IllegalArgumentException", "<init>", "(Ljava/lang/String;)V"⟩) ∈ uG := uG_mem (tb_4 (List.mem_of_getElem? (i := 49) (by decide +kernel))) rfl
theorem kw_4_50 : (Cond.instanceMethod ⟨"java/lang/IllegalArgumentException", "<init>", "(Ljava/lang/String;)V"⟩) ∈ uG := uG_mem (tb_4 (List.mem_of_getElem? (i := 50) (by decide +kernel))) rfl
theorem kw_4_51 : (Cond.code ⟨"java/lang/IllegalArgumentException", "<init>", "(Ljava/lang/String;)V"⟩ prog_14_method_2_code 2 none) ∈ uG := uG_mem (tb_4 (List.mem_of_getElem? (i := 51) (by decide +kernel))) rfl
theorem kw_4_52 : (Cond.methodLink "java/lang/IllegalArgumentException" 7 ⟨"java/lang/RuntimeException", "<init>", "(Ljava/lang/String;)V"⟩) ∈ uG := uG_mem (tb_4 (List.mem_of_getElem? (i := 52) (by decide +kernel))) rfl
theorem kw_4_53 : (Cond.instanceMethod ⟨"java/lang/RuntimeException", "<init>", "(Ljava/lang/String;)V"⟩) ∈ uG := uG_mem (tb_4 (List.mem_of_getElem? (i := 53) (by decide +kernel))) rfl
theorem kw_4_54 : (Cond.code ⟨"java/lang/RuntimeException", "<init>", "(Ljava/lang/String;)V"⟩ prog_19_method_2_code 2 none) ∈ uG := uG_mem (tb_4 (List.mem_of_getElem? (i := 54) (by decide +kernel))) rfl
theorem kw_4_55 : (Cond.methodLink "java/lang/RuntimeException" 7 ⟨"java/lang/Exception", "<init>", "(Ljava/lang/String;)V"⟩) ∈ uG := uG_mem (tb_4 (List.mem_of_getElem? (i := 55) (by decide +kernel))) rfl
theorem kw_4_56 : (Cond.instanceMethod ⟨"java/lang/Exception", "<init>", "(Ljava/lang/String;)V"⟩) ∈ uG := uG_mem (tb_4 (List.mem_of_getElem? (i := 56) (by decide +kernel))) rfl
theorem kw_4_57 : (Cond.code ⟨"java/lang/Exception", "<init>", "(Ljava/lang/String;)V"⟩ prog_13_method_2_code 2 none) ∈ uG := uG_mem (tb_4 (List.mem_of_getElem? (i := 57) (by decide +kernel))) rfl
theorem kw_4_58 : (Cond.methodLink "java/lang/Exception" 7 ⟨"java/lang/Throwable", "<init>", "(Ljava/lang/String;)V"⟩) ∈ uG := uG_mem (tb_4 (List.mem_of_getElem? (i := 58) (by decide +kernel))) rfl
theorem kw_4_59 : (Cond.instanceMethod ⟨"java/lang/Throwable", "<init>", "(Ljava/lang/String;)V"⟩) ∈ uG := uG_mem (tb_4 (List.mem_of_getElem? (i := 59) (by decide +kernel))) rfl
theorem kw_4_60 : (Cond.code ⟨"java/lang/Throwable", "<init>", "(Ljava/lang/String;)V"⟩ prog_22_method_2_code 2 none) ∈ uG := uG_mem (tb_4 (List.mem_of_getElem? (i := 60) (by decide +kernel))) rfl
theorem kw_4_62 : (Cond.fieldLink "java/lang/Throwable" 31 "java/lang/Throwable" "detailMessage" "Ljava/lang/String;") ∈ uG := uG_mem (tb_4 (List.mem_of_getElem? (i := 62) (by decide +kernel))) rfl
theorem kw_4_63 : (Cond.fieldLink "java/lang/Throwable" 7 "java/lang/Throwable" "cause" "Ljava/lang/Throwable;") ∈ uG := uG_mem (tb_4 (List.mem_of_getElem? (i := 63) (by decide +kernel))) rfl
theorem kw_4_64 : (Cond.fieldLink "java/lang/Throwable" 17 "java/lang/Throwable" "stackTrace" "[Ljava/lang/StackTraceElement;") ∈ uG := uG_mem (tb_4 (List.mem_of_getElem? (i := 64) (by decide +kernel))) rfl
theorem kw_4_65 : (Cond.fieldLink "java/lang/Throwable" 24 "java/lang/Throwable" "suppressedExceptions" "Ljava/util/List;") ∈ uG := uG_mem (tb_4 (List.mem_of_getElem? (i := 65) (by decide +kernel))) rfl
theorem kw_4_70 : (Cond.lays "java/lang/IllegalArgumentException" "java/lang/Throwable" "depth" "I") ∈ uG := uG_mem (tb_4 (List.mem_of_getElem? (i := 70) (by decide +kernel))) rfl
theorem kw_4_74 : (Cond.arrayClass FieldType.byte) ∈ uG := uG_mem (tb_4 (List.mem_of_getElem? (i := 74) (by decide +kernel))) rfl
theorem kw_4_75 : (Cond.methodLink RX8 295 yX8_wholeCodeLength) ∈ uG := uG_mem (tb_4 (List.mem_of_getElem? (i := 75) (by decide +kernel))) rfl
theorem kw_4_77 : (Cond.instanceMethod yX8_wholeCodeLength) ∈ uG := uG_mem (tb_4 (List.mem_of_getElem? (i := 77) (by decide +kernel))) rfl
theorem kw_4_78 : (Cond.code yX8_wholeCodeLength cX8_wholeCodeLength 2 (some .int)) ∈ uG := uG_mem (tb_4 (List.mem_of_getElem? (i := 78) (by decide +kernel))) rfl
theorem kw_4_79 : (Cond.methodLink RX8 342 yX0_layOut) ∈ uG := uG_mem (tb_4 (List.mem_of_getElem? (i := 79) (by decide +kernel))) rfl
theorem kw_4_80 : (Cond.instanceMethod yX0_layOut) ∈ uG := uG_mem (tb_4 (List.mem_of_getElem? (i := 80) (by decide +kernel))) rfl
theorem kw_4_81 : (Cond.selects RX0 yX0_layOut yX0_layOut) ∈ uG := uG_mem (tb_4 (List.mem_of_getElem? (i := 81) (by decide +kernel))) rfl
theorem kw_4_82 : (Cond.code yX0_layOut cX0_layOut 3 none) ∈ uG := uG_mem (tb_4 (List.mem_of_getElem? (i := 82) (by decide +kernel))) rfl
theorem kw_4_83 : (Cond.methodLink RX0 73 yX0_isPushed) ∈ uG := uG_mem (tb_4 (List.mem_of_getElem? (i := 83) (by decide +kernel))) rfl
theorem kw_4_85 : (Cond.instanceMethod yX0_isPushed) ∈ uG := uG_mem (tb_4 (List.mem_of_getElem? (i := 85) (by decide +kernel))) rfl
theorem kw_4_86 : (Cond.code yX0_isPushed cX0_isPushed 2 (some .boolean)) ∈ uG := uG_mem (tb_4 (List.mem_of_getElem? (i := 86) (by decide +kernel))) rfl
theorem kw_4_87 : (Cond.methodLink RX0 77 yX5_partA) ∈ uG := uG_mem (tb_4 (List.mem_of_getElem? (i := 87) (by decide +kernel))) rfl
theorem kw_4_88 : (Cond.methodLink RX0 81 yX0_lengthOfPart) ∈ uG := uG_mem (tb_4 (List.mem_of_getElem? (i := 88) (by decide +kernel))) rfl
theorem kw_4_90 : (Cond.instanceMethod yX0_lengthOfPart) ∈ uG := uG_mem (tb_4 (List.mem_of_getElem? (i := 90) (by decide +kernel))) rfl
theorem kw_4_91 : (Cond.code yX0_lengthOfPart cX0_lengthOfPart 2 (some .int)) ∈ uG := uG_mem (tb_4 (List.mem_of_getElem? (i := 91) (by decide +kernel))) rfl
theorem kw_4_92 : (Cond.methodLink RX0 84 yX5_partB) ∈ uG := uG_mem (tb_4 (List.mem_of_getElem? (i := 92) (by decide +kernel))) rfl
theorem kw_4_93 : (Cond.methodLink RX0 87 yX5_partC) ∈ uG := uG_mem (tb_4 (List.mem_of_getElem? (i := 93) (by decide +kernel))) rfl
theorem kw_4_94 : (Cond.methodLink RX0 90 yX0_ownLength) ∈ uG := uG_mem (tb_4 (List.mem_of_getElem? (i := 94) (by decide +kernel))) rfl
theorem kw_4_96 : (Cond.instanceMethod yX0_ownLength) ∈ uG := uG_mem (tb_4 (List.mem_of_getElem? (i := 96) (by decide +kernel))) rfl
theorem kw_4_97 : (Cond.code yX0_ownLength cX0_ownLength 2 (some .int)) ∈ uG := uG_mem (tb_4 (List.mem_of_getElem? (i := 97) (by decide +kernel))) rfl
theorem kw_4_98 : (Cond.methodLink RX0 126 yX0_isJump) ∈ uG := uG_mem (tb_4 (List.mem_of_getElem? (i := 98) (by decide +kernel))) rfl
theorem kw_4_100 : (Cond.instanceMethod yX0_isJump) ∈ uG := uG_mem (tb_4 (List.mem_of_getElem? (i := 100) (by decide +kernel))) rfl
theorem kw_4_101 : (Cond.code yX0_isJump cX0_isJump 2 (some .boolean)) ∈ uG := uG_mem (tb_4 (List.mem_of_getElem? (i := 101) (by decide +kernel))) rfl
theorem kw_4_102 : (Cond.methodLink RX0 93 yX0_placeProcedures) ∈ uG := uG_mem (tb_4 (List.mem_of_getElem? (i := 102) (by decide +kernel))) rfl
theorem kw_4_104 : (Cond.instanceMethod yX0_placeProcedures) ∈ uG := uG_mem (tb_4 (List.mem_of_getElem? (i := 104) (by decide +kernel))) rfl
theorem kw_4_105 : (Cond.code yX0_placeProcedures cX0_placeProcedures 4 none) ∈ uG := uG_mem (tb_4 (List.mem_of_getElem? (i := 105) (by decide +kernel))) rfl
theorem kw_4_106 : (Cond.methodLink RX0 135 yX0_clear) ∈ uG := uG_mem (tb_4 (List.mem_of_getElem? (i := 106) (by decide +kernel))) rfl
theorem kw_4_108 : (Cond.instanceMethod yX0_clear) ∈ uG := uG_mem (tb_4 (List.mem_of_getElem? (i := 108) (by decide +kernel))) rfl
theorem kw_4_109 : (Cond.code yX0_clear cX0_clear 4 none) ∈ uG := uG_mem (tb_4 (List.mem_of_getElem? (i := 109) (by decide +kernel))) rfl
theorem kw_4_110 : (Cond.methodLink RX0 139 yX0_put) ∈ uG := uG_mem (tb_4 (List.mem_of_getElem? (i := 110) (by decide +kernel))) rfl
theorem kw_4_112 : (Cond.instanceMethod yX0_put) ∈ uG := uG_mem (tb_4 (List.mem_of_getElem? (i := 112) (by decide +kernel))) rfl
theorem kw_4_113 : (Cond.code yX0_put cX0_put 6 none) ∈ uG := uG_mem (tb_4 (List.mem_of_getElem? (i := 113) (by decide +kernel))) rfl
theorem kw_4_114 : (Cond.methodLink RX0 101 yX0_placeParts) ∈ uG := uG_mem (tb_4 (List.mem_of_getElem? (i := 114) (by decide +kernel))) rfl
theorem kw_4_116 : (Cond.instanceMethod yX0_placeParts) ∈ uG := uG_mem (tb_4 (List.mem_of_getElem? (i := 116) (by decide +kernel))) rfl
theorem kw_4_117 : (Cond.code yX0_placeParts cX0_placeParts 8 none) ∈ uG := uG_mem (tb_4 (List.mem_of_getElem? (i := 117) (by decide +kernel))) rfl
theorem kw_4_118 : (Cond.methodLink RX0 143 yX0_swallow) ∈ uG := uG_mem (tb_4 (List.mem_of_getElem? (i := 118) (by decide +kernel))) rfl
theorem kw_4_120 : (Cond.instanceMethod yX0_swallow) ∈ uG := uG_mem (tb_4 (List.mem_of_getElem? (i := 120) (by decide +kernel))) rfl
theorem kw_4_121 : (Cond.code yX0_swallow cX0_swallow 3 none) ∈ uG := uG_mem (tb_4 (List.mem_of_getElem? (i := 121) (by decide +kernel))) rfl
theorem kw_4_122 : (Cond.methodLink RX0 146 yX0_place) ∈ uG := uG_mem (tb_4 (List.mem_of_getElem? (i := 122) (by decide +kernel))) rfl
theorem kw_4_124 : (Cond.instanceMethod yX0_place) ∈ uG := uG_mem (tb_4 (List.mem_of_getElem? (i := 124) (by decide +kernel))) rfl
theorem kw_4_125 : (Cond.code yX0_place cX0_place 3 none) ∈ uG := uG_mem (tb_4 (List.mem_of_getElem? (i := 125) (by decide +kernel))) rfl
theorem kw_4_126 : (Cond.methodLink RX0 105 yX0_noteBegin) ∈ uG := uG_mem (tb_4 (List.mem_of_getElem? (i := 126) (by decide +kernel))) rfl
theorem kw_4_128 : (Cond.instanceMethod yX0_noteBegin) ∈ uG := uG_mem (tb_4 (List.mem_of_getElem? (i := 128) (by decide +kernel))) rfl
theorem kw_4_129 : (Cond.code yX0_noteBegin cX0_noteBegin 3 none) ∈ uG := uG_mem (tb_4 (List.mem_of_getElem? (i := 129) (by decide +kernel))) rfl
theorem kw_4_130 : (Cond.methodLink RX0 108 yX0_write) ∈ uG := uG_mem (tb_4 (List.mem_of_getElem? (i := 130) (by decide +kernel))) rfl
theorem kw_4_132 : (Cond.instanceMethod yX0_write) ∈ uG := uG_mem (tb_4 (List.mem_of_getElem? (i := 132) (by decide +kernel))) rfl
theorem kw_4_133 : (Cond.code yX0_write cX0_write 4 none) ∈ uG := uG_mem (tb_4 (List.mem_of_getElem? (i := 133) (by decide +kernel))) rfl
theorem kw_4_134 : (Cond.methodLink RX0 158 yX0_writeExpression) ∈ uG := uG_mem (tb_4 (List.mem_of_getElem? (i := 134) (by decide +kernel))) rfl
theorem kw_4_136 : (Cond.instanceMethod yX0_writeExpression) ∈ uG := uG_mem (tb_4 (List.mem_of_getElem? (i := 136) (by decide +kernel))) rfl
theorem kw_4_137 : (Cond.code yX0_writeExpression cX0_writeExpression 5 none) ∈ uG := uG_mem (tb_4 (List.mem_of_getElem? (i := 137) (by decide +kernel))) rfl
theorem kw_4_138 : (Cond.methodLink RX0 168 yX4_modeOfPart) ∈ uG := uG_mem (tb_4 (List.mem_of_getElem? (i := 138) (by decide +kernel))) rfl
theorem kw_4_139 : (Cond.instanceMethod yX4_modeOfPart) ∈ uG := uG_mem (tb_4 (List.mem_of_getElem? (i := 139) (by decide +kernel))) rfl
theorem kw_4_140 : (Cond.selects RX4 yX4_modeOfPart yX4_modeOfPart) ∈ uG := uG_mem (tb_4 (List.mem_of_getElem? (i := 140) (by decide +kernel))) rfl
theorem kw_4_141 : (Cond.code yX4_modeOfPart cX4_modeOfPart 3 (some .int)) ∈ uG := uG_mem (tb_4 (List.mem_of_getElem? (i := 141) (by decide +kernel))) rfl
theorem kw_4_142 : (Cond.methodLink RX0 174 yX0_putNamed) ∈ uG := uG_mem (tb_4 (List.mem_of_getElem? (i := 142) (by decide +kernel))) rfl
theorem kw_4_144 : (Cond.instanceMethod yX0_putNamed) ∈ uG := uG_mem (tb_4 (List.mem_of_getElem? (i := 144) (by decide +kernel))) rfl
theorem kw_4_145 : (Cond.code yX0_putNamed cX0_putNamed 4 none) ∈ uG := uG_mem (tb_4 (List.mem_of_getElem? (i := 145) (by decide +kernel))) rfl
theorem kw_4_146 : (Cond.methodLink RX0 162 yX0_writeCall) ∈ uG := uG_mem (tb_4 (List.mem_of_getElem? (i := 146) (by decide +kernel))) rfl
theorem kw_4_148 : (Cond.instanceMethod yX0_writeCall) ∈ uG := uG_mem (tb_4 (List.mem_of_getElem? (i := 148) (by decide +kernel))) rfl
theorem kw_4_149 : (Cond.code yX0_writeCall cX0_writeCall 6 none) ∈ uG := uG_mem (tb_4 (List.mem_of_getElem? (i := 149) (by decide +kernel))) rfl
theorem kw_4_150 : (Cond.methodLink RX0 165 yX0_writeStatement) ∈ uG := uG_mem (tb_4 (List.mem_of_getElem? (i := 150) (by decide +kernel))) rfl
theorem kw_4_152 : (Cond.instanceMethod yX0_writeStatement) ∈ uG := uG_mem (tb_4 (List.mem_of_getElem? (i := 152) (by decide +kernel))) rfl
theorem kw_4_153 : (Cond.code yX0_writeStatement cX0_writeStatement 4 none) ∈ uG := uG_mem (tb_4 (List.mem_of_getElem? (i := 153) (by decide +kernel))) rfl
theorem kw_4_154 : (Cond.methodLink RX0 183 yX0_writeIf) ∈ uG := uG_mem (tb_4 (List.mem_of_getElem? (i := 154) (by decide +kernel))) rfl
theorem kw_4_156 : (Cond.instanceMethod yX0_writeIf) ∈ uG := uG_mem (tb_4 (List.mem_of_getElem? (i := 156) (by decide +kernel))) rfl
theorem kw_4_157 : (Cond.code yX0_writeIf cX0_writeIf 5 none) ∈ uG := uG_mem (tb_4 (List.mem_of_getElem? (i := 157) (by decide +kernel))) rfl
theorem kw_4_158 : (Cond.methodLink RX0 186 yX0_writeLoop) ∈ uG := uG_mem (tb_4 (List.mem_of_getElem? (i := 158) (by decide +kernel))) rfl
theorem kw_4_160 : (Cond.instanceMethod yX0_writeLoop) ∈ uG := uG_mem (tb_4 (List.mem_of_getElem? (i := 160) (by decide +kernel))) rfl
theorem kw_4_161 : (Cond.code yX0_writeLoop cX0_writeLoop 4 none) ∈ uG := uG_mem (tb_4 (List.mem_of_getElem? (i := 161) (by decide +kernel))) rfl
theorem kw_4_162 : (Cond.methodLink RX8 314 yX8_ofProcedure) ∈ uG := uG_mem (tb_4 (List.mem_of_getElem? (i := 162) (by decide +kernel))) rfl
theorem kw_4_163 : (Cond.instanceMethod yX8_ofProcedure) ∈ uG := uG_mem (tb_4 (List.mem_of_getElem? (i := 163) (by decide +kernel))) rfl
theorem kw_4_164 : (Cond.selects RX8 yX8_ofProcedure yX8_ofProcedure) ∈ uG := uG_mem (tb_4 (List.mem_of_getElem? (i := 164) (by decide +kernel))) rfl
theorem kw_4_165 : (Cond.code yX8_ofProcedure cX8_ofProcedure 3 (some .int)) ∈ uG := uG_mem (tb_4 (List.mem_of_getElem? (i := 165) (by decide +kernel))) rfl
theorem kw_4_166 : (Cond.methodLink RX8 87 yX8_needProcedure) ∈ uG := uG_mem (tb_4 (List.mem_of_getElem? (i := 166) (by decide +kernel))) rfl
theorem kw_4_168 : (Cond.instanceMethod yX8_needProcedure) ∈ uG := uG_mem (tb_4 (List.mem_of_getElem? (i := 168) (by decide +kernel))) rfl
theorem kw_4_169 : (Cond.code yX8_needProcedure cX8_needProcedure 2 none) ∈ uG := uG_mem (tb_4 (List.mem_of_getElem? (i := 169) (by decide +kernel))) rfl
theorem kw_4_170 : (Cond.methodLink RX8 351 yX1_has) ∈ uG := uG_mem (tb_4 (List.mem_of_getElem? (i := 170) (by decide +kernel))) rfl
theorem kw_4_171 : (Cond.instanceMethod yX1_has) ∈ uG := uG_mem (tb_4 (List.mem_of_getElem? (i := 171) (by decide +kernel))) rfl
theorem kw_4_172 : (Cond.selects RX1 yX1_has yX1_has) ∈ uG := uG_mem (tb_4 (List.mem_of_getElem? (i := 172) (by decide +kernel))) rfl
theorem kw_4_173 : (Cond.code yX1_has cX1_has 2 (some .boolean)) ∈ uG := uG_mem (tb_4 (List.mem_of_getElem? (i := 173) (by decide +kernel))) rfl
theorem kw_4_174 : (Cond.classLink RX8 354 "java/lang/IndexOutOfBoundsException") ∈ uG := uG_mem (tb_4 (List.mem_of_getElem? (i := 174) (by decide +kernel))) rfl
theorem kw_4_175 : (Cond.instantiable "java/lang/IndexOutOfBoundsException" 6) ∈ uG := uG_mem (tb_4 (List.mem_of_getElem? (i := 175) (by decide +kernel))) rfl
theorem kw_4_177 : (Cond.selects "java/lang/IndexOutOfBoundsException" ⟨"java/lang/Throwable", "fillInStackTrace", "(I)Ljava/lang/Throwable;"⟩ ⟨"java/lang/Throwable", "fillInStackTrace", "(I)Ljava/lang/Throwable;"⟩) ∈ uG := uG_mem (tb_4 (List.mem_of_getElem? (i := 177) (by decide +kernel))) rfl
theorem kw_4_178 : (Cond.lays "java/lang/IndexOutOfBoundsException" "java/lang/Throwable" "cause" "Ljava/lang/Throwable;") ∈ uG := uG_mem (tb_4 (List.mem_of_getElem? (i := 178) (by decide +kernel))) rfl
theorem kw_4_179 : (Cond.lays "java/lang/IndexOutOfBoundsException" "java/lang/Throwable" "stackTrace" "[Ljava/lang/StackTraceElement;") ∈ uG := uG_mem (tb_4 (List.mem_of_getElem? (i := 179) (by decide +kernel))) rfl
theorem kw_4_180 : (Cond.lays "java/lang/IndexOutOfBoundsException" "java/lang/Throwable" "suppressedExceptions" "Ljava/util/List;") ∈ uG := uG_mem (tb_4 (List.mem_of_getElem? (i := 180) (by decide +kernel))) rfl
theorem kw_4_181 : (Cond.lays "java/lang/IndexOutOfBoundsException" "java/lang/Throwable" "detailMessage" "Ljava/lang/String;") ∈ uG := uG_mem (tb_4 (List.mem_of_getElem? (i := 181) (by decide +kernel))) rfl
theorem kw_4_182 : (Cond.lays "java/lang/IndexOutOfBoundsException" "java/lang/Throwable" "backtrace" "Ljava/lang/Object;") ∈ uG := uG_mem (tb_4 (List.mem_of_getElem? (i := 182) (by decide +kernel))) rfl
theorem kw_4_184 : (Cond.methodLink RX8 358 ⟨"java/lang/IndexOutOfBoundsException", "<init>", "(Ljava/lang/String;)V"⟩) ∈ uG := uG_mem (tb_4 (List.mem_of_getElem? (i := 184) (by decide +kernel))) rfl
theorem kw_4_185 : (Cond.instanceMethod ⟨"java/lang/IndexOutOfBoundsException", "<init>", "(Ljava/lang/String;)V"⟩) ∈ uG := uG_mem (tb_4 (List.mem_of_getElem? (i := 185) (by decide +kernel))) rfl
theorem kw_4_186 : (Cond.code ⟨"java/lang/IndexOutOfBoundsException", "<init>", "(Ljava/lang/String;)V"⟩ prog_16_method_2_code 2 none) ∈ uG := uG_mem (tb_4 (List.mem_of_getElem? (i := 186) (by decide +kernel))) rfl
theorem kw_4_187 : (Cond.methodLink "java/lang/IndexOutOfBoundsException" 7 ⟨"java/lang/RuntimeException", "<init>", "(Ljava/lang/String;)V"⟩) ∈ uG := uG_mem (tb_4 (List.mem_of_getElem? (i := 187) (by decide +kernel))) rfl
theorem kw_4_188 : (Cond.lays "java/lang/IndexOutOfBoundsException" "java/lang/Throwable" "depth" "I") ∈ uG := uG_mem (tb_4 (List.mem_of_getElem? (i := 188) (by decide +kernel))) rfl
theorem kw_4_190 : (Cond.methodLink RX8 171 yX8_codeLength) ∈ uG := uG_mem (tb_4 (List.mem_of_getElem? (i := 190) (by decide +kernel))) rfl
theorem kw_4_192 : (Cond.instanceMethod yX8_codeLength) ∈ uG := uG_mem (tb_4 (List.mem_of_getElem? (i := 192) (by decide +kernel))) rfl
theorem kw_4_193 : (Cond.code yX8_codeLength cX8_codeLength 2 (some .int)) ∈ uG := uG_mem (tb_4 (List.mem_of_getElem? (i := 193) (by decide +kernel))) rfl
theorem kw_4_194 : (Cond.methodLink RX8 317 yX8_hiddenBy) ∈ uG := uG_mem (tb_4 (List.mem_of_getElem? (i := 194) (by decide +kernel))) rfl
theorem kw_4_195 : (Cond.instanceMethod yX8_hiddenBy) ∈ uG := uG_mem (tb_4 (List.mem_of_getElem? (i := 195) (by decide +kernel))) rfl
theorem kw_4_196 : (Cond.selects RX8 yX8_hiddenBy yX8_hiddenBy) ∈ uG := uG_mem (tb_4 (List.mem_of_getElem? (i := 196) (by decide +kernel))) rfl
theorem kw_4_197 : (Cond.code yX8_hiddenBy cX8_hiddenBy 3 (some .int)) ∈ uG := uG_mem (tb_4 (List.mem_of_getElem? (i := 197) (by decide +kernel))) rfl
theorem kw_4_198 : (Cond.methodLink RX8 91 yX8_isName) ∈ uG := uG_mem (tb_4 (List.mem_of_getElem? (i := 198) (by decide +kernel))) rfl
theorem kw_4_199 : (Cond.static yX8_isName) ∈ uG := uG_mem (tb_4 (List.mem_of_getElem? (i := 199) (by decide +kernel))) rfl
theorem kw_4_200 : (Cond.code yX8_isName cX8_isName 1 (some .boolean)) ∈ uG := uG_mem (tb_4 (List.mem_of_getElem? (i := 200) (by decide +kernel))) rfl
theorem kw_4_201 : (Cond.methodLink RX8 102 yX1_declares) ∈ uG := uG_mem (tb_4 (List.mem_of_getElem? (i := 201) (by decide +kernel))) rfl
theorem kw_4_202 : (Cond.methodLink RX8 304 yX4_reaching) ∈ uG := uG_mem (tb_4 (List.mem_of_getElem? (i := 202) (by decide +kernel))) rfl
theorem kw_4_203 : (Cond.instanceMethod yX4_reaching) ∈ uG := uG_mem (tb_4 (List.mem_of_getElem? (i := 203) (by decide +kernel))) rfl
theorem kw_4_204 : (Cond.selects RX4 yX4_reaching yX4_reaching) ∈ uG := uG_mem (tb_4 (List.mem_of_getElem? (i := 204) (by decide +kernel))) rfl
theorem kw_4_205 : (Cond.code yX4_reaching cX4_reaching 6 (some .int)) ∈ uG := uG_mem (tb_4 (List.mem_of_getElem? (i := 205) (by decide +kernel))) rfl
theorem kw_4_206 : (Cond.methodLink RX8 320 yX8_code) ∈ uG := uG_mem (tb_4 (List.mem_of_getElem? (i := 206) (by decide +kernel))) rfl
theorem kw_4_207 : (Cond.instanceMethod yX8_code) ∈ uG := uG_mem (tb_4 (List.mem_of_getElem? (i := 207) (by decide +kernel))) rfl
theorem kw_4_208 : (Cond.selects RX8 yX8_code yX8_code) ∈ uG := uG_mem (tb_4 (List.mem_of_getElem? (i := 208) (by decide +kernel))) rfl
theorem kw_4_209 : (Cond.code yX8_code cX8_code 5 (some .int)) ∈ uG := uG_mem (tb_4 (List.mem_of_getElem? (i := 209) (by decide +kernel))) rfl
theorem kw_4_210 : (Cond.methodLink RX8 220 yX8_needPlace) ∈ uG := uG_mem (tb_4 (List.mem_of_getElem? (i := 210) (by decide +kernel))) rfl
theorem kw_4_211 : (Cond.static yX8_needPlace) ∈ uG := uG_mem (tb_4 (List.mem_of_getElem? (i := 211) (by decide +kernel))) rfl
theorem kw_4_212 : (Cond.code yX8_needPlace cX8_needPlace 1 none) ∈ uG := uG_mem (tb_4 (List.mem_of_getElem? (i := 212) (by decide +kernel))) rfl
theorem kw_4_214 : (Cond.methodLink RX8 323 yX8_ofNode) ∈ uG := uG_mem (tb_4 (List.mem_of_getElem? (i := 214) (by decide +kernel))) rfl
theorem kw_4_215 : (Cond.instanceMethod yX8_ofNode) ∈ uG := uG_mem (tb_4 (List.mem_of_getElem? (i := 215) (by decide +kernel))) rfl
theorem kw_4_216 : (Cond.selects RX8 yX8_ofNode yX8_ofNode) ∈ uG := uG_mem (tb_4 (List.mem_of_getElem? (i := 216) (by decide +kernel))) rfl
theorem kw_4_217 : (Cond.code yX8_ofNode cX8_ofNode 3 (some .int)) ∈ uG := uG_mem (tb_4 (List.mem_of_getElem? (i := 217) (by decide +kernel))) rfl
theorem kw_4_218 : (Cond.methodLink RX8 183 yX8_needNode) ∈ uG := uG_mem (tb_4 (List.mem_of_getElem? (i := 218) (by decide +kernel))) rfl
theorem kw_4_220 : (Cond.instanceMethod yX8_needNode) ∈ uG := uG_mem (tb_4 (List.mem_of_getElem? (i := 220) (by decide +kernel))) rfl
theorem kw_4_221 : (Cond.code yX8_needNode cX8_needNode 2 none) ∈ uG := uG_mem (tb_4 (List.mem_of_getElem? (i := 221) (by decide +kernel))) rfl
theorem kw_4_222 : (Cond.methodLink RX8 361 yX5_has) ∈ uG := uG_mem (tb_4 (List.mem_of_getElem? (i := 222) (by decide +kernel))) rfl
theorem kw_4_223 : (Cond.instanceMethod yX5_has) ∈ uG := uG_mem (tb_4 (List.mem_of_getElem? (i := 223) (by decide +kernel))) rfl
theorem kw_4_224 : (Cond.selects RX5 yX5_has yX5_has) ∈ uG := uG_mem (tb_4 (List.mem_of_getElem? (i := 224) (by decide +kernel))) rfl
theorem kw_4_225 : (Cond.code yX5_has cX5_has 2 (some .boolean)) ∈ uG := uG_mem (tb_4 (List.mem_of_getElem? (i := 225) (by decide +kernel))) rfl
theorem kw_4_227 : (Cond.methodLink RX8 326 yX8_fault) ∈ uG := uG_mem (tb_4 (List.mem_of_getElem? (i := 227) (by decide +kernel))) rfl
theorem kw_4_228 : (Cond.instanceMethod yX8_fault) ∈ uG := uG_mem (tb_4 (List.mem_of_getElem? (i := 228) (by decide +kernel))) rfl
theorem kw_4_229 : (Cond.selects RX8 yX8_fault yX8_fault) ∈ uG := uG_mem (tb_4 (List.mem_of_getElem? (i := 229) (by decide +kernel))) rfl
theorem kw_4_230 : (Cond.code yX8_fault cX8_fault 3 (some .int)) ∈ uG := uG_mem (tb_4 (List.mem_of_getElem? (i := 230) (by decide +kernel))) rfl
theorem kw_4_231 : (Cond.methodLink RX8 329 yX8_ofRun) ∈ uG := uG_mem (tb_4 (List.mem_of_getElem? (i := 231) (by decide +kernel))) rfl
theorem kw_4_232 : (Cond.instanceMethod yX8_ofRun) ∈ uG := uG_mem (tb_4 (List.mem_of_getElem? (i := 232) (by decide +kernel))) rfl
theorem kw_4_233 : (Cond.selects RX8 yX8_ofRun yX8_ofRun) ∈ uG := uG_mem (tb_4 (List.mem_of_getElem? (i := 233) (by decide +kernel))) rfl
theorem kw_4_234 : (Cond.code yX8_ofRun cX8_ofRun 2 (some .int)) ∈ uG := uG_mem (tb_4 (List.mem_of_getElem? (i := 234) (by decide +kernel))) rfl
theorem kw_4_235 : (Cond.methodLink RX8 260 yX6_answer) ∈ uG := uG_mem (tb_4 (List.mem_of_getElem? (i := 235) (by decide +kernel))) rfl
theorem kw_4_236 : (Cond.instanceMethod yX6_answer) ∈ uG := uG_mem (tb_4 (List.mem_of_getElem? (i := 236) (by decide +kernel))) rfl
theorem kw_4_237 : (Cond.selects RX6 yX6_answer yX6_answer) ∈ uG := uG_mem (tb_4 (List.mem_of_getElem? (i := 237) (by decide +kernel))) rfl
theorem kw_4_238 : (Cond.code yX6_answer cX6_answer 2 (some .int)) ∈ uG := uG_mem (tb_4 (List.mem_of_getElem? (i := 238) (by decide +kernel))) rfl
theorem kw_4_239 : (Cond.methodLink RX8 263 yX6_kept) ∈ uG := uG_mem (tb_4 (List.mem_of_getElem? (i := 239) (by decide +kernel))) rfl
theorem kw_5_0 : (Cond.instanceMethod yX6_kept) ∈ uG := uG_mem (tb_5 (List.mem_of_getElem? (i := 0) (by decide +kernel))) rfl
theorem kw_5_1 : (Cond.selects RX6 yX6_kept yX6_kept) ∈ uG := uG_mem (tb_5 (List.mem_of_getElem? (i := 1) (by decide +kernel))) rfl
theorem kw_5_2 : (Cond.code yX6_kept cX6_kept 1 (some .int)) ∈ uG := uG_mem (tb_5 (List.mem_of_getElem? (i := 2) (by decide +kernel))) rfl
theorem kw_5_3 : (Cond.methodLink RX8 332 yX8_printed) ∈ uG := uG_mem (tb_5 (List.mem_of_getElem? (i := 3) (by decide +kernel))) rfl
theorem kw_5_4 : (Cond.instanceMethod yX8_printed) ∈ uG := uG_mem (tb_5 (List.mem_of_getElem? (i := 4) (by decide +kernel))) rfl
theorem kw_5_5 : (Cond.selects RX8 yX8_printed yX8_printed) ∈ uG := uG_mem (tb_5 (List.mem_of_getElem? (i := 5) (by decide +kernel))) rfl
theorem kw_5_6 : (Cond.code yX8_printed cX8_printed 3 (some .int)) ∈ uG := uG_mem (tb_5 (List.mem_of_getElem? (i := 6) (by decide +kernel))) rfl
theorem kw_5_7 : (Cond.methodLink RX8 253 yX3_execute) ∈ uG := uG_mem (tb_5 (List.mem_of_getElem? (i := 7) (by decide +kernel))) rfl
theorem kw_5_8 : (Cond.instanceMethod yX3_execute) ∈ uG := uG_mem (tb_5 (List.mem_of_getElem? (i := 8) (by decide +kernel))) rfl
theorem kw_5_9 : (Cond.selects RX3 yX3_execute yX3_execute) ∈ uG := uG_mem (tb_5 (List.mem_of_getElem? (i := 9) (by decide +kernel))) rfl
theorem kw_5_10 : (Cond.code yX3_execute cX3_execute 7 none) ∈ uG := uG_mem (tb_5 (List.mem_of_getElem? (i := 10) (by decide +kernel))) rfl
theorem kw_5_11 : (Cond.methodLink RX3 78 yX0_layOut) ∈ uG := uG_mem (tb_5 (List.mem_of_getElem? (i := 11) (by decide +kernel))) rfl
theorem kw_5_12 : (Cond.methodLink RX3 83 yX3_clear) ∈ uG := uG_mem (tb_5 (List.mem_of_getElem? (i := 12) (by decide +kernel))) rfl
theorem kw_5_14 : (Cond.instanceMethod yX3_clear) ∈ uG := uG_mem (tb_5 (List.mem_of_getElem? (i := 14) (by decide +kernel))) rfl
theorem kw_5_15 : (Cond.code yX3_clear cX3_clear 1 none) ∈ uG := uG_mem (tb_5 (List.mem_of_getElem? (i := 15) (by decide +kernel))) rfl
theorem kw_5_16 : (Cond.methodLink RX3 111 yX7_cut) ∈ uG := uG_mem (tb_5 (List.mem_of_getElem? (i := 16) (by decide +kernel))) rfl
theorem kw_5_17 : (Cond.instanceMethod yX7_cut) ∈ uG := uG_mem (tb_5 (List.mem_of_getElem? (i := 17) (by decide +kernel))) rfl
theorem kw_5_18 : (Cond.selects RX7 yX7_cut yX7_cut) ∈ uG := uG_mem (tb_5 (List.mem_of_getElem? (i := 18) (by decide +kernel))) rfl
theorem kw_5_19 : (Cond.code yX7_cut cX7_cut 2 none) ∈ uG := uG_mem (tb_5 (List.mem_of_getElem? (i := 19) (by decide +kernel))) rfl
theorem kw_5_20 : (Cond.methodLink RX3 86 yX6_start) ∈ uG := uG_mem (tb_5 (List.mem_of_getElem? (i := 20) (by decide +kernel))) rfl
theorem kw_5_21 : (Cond.instanceMethod yX6_start) ∈ uG := uG_mem (tb_5 (List.mem_of_getElem? (i := 21) (by decide +kernel))) rfl
theorem kw_5_22 : (Cond.selects RX6 yX6_start yX6_start) ∈ uG := uG_mem (tb_5 (List.mem_of_getElem? (i := 22) (by decide +kernel))) rfl
theorem kw_5_23 : (Cond.code yX6_start cX6_start 1 none) ∈ uG := uG_mem (tb_5 (List.mem_of_getElem? (i := 23) (by decide +kernel))) rfl
theorem kw_5_24 : (Cond.methodLink RX3 89 yX3_keepReturn) ∈ uG := uG_mem (tb_5 (List.mem_of_getElem? (i := 24) (by decide +kernel))) rfl
theorem kw_5_26 : (Cond.instanceMethod yX3_keepReturn) ∈ uG := uG_mem (tb_5 (List.mem_of_getElem? (i := 26) (by decide +kernel))) rfl
theorem kw_5_27 : (Cond.code yX3_keepReturn cX3_keepReturn 4 none) ∈ uG := uG_mem (tb_5 (List.mem_of_getElem? (i := 27) (by decide +kernel))) rfl
theorem kw_5_28 : (Cond.methodLink RX3 215 yX7_add) ∈ uG := uG_mem (tb_5 (List.mem_of_getElem? (i := 28) (by decide +kernel))) rfl
theorem kw_5_29 : (Cond.instanceMethod yX7_add) ∈ uG := uG_mem (tb_5 (List.mem_of_getElem? (i := 29) (by decide +kernel))) rfl
theorem kw_5_30 : (Cond.selects RX7 yX7_add yX7_add) ∈ uG := uG_mem (tb_5 (List.mem_of_getElem? (i := 30) (by decide +kernel))) rfl
theorem kw_5_31 : (Cond.code yX7_add cX7_add 3 (some .int)) ∈ uG := uG_mem (tb_5 (List.mem_of_getElem? (i := 31) (by decide +kernel))) rfl
theorem kw_5_32 : (Cond.constant RX7 22 (524288 : Int32)) ∈ uG := uG_mem (tb_5 (List.mem_of_getElem? (i := 32) (by decide +kernel))) rfl
theorem kw_5_33 : (Cond.methodLink RX7 23 yJ7_copyOf_59c91) ∈ uG := uG_mem (tb_5 (List.mem_of_getElem? (i := 33) (by decide +kernel))) rfl
theorem kw_5_34 : (Cond.static yJ7_copyOf_59c91) ∈ uG := uG_mem (tb_5 (List.mem_of_getElem? (i := 34) (by decide +kernel))) rfl
theorem kw_5_35 : (Cond.code yJ7_copyOf_59c91 cJ7_copyOf_59c91 3 (some (.array .int))) ∈ uG := uG_mem (tb_5 (List.mem_of_getElem? (i := 35) (by decide +kernel))) rfl
theorem kw_5_36 : (Cond.methodLink RJ7 316 ⟨"[I", "clone", "()Ljava/lang/Object;"⟩) ∈ uG := uG_mem (tb_5 (List.mem_of_getElem? (i := 36) (by decide +kernel))) rfl
theorem kw_5_39 : (Cond.instanceMethod ⟨"java/lang/Object", "clone", "()Ljava/lang/Object;"⟩) ∈ uG := uG_mem (tb_5 (List.mem_of_getElem? (i := 39) (by decide +kernel))) rfl
theorem kw_5_40 : (Cond.selects "[I" ⟨"[I", "clone", "()Ljava/lang/Object;"⟩ ⟨"java/lang/Object", "clone", "()Ljava/lang/Object;"⟩) ∈ uG := uG_mem (tb_5 (List.mem_of_getElem? (i := 40) (by decide +kernel))) rfl
theorem kw_5_42 : (Cond.classLink RJ7 317 "[I") ∈ uG := uG_mem (tb_5 (List.mem_of_getElem? (i := 42) (by decide +kernel))) rfl
theorem kw_5_43 : (Cond.methodLink RJ7 304 yJ9_min_7cf53) ∈ uG := uG_mem (tb_5 (List.mem_of_getElem? (i := 43) (by decide +kernel))) rfl
theorem kw_5_44 : (Cond.static yJ9_min_7cf53) ∈ uG := uG_mem (tb_5 (List.mem_of_getElem? (i := 44) (by decide +kernel))) rfl
theorem kw_5_45 : (Cond.code yJ9_min_7cf53 cJ9_min_7cf53 2 (some .int)) ∈ uG := uG_mem (tb_5 (List.mem_of_getElem? (i := 45) (by decide +kernel))) rfl
theorem kw_5_46 : (Cond.methodLink RJ7 150 ⟨"java/lang/System", "arraycopy", "(Ljava/lang/Object;ILjava/lang/Object;II)V"⟩) ∈ uG := uG_mem (tb_5 (List.mem_of_getElem? (i := 46) (by decide +kernel))) rfl
theorem kw_5_47 : (Cond.static ⟨"java/lang/System", "arraycopy", "(Ljava/lang/Object;ILjava/lang/Object;II)V"⟩) ∈ uG := uG_mem (tb_5 (List.mem_of_getElem? (i := 47) (by decide +kernel))) rfl
theorem kw_5_49 : (Cond.methodLink RX3 218 yX7_put) ∈ uG := uG_mem (tb_5 (List.mem_of_getElem? (i := 49) (by decide +kernel))) rfl
theorem kw_5_50 : (Cond.instanceMethod yX7_put) ∈ uG := uG_mem (tb_5 (List.mem_of_getElem? (i := 50) (by decide +kernel))) rfl
theorem kw_5_51 : (Cond.selects RX7 yX7_put yX7_put) ∈ uG := uG_mem (tb_5 (List.mem_of_getElem? (i := 51) (by decide +kernel))) rfl
theorem kw_5_52 : (Cond.code yX7_put cX7_put 4 none) ∈ uG := uG_mem (tb_5 (List.mem_of_getElem? (i := 52) (by decide +kernel))) rfl
theorem kw_5_53 : (Cond.methodLink RX7 29 yX7_has) ∈ uG := uG_mem (tb_5 (List.mem_of_getElem? (i := 53) (by decide +kernel))) rfl
theorem kw_5_55 : (Cond.instanceMethod yX7_has) ∈ uG := uG_mem (tb_5 (List.mem_of_getElem? (i := 55) (by decide +kernel))) rfl
theorem kw_5_56 : (Cond.code yX7_has cX7_has 3 (some .boolean)) ∈ uG := uG_mem (tb_5 (List.mem_of_getElem? (i := 56) (by decide +kernel))) rfl
theorem kw_5_57 : (Cond.methodLink RX3 93 yX3_call) ∈ uG := uG_mem (tb_5 (List.mem_of_getElem? (i := 57) (by decide +kernel))) rfl
theorem kw_5_59 : (Cond.instanceMethod yX3_call) ∈ uG := uG_mem (tb_5 (List.mem_of_getElem? (i := 59) (by decide +kernel))) rfl
theorem kw_5_60 : (Cond.code yX3_call cX3_call 3 none) ∈ uG := uG_mem (tb_5 (List.mem_of_getElem? (i := 60) (by decide +kernel))) rfl
theorem kw_5_61 : (Cond.methodLink RX3 221 yX7_at) ∈ uG := uG_mem (tb_5 (List.mem_of_getElem? (i := 61) (by decide +kernel))) rfl
theorem kw_5_62 : (Cond.instanceMethod yX7_at) ∈ uG := uG_mem (tb_5 (List.mem_of_getElem? (i := 62) (by decide +kernel))) rfl
theorem kw_5_63 : (Cond.selects RX7 yX7_at yX7_at) ∈ uG := uG_mem (tb_5 (List.mem_of_getElem? (i := 63) (by decide +kernel))) rfl
theorem kw_5_64 : (Cond.code yX7_at cX7_at 3 (some .int)) ∈ uG := uG_mem (tb_5 (List.mem_of_getElem? (i := 64) (by decide +kernel))) rfl
theorem kw_5_65 : (Cond.methodLink RX3 276 yJ6_bitCount_0f7a4) ∈ uG := uG_mem (tb_5 (List.mem_of_getElem? (i := 65) (by decide +kernel))) rfl
theorem kw_5_66 : (Cond.methodLink RX3 287 yJ9_max_7cf53) ∈ uG := uG_mem (tb_5 (List.mem_of_getElem? (i := 66) (by decide +kernel))) rfl
theorem kw_5_67 : (Cond.static yJ9_max_7cf53) ∈ uG := uG_mem (tb_5 (List.mem_of_getElem? (i := 67) (by decide +kernel))) rfl
theorem kw_5_68 : (Cond.code yJ9_max_7cf53 cJ9_max_7cf53 2 (some .int)) ∈ uG := uG_mem (tb_5 (List.mem_of_getElem? (i := 68) (by decide +kernel))) rfl
theorem kw_5_69 : (Cond.methodLink RX3 295 yX3_layPlaces) ∈ uG := uG_mem (tb_5 (List.mem_of_getElem? (i := 69) (by decide +kernel))) rfl
theorem kw_5_71 : (Cond.instanceMethod yX3_layPlaces) ∈ uG := uG_mem (tb_5 (List.mem_of_getElem? (i := 71) (by decide +kernel))) rfl
theorem kw_5_72 : (Cond.code yX3_layPlaces cX3_layPlaces 11 none) ∈ uG := uG_mem (tb_5 (List.mem_of_getElem? (i := 72) (by decide +kernel))) rfl
theorem kw_5_73 : (Cond.constant RX3 96 (1000000 : Int32)) ∈ uG := uG_mem (tb_5 (List.mem_of_getElem? (i := 73) (by decide +kernel))) rfl
theorem kw_5_74 : (Cond.methodLink RX3 100 yX3_begin) ∈ uG := uG_mem (tb_5 (List.mem_of_getElem? (i := 74) (by decide +kernel))) rfl
theorem kw_5_76 : (Cond.instanceMethod yX3_begin) ∈ uG := uG_mem (tb_5 (List.mem_of_getElem? (i := 76) (by decide +kernel))) rfl
theorem kw_5_77 : (Cond.code yX3_begin cX3_begin 5 (some .boolean)) ∈ uG := uG_mem (tb_5 (List.mem_of_getElem? (i := 77) (by decide +kernel))) rfl
theorem kw_5_78 : (Cond.methodLink RX3 120 yX3_trap) ∈ uG := uG_mem (tb_5 (List.mem_of_getElem? (i := 78) (by decide +kernel))) rfl
theorem kw_5_80 : (Cond.instanceMethod yX3_trap) ∈ uG := uG_mem (tb_5 (List.mem_of_getElem? (i := 80) (by decide +kernel))) rfl
theorem kw_5_81 : (Cond.code yX3_trap cX3_trap 3 none) ∈ uG := uG_mem (tb_5 (List.mem_of_getElem? (i := 81) (by decide +kernel))) rfl
theorem kw_5_82 : (Cond.methodLink RX3 108 yX3_perform) ∈ uG := uG_mem (tb_5 (List.mem_of_getElem? (i := 82) (by decide +kernel))) rfl
theorem kw_5_84 : (Cond.instanceMethod yX3_perform) ∈ uG := uG_mem (tb_5 (List.mem_of_getElem? (i := 84) (by decide +kernel))) rfl
theorem kw_5_85 : (Cond.code yX3_perform cX3_perform 4 none) ∈ uG := uG_mem (tb_5 (List.mem_of_getElem? (i := 85) (by decide +kernel))) rfl
theorem kw_5_86 : (Cond.methodLink RX3 142 yX3_push) ∈ uG := uG_mem (tb_5 (List.mem_of_getElem? (i := 86) (by decide +kernel))) rfl
theorem kw_5_88 : (Cond.instanceMethod yX3_push) ∈ uG := uG_mem (tb_5 (List.mem_of_getElem? (i := 88) (by decide +kernel))) rfl
theorem kw_5_89 : (Cond.code yX3_push cX3_push 4 none) ∈ uG := uG_mem (tb_5 (List.mem_of_getElem? (i := 89) (by decide +kernel))) rfl
theorem kw_5_90 : (Cond.methodLink RX3 145 yX3_cellOf) ∈ uG := uG_mem (tb_5 (List.mem_of_getElem? (i := 90) (by decide +kernel))) rfl
theorem kw_5_92 : (Cond.instanceMethod yX3_cellOf) ∈ uG := uG_mem (tb_5 (List.mem_of_getElem? (i := 92) (by decide +kernel))) rfl
theorem kw_5_93 : (Cond.code yX3_cellOf cX3_cellOf 2 (some .int)) ∈ uG := uG_mem (tb_5 (List.mem_of_getElem? (i := 93) (by decide +kernel))) rfl
theorem kw_5_94 : (Cond.methodLink RX3 180 yX3_frameAt) ∈ uG := uG_mem (tb_5 (List.mem_of_getElem? (i := 94) (by decide +kernel))) rfl
theorem kw_5_96 : (Cond.instanceMethod yX3_frameAt) ∈ uG := uG_mem (tb_5 (List.mem_of_getElem? (i := 96) (by decide +kernel))) rfl
theorem kw_5_97 : (Cond.code yX3_frameAt cX3_frameAt 4 (some .int)) ∈ uG := uG_mem (tb_5 (List.mem_of_getElem? (i := 97) (by decide +kernel))) rfl
theorem kw_5_98 : (Cond.methodLink RX3 149 yX3_get) ∈ uG := uG_mem (tb_5 (List.mem_of_getElem? (i := 98) (by decide +kernel))) rfl
theorem kw_5_100 : (Cond.instanceMethod yX3_get) ∈ uG := uG_mem (tb_5 (List.mem_of_getElem? (i := 100) (by decide +kernel))) rfl
theorem kw_5_101 : (Cond.code yX3_get cX3_get 4 none) ∈ uG := uG_mem (tb_5 (List.mem_of_getElem? (i := 101) (by decide +kernel))) rfl
theorem kw_5_102 : (Cond.methodLink RX3 174 yX3_pushCell) ∈ uG := uG_mem (tb_5 (List.mem_of_getElem? (i := 102) (by decide +kernel))) rfl
theorem kw_5_104 : (Cond.instanceMethod yX3_pushCell) ∈ uG := uG_mem (tb_5 (List.mem_of_getElem? (i := 104) (by decide +kernel))) rfl
theorem kw_5_105 : (Cond.code yX3_pushCell cX3_pushCell 2 none) ∈ uG := uG_mem (tb_5 (List.mem_of_getElem? (i := 105) (by decide +kernel))) rfl
theorem kw_5_106 : (Cond.methodLink RX3 152 yX3_pick) ∈ uG := uG_mem (tb_5 (List.mem_of_getElem? (i := 106) (by decide +kernel))) rfl
theorem kw_5_108 : (Cond.instanceMethod yX3_pick) ∈ uG := uG_mem (tb_5 (List.mem_of_getElem? (i := 108) (by decide +kernel))) rfl
theorem kw_5_109 : (Cond.code yX3_pick cX3_pick 6 none) ∈ uG := uG_mem (tb_5 (List.mem_of_getElem? (i := 109) (by decide +kernel))) rfl
theorem kw_5_110 : (Cond.methodLink RX3 189 yX3_pop) ∈ uG := uG_mem (tb_5 (List.mem_of_getElem? (i := 110) (by decide +kernel))) rfl
theorem kw_5_112 : (Cond.instanceMethod yX3_pop) ∈ uG := uG_mem (tb_5 (List.mem_of_getElem? (i := 112) (by decide +kernel))) rfl
theorem kw_5_113 : (Cond.code yX3_pop cX3_pop 2 (some .int)) ∈ uG := uG_mem (tb_5 (List.mem_of_getElem? (i := 113) (by decide +kernel))) rfl
theorem kw_5_114 : (Cond.methodLink RX3 156 yX3_go) ∈ uG := uG_mem (tb_5 (List.mem_of_getElem? (i := 114) (by decide +kernel))) rfl
theorem kw_5_116 : (Cond.instanceMethod yX3_go) ∈ uG := uG_mem (tb_5 (List.mem_of_getElem? (i := 116) (by decide +kernel))) rfl
theorem kw_5_117 : (Cond.code yX3_go cX3_go 4 none) ∈ uG := uG_mem (tb_5 (List.mem_of_getElem? (i := 117) (by decide +kernel))) rfl
theorem kw_5_118 : (Cond.methodLink RX3 159 yX3_goByProc) ∈ uG := uG_mem (tb_5 (List.mem_of_getElem? (i := 118) (by decide +kernel))) rfl
theorem kw_5_120 : (Cond.instanceMethod yX3_goByProc) ∈ uG := uG_mem (tb_5 (List.mem_of_getElem? (i := 120) (by decide +kernel))) rfl
theorem kw_5_121 : (Cond.code yX3_goByProc cX3_goByProc 5 none) ∈ uG := uG_mem (tb_5 (List.mem_of_getElem? (i := 121) (by decide +kernel))) rfl
theorem kw_5_122 : (Cond.methodLink RX3 231 yX1_has) ∈ uG := uG_mem (tb_5 (List.mem_of_getElem? (i := 122) (by decide +kernel))) rfl
theorem kw_5_123 : (Cond.methodLink RX3 258 yX5_argumentsOf) ∈ uG := uG_mem (tb_5 (List.mem_of_getElem? (i := 123) (by decide +kernel))) rfl
theorem kw_5_124 : (Cond.methodLink RX3 162 yX3_refer) ∈ uG := uG_mem (tb_5 (List.mem_of_getElem? (i := 124) (by decide +kernel))) rfl
theorem kw_5_126 : (Cond.instanceMethod yX3_refer) ∈ uG := uG_mem (tb_5 (List.mem_of_getElem? (i := 126) (by decide +kernel))) rfl
theorem kw_5_127 : (Cond.code yX3_refer cX3_refer 4 none) ∈ uG := uG_mem (tb_5 (List.mem_of_getElem? (i := 127) (by decide +kernel))) rfl
theorem kw_5_128 : (Cond.methodLink RX3 165 yX3_later) ∈ uG := uG_mem (tb_5 (List.mem_of_getElem? (i := 128) (by decide +kernel))) rfl
theorem kw_5_130 : (Cond.instanceMethod yX3_later) ∈ uG := uG_mem (tb_5 (List.mem_of_getElem? (i := 130) (by decide +kernel))) rfl
theorem kw_5_131 : (Cond.code yX3_later cX3_later 2 none) ∈ uG := uG_mem (tb_5 (List.mem_of_getElem? (i := 131) (by decide +kernel))) rfl
theorem kw_5_132 : (Cond.methodLink RX3 193 yX3_skip) ∈ uG := uG_mem (tb_5 (List.mem_of_getElem? (i := 132) (by decide +kernel))) rfl
theorem kw_5_134 : (Cond.instanceMethod yX3_skip) ∈ uG := uG_mem (tb_5 (List.mem_of_getElem? (i := 134) (by decide +kernel))) rfl
theorem kw_5_135 : (Cond.code yX3_skip cX3_skip 4 none) ∈ uG := uG_mem (tb_5 (List.mem_of_getElem? (i := 135) (by decide +kernel))) rfl
theorem kw_5_136 : (Cond.methodLink RX3 168 yX3_goBack) ∈ uG := uG_mem (tb_5 (List.mem_of_getElem? (i := 136) (by decide +kernel))) rfl
theorem kw_5_138 : (Cond.instanceMethod yX3_goBack) ∈ uG := uG_mem (tb_5 (List.mem_of_getElem? (i := 138) (by decide +kernel))) rfl
theorem kw_5_139 : (Cond.code yX3_goBack cX3_goBack 2 none) ∈ uG := uG_mem (tb_5 (List.mem_of_getElem? (i := 139) (by decide +kernel))) rfl
theorem kw_5_140 : (Cond.methodLink RX3 171 yX3_copy) ∈ uG := uG_mem (tb_5 (List.mem_of_getElem? (i := 140) (by decide +kernel))) rfl
theorem kw_5_142 : (Cond.instanceMethod yX3_copy) ∈ uG := uG_mem (tb_5 (List.mem_of_getElem? (i := 142) (by decide +kernel))) rfl
theorem kw_5_143 : (Cond.code yX3_copy cX3_copy 6 none) ∈ uG := uG_mem (tb_5 (List.mem_of_getElem? (i := 143) (by decide +kernel))) rfl
theorem kw_5_144 : (Cond.methodLink RX3 183 yX3_put) ∈ uG := uG_mem (tb_5 (List.mem_of_getElem? (i := 144) (by decide +kernel))) rfl
theorem kw_5_146 : (Cond.instanceMethod yX3_put) ∈ uG := uG_mem (tb_5 (List.mem_of_getElem? (i := 146) (by decide +kernel))) rfl
theorem kw_5_147 : (Cond.code yX3_put cX3_put 5 none) ∈ uG := uG_mem (tb_5 (List.mem_of_getElem? (i := 147) (by decide +kernel))) rfl
theorem kw_5_148 : (Cond.methodLink RX3 186 yX3_stow) ∈ uG := uG_mem (tb_5 (List.mem_of_getElem? (i := 148) (by decide +kernel))) rfl
theorem kw_5_150 : (Cond.instanceMethod yX3_stow) ∈ uG := uG_mem (tb_5 (List.mem_of_getElem? (i := 150) (by decide +kernel))) rfl
theorem kw_5_151 : (Cond.code yX3_stow cX3_stow 5 none) ∈ uG := uG_mem (tb_5 (List.mem_of_getElem? (i := 151) (by decide +kernel))) rfl
theorem kw_5_152 : (Cond.methodLink RX3 197 yX3_open) ∈ uG := uG_mem (tb_5 (List.mem_of_getElem? (i := 152) (by decide +kernel))) rfl
theorem kw_5_154 : (Cond.instanceMethod yX3_open) ∈ uG := uG_mem (tb_5 (List.mem_of_getElem? (i := 154) (by decide +kernel))) rfl
theorem kw_5_155 : (Cond.code yX3_open cX3_open 4 none) ∈ uG := uG_mem (tb_5 (List.mem_of_getElem? (i := 155) (by decide +kernel))) rfl
theorem kw_5_156 : (Cond.methodLink RX3 203 yX3_leave) ∈ uG := uG_mem (tb_5 (List.mem_of_getElem? (i := 156) (by decide +kernel))) rfl
theorem kw_5_158 : (Cond.instanceMethod yX3_leave) ∈ uG := uG_mem (tb_5 (List.mem_of_getElem? (i := 158) (by decide +kernel))) rfl
theorem kw_5_159 : (Cond.code yX3_leave cX3_leave 6 none) ∈ uG := uG_mem (tb_5 (List.mem_of_getElem? (i := 159) (by decide +kernel))) rfl
theorem kw_5_160 : (Cond.methodLink RX3 245 yX3_isLoopOf) ∈ uG := uG_mem (tb_5 (List.mem_of_getElem? (i := 160) (by decide +kernel))) rfl
theorem kw_5_162 : (Cond.instanceMethod yX3_isLoopOf) ∈ uG := uG_mem (tb_5 (List.mem_of_getElem? (i := 162) (by decide +kernel))) rfl
theorem kw_5_163 : (Cond.code yX3_isLoopOf cX3_isLoopOf 4 (some .boolean)) ∈ uG := uG_mem (tb_5 (List.mem_of_getElem? (i := 163) (by decide +kernel))) rfl
theorem kw_5_164 : (Cond.methodLink RX3 209 yX6_print) ∈ uG := uG_mem (tb_5 (List.mem_of_getElem? (i := 164) (by decide +kernel))) rfl
theorem kw_5_165 : (Cond.instanceMethod yX6_print) ∈ uG := uG_mem (tb_5 (List.mem_of_getElem? (i := 165) (by decide +kernel))) rfl
theorem kw_5_166 : (Cond.selects RX6 yX6_print yX6_print) ∈ uG := uG_mem (tb_5 (List.mem_of_getElem? (i := 166) (by decide +kernel))) rfl
theorem kw_5_167 : (Cond.code yX6_print cX6_print 3 none) ∈ uG := uG_mem (tb_5 (List.mem_of_getElem? (i := 167) (by decide +kernel))) rfl
theorem kw_5_168 : (Cond.methodLink RX3 212 yX3_reckon) ∈ uG := uG_mem (tb_5 (List.mem_of_getElem? (i := 168) (by decide +kernel))) rfl
theorem kw_5_170 : (Cond.instanceMethod yX3_reckon) ∈ uG := uG_mem (tb_5 (List.mem_of_getElem? (i := 170) (by decide +kernel))) rfl
theorem kw_5_171 : (Cond.code yX3_reckon cX3_reckon 5 none) ∈ uG := uG_mem (tb_5 (List.mem_of_getElem? (i := 171) (by decide +kernel))) rfl
theorem kw_5_172 : (Cond.methodLink RX3 225 yX4_reckon) ∈ uG := uG_mem (tb_5 (List.mem_of_getElem? (i := 172) (by decide +kernel))) rfl
theorem kw_5_173 : (Cond.methodLink RL 81 yL_procedure) ∈ uG := uG_mem (tb_5 (List.mem_of_getElem? (i := 173) (by decide +kernel))) rfl
theorem kw_5_174 : (Cond.static yL_procedure) ∈ uG := uG_mem (tb_5 (List.mem_of_getElem? (i := 174) (by decide +kernel))) rfl
theorem kw_5_175 : (Cond.codeWith yL_procedure cL_procedure 5 (some .int) [(0, 10, 13, 13), (0, 10, 17, 15), (0, 10, 21, 17)]) ∈ uG := uG_mem (tb_5 (List.mem_of_getElem? (i := 175) (by decide +kernel))) rfl
theorem kw_5_176 : (Cond.classLink RL 13 "java/lang/IndexOutOfBoundsException") ∈ uG := uG_mem (tb_5 (List.mem_of_getElem? (i := 176) (by decide +kernel))) rfl
theorem kw_5_177 : (Cond.classLink RL 15 "java/lang/IllegalArgumentException") ∈ uG := uG_mem (tb_5 (List.mem_of_getElem? (i := 177) (by decide +kernel))) rfl
theorem kw_5_178 : (Cond.classLink RL 17 "java/lang/IllegalStateException") ∈ uG := uG_mem (tb_5 (List.mem_of_getElem? (i := 178) (by decide +kernel))) rfl
theorem kw_5_179 : (Cond.methodLink RL 7 yX8_procedure) ∈ uG := uG_mem (tb_5 (List.mem_of_getElem? (i := 179) (by decide +kernel))) rfl
theorem kw_5_180 : (Cond.instanceMethod yX8_procedure) ∈ uG := uG_mem (tb_5 (List.mem_of_getElem? (i := 180) (by decide +kernel))) rfl
theorem kw_5_181 : (Cond.selects RX8 yX8_procedure yX8_procedure) ∈ uG := uG_mem (tb_5 (List.mem_of_getElem? (i := 181) (by decide +kernel))) rfl
theorem kw_5_182 : (Cond.code yX8_procedure cX8_procedure 3 (some .int)) ∈ uG := uG_mem (tb_5 (List.mem_of_getElem? (i := 182) (by decide +kernel))) rfl
theorem kw_5_183 : (Cond.methodLink RX8 106 yX8_needState) ∈ uG := uG_mem (tb_5 (List.mem_of_getElem? (i := 183) (by decide +kernel))) rfl
theorem kw_5_184 : (Cond.static yX8_needState) ∈ uG := uG_mem (tb_5 (List.mem_of_getElem? (i := 184) (by decide +kernel))) rfl
theorem kw_5_185 : (Cond.code yX8_needState cX8_needState 1 none) ∈ uG := uG_mem (tb_5 (List.mem_of_getElem? (i := 185) (by decide +kernel))) rfl
theorem kw_5_186 : (Cond.classLink RX8 371 "java/lang/IllegalStateException") ∈ uG := uG_mem (tb_5 (List.mem_of_getElem? (i := 186) (by decide +kernel))) rfl
theorem kw_5_187 : (Cond.instantiable "java/lang/IllegalStateException" 6) ∈ uG := uG_mem (tb_5 (List.mem_of_getElem? (i := 187) (by decide +kernel))) rfl
theorem kw_5_189 : (Cond.selects "java/lang/IllegalStateException" ⟨"java/lang/Throwable", "fillInStackTrace", "(I)Ljava/lang/Throwable;"⟩ ⟨"java/lang/Throwable", "fillInStackTrace", "(I)Ljava/lang/Throwable;"⟩) ∈ uG := uG_mem (tb_5 (List.mem_of_getElem? (i := 189) (by decide +kernel))) rfl
theorem kw_5_190 : (Cond.lays "java/lang/IllegalStateException" "java/lang/Throwable" "cause" "Ljava/lang/Throwable;") ∈ uG := uG_mem (tb_5 (List.mem_of_getElem? (i := 190) (by decide +kernel))) rfl
theorem kw_5_191 : (Cond.lays "java/lang/IllegalStateException" "java/lang/Throwable" "stackTrace" "[Ljava/lang/StackTraceElement;") ∈ uG := uG_mem (tb_5 (List.mem_of_getElem? (i := 191) (by decide +kernel))) rfl
theorem kw_5_192 : (Cond.lays "java/lang/IllegalStateException" "java/lang/Throwable" "suppressedExceptions" "Ljava/util/List;") ∈ uG := uG_mem (tb_5 (List.mem_of_getElem? (i := 192) (by decide +kernel))) rfl
theorem kw_5_193 : (Cond.lays "java/lang/IllegalStateException" "java/lang/Throwable" "detailMessage" "Ljava/lang/String;") ∈ uG := uG_mem (tb_5 (List.mem_of_getElem? (i := 193) (by decide +kernel))) rfl
theorem kw_5_194 : (Cond.lays "java/lang/IllegalStateException" "java/lang/Throwable" "backtrace" "Ljava/lang/Object;") ∈ uG := uG_mem (tb_5 (List.mem_of_getElem? (i := 194) (by decide +kernel))) rfl
theorem kw_5_196 : (Cond.methodLink RX8 375 ⟨"java/lang/IllegalStateException", "<init>", "(Ljava/lang/String;)V"⟩) ∈ uG := uG_mem (tb_5 (List.mem_of_getElem? (i := 196) (by decide +kernel))) rfl
theorem kw_5_197 : (Cond.instanceMethod ⟨"java/lang/IllegalStateException", "<init>", "(Ljava/lang/String;)V"⟩) ∈ uG := uG_mem (tb_5 (List.mem_of_getElem? (i := 197) (by decide +kernel))) rfl
theorem kw_5_198 : (Cond.code ⟨"java/lang/IllegalStateException", "<init>", "(Ljava/lang/String;)V"⟩ prog_15_method_2_code 2 none) ∈ uG := uG_mem (tb_5 (List.mem_of_getElem? (i := 198) (by decide +kernel))) rfl
theorem kw_5_199 : (Cond.methodLink "java/lang/IllegalStateException" 7 ⟨"java/lang/RuntimeException", "<init>", "(Ljava/lang/String;)V"⟩) ∈ uG := uG_mem (tb_5 (List.mem_of_getElem? (i := 199) (by decide +kernel))) rfl
theorem kw_5_200 : (Cond.lays "java/lang/IllegalStateException" "java/lang/Throwable" "depth" "I") ∈ uG := uG_mem (tb_5 (List.mem_of_getElem? (i := 200) (by decide +kernel))) rfl
theorem kw_5_202 : (Cond.methodLink RX8 109 yX1_addProcedure) ∈ uG := uG_mem (tb_5 (List.mem_of_getElem? (i := 202) (by decide +kernel))) rfl
theorem kw_5_203 : (Cond.instanceMethod yX1_addProcedure) ∈ uG := uG_mem (tb_5 (List.mem_of_getElem? (i := 203) (by decide +kernel))) rfl
theorem kw_5_204 : (Cond.selects RX1 yX1_addProcedure yX1_addProcedure) ∈ uG := uG_mem (tb_5 (List.mem_of_getElem? (i := 204) (by decide +kernel))) rfl
theorem kw_5_205 : (Cond.code yX1_addProcedure cX1_addProcedure 4 (some .int)) ∈ uG := uG_mem (tb_5 (List.mem_of_getElem? (i := 205) (by decide +kernel))) rfl
theorem kw_5_206 : (Cond.methodLink RX1 59 yX1_declare) ∈ uG := uG_mem (tb_5 (List.mem_of_getElem? (i := 206) (by decide +kernel))) rfl
theorem kw_5_208 : (Cond.instanceMethod yX1_declare) ∈ uG := uG_mem (tb_5 (List.mem_of_getElem? (i := 208) (by decide +kernel))) rfl
theorem kw_5_209 : (Cond.code yX1_declare cX1_declare 6 none) ∈ uG := uG_mem (tb_5 (List.mem_of_getElem? (i := 209) (by decide +kernel))) rfl
theorem kw_5_210 : (Cond.methodLink RL 90 yL_parameter) ∈ uG := uG_mem (tb_5 (List.mem_of_getElem? (i := 210) (by decide +kernel))) rfl
theorem kw_5_211 : (Cond.static yL_parameter) ∈ uG := uG_mem (tb_5 (List.mem_of_getElem? (i := 211) (by decide +kernel))) rfl
theorem kw_5_212 : (Cond.codeWith yL_parameter cL_parameter 6 (some .int) [(0, 12, 15, 13), (0, 12, 19, 15), (0, 12, 23, 17)]) ∈ uG := uG_mem (tb_5 (List.mem_of_getElem? (i := 212) (by decide +kernel))) rfl
theorem kw_5_213 : (Cond.methodLink RL 19 yX8_parameter) ∈ uG := uG_mem (tb_5 (List.mem_of_getElem? (i := 213) (by decide +kernel))) rfl
theorem kw_5_214 : (Cond.instanceMethod yX8_parameter) ∈ uG := uG_mem (tb_5 (List.mem_of_getElem? (i := 214) (by decide +kernel))) rfl
theorem kw_5_215 : (Cond.selects RX8 yX8_parameter yX8_parameter) ∈ uG := uG_mem (tb_5 (List.mem_of_getElem? (i := 215) (by decide +kernel))) rfl
theorem kw_5_216 : (Cond.code yX8_parameter cX8_parameter 4 (some .int)) ∈ uG := uG_mem (tb_5 (List.mem_of_getElem? (i := 216) (by decide +kernel))) rfl
theorem kw_5_217 : (Cond.methodLink RX8 113 yX1_takesParameter) ∈ uG := uG_mem (tb_5 (List.mem_of_getElem? (i := 217) (by decide +kernel))) rfl
theorem kw_5_218 : (Cond.instanceMethod yX1_takesParameter) ∈ uG := uG_mem (tb_5 (List.mem_of_getElem? (i := 218) (by decide +kernel))) rfl
theorem kw_5_219 : (Cond.selects RX1 yX1_takesParameter yX1_takesParameter) ∈ uG := uG_mem (tb_5 (List.mem_of_getElem? (i := 219) (by decide +kernel))) rfl
theorem kw_5_220 : (Cond.code yX1_takesParameter cX1_takesParameter 3 (some .boolean)) ∈ uG := uG_mem (tb_5 (List.mem_of_getElem? (i := 220) (by decide +kernel))) rfl
theorem kw_5_221 : (Cond.methodLink RX8 116 yX1_addParameter) ∈ uG := uG_mem (tb_5 (List.mem_of_getElem? (i := 221) (by decide +kernel))) rfl
theorem kw_5_222 : (Cond.instanceMethod yX1_addParameter) ∈ uG := uG_mem (tb_5 (List.mem_of_getElem? (i := 222) (by decide +kernel))) rfl
theorem kw_5_223 : (Cond.selects RX1 yX1_addParameter yX1_addParameter) ∈ uG := uG_mem (tb_5 (List.mem_of_getElem? (i := 223) (by decide +kernel))) rfl
theorem kw_5_224 : (Cond.code yX1_addParameter cX1_addParameter 4 (some .int)) ∈ uG := uG_mem (tb_5 (List.mem_of_getElem? (i := 224) (by decide +kernel))) rfl
theorem kw_5_225 : (Cond.methodLink RX1 63 yX1_declarePlace) ∈ uG := uG_mem (tb_5 (List.mem_of_getElem? (i := 225) (by decide +kernel))) rfl
theorem kw_5_227 : (Cond.instanceMethod yX1_declarePlace) ∈ uG := uG_mem (tb_5 (List.mem_of_getElem? (i := 227) (by decide +kernel))) rfl
theorem kw_5_228 : (Cond.code yX1_declarePlace cX1_declarePlace 6 (some .int)) ∈ uG := uG_mem (tb_5 (List.mem_of_getElem? (i := 228) (by decide +kernel))) rfl
theorem kw_5_229 : (Cond.methodLink RL 94 yL_variable) ∈ uG := uG_mem (tb_5 (List.mem_of_getElem? (i := 229) (by decide +kernel))) rfl
theorem kw_5_230 : (Cond.static yL_variable) ∈ uG := uG_mem (tb_5 (List.mem_of_getElem? (i := 230) (by decide +kernel))) rfl
theorem kw_5_231 : (Cond.codeWith yL_variable cL_variable 7 (some .int) [(0, 14, 17, 13), (0, 14, 21, 15), (0, 14, 25, 17)]) ∈ uG := uG_mem (tb_5 (List.mem_of_getElem? (i := 231) (by decide +kernel))) rfl
theorem kw_5_232 : (Cond.methodLink RL 23 yX8_variable) ∈ uG := uG_mem (tb_5 (List.mem_of_getElem? (i := 232) (by decide +kernel))) rfl
theorem kw_5_233 : (Cond.instanceMethod yX8_variable) ∈ uG := uG_mem (tb_5 (List.mem_of_getElem? (i := 233) (by decide +kernel))) rfl
theorem kw_5_234 : (Cond.selects RX8 yX8_variable yX8_variable) ∈ uG := uG_mem (tb_5 (List.mem_of_getElem? (i := 234) (by decide +kernel))) rfl
theorem kw_5_235 : (Cond.code yX8_variable cX8_variable 5 (some .int)) ∈ uG := uG_mem (tb_5 (List.mem_of_getElem? (i := 235) (by decide +kernel))) rfl
theorem kw_5_236 : (Cond.methodLink RX8 120 yX8_isSizeOf) ∈ uG := uG_mem (tb_5 (List.mem_of_getElem? (i := 236) (by decide +kernel))) rfl
theorem kw_5_237 : (Cond.static yX8_isSizeOf) ∈ uG := uG_mem (tb_5 (List.mem_of_getElem? (i := 237) (by decide +kernel))) rfl
theorem kw_5_238 : (Cond.code yX8_isSizeOf cX8_isSizeOf 2 (some .boolean)) ∈ uG := uG_mem (tb_5 (List.mem_of_getElem? (i := 238) (by decide +kernel))) rfl
theorem kw_5_239 : (Cond.methodLink RX8 123 yX1_takesVariable) ∈ uG := uG_mem (tb_5 (List.mem_of_getElem? (i := 239) (by decide +kernel))) rfl
theorem kw_6_0 : (Cond.instanceMethod yX1_takesVariable) ∈ uG := uG_mem (tb_6 (List.mem_of_getElem? (i := 0) (by decide +kernel))) rfl
theorem kw_6_1 : (Cond.selects RX1 yX1_takesVariable yX1_takesVariable) ∈ uG := uG_mem (tb_6 (List.mem_of_getElem? (i := 1) (by decide +kernel))) rfl
theorem kw_6_2 : (Cond.code yX1_takesVariable cX1_takesVariable 3 (some .boolean)) ∈ uG := uG_mem (tb_6 (List.mem_of_getElem? (i := 2) (by decide +kernel))) rfl
theorem kw_6_3 : (Cond.methodLink RX8 126 yX1_addVariable) ∈ uG := uG_mem (tb_6 (List.mem_of_getElem? (i := 3) (by decide +kernel))) rfl
theorem kw_6_4 : (Cond.instanceMethod yX1_addVariable) ∈ uG := uG_mem (tb_6 (List.mem_of_getElem? (i := 4) (by decide +kernel))) rfl
theorem kw_6_5 : (Cond.selects RX1 yX1_addVariable yX1_addVariable) ∈ uG := uG_mem (tb_6 (List.mem_of_getElem? (i := 5) (by decide +kernel))) rfl
theorem kw_6_6 : (Cond.code yX1_addVariable cX1_addVariable 5 (some .int)) ∈ uG := uG_mem (tb_6 (List.mem_of_getElem? (i := 6) (by decide +kernel))) rfl
theorem kw_6_7 : (Cond.methodLink RL 98 yL_ofName) ∈ uG := uG_mem (tb_6 (List.mem_of_getElem? (i := 7) (by decide +kernel))) rfl
theorem kw_6_8 : (Cond.static yL_ofName) ∈ uG := uG_mem (tb_6 (List.mem_of_getElem? (i := 8) (by decide +kernel))) rfl
theorem kw_6_9 : (Cond.codeWith yL_ofName cL_ofName 6 (some .int) [(0, 12, 15, 13), (0, 12, 19, 15)]) ∈ uG := uG_mem (tb_6 (List.mem_of_getElem? (i := 9) (by decide +kernel))) rfl
theorem kw_6_10 : (Cond.methodLink RL 27 yX8_ofName) ∈ uG := uG_mem (tb_6 (List.mem_of_getElem? (i := 10) (by decide +kernel))) rfl
theorem kw_6_11 : (Cond.instanceMethod yX8_ofName) ∈ uG := uG_mem (tb_6 (List.mem_of_getElem? (i := 11) (by decide +kernel))) rfl
theorem kw_6_12 : (Cond.selects RX8 yX8_ofName yX8_ofName) ∈ uG := uG_mem (tb_6 (List.mem_of_getElem? (i := 12) (by decide +kernel))) rfl
theorem kw_6_13 : (Cond.code yX8_ofName cX8_ofName 6 (some .int)) ∈ uG := uG_mem (tb_6 (List.mem_of_getElem? (i := 13) (by decide +kernel))) rfl
theorem kw_6_14 : (Cond.methodLink RX8 130 yX1_declarer) ∈ uG := uG_mem (tb_6 (List.mem_of_getElem? (i := 14) (by decide +kernel))) rfl
theorem kw_6_15 : (Cond.methodLink RX8 133 yX1_hopsTo) ∈ uG := uG_mem (tb_6 (List.mem_of_getElem? (i := 15) (by decide +kernel))) rfl
theorem kw_6_16 : (Cond.methodLink RL 101 yL_ofProcedure) ∈ uG := uG_mem (tb_6 (List.mem_of_getElem? (i := 16) (by decide +kernel))) rfl
theorem kw_6_17 : (Cond.static yL_ofProcedure) ∈ uG := uG_mem (tb_6 (List.mem_of_getElem? (i := 17) (by decide +kernel))) rfl
theorem kw_6_18 : (Cond.codeWith yL_ofProcedure cL_ofProcedure 5 (some .int) [(0, 10, 13, 13), (0, 10, 17, 15)]) ∈ uG := uG_mem (tb_6 (List.mem_of_getElem? (i := 18) (by decide +kernel))) rfl
theorem kw_6_19 : (Cond.methodLink RL 30 yX8_ofProcedure) ∈ uG := uG_mem (tb_6 (List.mem_of_getElem? (i := 19) (by decide +kernel))) rfl
theorem kw_6_20 : (Cond.methodLink RL 104 yL_node) ∈ uG := uG_mem (tb_6 (List.mem_of_getElem? (i := 20) (by decide +kernel))) rfl
theorem kw_6_21 : (Cond.static yL_node) ∈ uG := uG_mem (tb_6 (List.mem_of_getElem? (i := 21) (by decide +kernel))) rfl
theorem kw_6_22 : (Cond.codeWith yL_node cL_node 7 (some .int) [(0, 14, 17, 15), (0, 14, 21, 17)]) ∈ uG := uG_mem (tb_6 (List.mem_of_getElem? (i := 22) (by decide +kernel))) rfl
theorem kw_6_23 : (Cond.methodLink RL 33 yX8_node) ∈ uG := uG_mem (tb_6 (List.mem_of_getElem? (i := 23) (by decide +kernel))) rfl
theorem kw_6_24 : (Cond.instanceMethod yX8_node) ∈ uG := uG_mem (tb_6 (List.mem_of_getElem? (i := 24) (by decide +kernel))) rfl
theorem kw_6_25 : (Cond.selects RX8 yX8_node yX8_node) ∈ uG := uG_mem (tb_6 (List.mem_of_getElem? (i := 25) (by decide +kernel))) rfl
theorem kw_6_26 : (Cond.code yX8_node cX8_node 5 (some .int)) ∈ uG := uG_mem (tb_6 (List.mem_of_getElem? (i := 26) (by decide +kernel))) rfl
theorem kw_6_27 : (Cond.methodLink RX8 175 yX5_suits) ∈ uG := uG_mem (tb_6 (List.mem_of_getElem? (i := 27) (by decide +kernel))) rfl
theorem kw_6_28 : (Cond.instanceMethod yX5_suits) ∈ uG := uG_mem (tb_6 (List.mem_of_getElem? (i := 28) (by decide +kernel))) rfl
theorem kw_6_29 : (Cond.selects RX5 yX5_suits yX5_suits) ∈ uG := uG_mem (tb_6 (List.mem_of_getElem? (i := 29) (by decide +kernel))) rfl
theorem kw_6_30 : (Cond.code yX5_suits cX5_suits 5 (some .boolean)) ∈ uG := uG_mem (tb_6 (List.mem_of_getElem? (i := 30) (by decide +kernel))) rfl
theorem kw_6_31 : (Cond.methodLink RX5 43 yX5_fills) ∈ uG := uG_mem (tb_6 (List.mem_of_getElem? (i := 31) (by decide +kernel))) rfl
theorem kw_6_33 : (Cond.instanceMethod yX5_fills) ∈ uG := uG_mem (tb_6 (List.mem_of_getElem? (i := 33) (by decide +kernel))) rfl
theorem kw_6_34 : (Cond.code yX5_fills cX5_fills 3 (some .boolean)) ∈ uG := uG_mem (tb_6 (List.mem_of_getElem? (i := 34) (by decide +kernel))) rfl
theorem kw_6_36 : (Cond.methodLink RX5 55 yX5_isPartFor) ∈ uG := uG_mem (tb_6 (List.mem_of_getElem? (i := 36) (by decide +kernel))) rfl
theorem kw_6_38 : (Cond.instanceMethod yX5_isPartFor) ∈ uG := uG_mem (tb_6 (List.mem_of_getElem? (i := 38) (by decide +kernel))) rfl
theorem kw_6_39 : (Cond.code yX5_isPartFor cX5_isPartFor 3 (some .boolean)) ∈ uG := uG_mem (tb_6 (List.mem_of_getElem? (i := 39) (by decide +kernel))) rfl
theorem kw_6_40 : (Cond.methodLink RX5 58 yX5_has) ∈ uG := uG_mem (tb_6 (List.mem_of_getElem? (i := 40) (by decide +kernel))) rfl
theorem kw_6_41 : (Cond.methodLink RX5 61 yX5_isFree) ∈ uG := uG_mem (tb_6 (List.mem_of_getElem? (i := 41) (by decide +kernel))) rfl
theorem kw_6_42 : (Cond.instanceMethod yX5_isFree) ∈ uG := uG_mem (tb_6 (List.mem_of_getElem? (i := 42) (by decide +kernel))) rfl
theorem kw_6_43 : (Cond.selects RX5 yX5_isFree yX5_isFree) ∈ uG := uG_mem (tb_6 (List.mem_of_getElem? (i := 43) (by decide +kernel))) rfl
theorem kw_6_44 : (Cond.code yX5_isFree cX5_isFree 2 (some .boolean)) ∈ uG := uG_mem (tb_6 (List.mem_of_getElem? (i := 44) (by decide +kernel))) rfl
theorem kw_6_45 : (Cond.methodLink RX5 64 yX5_isExpression) ∈ uG := uG_mem (tb_6 (List.mem_of_getElem? (i := 45) (by decide +kernel))) rfl
theorem kw_6_46 : (Cond.methodLink RX5 67 yX5_isStatement) ∈ uG := uG_mem (tb_6 (List.mem_of_getElem? (i := 46) (by decide +kernel))) rfl
theorem kw_6_47 : (Cond.instanceMethod yX5_isStatement) ∈ uG := uG_mem (tb_6 (List.mem_of_getElem? (i := 47) (by decide +kernel))) rfl
theorem kw_6_48 : (Cond.selects RX5 yX5_isStatement yX5_isStatement) ∈ uG := uG_mem (tb_6 (List.mem_of_getElem? (i := 48) (by decide +kernel))) rfl
theorem kw_6_49 : (Cond.code yX5_isStatement cX5_isStatement 2 (some .boolean)) ∈ uG := uG_mem (tb_6 (List.mem_of_getElem? (i := 49) (by decide +kernel))) rfl
theorem kw_6_50 : (Cond.methodLink RX5 47 yX5_isSamePart) ∈ uG := uG_mem (tb_6 (List.mem_of_getElem? (i := 50) (by decide +kernel))) rfl
theorem kw_6_51 : (Cond.static yX5_isSamePart) ∈ uG := uG_mem (tb_6 (List.mem_of_getElem? (i := 51) (by decide +kernel))) rfl
theorem kw_6_52 : (Cond.code yX5_isSamePart cX5_isSamePart 4 (some .boolean)) ∈ uG := uG_mem (tb_6 (List.mem_of_getElem? (i := 52) (by decide +kernel))) rfl
theorem kw_6_53 : (Cond.methodLink RX8 180 yX5_add) ∈ uG := uG_mem (tb_6 (List.mem_of_getElem? (i := 53) (by decide +kernel))) rfl
theorem kw_6_54 : (Cond.instanceMethod yX5_add) ∈ uG := uG_mem (tb_6 (List.mem_of_getElem? (i := 54) (by decide +kernel))) rfl
theorem kw_6_55 : (Cond.selects RX5 yX5_add yX5_add) ∈ uG := uG_mem (tb_6 (List.mem_of_getElem? (i := 55) (by decide +kernel))) rfl
theorem kw_6_56 : (Cond.code yX5_add cX5_add 6 (some .int)) ∈ uG := uG_mem (tb_6 (List.mem_of_getElem? (i := 56) (by decide +kernel))) rfl
theorem kw_6_57 : (Cond.methodLink RX5 70 yX5_partA) ∈ uG := uG_mem (tb_6 (List.mem_of_getElem? (i := 57) (by decide +kernel))) rfl
theorem kw_6_58 : (Cond.methodLink RX5 74 yX5_claim) ∈ uG := uG_mem (tb_6 (List.mem_of_getElem? (i := 58) (by decide +kernel))) rfl
theorem kw_6_60 : (Cond.instanceMethod yX5_claim) ∈ uG := uG_mem (tb_6 (List.mem_of_getElem? (i := 60) (by decide +kernel))) rfl
theorem kw_6_61 : (Cond.code yX5_claim cX5_claim 3 none) ∈ uG := uG_mem (tb_6 (List.mem_of_getElem? (i := 61) (by decide +kernel))) rfl
theorem kw_6_62 : (Cond.methodLink RX5 78 yX5_partB) ∈ uG := uG_mem (tb_6 (List.mem_of_getElem? (i := 62) (by decide +kernel))) rfl
theorem kw_6_63 : (Cond.methodLink RX5 81 yX5_partC) ∈ uG := uG_mem (tb_6 (List.mem_of_getElem? (i := 63) (by decide +kernel))) rfl
theorem kw_6_64 : (Cond.methodLink RL 107 yL_body) ∈ uG := uG_mem (tb_6 (List.mem_of_getElem? (i := 64) (by decide +kernel))) rfl
theorem kw_6_65 : (Cond.static yL_body) ∈ uG := uG_mem (tb_6 (List.mem_of_getElem? (i := 65) (by decide +kernel))) rfl
theorem kw_6_66 : (Cond.codeWith yL_body cL_body 5 (some .int) [(0, 10, 13, 13), (0, 10, 17, 15), (0, 10, 21, 17)]) ∈ uG := uG_mem (tb_6 (List.mem_of_getElem? (i := 66) (by decide +kernel))) rfl
theorem kw_6_67 : (Cond.methodLink RL 36 yX8_body) ∈ uG := uG_mem (tb_6 (List.mem_of_getElem? (i := 67) (by decide +kernel))) rfl
theorem kw_6_68 : (Cond.instanceMethod yX8_body) ∈ uG := uG_mem (tb_6 (List.mem_of_getElem? (i := 68) (by decide +kernel))) rfl
theorem kw_6_69 : (Cond.selects RX8 yX8_body yX8_body) ∈ uG := uG_mem (tb_6 (List.mem_of_getElem? (i := 69) (by decide +kernel))) rfl
theorem kw_6_70 : (Cond.code yX8_body cX8_body 4 (some .int)) ∈ uG := uG_mem (tb_6 (List.mem_of_getElem? (i := 70) (by decide +kernel))) rfl
theorem kw_6_71 : (Cond.methodLink RX8 186 yX5_isStatement) ∈ uG := uG_mem (tb_6 (List.mem_of_getElem? (i := 71) (by decide +kernel))) rfl
theorem kw_6_72 : (Cond.methodLink RX8 189 yX5_isFree) ∈ uG := uG_mem (tb_6 (List.mem_of_getElem? (i := 72) (by decide +kernel))) rfl
theorem kw_6_73 : (Cond.methodLink RL 110 yL_ofNode) ∈ uG := uG_mem (tb_6 (List.mem_of_getElem? (i := 73) (by decide +kernel))) rfl
theorem kw_6_74 : (Cond.static yL_ofNode) ∈ uG := uG_mem (tb_6 (List.mem_of_getElem? (i := 74) (by decide +kernel))) rfl
theorem kw_6_75 : (Cond.codeWith yL_ofNode cL_ofNode 5 (some .int) [(0, 10, 13, 13), (0, 10, 17, 15)]) ∈ uG := uG_mem (tb_6 (List.mem_of_getElem? (i := 75) (by decide +kernel))) rfl
theorem kw_6_76 : (Cond.methodLink RL 39 yX8_ofNode) ∈ uG := uG_mem (tb_6 (List.mem_of_getElem? (i := 76) (by decide +kernel))) rfl
theorem kw_6_77 : (Cond.methodLink RL 113 yL_fault) ∈ uG := uG_mem (tb_6 (List.mem_of_getElem? (i := 77) (by decide +kernel))) rfl
theorem kw_6_78 : (Cond.static yL_fault) ∈ uG := uG_mem (tb_6 (List.mem_of_getElem? (i := 78) (by decide +kernel))) rfl
theorem kw_6_79 : (Cond.codeWith yL_fault cL_fault 5 (some .int) [(0, 10, 13, 13), (0, 10, 17, 15)]) ∈ uG := uG_mem (tb_6 (List.mem_of_getElem? (i := 79) (by decide +kernel))) rfl
theorem kw_6_80 : (Cond.methodLink RL 42 yX8_fault) ∈ uG := uG_mem (tb_6 (List.mem_of_getElem? (i := 80) (by decide +kernel))) rfl
theorem kw_6_81 : (Cond.methodLink RL 116 yL_passes) ∈ uG := uG_mem (tb_6 (List.mem_of_getElem? (i := 81) (by decide +kernel))) rfl
theorem kw_6_82 : (Cond.static yL_passes) ∈ uG := uG_mem (tb_6 (List.mem_of_getElem? (i := 82) (by decide +kernel))) rfl
theorem kw_6_83 : (Cond.codeWith yL_passes cL_passes 4 (some .int) [(0, 9, 12, 15)]) ∈ uG := uG_mem (tb_6 (List.mem_of_getElem? (i := 83) (by decide +kernel))) rfl
theorem kw_6_84 : (Cond.methodLink RL 45 yX8_passes) ∈ uG := uG_mem (tb_6 (List.mem_of_getElem? (i := 84) (by decide +kernel))) rfl
theorem kw_6_85 : (Cond.instanceMethod yX8_passes) ∈ uG := uG_mem (tb_6 (List.mem_of_getElem? (i := 85) (by decide +kernel))) rfl
theorem kw_6_86 : (Cond.selects RX8 yX8_passes yX8_passes) ∈ uG := uG_mem (tb_6 (List.mem_of_getElem? (i := 86) (by decide +kernel))) rfl
theorem kw_6_87 : (Cond.code yX8_passes cX8_passes 3 (some .int)) ∈ uG := uG_mem (tb_6 (List.mem_of_getElem? (i := 87) (by decide +kernel))) rfl
theorem kw_6_88 : (Cond.methodLink RX8 232 yX8_isPasses) ∈ uG := uG_mem (tb_6 (List.mem_of_getElem? (i := 88) (by decide +kernel))) rfl
theorem kw_6_89 : (Cond.static yX8_isPasses) ∈ uG := uG_mem (tb_6 (List.mem_of_getElem? (i := 89) (by decide +kernel))) rfl
theorem kw_6_90 : (Cond.code yX8_isPasses cX8_isPasses 1 (some .boolean)) ∈ uG := uG_mem (tb_6 (List.mem_of_getElem? (i := 90) (by decide +kernel))) rfl
theorem kw_6_91 : (Cond.methodLink RL 120 yL_code) ∈ uG := uG_mem (tb_6 (List.mem_of_getElem? (i := 91) (by decide +kernel))) rfl
theorem kw_6_92 : (Cond.static yL_code) ∈ uG := uG_mem (tb_6 (List.mem_of_getElem? (i := 92) (by decide +kernel))) rfl
theorem kw_6_93 : (Cond.codeWith yL_code cL_code 6 (some .int) [(0, 12, 15, 13), (0, 12, 19, 15)]) ∈ uG := uG_mem (tb_6 (List.mem_of_getElem? (i := 93) (by decide +kernel))) rfl
theorem kw_6_94 : (Cond.methodLink RL 49 yX8_code) ∈ uG := uG_mem (tb_6 (List.mem_of_getElem? (i := 94) (by decide +kernel))) rfl
theorem kw_6_95 : (Cond.methodLink RL 123 yL_limits) ∈ uG := uG_mem (tb_6 (List.mem_of_getElem? (i := 95) (by decide +kernel))) rfl
theorem kw_6_96 : (Cond.static yL_limits) ∈ uG := uG_mem (tb_6 (List.mem_of_getElem? (i := 96) (by decide +kernel))) rfl
theorem kw_6_97 : (Cond.codeWith yL_limits cL_limits 5 (some .int) [(0, 10, 13, 15)]) ∈ uG := uG_mem (tb_6 (List.mem_of_getElem? (i := 97) (by decide +kernel))) rfl
theorem kw_6_98 : (Cond.methodLink RL 52 yX8_limits) ∈ uG := uG_mem (tb_6 (List.mem_of_getElem? (i := 98) (by decide +kernel))) rfl
theorem kw_6_99 : (Cond.instanceMethod yX8_limits) ∈ uG := uG_mem (tb_6 (List.mem_of_getElem? (i := 99) (by decide +kernel))) rfl
theorem kw_6_100 : (Cond.selects RX8 yX8_limits yX8_limits) ∈ uG := uG_mem (tb_6 (List.mem_of_getElem? (i := 100) (by decide +kernel))) rfl
theorem kw_6_101 : (Cond.code yX8_limits cX8_limits 4 (some .int)) ∈ uG := uG_mem (tb_6 (List.mem_of_getElem? (i := 101) (by decide +kernel))) rfl
theorem kw_6_102 : (Cond.methodLink RX8 250 yX8_areLimits) ∈ uG := uG_mem (tb_6 (List.mem_of_getElem? (i := 102) (by decide +kernel))) rfl
theorem kw_6_103 : (Cond.static yX8_areLimits) ∈ uG := uG_mem (tb_6 (List.mem_of_getElem? (i := 103) (by decide +kernel))) rfl
theorem kw_6_104 : (Cond.code yX8_areLimits cX8_areLimits 2 (some .boolean)) ∈ uG := uG_mem (tb_6 (List.mem_of_getElem? (i := 104) (by decide +kernel))) rfl
theorem kw_6_105 : (Cond.methodLink RL 126 yL_run) ∈ uG := uG_mem (tb_6 (List.mem_of_getElem? (i := 105) (by decide +kernel))) rfl
theorem kw_6_106 : (Cond.static yL_run) ∈ uG := uG_mem (tb_6 (List.mem_of_getElem? (i := 106) (by decide +kernel))) rfl
theorem kw_6_107 : (Cond.codeWith yL_run cL_run 3 (some .int) [(0, 8, 11, 17)]) ∈ uG := uG_mem (tb_6 (List.mem_of_getElem? (i := 107) (by decide +kernel))) rfl
theorem kw_6_108 : (Cond.methodLink RL 55 yX8_run) ∈ uG := uG_mem (tb_6 (List.mem_of_getElem? (i := 108) (by decide +kernel))) rfl
theorem kw_6_109 : (Cond.instanceMethod yX8_run) ∈ uG := uG_mem (tb_6 (List.mem_of_getElem? (i := 109) (by decide +kernel))) rfl
theorem kw_6_110 : (Cond.selects RX8 yX8_run yX8_run) ∈ uG := uG_mem (tb_6 (List.mem_of_getElem? (i := 110) (by decide +kernel))) rfl
theorem kw_6_111 : (Cond.code yX8_run cX8_run 1 (some .int)) ∈ uG := uG_mem (tb_6 (List.mem_of_getElem? (i := 111) (by decide +kernel))) rfl
theorem kw_6_112 : (Cond.methodLink RL 130 yL_ofRun) ∈ uG := uG_mem (tb_6 (List.mem_of_getElem? (i := 112) (by decide +kernel))) rfl
theorem kw_6_113 : (Cond.static yL_ofRun) ∈ uG := uG_mem (tb_6 (List.mem_of_getElem? (i := 113) (by decide +kernel))) rfl
theorem kw_6_114 : (Cond.codeWith yL_ofRun cL_ofRun 4 (some .int) [(0, 9, 12, 15)]) ∈ uG := uG_mem (tb_6 (List.mem_of_getElem? (i := 114) (by decide +kernel))) rfl
theorem kw_6_115 : (Cond.methodLink RL 59 yX8_ofRun) ∈ uG := uG_mem (tb_6 (List.mem_of_getElem? (i := 115) (by decide +kernel))) rfl
theorem kw_6_116 : (Cond.methodLink RL 133 yL_printed) ∈ uG := uG_mem (tb_6 (List.mem_of_getElem? (i := 116) (by decide +kernel))) rfl
theorem kw_6_117 : (Cond.static yL_printed) ∈ uG := uG_mem (tb_6 (List.mem_of_getElem? (i := 117) (by decide +kernel))) rfl
theorem kw_6_118 : (Cond.codeWith yL_printed cL_printed 5 (some .int) [(0, 10, 13, 13), (0, 10, 17, 15)]) ∈ uG := uG_mem (tb_6 (List.mem_of_getElem? (i := 118) (by decide +kernel))) rfl
theorem kw_6_119 : (Cond.methodLink RL 62 yX8_printed) ∈ uG := uG_mem (tb_6 (List.mem_of_getElem? (i := 119) (by decide +kernel))) rfl
theorem kw_6_120 : (Cond.methodLink RL 141 yL_many) ∈ uG := uG_mem (tb_6 (List.mem_of_getElem? (i := 120) (by decide +kernel))) rfl
theorem kw_6_121 : (Cond.static yL_many) ∈ uG := uG_mem (tb_6 (List.mem_of_getElem? (i := 121) (by decide +kernel))) rfl
theorem kw_6_122 : (Cond.codeWith yL_many cL_many 4 (some .int) [(0, 9, 12, 15)]) ∈ uG := uG_mem (tb_6 (List.mem_of_getElem? (i := 122) (by decide +kernel))) rfl
theorem kw_6_123 : (Cond.methodLink RL 65 yX8_many) ∈ uG := uG_mem (tb_6 (List.mem_of_getElem? (i := 123) (by decide +kernel))) rfl
theorem kw_6_124 : (Cond.methodLink RL 144 yL_wouldRun) ∈ uG := uG_mem (tb_6 (List.mem_of_getElem? (i := 124) (by decide +kernel))) rfl
theorem kw_6_125 : (Cond.static yL_wouldRun) ∈ uG := uG_mem (tb_6 (List.mem_of_getElem? (i := 125) (by decide +kernel))) rfl
theorem kw_6_126 : (Cond.codeWith yL_wouldRun cL_wouldRun 6 (some .int) [(0, 12, 15, 15), (0, 12, 19, 17)]) ∈ uG := uG_mem (tb_6 (List.mem_of_getElem? (i := 126) (by decide +kernel))) rfl
theorem kw_6_127 : (Cond.methodLink RL 68 yX8_wouldRun) ∈ uG := uG_mem (tb_6 (List.mem_of_getElem? (i := 127) (by decide +kernel))) rfl
theorem kw_6_128 : (Cond.instanceMethod yX8_wouldRun) ∈ uG := uG_mem (tb_6 (List.mem_of_getElem? (i := 128) (by decide +kernel))) rfl
theorem kw_6_129 : (Cond.selects RX8 yX8_wouldRun yX8_wouldRun) ∈ uG := uG_mem (tb_6 (List.mem_of_getElem? (i := 129) (by decide +kernel))) rfl
theorem kw_6_130 : (Cond.code yX8_wouldRun cX8_wouldRun 4 (some .int)) ∈ uG := uG_mem (tb_6 (List.mem_of_getElem? (i := 130) (by decide +kernel))) rfl
theorem kw_6_131 : (Cond.methodLink RL 147 yL_with) ∈ uG := uG_mem (tb_6 (List.mem_of_getElem? (i := 131) (by decide +kernel))) rfl
theorem kw_6_132 : (Cond.static yL_with) ∈ uG := uG_mem (tb_6 (List.mem_of_getElem? (i := 132) (by decide +kernel))) rfl
theorem kw_6_133 : (Cond.codeWith yL_with cL_with 5 (some .int) [(0, 10, 13, 15), (0, 10, 17, 17)]) ∈ uG := uG_mem (tb_6 (List.mem_of_getElem? (i := 133) (by decide +kernel))) rfl
theorem kw_6_134 : (Cond.methodLink RL 71 yX8_with) ∈ uG := uG_mem (tb_6 (List.mem_of_getElem? (i := 134) (by decide +kernel))) rfl
theorem kw_6_135 : (Cond.instanceMethod yX8_with) ∈ uG := uG_mem (tb_6 (List.mem_of_getElem? (i := 135) (by decide +kernel))) rfl
theorem kw_6_136 : (Cond.selects RX8 yX8_with yX8_with) ∈ uG := uG_mem (tb_6 (List.mem_of_getElem? (i := 136) (by decide +kernel))) rfl
theorem kw_6_137 : (Cond.code yX8_with cX8_with 3 (some .int)) ∈ uG := uG_mem (tb_6 (List.mem_of_getElem? (i := 137) (by decide +kernel))) rfl
theorem kw_6_138 : (Cond.methodLink RL 150 yL_hiddenBy) ∈ uG := uG_mem (tb_6 (List.mem_of_getElem? (i := 138) (by decide +kernel))) rfl
theorem kw_6_139 : (Cond.static yL_hiddenBy) ∈ uG := uG_mem (tb_6 (List.mem_of_getElem? (i := 139) (by decide +kernel))) rfl
theorem kw_6_140 : (Cond.codeWith yL_hiddenBy cL_hiddenBy 5 (some .int) [(0, 10, 13, 13), (0, 10, 17, 15)]) ∈ uG := uG_mem (tb_6 (List.mem_of_getElem? (i := 140) (by decide +kernel))) rfl
theorem kw_6_141 : (Cond.methodLink RL 74 yX8_hiddenBy) ∈ uG := uG_mem (tb_6 (List.mem_of_getElem? (i := 141) (by decide +kernel))) rfl
theorem kw_6_142 : (Cond.classLink RL 78 RX9) ∈ uG := uG_mem (tb_6 (List.mem_of_getElem? (i := 142) (by decide +kernel))) rfl
theorem kw_6_143 : (Cond.instantiable RX9 60) ∈ uG := uG_mem (tb_6 (List.mem_of_getElem? (i := 143) (by decide +kernel))) rfl
theorem kw_6_144 : (Cond.methodLink RL 80 yX9_init) ∈ uG := uG_mem (tb_6 (List.mem_of_getElem? (i := 144) (by decide +kernel))) rfl
theorem kw_6_145 : (Cond.instanceMethod yX9_init) ∈ uG := uG_mem (tb_6 (List.mem_of_getElem? (i := 145) (by decide +kernel))) rfl
theorem kw_6_146 : (Cond.code yX9_init cX9_init 2 none) ∈ uG := uG_mem (tb_6 (List.mem_of_getElem? (i := 146) (by decide +kernel))) rfl
theorem kw_6_147 : (Cond.methodLink RX9 1 ⟨"java/lang/Object", "<init>", "()V"⟩) ∈ uG := uG_mem (tb_6 (List.mem_of_getElem? (i := 147) (by decide +kernel))) rfl
theorem kw_6_148 : (Cond.fieldLink RX9 114 "StaticLinkModel" "thrown" "I") ∈ uG := uG_mem (tb_6 (List.mem_of_getElem? (i := 148) (by decide +kernel))) rfl
theorem kw_6_149 : (Cond.fieldLink RX9 7 "StaticLinkModel" "procedures" "I") ∈ uG := uG_mem (tb_6 (List.mem_of_getElem? (i := 149) (by decide +kernel))) rfl
theorem kw_6_150 : (Cond.fieldLink RX9 13 "StaticLinkModel" "parent" "[I") ∈ uG := uG_mem (tb_6 (List.mem_of_getElem? (i := 150) (by decide +kernel))) rfl
theorem kw_6_151 : (Cond.fieldLink RX9 17 "StaticLinkModel" "named" "[I") ∈ uG := uG_mem (tb_6 (List.mem_of_getElem? (i := 151) (by decide +kernel))) rfl
theorem kw_6_152 : (Cond.fieldLink RX9 20 "StaticLinkModel" "parameters" "[I") ∈ uG := uG_mem (tb_6 (List.mem_of_getElem? (i := 152) (by decide +kernel))) rfl
theorem kw_6_153 : (Cond.fieldLink RX9 23 "StaticLinkModel" "variables" "[I") ∈ uG := uG_mem (tb_6 (List.mem_of_getElem? (i := 153) (by decide +kernel))) rfl
theorem kw_6_154 : (Cond.fieldLink RX9 26 "StaticLinkModel" "places" "[I") ∈ uG := uG_mem (tb_6 (List.mem_of_getElem? (i := 154) (by decide +kernel))) rfl
theorem kw_6_155 : (Cond.fieldLink RX9 29 "StaticLinkModel" "bodies" "[I") ∈ uG := uG_mem (tb_6 (List.mem_of_getElem? (i := 155) (by decide +kernel))) rfl
theorem kw_6_156 : (Cond.fieldLink RX9 32 "StaticLinkModel" "what" "[I") ∈ uG := uG_mem (tb_6 (List.mem_of_getElem? (i := 156) (by decide +kernel))) rfl
theorem kw_6_157 : (Cond.fieldLink RX9 35 "StaticLinkModel" "place" "[I") ∈ uG := uG_mem (tb_6 (List.mem_of_getElem? (i := 157) (by decide +kernel))) rfl
theorem kw_6_158 : (Cond.fieldLink RX9 38 "StaticLinkModel" "size" "[I") ∈ uG := uG_mem (tb_6 (List.mem_of_getElem? (i := 158) (by decide +kernel))) rfl
theorem kw_6_159 : (Cond.fieldLink RX9 41 "StaticLinkModel" "at" "[I") ∈ uG := uG_mem (tb_6 (List.mem_of_getElem? (i := 159) (by decide +kernel))) rfl
theorem kw_6_160 : (Cond.fieldLink RX9 44 "StaticLinkModel" "sizeAt" "[I") ∈ uG := uG_mem (tb_6 (List.mem_of_getElem? (i := 160) (by decide +kernel))) rfl
theorem kw_6_161 : (Cond.fieldLink RX9 121 "StaticLinkModel" "nodes" "I") ∈ uG := uG_mem (tb_6 (List.mem_of_getElem? (i := 161) (by decide +kernel))) rfl
theorem kw_6_162 : (Cond.fieldLink RX9 47 "StaticLinkModel" "kind" "[I") ∈ uG := uG_mem (tb_6 (List.mem_of_getElem? (i := 162) (by decide +kernel))) rfl
theorem kw_6_163 : (Cond.fieldLink RX9 50 "StaticLinkModel" "a" "[I") ∈ uG := uG_mem (tb_6 (List.mem_of_getElem? (i := 163) (by decide +kernel))) rfl
theorem kw_6_164 : (Cond.fieldLink RX9 53 "StaticLinkModel" "b" "[I") ∈ uG := uG_mem (tb_6 (List.mem_of_getElem? (i := 164) (by decide +kernel))) rfl
theorem kw_6_165 : (Cond.fieldLink RX9 56 "StaticLinkModel" "c" "[I") ∈ uG := uG_mem (tb_6 (List.mem_of_getElem? (i := 165) (by decide +kernel))) rfl
theorem kw_6_166 : (Cond.fieldLink RX9 59 "StaticLinkModel" "above" "[I") ∈ uG := uG_mem (tb_6 (List.mem_of_getElem? (i := 166) (by decide +kernel))) rfl
theorem kw_6_167 : (Cond.fieldLink RX9 62 "StaticLinkModel" "bodyOf" "[I") ∈ uG := uG_mem (tb_6 (List.mem_of_getElem? (i := 167) (by decide +kernel))) rfl
theorem kw_6_168 : (Cond.fieldLink RX9 65 "StaticLinkModel" "passes" "I") ∈ uG := uG_mem (tb_6 (List.mem_of_getElem? (i := 168) (by decide +kernel))) rfl
theorem kw_6_169 : (Cond.fieldLink RX9 68 "StaticLinkModel" "most" "I") ∈ uG := uG_mem (tb_6 (List.mem_of_getElem? (i := 169) (by decide +kernel))) rfl
theorem kw_6_170 : (Cond.fieldLink RX9 71 "StaticLinkModel" "deep" "I") ∈ uG := uG_mem (tb_6 (List.mem_of_getElem? (i := 170) (by decide +kernel))) rfl
theorem kw_6_171 : (Cond.fieldLink RX9 488 "StaticLinkModel" "runs" "I") ∈ uG := uG_mem (tb_6 (List.mem_of_getElem? (i := 171) (by decide +kernel))) rfl
theorem kw_6_172 : (Cond.fieldLink RX9 74 "StaticLinkModel" "latest" "[I") ∈ uG := uG_mem (tb_6 (List.mem_of_getElem? (i := 172) (by decide +kernel))) rfl
theorem kw_6_173 : (Cond.fieldLink RX9 77 "StaticLinkModel" "printed" "[I") ∈ uG := uG_mem (tb_6 (List.mem_of_getElem? (i := 173) (by decide +kernel))) rfl
theorem kw_6_174 : (Cond.fieldLink RX9 80 "StaticLinkModel" "written" "[I") ∈ uG := uG_mem (tb_6 (List.mem_of_getElem? (i := 174) (by decide +kernel))) rfl
theorem kw_6_175 : (Cond.fieldLink RX9 283 "StaticLinkModel" "end" "I") ∈ uG := uG_mem (tb_6 (List.mem_of_getElem? (i := 175) (by decide +kernel))) rfl
theorem kw_6_176 : (Cond.fieldLink RX9 316 "StaticLinkModel" "set" "I") ∈ uG := uG_mem (tb_6 (List.mem_of_getElem? (i := 176) (by decide +kernel))) rfl
theorem kw_6_177 : (Cond.fieldLink RX9 83 "StaticLinkModel" "begins" "[I") ∈ uG := uG_mem (tb_6 (List.mem_of_getElem? (i := 177) (by decide +kernel))) rfl
theorem kw_6_178 : (Cond.fieldLink RX9 86 "StaticLinkModel" "tasks" "[I") ∈ uG := uG_mem (tb_6 (List.mem_of_getElem? (i := 178) (by decide +kernel))) rfl
theorem kw_6_179 : (Cond.fieldLink RX9 89 "StaticLinkModel" "values" "[I") ∈ uG := uG_mem (tb_6 (List.mem_of_getElem? (i := 179) (by decide +kernel))) rfl
theorem kw_6_180 : (Cond.fieldLink RX9 92 "StaticLinkModel" "memory" "[I") ∈ uG := uG_mem (tb_6 (List.mem_of_getElem? (i := 180) (by decide +kernel))) rfl
theorem kw_6_181 : (Cond.fieldLink RX9 95 "StaticLinkModel" "frames" "[I") ∈ uG := uG_mem (tb_6 (List.mem_of_getElem? (i := 181) (by decide +kernel))) rfl
theorem kw_6_182 : (Cond.fieldLink RX9 98 "StaticLinkModel" "arrays" "[I") ∈ uG := uG_mem (tb_6 (List.mem_of_getElem? (i := 182) (by decide +kernel))) rfl
theorem kw_6_183 : (Cond.fieldLink RX9 358 "StaticLinkModel" "top" "I") ∈ uG := uG_mem (tb_6 (List.mem_of_getElem? (i := 183) (by decide +kernel))) rfl
theorem kw_6_184 : (Cond.fieldLink RX9 342 "StaticLinkModel" "filled" "I") ∈ uG := uG_mem (tb_6 (List.mem_of_getElem? (i := 184) (by decide +kernel))) rfl
theorem kw_6_185 : (Cond.fieldLink RX9 370 "StaticLinkModel" "used" "I") ∈ uG := uG_mem (tb_6 (List.mem_of_getElem? (i := 185) (by decide +kernel))) rfl
theorem kw_6_186 : (Cond.fieldLink RX9 385 "StaticLinkModel" "framed" "I") ∈ uG := uG_mem (tb_6 (List.mem_of_getElem? (i := 186) (by decide +kernel))) rfl
theorem kw_6_187 : (Cond.fieldLink RX9 373 "StaticLinkModel" "arrayed" "I") ∈ uG := uG_mem (tb_6 (List.mem_of_getElem? (i := 187) (by decide +kernel))) rfl
theorem kw_6_188 : (Cond.fieldLink RX9 349 "StaticLinkModel" "steps" "I") ∈ uG := uG_mem (tb_6 (List.mem_of_getElem? (i := 188) (by decide +kernel))) rfl
theorem kw_6_189 : (Cond.fieldLink RX9 352 "StaticLinkModel" "limit" "I") ∈ uG := uG_mem (tb_6 (List.mem_of_getElem? (i := 189) (by decide +kernel))) rfl
theorem kw_6_190 : (Cond.fieldLink RX9 440 "StaticLinkModel" "bound" "I") ∈ uG := uG_mem (tb_6 (List.mem_of_getElem? (i := 190) (by decide +kernel))) rfl
theorem kw_6_191 : (Cond.fieldLink RX9 336 "StaticLinkModel" "trap" "I") ∈ uG := uG_mem (tb_6 (List.mem_of_getElem? (i := 191) (by decide +kernel))) rfl
theorem kw_6_192 : (Cond.fieldLink RX9 339 "StaticLinkModel" "trapNode" "I") ∈ uG := uG_mem (tb_6 (List.mem_of_getElem? (i := 192) (by decide +kernel))) rfl
theorem kw_6_193 : (Cond.fieldLink RX9 388 "StaticLinkModel" "calls" "I") ∈ uG := uG_mem (tb_6 (List.mem_of_getElem? (i := 193) (by decide +kernel))) rfl
theorem kw_6_194 : (Cond.fieldLink RX9 391 "StaticLinkModel" "cells" "I") ∈ uG := uG_mem (tb_6 (List.mem_of_getElem? (i := 194) (by decide +kernel))) rfl
theorem kw_6_195 : (Cond.fieldLink RX9 361 "StaticLinkModel" "depth" "I") ∈ uG := uG_mem (tb_6 (List.mem_of_getElem? (i := 195) (by decide +kernel))) rfl
theorem kw_6_196 : (Cond.fieldLink RX9 364 "StaticLinkModel" "live" "I") ∈ uG := uG_mem (tb_6 (List.mem_of_getElem? (i := 196) (by decide +kernel))) rfl
theorem kw_6_197 : (Cond.fieldLink RX9 394 "StaticLinkModel" "mostDepth" "I") ∈ uG := uG_mem (tb_6 (List.mem_of_getElem? (i := 197) (by decide +kernel))) rfl
theorem kw_6_198 : (Cond.fieldLink RX9 397 "StaticLinkModel" "mostLive" "I") ∈ uG := uG_mem (tb_6 (List.mem_of_getElem? (i := 198) (by decide +kernel))) rfl
theorem kw_6_199 : (Cond.fieldLink RX9 462 "StaticLinkModel" "gave" "I") ∈ uG := uG_mem (tb_6 (List.mem_of_getElem? (i := 199) (by decide +kernel))) rfl
theorem kw_6_200 : (Cond.fieldLink RX9 469 "StaticLinkModel" "outs" "I") ∈ uG := uG_mem (tb_6 (List.mem_of_getElem? (i := 200) (by decide +kernel))) rfl
theorem kw_6_201 : (Cond.fieldLink RX9 465 "StaticLinkModel" "total" "J") ∈ uG := uG_mem (tb_6 (List.mem_of_getElem? (i := 201) (by decide +kernel))) rfl
theorem kw_6_202 : (Cond.fieldLink RX9 482 "StaticLinkModel" "latestTotal" "J") ∈ uG := uG_mem (tb_6 (List.mem_of_getElem? (i := 202) (by decide +kernel))) rfl
theorem kw_6_203 : (Cond.fieldLink RX9 443 "StaticLinkModel" "doesCut" "Z") ∈ uG := uG_mem (tb_6 (List.mem_of_getElem? (i := 203) (by decide +kernel))) rfl
theorem kw_6_204 : (Cond.fieldLink RX9 101 "StaticLinkModel" "out" "[I") ∈ uG := uG_mem (tb_6 (List.mem_of_getElem? (i := 204) (by decide +kernel))) rfl
theorem kw_6_205 : (Cond.fieldLink RX9 104 "StaticLinkModel" "home" "[I") ∈ uG := uG_mem (tb_6 (List.mem_of_getElem? (i := 205) (by decide +kernel))) rfl
theorem kw_6_206 : (Cond.fieldLink RX9 107 "StaticLinkModel" "cost" "[I") ∈ uG := uG_mem (tb_6 (List.mem_of_getElem? (i := 206) (by decide +kernel))) rfl
theorem kw_6_207 : (Cond.fieldLink RX9 110 "StaticLinkModel" "tails" "[Z") ∈ uG := uG_mem (tb_6 (List.mem_of_getElem? (i := 207) (by decide +kernel))) rfl
theorem kw_6_208 : (Cond.lays RX9 "StaticLinkModel" "thrown" "I") ∈ uG := uG_mem (tb_6 (List.mem_of_getElem? (i := 208) (by decide +kernel))) rfl
theorem kw_6_210 : (Cond.lays RX9 "StaticLinkModel" "procedures" "I") ∈ uG := uG_mem (tb_6 (List.mem_of_getElem? (i := 210) (by decide +kernel))) rfl
theorem kw_6_212 : (Cond.laysFinal RX9 "StaticLinkModel" "parent" "[I") ∈ uG := uG_mem (tb_6 (List.mem_of_getElem? (i := 212) (by decide +kernel))) rfl
theorem kw_6_214 : (Cond.laysFinal RX9 "StaticLinkModel" "named" "[I") ∈ uG := uG_mem (tb_6 (List.mem_of_getElem? (i := 214) (by decide +kernel))) rfl
theorem kw_6_216 : (Cond.laysFinal RX9 "StaticLinkModel" "parameters" "[I") ∈ uG := uG_mem (tb_6 (List.mem_of_getElem? (i := 216) (by decide +kernel))) rfl
theorem kw_6_218 : (Cond.laysFinal RX9 "StaticLinkModel" "variables" "[I") ∈ uG := uG_mem (tb_6 (List.mem_of_getElem? (i := 218) (by decide +kernel))) rfl
theorem kw_6_220 : (Cond.laysFinal RX9 "StaticLinkModel" "places" "[I") ∈ uG := uG_mem (tb_6 (List.mem_of_getElem? (i := 220) (by decide +kernel))) rfl
theorem kw_6_222 : (Cond.laysFinal RX9 "StaticLinkModel" "bodies" "[I") ∈ uG := uG_mem (tb_6 (List.mem_of_getElem? (i := 222) (by decide +kernel))) rfl
theorem kw_6_224 : (Cond.laysFinal RX9 "StaticLinkModel" "what" "[I") ∈ uG := uG_mem (tb_6 (List.mem_of_getElem? (i := 224) (by decide +kernel))) rfl
theorem kw_6_226 : (Cond.laysFinal RX9 "StaticLinkModel" "place" "[I") ∈ uG := uG_mem (tb_6 (List.mem_of_getElem? (i := 226) (by decide +kernel))) rfl
theorem kw_6_228 : (Cond.laysFinal RX9 "StaticLinkModel" "size" "[I") ∈ uG := uG_mem (tb_6 (List.mem_of_getElem? (i := 228) (by decide +kernel))) rfl
theorem kw_6_230 : (Cond.laysFinal RX9 "StaticLinkModel" "at" "[I") ∈ uG := uG_mem (tb_6 (List.mem_of_getElem? (i := 230) (by decide +kernel))) rfl
theorem kw_6_232 : (Cond.laysFinal RX9 "StaticLinkModel" "sizeAt" "[I") ∈ uG := uG_mem (tb_6 (List.mem_of_getElem? (i := 232) (by decide +kernel))) rfl
theorem kw_6_234 : (Cond.lays RX9 "StaticLinkModel" "nodes" "I") ∈ uG := uG_mem (tb_6 (List.mem_of_getElem? (i := 234) (by decide +kernel))) rfl
theorem kw_6_236 : (Cond.laysFinal RX9 "StaticLinkModel" "kind" "[I") ∈ uG := uG_mem (tb_6 (List.mem_of_getElem? (i := 236) (by decide +kernel))) rfl
theorem kw_6_238 : (Cond.laysFinal RX9 "StaticLinkModel" "a" "[I") ∈ uG := uG_mem (tb_6 (List.mem_of_getElem? (i := 238) (by decide +kernel))) rfl
theorem kw_7_0 : (Cond.laysFinal RX9 "StaticLinkModel" "b" "[I") ∈ uG := uG_mem (tb_7 (List.mem_of_getElem? (i := 0) (by decide +kernel))) rfl
theorem kw_7_2 : (Cond.laysFinal RX9 "StaticLinkModel" "c" "[I") ∈ uG := uG_mem (tb_7 (List.mem_of_getElem? (i := 2) (by decide +kernel))) rfl
theorem kw_7_4 : (Cond.laysFinal RX9 "StaticLinkModel" "above" "[I") ∈ uG := uG_mem (tb_7 (List.mem_of_getElem? (i := 4) (by decide +kernel))) rfl
theorem kw_7_6 : (Cond.laysFinal RX9 "StaticLinkModel" "bodyOf" "[I") ∈ uG := uG_mem (tb_7 (List.mem_of_getElem? (i := 6) (by decide +kernel))) rfl
theorem kw_7_8 : (Cond.lays RX9 "StaticLinkModel" "passes" "I") ∈ uG := uG_mem (tb_7 (List.mem_of_getElem? (i := 8) (by decide +kernel))) rfl
theorem kw_7_10 : (Cond.lays RX9 "StaticLinkModel" "most" "I") ∈ uG := uG_mem (tb_7 (List.mem_of_getElem? (i := 10) (by decide +kernel))) rfl
theorem kw_7_12 : (Cond.lays RX9 "StaticLinkModel" "deep" "I") ∈ uG := uG_mem (tb_7 (List.mem_of_getElem? (i := 12) (by decide +kernel))) rfl
theorem kw_7_14 : (Cond.lays RX9 "StaticLinkModel" "runs" "I") ∈ uG := uG_mem (tb_7 (List.mem_of_getElem? (i := 14) (by decide +kernel))) rfl
theorem kw_7_16 : (Cond.lays RX9 "StaticLinkModel" "latest" "[I") ∈ uG := uG_mem (tb_7 (List.mem_of_getElem? (i := 16) (by decide +kernel))) rfl
theorem kw_7_18 : (Cond.lays RX9 "StaticLinkModel" "printed" "[I") ∈ uG := uG_mem (tb_7 (List.mem_of_getElem? (i := 18) (by decide +kernel))) rfl
theorem kw_7_20 : (Cond.lays RX9 "StaticLinkModel" "written" "[I") ∈ uG := uG_mem (tb_7 (List.mem_of_getElem? (i := 20) (by decide +kernel))) rfl
theorem kw_7_22 : (Cond.lays RX9 "StaticLinkModel" "end" "I") ∈ uG := uG_mem (tb_7 (List.mem_of_getElem? (i := 22) (by decide +kernel))) rfl
theorem kw_7_24 : (Cond.lays RX9 "StaticLinkModel" "set" "I") ∈ uG := uG_mem (tb_7 (List.mem_of_getElem? (i := 24) (by decide +kernel))) rfl
theorem kw_7_26 : (Cond.laysFinal RX9 "StaticLinkModel" "begins" "[I") ∈ uG := uG_mem (tb_7 (List.mem_of_getElem? (i := 26) (by decide +kernel))) rfl
theorem kw_7_28 : (Cond.lays RX9 "StaticLinkModel" "tasks" "[I") ∈ uG := uG_mem (tb_7 (List.mem_of_getElem? (i := 28) (by decide +kernel))) rfl
theorem kw_7_30 : (Cond.lays RX9 "StaticLinkModel" "values" "[I") ∈ uG := uG_mem (tb_7 (List.mem_of_getElem? (i := 30) (by decide +kernel))) rfl
theorem kw_7_32 : (Cond.lays RX9 "StaticLinkModel" "memory" "[I") ∈ uG := uG_mem (tb_7 (List.mem_of_getElem? (i := 32) (by decide +kernel))) rfl
theorem kw_7_34 : (Cond.lays RX9 "StaticLinkModel" "frames" "[I") ∈ uG := uG_mem (tb_7 (List.mem_of_getElem? (i := 34) (by decide +kernel))) rfl
theorem kw_7_36 : (Cond.lays RX9 "StaticLinkModel" "arrays" "[I") ∈ uG := uG_mem (tb_7 (List.mem_of_getElem? (i := 36) (by decide +kernel))) rfl
theorem kw_7_38 : (Cond.lays RX9 "StaticLinkModel" "top" "I") ∈ uG := uG_mem (tb_7 (List.mem_of_getElem? (i := 38) (by decide +kernel))) rfl
theorem kw_7_40 : (Cond.lays RX9 "StaticLinkModel" "filled" "I") ∈ uG := uG_mem (tb_7 (List.mem_of_getElem? (i := 40) (by decide +kernel))) rfl
theorem kw_7_42 : (Cond.lays RX9 "StaticLinkModel" "used" "I") ∈ uG := uG_mem (tb_7 (List.mem_of_getElem? (i := 42) (by decide +kernel))) rfl
theorem kw_7_44 : (Cond.lays RX9 "StaticLinkModel" "framed" "I") ∈ uG := uG_mem (tb_7 (List.mem_of_getElem? (i := 44) (by decide +kernel))) rfl
theorem kw_7_46 : (Cond.lays RX9 "StaticLinkModel" "arrayed" "I") ∈ uG := uG_mem (tb_7 (List.mem_of_getElem? (i := 46) (by decide +kernel))) rfl
theorem kw_7_48 : (Cond.lays RX9 "StaticLinkModel" "steps" "I") ∈ uG := uG_mem (tb_7 (List.mem_of_getElem? (i := 48) (by decide +kernel))) rfl
theorem kw_7_50 : (Cond.lays RX9 "StaticLinkModel" "limit" "I") ∈ uG := uG_mem (tb_7 (List.mem_of_getElem? (i := 50) (by decide +kernel))) rfl
theorem kw_7_52 : (Cond.lays RX9 "StaticLinkModel" "bound" "I") ∈ uG := uG_mem (tb_7 (List.mem_of_getElem? (i := 52) (by decide +kernel))) rfl
theorem kw_7_54 : (Cond.lays RX9 "StaticLinkModel" "trap" "I") ∈ uG := uG_mem (tb_7 (List.mem_of_getElem? (i := 54) (by decide +kernel))) rfl
theorem kw_7_56 : (Cond.lays RX9 "StaticLinkModel" "trapNode" "I") ∈ uG := uG_mem (tb_7 (List.mem_of_getElem? (i := 56) (by decide +kernel))) rfl
theorem kw_7_58 : (Cond.lays RX9 "StaticLinkModel" "calls" "I") ∈ uG := uG_mem (tb_7 (List.mem_of_getElem? (i := 58) (by decide +kernel))) rfl
theorem kw_7_60 : (Cond.lays RX9 "StaticLinkModel" "cells" "I") ∈ uG := uG_mem (tb_7 (List.mem_of_getElem? (i := 60) (by decide +kernel))) rfl
theorem kw_7_62 : (Cond.lays RX9 "StaticLinkModel" "depth" "I") ∈ uG := uG_mem (tb_7 (List.mem_of_getElem? (i := 62) (by decide +kernel))) rfl
theorem kw_7_64 : (Cond.lays RX9 "StaticLinkModel" "live" "I") ∈ uG := uG_mem (tb_7 (List.mem_of_getElem? (i := 64) (by decide +kernel))) rfl
theorem kw_7_66 : (Cond.lays RX9 "StaticLinkModel" "mostDepth" "I") ∈ uG := uG_mem (tb_7 (List.mem_of_getElem? (i := 66) (by decide +kernel))) rfl
theorem kw_7_68 : (Cond.lays RX9 "StaticLinkModel" "mostLive" "I") ∈ uG := uG_mem (tb_7 (List.mem_of_getElem? (i := 68) (by decide +kernel))) rfl
theorem kw_7_70 : (Cond.lays RX9 "StaticLinkModel" "gave" "I") ∈ uG := uG_mem (tb_7 (List.mem_of_getElem? (i := 70) (by decide +kernel))) rfl
theorem kw_7_72 : (Cond.lays RX9 "StaticLinkModel" "outs" "I") ∈ uG := uG_mem (tb_7 (List.mem_of_getElem? (i := 72) (by decide +kernel))) rfl
theorem kw_7_74 : (Cond.lays RX9 "StaticLinkModel" "total" "J") ∈ uG := uG_mem (tb_7 (List.mem_of_getElem? (i := 74) (by decide +kernel))) rfl
theorem kw_7_76 : (Cond.lays RX9 "StaticLinkModel" "latestTotal" "J") ∈ uG := uG_mem (tb_7 (List.mem_of_getElem? (i := 76) (by decide +kernel))) rfl
theorem kw_7_78 : (Cond.lays RX9 "StaticLinkModel" "doesCut" "Z") ∈ uG := uG_mem (tb_7 (List.mem_of_getElem? (i := 78) (by decide +kernel))) rfl
theorem kw_7_80 : (Cond.lays RX9 "StaticLinkModel" "out" "[I") ∈ uG := uG_mem (tb_7 (List.mem_of_getElem? (i := 80) (by decide +kernel))) rfl
theorem kw_7_82 : (Cond.laysFinal RX9 "StaticLinkModel" "home" "[I") ∈ uG := uG_mem (tb_7 (List.mem_of_getElem? (i := 82) (by decide +kernel))) rfl
theorem kw_7_84 : (Cond.laysFinal RX9 "StaticLinkModel" "cost" "[I") ∈ uG := uG_mem (tb_7 (List.mem_of_getElem? (i := 84) (by decide +kernel))) rfl
theorem kw_7_86 : (Cond.laysFinal RX9 "StaticLinkModel" "tails" "[Z") ∈ uG := uG_mem (tb_7 (List.mem_of_getElem? (i := 86) (by decide +kernel))) rfl
theorem kw_7_89 : (Cond.methodLink RL 87 yX9_thrown) ∈ uG := uG_mem (tb_7 (List.mem_of_getElem? (i := 89) (by decide +kernel))) rfl
theorem kw_7_90 : (Cond.instanceMethod yX9_thrown) ∈ uG := uG_mem (tb_7 (List.mem_of_getElem? (i := 90) (by decide +kernel))) rfl
theorem kw_7_91 : (Cond.selects RX9 yX9_thrown yX9_thrown) ∈ uG := uG_mem (tb_7 (List.mem_of_getElem? (i := 91) (by decide +kernel))) rfl
theorem kw_7_92 : (Cond.code yX9_thrown cX9_thrown 1 (some .int)) ∈ uG := uG_mem (tb_7 (List.mem_of_getElem? (i := 92) (by decide +kernel))) rfl
theorem kw_7_93 : (Cond.methodLink RL 86 yX9_procedure) ∈ uG := uG_mem (tb_7 (List.mem_of_getElem? (i := 93) (by decide +kernel))) rfl
theorem kw_7_94 : (Cond.instanceMethod yX9_procedure) ∈ uG := uG_mem (tb_7 (List.mem_of_getElem? (i := 94) (by decide +kernel))) rfl
theorem kw_7_95 : (Cond.selects RX9 yX9_procedure yX9_procedure) ∈ uG := uG_mem (tb_7 (List.mem_of_getElem? (i := 95) (by decide +kernel))) rfl
theorem kw_7_96 : (Cond.code yX9_procedure cX9_procedure 3 (some .int)) ∈ uG := uG_mem (tb_7 (List.mem_of_getElem? (i := 96) (by decide +kernel))) rfl
theorem kw_7_97 : (Cond.methodLink RX9 124 yX9_isProcedure) ∈ uG := uG_mem (tb_7 (List.mem_of_getElem? (i := 97) (by decide +kernel))) rfl
theorem kw_7_99 : (Cond.instanceMethod yX9_isProcedure) ∈ uG := uG_mem (tb_7 (List.mem_of_getElem? (i := 99) (by decide +kernel))) rfl
theorem kw_7_100 : (Cond.code yX9_isProcedure cX9_isProcedure 2 (some .boolean)) ∈ uG := uG_mem (tb_7 (List.mem_of_getElem? (i := 100) (by decide +kernel))) rfl
theorem kw_7_101 : (Cond.methodLink RX9 117 yX9_isIn) ∈ uG := uG_mem (tb_7 (List.mem_of_getElem? (i := 101) (by decide +kernel))) rfl
theorem kw_7_102 : (Cond.static yX9_isIn) ∈ uG := uG_mem (tb_7 (List.mem_of_getElem? (i := 102) (by decide +kernel))) rfl
theorem kw_7_103 : (Cond.code yX9_isIn cX9_isIn 3 (some .boolean)) ∈ uG := uG_mem (tb_7 (List.mem_of_getElem? (i := 103) (by decide +kernel))) rfl
theorem kw_7_104 : (Cond.methodLink RX9 128 yX9_no) ∈ uG := uG_mem (tb_7 (List.mem_of_getElem? (i := 104) (by decide +kernel))) rfl
theorem kw_7_106 : (Cond.instanceMethod yX9_no) ∈ uG := uG_mem (tb_7 (List.mem_of_getElem? (i := 106) (by decide +kernel))) rfl
theorem kw_7_107 : (Cond.code yX9_no cX9_no 2 (some .int)) ∈ uG := uG_mem (tb_7 (List.mem_of_getElem? (i := 107) (by decide +kernel))) rfl
theorem kw_7_108 : (Cond.methodLink RX9 132 yX9_isName) ∈ uG := uG_mem (tb_7 (List.mem_of_getElem? (i := 108) (by decide +kernel))) rfl
theorem kw_7_109 : (Cond.static yX9_isName) ∈ uG := uG_mem (tb_7 (List.mem_of_getElem? (i := 109) (by decide +kernel))) rfl
theorem kw_7_110 : (Cond.code yX9_isName cX9_isName 1 (some .boolean)) ∈ uG := uG_mem (tb_7 (List.mem_of_getElem? (i := 110) (by decide +kernel))) rfl
theorem kw_7_111 : (Cond.methodLink RX9 135 yX9_declare) ∈ uG := uG_mem (tb_7 (List.mem_of_getElem? (i := 111) (by decide +kernel))) rfl
theorem kw_7_113 : (Cond.instanceMethod yX9_declare) ∈ uG := uG_mem (tb_7 (List.mem_of_getElem? (i := 113) (by decide +kernel))) rfl
theorem kw_7_114 : (Cond.code yX9_declare cX9_declare 6 (some .int)) ∈ uG := uG_mem (tb_7 (List.mem_of_getElem? (i := 114) (by decide +kernel))) rfl
theorem kw_7_115 : (Cond.methodLink RL 93 yX9_parameter) ∈ uG := uG_mem (tb_7 (List.mem_of_getElem? (i := 115) (by decide +kernel))) rfl
theorem kw_7_116 : (Cond.instanceMethod yX9_parameter) ∈ uG := uG_mem (tb_7 (List.mem_of_getElem? (i := 116) (by decide +kernel))) rfl
theorem kw_7_117 : (Cond.selects RX9 yX9_parameter yX9_parameter) ∈ uG := uG_mem (tb_7 (List.mem_of_getElem? (i := 117) (by decide +kernel))) rfl
theorem kw_7_118 : (Cond.code yX9_parameter cX9_parameter 4 (some .int)) ∈ uG := uG_mem (tb_7 (List.mem_of_getElem? (i := 118) (by decide +kernel))) rfl
theorem kw_7_119 : (Cond.methodLink RX9 139 yX9_addPlace) ∈ uG := uG_mem (tb_7 (List.mem_of_getElem? (i := 119) (by decide +kernel))) rfl
theorem kw_7_121 : (Cond.instanceMethod yX9_addPlace) ∈ uG := uG_mem (tb_7 (List.mem_of_getElem? (i := 121) (by decide +kernel))) rfl
theorem kw_7_122 : (Cond.code yX9_addPlace cX9_addPlace 4 (some .int)) ∈ uG := uG_mem (tb_7 (List.mem_of_getElem? (i := 122) (by decide +kernel))) rfl
theorem kw_7_123 : (Cond.methodLink RL 97 yX9_variable) ∈ uG := uG_mem (tb_7 (List.mem_of_getElem? (i := 123) (by decide +kernel))) rfl
theorem kw_7_124 : (Cond.instanceMethod yX9_variable) ∈ uG := uG_mem (tb_7 (List.mem_of_getElem? (i := 124) (by decide +kernel))) rfl
theorem kw_7_125 : (Cond.selects RX9 yX9_variable yX9_variable) ∈ uG := uG_mem (tb_7 (List.mem_of_getElem? (i := 125) (by decide +kernel))) rfl
theorem kw_7_126 : (Cond.code yX9_variable cX9_variable 6 (some .int)) ∈ uG := uG_mem (tb_7 (List.mem_of_getElem? (i := 126) (by decide +kernel))) rfl
theorem kw_7_127 : (Cond.methodLink RL 100 yX9_ofName) ∈ uG := uG_mem (tb_7 (List.mem_of_getElem? (i := 127) (by decide +kernel))) rfl
theorem kw_7_128 : (Cond.instanceMethod yX9_ofName) ∈ uG := uG_mem (tb_7 (List.mem_of_getElem? (i := 128) (by decide +kernel))) rfl
theorem kw_7_129 : (Cond.selects RX9 yX9_ofName yX9_ofName) ∈ uG := uG_mem (tb_7 (List.mem_of_getElem? (i := 129) (by decide +kernel))) rfl
theorem kw_7_130 : (Cond.code yX9_ofName cX9_ofName 5 (some .int)) ∈ uG := uG_mem (tb_7 (List.mem_of_getElem? (i := 130) (by decide +kernel))) rfl
theorem kw_7_131 : (Cond.methodLink RX9 143 yX9_declarer) ∈ uG := uG_mem (tb_7 (List.mem_of_getElem? (i := 131) (by decide +kernel))) rfl
theorem kw_7_133 : (Cond.instanceMethod yX9_declarer) ∈ uG := uG_mem (tb_7 (List.mem_of_getElem? (i := 133) (by decide +kernel))) rfl
theorem kw_7_134 : (Cond.code yX9_declarer cX9_declarer 4 (some .int)) ∈ uG := uG_mem (tb_7 (List.mem_of_getElem? (i := 134) (by decide +kernel))) rfl
theorem kw_7_135 : (Cond.methodLink RX9 147 yX9_hops) ∈ uG := uG_mem (tb_7 (List.mem_of_getElem? (i := 135) (by decide +kernel))) rfl
theorem kw_7_137 : (Cond.instanceMethod yX9_hops) ∈ uG := uG_mem (tb_7 (List.mem_of_getElem? (i := 137) (by decide +kernel))) rfl
theorem kw_7_138 : (Cond.code yX9_hops cX9_hops 5 (some .int)) ∈ uG := uG_mem (tb_7 (List.mem_of_getElem? (i := 138) (by decide +kernel))) rfl
theorem kw_7_139 : (Cond.methodLink RX9 150 yX9_placeIs) ∈ uG := uG_mem (tb_7 (List.mem_of_getElem? (i := 139) (by decide +kernel))) rfl
theorem kw_7_141 : (Cond.instanceMethod yX9_placeIs) ∈ uG := uG_mem (tb_7 (List.mem_of_getElem? (i := 141) (by decide +kernel))) rfl
theorem kw_7_142 : (Cond.code yX9_placeIs cX9_placeIs 3 (some .int)) ∈ uG := uG_mem (tb_7 (List.mem_of_getElem? (i := 142) (by decide +kernel))) rfl
theorem kw_7_143 : (Cond.methodLink RX9 153 yX9_whatIs) ∈ uG := uG_mem (tb_7 (List.mem_of_getElem? (i := 143) (by decide +kernel))) rfl
theorem kw_7_145 : (Cond.instanceMethod yX9_whatIs) ∈ uG := uG_mem (tb_7 (List.mem_of_getElem? (i := 145) (by decide +kernel))) rfl
theorem kw_7_146 : (Cond.code yX9_whatIs cX9_whatIs 4 (some .int)) ∈ uG := uG_mem (tb_7 (List.mem_of_getElem? (i := 146) (by decide +kernel))) rfl
theorem kw_7_147 : (Cond.methodLink RX9 156 yX9_sizeIs) ∈ uG := uG_mem (tb_7 (List.mem_of_getElem? (i := 147) (by decide +kernel))) rfl
theorem kw_7_149 : (Cond.instanceMethod yX9_sizeIs) ∈ uG := uG_mem (tb_7 (List.mem_of_getElem? (i := 149) (by decide +kernel))) rfl
theorem kw_7_150 : (Cond.code yX9_sizeIs cX9_sizeIs 3 (some .int)) ∈ uG := uG_mem (tb_7 (List.mem_of_getElem? (i := 150) (by decide +kernel))) rfl
theorem kw_7_151 : (Cond.methodLink RL 106 yX9_node) ∈ uG := uG_mem (tb_7 (List.mem_of_getElem? (i := 151) (by decide +kernel))) rfl
theorem kw_7_152 : (Cond.instanceMethod yX9_node) ∈ uG := uG_mem (tb_7 (List.mem_of_getElem? (i := 152) (by decide +kernel))) rfl
theorem kw_7_153 : (Cond.selects RX9 yX9_node yX9_node) ∈ uG := uG_mem (tb_7 (List.mem_of_getElem? (i := 153) (by decide +kernel))) rfl
theorem kw_7_154 : (Cond.code yX9_node cX9_node 6 (some .int)) ∈ uG := uG_mem (tb_7 (List.mem_of_getElem? (i := 154) (by decide +kernel))) rfl
theorem kw_7_155 : (Cond.methodLink RX9 187 yX9_canBe) ∈ uG := uG_mem (tb_7 (List.mem_of_getElem? (i := 155) (by decide +kernel))) rfl
theorem kw_7_157 : (Cond.instanceMethod yX9_canBe) ∈ uG := uG_mem (tb_7 (List.mem_of_getElem? (i := 157) (by decide +kernel))) rfl
theorem kw_7_158 : (Cond.code yX9_canBe cX9_canBe 5 (some .boolean)) ∈ uG := uG_mem (tb_7 (List.mem_of_getElem? (i := 158) (by decide +kernel))) rfl
theorem kw_7_159 : (Cond.methodLink RX9 171 yX9_isFreeExpression) ∈ uG := uG_mem (tb_7 (List.mem_of_getElem? (i := 159) (by decide +kernel))) rfl
theorem kw_7_161 : (Cond.instanceMethod yX9_isFreeExpression) ∈ uG := uG_mem (tb_7 (List.mem_of_getElem? (i := 161) (by decide +kernel))) rfl
theorem kw_7_162 : (Cond.code yX9_isFreeExpression cX9_isFreeExpression 2 (some .boolean)) ∈ uG := uG_mem (tb_7 (List.mem_of_getElem? (i := 162) (by decide +kernel))) rfl
theorem kw_7_163 : (Cond.methodLink RX9 162 yX9_isFree) ∈ uG := uG_mem (tb_7 (List.mem_of_getElem? (i := 163) (by decide +kernel))) rfl
theorem kw_7_165 : (Cond.instanceMethod yX9_isFree) ∈ uG := uG_mem (tb_7 (List.mem_of_getElem? (i := 165) (by decide +kernel))) rfl
theorem kw_7_166 : (Cond.code yX9_isFree cX9_isFree 2 (some .boolean)) ∈ uG := uG_mem (tb_7 (List.mem_of_getElem? (i := 166) (by decide +kernel))) rfl
theorem kw_7_167 : (Cond.methodLink RX9 159 yX9_isNode) ∈ uG := uG_mem (tb_7 (List.mem_of_getElem? (i := 167) (by decide +kernel))) rfl
theorem kw_7_169 : (Cond.instanceMethod yX9_isNode) ∈ uG := uG_mem (tb_7 (List.mem_of_getElem? (i := 169) (by decide +kernel))) rfl
theorem kw_7_170 : (Cond.code yX9_isNode cX9_isNode 2 (some .boolean)) ∈ uG := uG_mem (tb_7 (List.mem_of_getElem? (i := 170) (by decide +kernel))) rfl
theorem kw_7_171 : (Cond.methodLink RX9 165 yX9_isExpression) ∈ uG := uG_mem (tb_7 (List.mem_of_getElem? (i := 171) (by decide +kernel))) rfl
theorem kw_7_172 : (Cond.static yX9_isExpression) ∈ uG := uG_mem (tb_7 (List.mem_of_getElem? (i := 172) (by decide +kernel))) rfl
theorem kw_7_173 : (Cond.code yX9_isExpression cX9_isExpression 1 (some .boolean)) ∈ uG := uG_mem (tb_7 (List.mem_of_getElem? (i := 173) (by decide +kernel))) rfl
theorem kw_7_174 : (Cond.methodLink RX9 174 yX9_isArgument) ∈ uG := uG_mem (tb_7 (List.mem_of_getElem? (i := 174) (by decide +kernel))) rfl
theorem kw_7_176 : (Cond.instanceMethod yX9_isArgument) ∈ uG := uG_mem (tb_7 (List.mem_of_getElem? (i := 176) (by decide +kernel))) rfl
theorem kw_7_177 : (Cond.code yX9_isArgument cX9_isArgument 2 (some .boolean)) ∈ uG := uG_mem (tb_7 (List.mem_of_getElem? (i := 177) (by decide +kernel))) rfl
theorem kw_7_178 : (Cond.methodLink RX9 177 yX9_isFreeStatement) ∈ uG := uG_mem (tb_7 (List.mem_of_getElem? (i := 178) (by decide +kernel))) rfl
theorem kw_7_180 : (Cond.instanceMethod yX9_isFreeStatement) ∈ uG := uG_mem (tb_7 (List.mem_of_getElem? (i := 180) (by decide +kernel))) rfl
theorem kw_7_181 : (Cond.code yX9_isFreeStatement cX9_isFreeStatement 2 (some .boolean)) ∈ uG := uG_mem (tb_7 (List.mem_of_getElem? (i := 181) (by decide +kernel))) rfl
theorem kw_7_182 : (Cond.methodLink RX9 168 yX9_isStatement) ∈ uG := uG_mem (tb_7 (List.mem_of_getElem? (i := 182) (by decide +kernel))) rfl
theorem kw_7_183 : (Cond.static yX9_isStatement) ∈ uG := uG_mem (tb_7 (List.mem_of_getElem? (i := 183) (by decide +kernel))) rfl
theorem kw_7_184 : (Cond.code yX9_isStatement cX9_isStatement 1 (some .boolean)) ∈ uG := uG_mem (tb_7 (List.mem_of_getElem? (i := 184) (by decide +kernel))) rfl
theorem kw_7_185 : (Cond.methodLink RX9 191 yX9_part) ∈ uG := uG_mem (tb_7 (List.mem_of_getElem? (i := 185) (by decide +kernel))) rfl
theorem kw_7_187 : (Cond.instanceMethod yX9_part) ∈ uG := uG_mem (tb_7 (List.mem_of_getElem? (i := 187) (by decide +kernel))) rfl
theorem kw_7_188 : (Cond.code yX9_part cX9_part 3 (some .int)) ∈ uG := uG_mem (tb_7 (List.mem_of_getElem? (i := 188) (by decide +kernel))) rfl
theorem kw_7_189 : (Cond.methodLink RX9 180 yX9_parts) ∈ uG := uG_mem (tb_7 (List.mem_of_getElem? (i := 189) (by decide +kernel))) rfl
theorem kw_7_190 : (Cond.static yX9_parts) ∈ uG := uG_mem (tb_7 (List.mem_of_getElem? (i := 190) (by decide +kernel))) rfl
theorem kw_7_191 : (Cond.code yX9_parts cX9_parts 1 (some .int)) ∈ uG := uG_mem (tb_7 (List.mem_of_getElem? (i := 191) (by decide +kernel))) rfl
theorem kw_7_192 : (Cond.methodLink RX9 183 yX9_has) ∈ uG := uG_mem (tb_7 (List.mem_of_getElem? (i := 192) (by decide +kernel))) rfl
theorem kw_7_193 : (Cond.static yX9_has) ∈ uG := uG_mem (tb_7 (List.mem_of_getElem? (i := 193) (by decide +kernel))) rfl
theorem kw_7_194 : (Cond.code yX9_has cX9_has 2 (some .boolean)) ∈ uG := uG_mem (tb_7 (List.mem_of_getElem? (i := 194) (by decide +kernel))) rfl
theorem kw_7_195 : (Cond.methodLink RL 109 yX9_body) ∈ uG := uG_mem (tb_7 (List.mem_of_getElem? (i := 195) (by decide +kernel))) rfl
theorem kw_7_196 : (Cond.instanceMethod yX9_body) ∈ uG := uG_mem (tb_7 (List.mem_of_getElem? (i := 196) (by decide +kernel))) rfl
theorem kw_7_197 : (Cond.selects RX9 yX9_body yX9_body) ∈ uG := uG_mem (tb_7 (List.mem_of_getElem? (i := 197) (by decide +kernel))) rfl
theorem kw_7_198 : (Cond.code yX9_body cX9_body 4 (some .int)) ∈ uG := uG_mem (tb_7 (List.mem_of_getElem? (i := 198) (by decide +kernel))) rfl
theorem kw_7_199 : (Cond.methodLink RL 103 yX9_ofProcedure) ∈ uG := uG_mem (tb_7 (List.mem_of_getElem? (i := 199) (by decide +kernel))) rfl
theorem kw_7_200 : (Cond.instanceMethod yX9_ofProcedure) ∈ uG := uG_mem (tb_7 (List.mem_of_getElem? (i := 200) (by decide +kernel))) rfl
theorem kw_7_201 : (Cond.selects RX9 yX9_ofProcedure yX9_ofProcedure) ∈ uG := uG_mem (tb_7 (List.mem_of_getElem? (i := 201) (by decide +kernel))) rfl
theorem kw_7_202 : (Cond.code yX9_ofProcedure cX9_ofProcedure 3 (some .int)) ∈ uG := uG_mem (tb_7 (List.mem_of_getElem? (i := 202) (by decide +kernel))) rfl
theorem kw_7_203 : (Cond.methodLink RX9 234 yX9_ofProcedureNow) ∈ uG := uG_mem (tb_7 (List.mem_of_getElem? (i := 203) (by decide +kernel))) rfl
theorem kw_7_205 : (Cond.instanceMethod yX9_ofProcedureNow) ∈ uG := uG_mem (tb_7 (List.mem_of_getElem? (i := 205) (by decide +kernel))) rfl
theorem kw_7_206 : (Cond.code yX9_ofProcedureNow cX9_ofProcedureNow 3 (some .int)) ∈ uG := uG_mem (tb_7 (List.mem_of_getElem? (i := 206) (by decide +kernel))) rfl
theorem kw_7_207 : (Cond.methodLink RX9 224 yX9_escapes) ∈ uG := uG_mem (tb_7 (List.mem_of_getElem? (i := 207) (by decide +kernel))) rfl
theorem kw_7_209 : (Cond.instanceMethod yX9_escapes) ∈ uG := uG_mem (tb_7 (List.mem_of_getElem? (i := 209) (by decide +kernel))) rfl
theorem kw_7_210 : (Cond.code yX9_escapes cX9_escapes 4 (some .int)) ∈ uG := uG_mem (tb_7 (List.mem_of_getElem? (i := 210) (by decide +kernel))) rfl
theorem kw_7_211 : (Cond.methodLink RX9 200 yX9_hasName) ∈ uG := uG_mem (tb_7 (List.mem_of_getElem? (i := 211) (by decide +kernel))) rfl
theorem kw_7_212 : (Cond.static yX9_hasName) ∈ uG := uG_mem (tb_7 (List.mem_of_getElem? (i := 212) (by decide +kernel))) rfl
theorem kw_7_213 : (Cond.code yX9_hasName cX9_hasName 1 (some .boolean)) ∈ uG := uG_mem (tb_7 (List.mem_of_getElem? (i := 213) (by decide +kernel))) rfl
theorem kw_7_214 : (Cond.methodLink RX9 194 yX9_in) ∈ uG := uG_mem (tb_7 (List.mem_of_getElem? (i := 214) (by decide +kernel))) rfl
theorem kw_7_216 : (Cond.instanceMethod yX9_in) ∈ uG := uG_mem (tb_7 (List.mem_of_getElem? (i := 216) (by decide +kernel))) rfl
theorem kw_7_217 : (Cond.code yX9_in cX9_in 3 (some .int)) ∈ uG := uG_mem (tb_7 (List.mem_of_getElem? (i := 217) (by decide +kernel))) rfl
theorem kw_7_218 : (Cond.methodLink RX9 203 yX9_isInside) ∈ uG := uG_mem (tb_7 (List.mem_of_getElem? (i := 218) (by decide +kernel))) rfl
theorem kw_7_220 : (Cond.instanceMethod yX9_isInside) ∈ uG := uG_mem (tb_7 (List.mem_of_getElem? (i := 220) (by decide +kernel))) rfl
theorem kw_7_221 : (Cond.code yX9_isInside cX9_isInside 4 (some .boolean)) ∈ uG := uG_mem (tb_7 (List.mem_of_getElem? (i := 221) (by decide +kernel))) rfl
theorem kw_7_222 : (Cond.methodLink RX9 206 yX9_isReached) ∈ uG := uG_mem (tb_7 (List.mem_of_getElem? (i := 222) (by decide +kernel))) rfl
theorem kw_7_224 : (Cond.instanceMethod yX9_isReached) ∈ uG := uG_mem (tb_7 (List.mem_of_getElem? (i := 224) (by decide +kernel))) rfl
theorem kw_7_225 : (Cond.code yX9_isReached cX9_isReached 4 (some .boolean)) ∈ uG := uG_mem (tb_7 (List.mem_of_getElem? (i := 225) (by decide +kernel))) rfl
theorem kw_7_226 : (Cond.methodLink RX9 197 yX9_isHandedOn) ∈ uG := uG_mem (tb_7 (List.mem_of_getElem? (i := 226) (by decide +kernel))) rfl
theorem kw_7_228 : (Cond.instanceMethod yX9_isHandedOn) ∈ uG := uG_mem (tb_7 (List.mem_of_getElem? (i := 228) (by decide +kernel))) rfl
theorem kw_7_229 : (Cond.code yX9_isHandedOn cX9_isHandedOn 3 (some .boolean)) ∈ uG := uG_mem (tb_7 (List.mem_of_getElem? (i := 229) (by decide +kernel))) rfl
theorem kw_7_230 : (Cond.methodLink RX9 227 yX9_faults) ∈ uG := uG_mem (tb_7 (List.mem_of_getElem? (i := 230) (by decide +kernel))) rfl
theorem kw_7_232 : (Cond.instanceMethod yX9_faults) ∈ uG := uG_mem (tb_7 (List.mem_of_getElem? (i := 232) (by decide +kernel))) rfl
theorem kw_7_233 : (Cond.code yX9_faults cX9_faults 1 (some .int)) ∈ uG := uG_mem (tb_7 (List.mem_of_getElem? (i := 233) (by decide +kernel))) rfl
theorem kw_7_234 : (Cond.methodLink RX9 280 yX9_lookFor) ∈ uG := uG_mem (tb_7 (List.mem_of_getElem? (i := 234) (by decide +kernel))) rfl
theorem kw_7_236 : (Cond.instanceMethod yX9_lookFor) ∈ uG := uG_mem (tb_7 (List.mem_of_getElem? (i := 236) (by decide +kernel))) rfl
theorem kw_7_237 : (Cond.code yX9_lookFor cX9_lookFor 10 (some .int)) ∈ uG := uG_mem (tb_7 (List.mem_of_getElem? (i := 237) (by decide +kernel))) rfl
theorem kw_7_238 : (Cond.methodLink RX9 277 yX9_faultOf) ∈ uG := uG_mem (tb_7 (List.mem_of_getElem? (i := 238) (by decide +kernel))) rfl
theorem kw_8_0 : (Cond.instanceMethod yX9_faultOf) ∈ uG := uG_mem (tb_8 (List.mem_of_getElem? (i := 0) (by decide +kernel))) rfl
theorem kw_8_1 : (Cond.code yX9_faultOf cX9_faultOf 5 (some .int)) ∈ uG := uG_mem (tb_8 (List.mem_of_getElem? (i := 1) (by decide +kernel))) rfl
theorem kw_8_2 : (Cond.methodLink RX9 264 yX9_isLoopAround) ∈ uG := uG_mem (tb_8 (List.mem_of_getElem? (i := 2) (by decide +kernel))) rfl
theorem kw_8_4 : (Cond.instanceMethod yX9_isLoopAround) ∈ uG := uG_mem (tb_8 (List.mem_of_getElem? (i := 4) (by decide +kernel))) rfl
theorem kw_8_5 : (Cond.code yX9_isLoopAround cX9_isLoopAround 3 (some .boolean)) ∈ uG := uG_mem (tb_8 (List.mem_of_getElem? (i := 5) (by decide +kernel))) rfl
theorem kw_8_6 : (Cond.methodLink RX9 243 yX9_loopAround) ∈ uG := uG_mem (tb_8 (List.mem_of_getElem? (i := 6) (by decide +kernel))) rfl
theorem kw_8_8 : (Cond.instanceMethod yX9_loopAround) ∈ uG := uG_mem (tb_8 (List.mem_of_getElem? (i := 8) (by decide +kernel))) rfl
theorem kw_8_9 : (Cond.code yX9_loopAround cX9_loopAround 4 (some .int)) ∈ uG := uG_mem (tb_8 (List.mem_of_getElem? (i := 9) (by decide +kernel))) rfl
theorem kw_8_10 : (Cond.methodLink RX9 267 yX9_loopOutside) ∈ uG := uG_mem (tb_8 (List.mem_of_getElem? (i := 10) (by decide +kernel))) rfl
theorem kw_8_12 : (Cond.instanceMethod yX9_loopOutside) ∈ uG := uG_mem (tb_8 (List.mem_of_getElem? (i := 12) (by decide +kernel))) rfl
theorem kw_8_13 : (Cond.code yX9_loopOutside cX9_loopOutside 4 (some .int)) ∈ uG := uG_mem (tb_8 (List.mem_of_getElem? (i := 13) (by decide +kernel))) rfl
theorem kw_8_14 : (Cond.methodLink RX9 246 yX9_hasLoop) ∈ uG := uG_mem (tb_8 (List.mem_of_getElem? (i := 14) (by decide +kernel))) rfl
theorem kw_8_16 : (Cond.instanceMethod yX9_hasLoop) ∈ uG := uG_mem (tb_8 (List.mem_of_getElem? (i := 16) (by decide +kernel))) rfl
theorem kw_8_17 : (Cond.code yX9_hasLoop cX9_hasLoop 4 (some .boolean)) ∈ uG := uG_mem (tb_8 (List.mem_of_getElem? (i := 17) (by decide +kernel))) rfl
theorem kw_8_18 : (Cond.methodLink RX9 270 yX9_nameFault) ∈ uG := uG_mem (tb_8 (List.mem_of_getElem? (i := 18) (by decide +kernel))) rfl
theorem kw_8_20 : (Cond.instanceMethod yX9_nameFault) ∈ uG := uG_mem (tb_8 (List.mem_of_getElem? (i := 20) (by decide +kernel))) rfl
theorem kw_8_21 : (Cond.code yX9_nameFault cX9_nameFault 6 (some .int)) ∈ uG := uG_mem (tb_8 (List.mem_of_getElem? (i := 21) (by decide +kernel))) rfl
theorem kw_8_22 : (Cond.methodLink RX9 249 yX9_canBeSet) ∈ uG := uG_mem (tb_8 (List.mem_of_getElem? (i := 22) (by decide +kernel))) rfl
theorem kw_8_23 : (Cond.static yX9_canBeSet) ∈ uG := uG_mem (tb_8 (List.mem_of_getElem? (i := 23) (by decide +kernel))) rfl
theorem kw_8_24 : (Cond.code yX9_canBeSet cX9_canBeSet 1 (some .boolean)) ∈ uG := uG_mem (tb_8 (List.mem_of_getElem? (i := 24) (by decide +kernel))) rfl
theorem kw_8_25 : (Cond.methodLink RX9 221 yX9_areValues) ∈ uG := uG_mem (tb_8 (List.mem_of_getElem? (i := 25) (by decide +kernel))) rfl
theorem kw_8_27 : (Cond.instanceMethod yX9_areValues) ∈ uG := uG_mem (tb_8 (List.mem_of_getElem? (i := 27) (by decide +kernel))) rfl
theorem kw_8_28 : (Cond.code yX9_areValues cX9_areValues 3 (some .boolean)) ∈ uG := uG_mem (tb_8 (List.mem_of_getElem? (i := 28) (by decide +kernel))) rfl
theorem kw_8_29 : (Cond.methodLink RX9 252 yX9_isArray) ∈ uG := uG_mem (tb_8 (List.mem_of_getElem? (i := 29) (by decide +kernel))) rfl
theorem kw_8_30 : (Cond.static yX9_isArray) ∈ uG := uG_mem (tb_8 (List.mem_of_getElem? (i := 30) (by decide +kernel))) rfl
theorem kw_8_31 : (Cond.code yX9_isArray cX9_isArray 1 (some .boolean)) ∈ uG := uG_mem (tb_8 (List.mem_of_getElem? (i := 31) (by decide +kernel))) rfl
theorem kw_8_32 : (Cond.methodLink RX9 274 yX9_callFault) ∈ uG := uG_mem (tb_8 (List.mem_of_getElem? (i := 32) (by decide +kernel))) rfl
theorem kw_8_34 : (Cond.instanceMethod yX9_callFault) ∈ uG := uG_mem (tb_8 (List.mem_of_getElem? (i := 34) (by decide +kernel))) rfl
theorem kw_8_35 : (Cond.code yX9_callFault cX9_callFault 6 (some .int)) ∈ uG := uG_mem (tb_8 (List.mem_of_getElem? (i := 35) (by decide +kernel))) rfl
theorem kw_8_36 : (Cond.methodLink RX9 255 yX9_count) ∈ uG := uG_mem (tb_8 (List.mem_of_getElem? (i := 36) (by decide +kernel))) rfl
theorem kw_8_38 : (Cond.instanceMethod yX9_count) ∈ uG := uG_mem (tb_8 (List.mem_of_getElem? (i := 38) (by decide +kernel))) rfl
theorem kw_8_39 : (Cond.code yX9_count cX9_count 4 (some .int)) ∈ uG := uG_mem (tb_8 (List.mem_of_getElem? (i := 39) (by decide +kernel))) rfl
theorem kw_8_40 : (Cond.methodLink RX9 258 yX9_modeOf) ∈ uG := uG_mem (tb_8 (List.mem_of_getElem? (i := 40) (by decide +kernel))) rfl
theorem kw_8_42 : (Cond.instanceMethod yX9_modeOf) ∈ uG := uG_mem (tb_8 (List.mem_of_getElem? (i := 42) (by decide +kernel))) rfl
theorem kw_8_43 : (Cond.code yX9_modeOf cX9_modeOf 4 (some .int)) ∈ uG := uG_mem (tb_8 (List.mem_of_getElem? (i := 43) (by decide +kernel))) rfl
theorem kw_8_44 : (Cond.methodLink RX9 261 yX9_suits) ∈ uG := uG_mem (tb_8 (List.mem_of_getElem? (i := 44) (by decide +kernel))) rfl
theorem kw_8_46 : (Cond.instanceMethod yX9_suits) ∈ uG := uG_mem (tb_8 (List.mem_of_getElem? (i := 46) (by decide +kernel))) rfl
theorem kw_8_47 : (Cond.code yX9_suits cX9_suits 4 (some .boolean)) ∈ uG := uG_mem (tb_8 (List.mem_of_getElem? (i := 47) (by decide +kernel))) rfl
theorem kw_8_48 : (Cond.methodLink RX9 231 yX9_length) ∈ uG := uG_mem (tb_8 (List.mem_of_getElem? (i := 48) (by decide +kernel))) rfl
theorem kw_8_50 : (Cond.instanceMethod yX9_length) ∈ uG := uG_mem (tb_8 (List.mem_of_getElem? (i := 50) (by decide +kernel))) rfl
theorem kw_8_51 : (Cond.code yX9_length cX9_length 3 (some .int)) ∈ uG := uG_mem (tb_8 (List.mem_of_getElem? (i := 51) (by decide +kernel))) rfl
theorem kw_8_52 : (Cond.methodLink RX9 325 yX9_writeAll) ∈ uG := uG_mem (tb_8 (List.mem_of_getElem? (i := 52) (by decide +kernel))) rfl
theorem kw_8_54 : (Cond.instanceMethod yX9_writeAll) ∈ uG := uG_mem (tb_8 (List.mem_of_getElem? (i := 54) (by decide +kernel))) rfl
theorem kw_8_55 : (Cond.code yX9_writeAll cX9_writeAll 4 none) ∈ uG := uG_mem (tb_8 (List.mem_of_getElem? (i := 55) (by decide +kernel))) rfl
theorem kw_8_56 : (Cond.methodLink RX9 319 yX9_write) ∈ uG := uG_mem (tb_8 (List.mem_of_getElem? (i := 56) (by decide +kernel))) rfl
theorem kw_8_58 : (Cond.instanceMethod yX9_write) ∈ uG := uG_mem (tb_8 (List.mem_of_getElem? (i := 58) (by decide +kernel))) rfl
theorem kw_8_59 : (Cond.code yX9_write cX9_write 7 none) ∈ uG := uG_mem (tb_8 (List.mem_of_getElem? (i := 59) (by decide +kernel))) rfl
theorem kw_8_60 : (Cond.methodLink RX9 292 yX9_emit) ∈ uG := uG_mem (tb_8 (List.mem_of_getElem? (i := 60) (by decide +kernel))) rfl
theorem kw_8_62 : (Cond.instanceMethod yX9_emit) ∈ uG := uG_mem (tb_8 (List.mem_of_getElem? (i := 62) (by decide +kernel))) rfl
theorem kw_8_63 : (Cond.code yX9_emit cX9_emit 5 none) ∈ uG := uG_mem (tb_8 (List.mem_of_getElem? (i := 63) (by decide +kernel))) rfl
theorem kw_8_64 : (Cond.methodLink RX9 286 ⟨"java/lang/System", "arraycopy", "(Ljava/lang/Object;ILjava/lang/Object;II)V"⟩) ∈ uG := uG_mem (tb_8 (List.mem_of_getElem? (i := 64) (by decide +kernel))) rfl
theorem kw_8_65 : (Cond.methodLink RX9 296 yX9_named) ∈ uG := uG_mem (tb_8 (List.mem_of_getElem? (i := 65) (by decide +kernel))) rfl
theorem kw_8_67 : (Cond.instanceMethod yX9_named) ∈ uG := uG_mem (tb_8 (List.mem_of_getElem? (i := 67) (by decide +kernel))) rfl
theorem kw_8_68 : (Cond.code yX9_named cX9_named 4 none) ∈ uG := uG_mem (tb_8 (List.mem_of_getElem? (i := 68) (by decide +kernel))) rfl
theorem kw_8_69 : (Cond.methodLink RX9 298 yX9_writeCall) ∈ uG := uG_mem (tb_8 (List.mem_of_getElem? (i := 69) (by decide +kernel))) rfl
theorem kw_8_71 : (Cond.instanceMethod yX9_writeCall) ∈ uG := uG_mem (tb_8 (List.mem_of_getElem? (i := 71) (by decide +kernel))) rfl
theorem kw_8_72 : (Cond.code yX9_writeCall cX9_writeCall 6 none) ∈ uG := uG_mem (tb_8 (List.mem_of_getElem? (i := 72) (by decide +kernel))) rfl
theorem kw_8_73 : (Cond.methodLink RX9 322 yX9_writeArgument) ∈ uG := uG_mem (tb_8 (List.mem_of_getElem? (i := 73) (by decide +kernel))) rfl
theorem kw_8_75 : (Cond.instanceMethod yX9_writeArgument) ∈ uG := uG_mem (tb_8 (List.mem_of_getElem? (i := 75) (by decide +kernel))) rfl
theorem kw_8_76 : (Cond.code yX9_writeArgument cX9_writeArgument 6 none) ∈ uG := uG_mem (tb_8 (List.mem_of_getElem? (i := 76) (by decide +kernel))) rfl
theorem kw_8_77 : (Cond.methodLink RX9 302 yX9_routine) ∈ uG := uG_mem (tb_8 (List.mem_of_getElem? (i := 77) (by decide +kernel))) rfl
theorem kw_8_79 : (Cond.instanceMethod yX9_routine) ∈ uG := uG_mem (tb_8 (List.mem_of_getElem? (i := 79) (by decide +kernel))) rfl
theorem kw_8_80 : (Cond.code yX9_routine cX9_routine 4 none) ∈ uG := uG_mem (tb_8 (List.mem_of_getElem? (i := 80) (by decide +kernel))) rfl
theorem kw_8_81 : (Cond.methodLink RX9 305 yX9_writeTurn) ∈ uG := uG_mem (tb_8 (List.mem_of_getElem? (i := 81) (by decide +kernel))) rfl
theorem kw_8_83 : (Cond.instanceMethod yX9_writeTurn) ∈ uG := uG_mem (tb_8 (List.mem_of_getElem? (i := 83) (by decide +kernel))) rfl
theorem kw_8_84 : (Cond.code yX9_writeTurn cX9_writeTurn 7 none) ∈ uG := uG_mem (tb_8 (List.mem_of_getElem? (i := 84) (by decide +kernel))) rfl
theorem kw_8_85 : (Cond.methodLink RX9 309 yX9_writeSimple) ∈ uG := uG_mem (tb_8 (List.mem_of_getElem? (i := 85) (by decide +kernel))) rfl
theorem kw_8_87 : (Cond.instanceMethod yX9_writeSimple) ∈ uG := uG_mem (tb_8 (List.mem_of_getElem? (i := 87) (by decide +kernel))) rfl
theorem kw_8_88 : (Cond.code yX9_writeSimple cX9_writeSimple 4 none) ∈ uG := uG_mem (tb_8 (List.mem_of_getElem? (i := 88) (by decide +kernel))) rfl
theorem kw_8_89 : (Cond.methodLink RX9 209 yX9_isFolded) ∈ uG := uG_mem (tb_8 (List.mem_of_getElem? (i := 89) (by decide +kernel))) rfl
theorem kw_8_91 : (Cond.instanceMethod yX9_isFolded) ∈ uG := uG_mem (tb_8 (List.mem_of_getElem? (i := 91) (by decide +kernel))) rfl
theorem kw_8_92 : (Cond.code yX9_isFolded cX9_isFolded 2 (some .boolean)) ∈ uG := uG_mem (tb_8 (List.mem_of_getElem? (i := 92) (by decide +kernel))) rfl
theorem kw_8_93 : (Cond.methodLink RX9 212 yX9_isPlain) ∈ uG := uG_mem (tb_8 (List.mem_of_getElem? (i := 93) (by decide +kernel))) rfl
theorem kw_8_95 : (Cond.instanceMethod yX9_isPlain) ∈ uG := uG_mem (tb_8 (List.mem_of_getElem? (i := 95) (by decide +kernel))) rfl
theorem kw_8_96 : (Cond.code yX9_isPlain cX9_isPlain 2 (some .boolean)) ∈ uG := uG_mem (tb_8 (List.mem_of_getElem? (i := 96) (by decide +kernel))) rfl
theorem kw_8_97 : (Cond.methodLink RX9 215 yX9_plain) ∈ uG := uG_mem (tb_8 (List.mem_of_getElem? (i := 97) (by decide +kernel))) rfl
theorem kw_8_99 : (Cond.instanceMethod yX9_plain) ∈ uG := uG_mem (tb_8 (List.mem_of_getElem? (i := 99) (by decide +kernel))) rfl
theorem kw_8_100 : (Cond.code yX9_plain cX9_plain 2 (some .int)) ∈ uG := uG_mem (tb_8 (List.mem_of_getElem? (i := 100) (by decide +kernel))) rfl
theorem kw_8_101 : (Cond.methodLink RX9 218 yX9_reckon) ∈ uG := uG_mem (tb_8 (List.mem_of_getElem? (i := 101) (by decide +kernel))) rfl
theorem kw_8_102 : (Cond.static yX9_reckon) ∈ uG := uG_mem (tb_8 (List.mem_of_getElem? (i := 102) (by decide +kernel))) rfl
theorem kw_8_103 : (Cond.code yX9_reckon cX9_reckon 3 (some .int)) ∈ uG := uG_mem (tb_8 (List.mem_of_getElem? (i := 103) (by decide +kernel))) rfl
theorem kw_8_104 : (Cond.methodLink RX9 312 yX9_beginWith) ∈ uG := uG_mem (tb_8 (List.mem_of_getElem? (i := 104) (by decide +kernel))) rfl
theorem kw_8_106 : (Cond.instanceMethod yX9_beginWith) ∈ uG := uG_mem (tb_8 (List.mem_of_getElem? (i := 106) (by decide +kernel))) rfl
theorem kw_8_107 : (Cond.code yX9_beginWith cX9_beginWith 3 none) ∈ uG := uG_mem (tb_8 (List.mem_of_getElem? (i := 107) (by decide +kernel))) rfl
theorem kw_8_108 : (Cond.methodLink RX9 237 yX9_isTail) ∈ uG := uG_mem (tb_8 (List.mem_of_getElem? (i := 108) (by decide +kernel))) rfl
theorem kw_8_110 : (Cond.instanceMethod yX9_isTail) ∈ uG := uG_mem (tb_8 (List.mem_of_getElem? (i := 110) (by decide +kernel))) rfl
theorem kw_8_111 : (Cond.code yX9_isTail cX9_isTail 4 (some .boolean)) ∈ uG := uG_mem (tb_8 (List.mem_of_getElem? (i := 111) (by decide +kernel))) rfl
theorem kw_8_112 : (Cond.methodLink RL 112 yX9_ofNode) ∈ uG := uG_mem (tb_8 (List.mem_of_getElem? (i := 112) (by decide +kernel))) rfl
theorem kw_8_113 : (Cond.instanceMethod yX9_ofNode) ∈ uG := uG_mem (tb_8 (List.mem_of_getElem? (i := 113) (by decide +kernel))) rfl
theorem kw_8_114 : (Cond.selects RX9 yX9_ofNode yX9_ofNode) ∈ uG := uG_mem (tb_8 (List.mem_of_getElem? (i := 114) (by decide +kernel))) rfl
theorem kw_8_115 : (Cond.code yX9_ofNode cX9_ofNode 3 (some .int)) ∈ uG := uG_mem (tb_8 (List.mem_of_getElem? (i := 115) (by decide +kernel))) rfl
theorem kw_8_116 : (Cond.methodLink RX9 240 yX9_ofNodeNow) ∈ uG := uG_mem (tb_8 (List.mem_of_getElem? (i := 116) (by decide +kernel))) rfl
theorem kw_8_118 : (Cond.instanceMethod yX9_ofNodeNow) ∈ uG := uG_mem (tb_8 (List.mem_of_getElem? (i := 118) (by decide +kernel))) rfl
theorem kw_8_119 : (Cond.code yX9_ofNodeNow cX9_ofNodeNow 4 (some .int)) ∈ uG := uG_mem (tb_8 (List.mem_of_getElem? (i := 119) (by decide +kernel))) rfl
theorem kw_8_120 : (Cond.methodLink RL 115 yX9_fault) ∈ uG := uG_mem (tb_8 (List.mem_of_getElem? (i := 120) (by decide +kernel))) rfl
theorem kw_8_121 : (Cond.instanceMethod yX9_fault) ∈ uG := uG_mem (tb_8 (List.mem_of_getElem? (i := 121) (by decide +kernel))) rfl
theorem kw_8_122 : (Cond.selects RX9 yX9_fault yX9_fault) ∈ uG := uG_mem (tb_8 (List.mem_of_getElem? (i := 122) (by decide +kernel))) rfl
theorem kw_8_123 : (Cond.code yX9_fault cX9_fault 3 (some .int)) ∈ uG := uG_mem (tb_8 (List.mem_of_getElem? (i := 123) (by decide +kernel))) rfl
theorem kw_8_124 : (Cond.methodLink RL 119 yX9_passes) ∈ uG := uG_mem (tb_8 (List.mem_of_getElem? (i := 124) (by decide +kernel))) rfl
theorem kw_8_125 : (Cond.instanceMethod yX9_passes) ∈ uG := uG_mem (tb_8 (List.mem_of_getElem? (i := 125) (by decide +kernel))) rfl
theorem kw_8_126 : (Cond.selects RX9 yX9_passes yX9_passes) ∈ uG := uG_mem (tb_8 (List.mem_of_getElem? (i := 126) (by decide +kernel))) rfl
theorem kw_8_127 : (Cond.code yX9_passes cX9_passes 3 (some .int)) ∈ uG := uG_mem (tb_8 (List.mem_of_getElem? (i := 127) (by decide +kernel))) rfl
theorem kw_8_128 : (Cond.methodLink RL 122 yX9_code) ∈ uG := uG_mem (tb_8 (List.mem_of_getElem? (i := 128) (by decide +kernel))) rfl
theorem kw_8_129 : (Cond.instanceMethod yX9_code) ∈ uG := uG_mem (tb_8 (List.mem_of_getElem? (i := 129) (by decide +kernel))) rfl
theorem kw_8_130 : (Cond.selects RX9 yX9_code yX9_code) ∈ uG := uG_mem (tb_8 (List.mem_of_getElem? (i := 130) (by decide +kernel))) rfl
theorem kw_8_131 : (Cond.code yX9_code cX9_code 4 (some .int)) ∈ uG := uG_mem (tb_8 (List.mem_of_getElem? (i := 131) (by decide +kernel))) rfl
theorem kw_8_132 : (Cond.methodLink RX9 328 yX9_instruction) ∈ uG := uG_mem (tb_8 (List.mem_of_getElem? (i := 132) (by decide +kernel))) rfl
theorem kw_8_134 : (Cond.instanceMethod yX9_instruction) ∈ uG := uG_mem (tb_8 (List.mem_of_getElem? (i := 134) (by decide +kernel))) rfl
theorem kw_8_135 : (Cond.code yX9_instruction cX9_instruction 5 (some .int)) ∈ uG := uG_mem (tb_8 (List.mem_of_getElem? (i := 135) (by decide +kernel))) rfl
theorem kw_8_136 : (Cond.methodLink RL 125 yX9_limits) ∈ uG := uG_mem (tb_8 (List.mem_of_getElem? (i := 136) (by decide +kernel))) rfl
theorem kw_8_137 : (Cond.instanceMethod yX9_limits) ∈ uG := uG_mem (tb_8 (List.mem_of_getElem? (i := 137) (by decide +kernel))) rfl
theorem kw_8_138 : (Cond.selects RX9 yX9_limits yX9_limits) ∈ uG := uG_mem (tb_8 (List.mem_of_getElem? (i := 138) (by decide +kernel))) rfl
theorem kw_8_139 : (Cond.code yX9_limits cX9_limits 4 (some .int)) ∈ uG := uG_mem (tb_8 (List.mem_of_getElem? (i := 139) (by decide +kernel))) rfl
theorem kw_8_140 : (Cond.methodLink RL 129 yX9_run) ∈ uG := uG_mem (tb_8 (List.mem_of_getElem? (i := 140) (by decide +kernel))) rfl
theorem kw_8_141 : (Cond.instanceMethod yX9_run) ∈ uG := uG_mem (tb_8 (List.mem_of_getElem? (i := 141) (by decide +kernel))) rfl
theorem kw_8_142 : (Cond.selects RX9 yX9_run yX9_run) ∈ uG := uG_mem (tb_8 (List.mem_of_getElem? (i := 142) (by decide +kernel))) rfl
theorem kw_8_143 : (Cond.code yX9_run cX9_run 1 (some .int)) ∈ uG := uG_mem (tb_8 (List.mem_of_getElem? (i := 143) (by decide +kernel))) rfl
theorem kw_8_144 : (Cond.methodLink RX9 478 yX9_go) ∈ uG := uG_mem (tb_8 (List.mem_of_getElem? (i := 144) (by decide +kernel))) rfl
theorem kw_8_146 : (Cond.instanceMethod yX9_go) ∈ uG := uG_mem (tb_8 (List.mem_of_getElem? (i := 146) (by decide +kernel))) rfl
theorem kw_8_147 : (Cond.code yX9_go cX9_go 5 (some (.array .int))) ∈ uG := uG_mem (tb_8 (List.mem_of_getElem? (i := 147) (by decide +kernel))) rfl
theorem kw_8_148 : (Cond.methodLink RX9 472 yX9_bits) ∈ uG := uG_mem (tb_8 (List.mem_of_getElem? (i := 148) (by decide +kernel))) rfl
theorem kw_8_149 : (Cond.static yX9_bits) ∈ uG := uG_mem (tb_8 (List.mem_of_getElem? (i := 149) (by decide +kernel))) rfl
theorem kw_8_150 : (Cond.code yX9_bits cX9_bits 3 (some .int)) ∈ uG := uG_mem (tb_8 (List.mem_of_getElem? (i := 150) (by decide +kernel))) rfl
theorem kw_8_151 : (Cond.methodLink RX9 447 yX9_newFrame) ∈ uG := uG_mem (tb_8 (List.mem_of_getElem? (i := 151) (by decide +kernel))) rfl
theorem kw_8_153 : (Cond.instanceMethod yX9_newFrame) ∈ uG := uG_mem (tb_8 (List.mem_of_getElem? (i := 153) (by decide +kernel))) rfl
theorem kw_8_154 : (Cond.code yX9_newFrame cX9_newFrame 8 (some .int)) ∈ uG := uG_mem (tb_8 (List.mem_of_getElem? (i := 154) (by decide +kernel))) rfl
theorem kw_8_155 : (Cond.methodLink RX9 345 yX9_room) ∈ uG := uG_mem (tb_8 (List.mem_of_getElem? (i := 155) (by decide +kernel))) rfl
theorem kw_8_156 : (Cond.static yX9_room) ∈ uG := uG_mem (tb_8 (List.mem_of_getElem? (i := 156) (by decide +kernel))) rfl
theorem kw_8_157 : (Cond.code yX9_room cX9_room 3 (some (.array .int))) ∈ uG := uG_mem (tb_8 (List.mem_of_getElem? (i := 157) (by decide +kernel))) rfl
theorem kw_8_158 : (Cond.methodLink RX9 331 yJ9_max_7cf53) ∈ uG := uG_mem (tb_8 (List.mem_of_getElem? (i := 158) (by decide +kernel))) rfl
theorem kw_8_159 : (Cond.methodLink RX9 376 yX9_allot) ∈ uG := uG_mem (tb_8 (List.mem_of_getElem? (i := 159) (by decide +kernel))) rfl
theorem kw_8_161 : (Cond.instanceMethod yX9_allot) ∈ uG := uG_mem (tb_8 (List.mem_of_getElem? (i := 161) (by decide +kernel))) rfl
theorem kw_8_162 : (Cond.code yX9_allot cX9_allot 3 (some .int)) ∈ uG := uG_mem (tb_8 (List.mem_of_getElem? (i := 162) (by decide +kernel))) rfl
theorem kw_8_163 : (Cond.methodLink RX9 379 yX9_newArray) ∈ uG := uG_mem (tb_8 (List.mem_of_getElem? (i := 163) (by decide +kernel))) rfl
theorem kw_8_165 : (Cond.instanceMethod yX9_newArray) ∈ uG := uG_mem (tb_8 (List.mem_of_getElem? (i := 165) (by decide +kernel))) rfl
theorem kw_8_166 : (Cond.code yX9_newArray cX9_newArray 3 (some .int)) ∈ uG := uG_mem (tb_8 (List.mem_of_getElem? (i := 166) (by decide +kernel))) rfl
theorem kw_8_167 : (Cond.methodLink RX9 428 yX9_begin) ∈ uG := uG_mem (tb_8 (List.mem_of_getElem? (i := 167) (by decide +kernel))) rfl
theorem kw_8_169 : (Cond.instanceMethod yX9_begin) ∈ uG := uG_mem (tb_8 (List.mem_of_getElem? (i := 169) (by decide +kernel))) rfl
theorem kw_8_170 : (Cond.code yX9_begin cX9_begin 5 none) ∈ uG := uG_mem (tb_8 (List.mem_of_getElem? (i := 170) (by decide +kernel))) rfl
theorem kw_8_171 : (Cond.methodLink RX9 355 yX9_stop) ∈ uG := uG_mem (tb_8 (List.mem_of_getElem? (i := 171) (by decide +kernel))) rfl
theorem kw_8_173 : (Cond.instanceMethod yX9_stop) ∈ uG := uG_mem (tb_8 (List.mem_of_getElem? (i := 173) (by decide +kernel))) rfl
theorem kw_8_174 : (Cond.code yX9_stop cX9_stop 3 none) ∈ uG := uG_mem (tb_8 (List.mem_of_getElem? (i := 174) (by decide +kernel))) rfl
theorem kw_8_175 : (Cond.methodLink RX9 475 yX9_walk) ∈ uG := uG_mem (tb_8 (List.mem_of_getElem? (i := 175) (by decide +kernel))) rfl
theorem kw_8_177 : (Cond.instanceMethod yX9_walk) ∈ uG := uG_mem (tb_8 (List.mem_of_getElem? (i := 177) (by decide +kernel))) rfl
theorem kw_8_178 : (Cond.code yX9_walk cX9_walk 7 none) ∈ uG := uG_mem (tb_8 (List.mem_of_getElem? (i := 178) (by decide +kernel))) rfl
theorem kw_8_179 : (Cond.methodLink RX9 400 yX9_finish) ∈ uG := uG_mem (tb_8 (List.mem_of_getElem? (i := 179) (by decide +kernel))) rfl
theorem kw_8_181 : (Cond.instanceMethod yX9_finish) ∈ uG := uG_mem (tb_8 (List.mem_of_getElem? (i := 181) (by decide +kernel))) rfl
theorem kw_8_182 : (Cond.code yX9_finish cX9_finish 2 none) ∈ uG := uG_mem (tb_8 (List.mem_of_getElem? (i := 182) (by decide +kernel))) rfl
theorem kw_8_183 : (Cond.methodLink RX9 367 yX9_put) ∈ uG := uG_mem (tb_8 (List.mem_of_getElem? (i := 183) (by decide +kernel))) rfl
theorem kw_8_185 : (Cond.instanceMethod yX9_put) ∈ uG := uG_mem (tb_8 (List.mem_of_getElem? (i := 185) (by decide +kernel))) rfl
theorem kw_8_186 : (Cond.code yX9_put cX9_put 2 none) ∈ uG := uG_mem (tb_8 (List.mem_of_getElem? (i := 186) (by decide +kernel))) rfl
theorem kw_8_187 : (Cond.methodLink RX9 403 yX9_use) ∈ uG := uG_mem (tb_8 (List.mem_of_getElem? (i := 187) (by decide +kernel))) rfl
theorem kw_8_189 : (Cond.instanceMethod yX9_use) ∈ uG := uG_mem (tb_8 (List.mem_of_getElem? (i := 189) (by decide +kernel))) rfl
theorem kw_8_190 : (Cond.code yX9_use cX9_use 7 none) ∈ uG := uG_mem (tb_8 (List.mem_of_getElem? (i := 190) (by decide +kernel))) rfl
theorem kw_8_191 : (Cond.methodLink RX9 416 yX9_slot) ∈ uG := uG_mem (tb_8 (List.mem_of_getElem? (i := 191) (by decide +kernel))) rfl
theorem kw_8_193 : (Cond.instanceMethod yX9_slot) ∈ uG := uG_mem (tb_8 (List.mem_of_getElem? (i := 193) (by decide +kernel))) rfl
theorem kw_8_194 : (Cond.code yX9_slot cX9_slot 3 (some .int)) ∈ uG := uG_mem (tb_8 (List.mem_of_getElem? (i := 194) (by decide +kernel))) rfl
theorem kw_8_195 : (Cond.methodLink RX9 382 yX9_frameOf) ∈ uG := uG_mem (tb_8 (List.mem_of_getElem? (i := 195) (by decide +kernel))) rfl
theorem kw_8_197 : (Cond.instanceMethod yX9_frameOf) ∈ uG := uG_mem (tb_8 (List.mem_of_getElem? (i := 197) (by decide +kernel))) rfl
theorem kw_8_198 : (Cond.code yX9_frameOf cX9_frameOf 5 (some .int)) ∈ uG := uG_mem (tb_8 (List.mem_of_getElem? (i := 198) (by decide +kernel))) rfl
theorem kw_8_199 : (Cond.methodLink RX9 407 yX9_reckonNode) ∈ uG := uG_mem (tb_8 (List.mem_of_getElem? (i := 199) (by decide +kernel))) rfl
theorem kw_8_201 : (Cond.instanceMethod yX9_reckonNode) ∈ uG := uG_mem (tb_8 (List.mem_of_getElem? (i := 201) (by decide +kernel))) rfl
theorem kw_8_202 : (Cond.code yX9_reckonNode cX9_reckonNode 7 none) ∈ uG := uG_mem (tb_8 (List.mem_of_getElem? (i := 202) (by decide +kernel))) rfl
theorem kw_8_203 : (Cond.methodLink RX9 431 yX9_take) ∈ uG := uG_mem (tb_8 (List.mem_of_getElem? (i := 203) (by decide +kernel))) rfl
theorem kw_8_205 : (Cond.instanceMethod yX9_take) ∈ uG := uG_mem (tb_8 (List.mem_of_getElem? (i := 205) (by decide +kernel))) rfl
theorem kw_8_206 : (Cond.code yX9_take cX9_take 1 (some .int)) ∈ uG := uG_mem (tb_8 (List.mem_of_getElem? (i := 206) (by decide +kernel))) rfl
theorem kw_8_207 : (Cond.methodLink RX9 410 yX9_call) ∈ uG := uG_mem (tb_8 (List.mem_of_getElem? (i := 207) (by decide +kernel))) rfl
theorem kw_8_209 : (Cond.instanceMethod yX9_call) ∈ uG := uG_mem (tb_8 (List.mem_of_getElem? (i := 209) (by decide +kernel))) rfl
theorem kw_8_210 : (Cond.code yX9_call cX9_call 5 none) ∈ uG := uG_mem (tb_8 (List.mem_of_getElem? (i := 210) (by decide +kernel))) rfl
theorem kw_8_211 : (Cond.methodLink RX9 434 yX9_enter) ∈ uG := uG_mem (tb_8 (List.mem_of_getElem? (i := 211) (by decide +kernel))) rfl
theorem kw_8_213 : (Cond.instanceMethod yX9_enter) ∈ uG := uG_mem (tb_8 (List.mem_of_getElem? (i := 213) (by decide +kernel))) rfl
theorem kw_8_214 : (Cond.code yX9_enter cX9_enter 15 none) ∈ uG := uG_mem (tb_8 (List.mem_of_getElem? (i := 214) (by decide +kernel))) rfl
theorem kw_8_215 : (Cond.methodLink RX9 437 yX9_cutTo) ∈ uG := uG_mem (tb_8 (List.mem_of_getElem? (i := 215) (by decide +kernel))) rfl
theorem kw_8_217 : (Cond.instanceMethod yX9_cutTo) ∈ uG := uG_mem (tb_8 (List.mem_of_getElem? (i := 217) (by decide +kernel))) rfl
theorem kw_8_218 : (Cond.code yX9_cutTo cX9_cutTo 2 none) ∈ uG := uG_mem (tb_8 (List.mem_of_getElem? (i := 218) (by decide +kernel))) rfl
theorem kw_8_219 : (Cond.methodLink RX9 413 yX9_argument) ∈ uG := uG_mem (tb_8 (List.mem_of_getElem? (i := 219) (by decide +kernel))) rfl
theorem kw_8_221 : (Cond.instanceMethod yX9_argument) ∈ uG := uG_mem (tb_8 (List.mem_of_getElem? (i := 221) (by decide +kernel))) rfl
theorem kw_8_222 : (Cond.code yX9_argument cX9_argument 7 none) ∈ uG := uG_mem (tb_8 (List.mem_of_getElem? (i := 222) (by decide +kernel))) rfl
theorem kw_8_223 : (Cond.methodLink RX9 419 yX9_copyOf) ∈ uG := uG_mem (tb_8 (List.mem_of_getElem? (i := 223) (by decide +kernel))) rfl
theorem kw_8_225 : (Cond.instanceMethod yX9_copyOf) ∈ uG := uG_mem (tb_8 (List.mem_of_getElem? (i := 225) (by decide +kernel))) rfl
theorem kw_8_226 : (Cond.code yX9_copyOf cX9_copyOf 3 (some .int)) ∈ uG := uG_mem (tb_8 (List.mem_of_getElem? (i := 226) (by decide +kernel))) rfl
theorem kw_8_227 : (Cond.methodLink RX9 422 yX9_leave) ∈ uG := uG_mem (tb_8 (List.mem_of_getElem? (i := 227) (by decide +kernel))) rfl
theorem kw_8_229 : (Cond.instanceMethod yX9_leave) ∈ uG := uG_mem (tb_8 (List.mem_of_getElem? (i := 229) (by decide +kernel))) rfl
theorem kw_8_230 : (Cond.code yX9_leave cX9_leave 7 none) ∈ uG := uG_mem (tb_8 (List.mem_of_getElem? (i := 230) (by decide +kernel))) rfl
theorem kw_8_231 : (Cond.methodLink RX9 425 yX9_state) ∈ uG := uG_mem (tb_8 (List.mem_of_getElem? (i := 231) (by decide +kernel))) rfl
theorem kw_8_233 : (Cond.instanceMethod yX9_state) ∈ uG := uG_mem (tb_8 (List.mem_of_getElem? (i := 233) (by decide +kernel))) rfl
theorem kw_8_234 : (Cond.code yX9_state cX9_state 6 none) ∈ uG := uG_mem (tb_8 (List.mem_of_getElem? (i := 234) (by decide +kernel))) rfl
theorem kw_8_235 : (Cond.methodLink RX9 450 yX9_store) ∈ uG := uG_mem (tb_8 (List.mem_of_getElem? (i := 235) (by decide +kernel))) rfl
theorem kw_8_237 : (Cond.instanceMethod yX9_store) ∈ uG := uG_mem (tb_8 (List.mem_of_getElem? (i := 237) (by decide +kernel))) rfl
theorem kw_8_238 : (Cond.code yX9_store cX9_store 6 none) ∈ uG := uG_mem (tb_8 (List.mem_of_getElem? (i := 238) (by decide +kernel))) rfl
theorem kw_8_239 : (Cond.methodLink RX9 453 yX9_turn) ∈ uG := uG_mem (tb_8 (List.mem_of_getElem? (i := 239) (by decide +kernel))) rfl
theorem kw_9_1 : (Cond.instanceMethod yX9_turn) ∈ uG := uG_mem (tb_9 (List.mem_of_getElem? (i := 1) (by decide +kernel))) rfl
theorem kw_9_2 : (Cond.code yX9_turn cX9_turn 7 (some .boolean)) ∈ uG := uG_mem (tb_9 (List.mem_of_getElem? (i := 2) (by decide +kernel))) rfl
theorem kw_9_3 : (Cond.methodLink RX9 456 yX9_give) ∈ uG := uG_mem (tb_9 (List.mem_of_getElem? (i := 3) (by decide +kernel))) rfl
theorem kw_9_5 : (Cond.instanceMethod yX9_give) ∈ uG := uG_mem (tb_9 (List.mem_of_getElem? (i := 5) (by decide +kernel))) rfl
theorem kw_9_6 : (Cond.code yX9_give cX9_give 4 none) ∈ uG := uG_mem (tb_9 (List.mem_of_getElem? (i := 6) (by decide +kernel))) rfl
theorem kw_9_7 : (Cond.methodLink RX9 459 yX9_print) ∈ uG := uG_mem (tb_9 (List.mem_of_getElem? (i := 7) (by decide +kernel))) rfl
theorem kw_9_9 : (Cond.instanceMethod yX9_print) ∈ uG := uG_mem (tb_9 (List.mem_of_getElem? (i := 9) (by decide +kernel))) rfl
theorem kw_9_10 : (Cond.code yX9_print cX9_print 3 none) ∈ uG := uG_mem (tb_9 (List.mem_of_getElem? (i := 10) (by decide +kernel))) rfl
theorem kw_9_11 : (Cond.methodLink RX9 485 yJ9_min_7cf53) ∈ uG := uG_mem (tb_9 (List.mem_of_getElem? (i := 11) (by decide +kernel))) rfl
theorem kw_9_12 : (Cond.methodLink RL 132 yX9_ofRun) ∈ uG := uG_mem (tb_9 (List.mem_of_getElem? (i := 12) (by decide +kernel))) rfl
theorem kw_9_13 : (Cond.instanceMethod yX9_ofRun) ∈ uG := uG_mem (tb_9 (List.mem_of_getElem? (i := 13) (by decide +kernel))) rfl
theorem kw_9_14 : (Cond.selects RX9 yX9_ofRun yX9_ofRun) ∈ uG := uG_mem (tb_9 (List.mem_of_getElem? (i := 14) (by decide +kernel))) rfl
theorem kw_9_15 : (Cond.code yX9_ofRun cX9_ofRun 2 (some .int)) ∈ uG := uG_mem (tb_9 (List.mem_of_getElem? (i := 15) (by decide +kernel))) rfl
theorem kw_9_16 : (Cond.methodLink RL 135 yX9_printed) ∈ uG := uG_mem (tb_9 (List.mem_of_getElem? (i := 16) (by decide +kernel))) rfl
theorem kw_9_17 : (Cond.instanceMethod yX9_printed) ∈ uG := uG_mem (tb_9 (List.mem_of_getElem? (i := 17) (by decide +kernel))) rfl
theorem kw_9_18 : (Cond.selects RX9 yX9_printed yX9_printed) ∈ uG := uG_mem (tb_9 (List.mem_of_getElem? (i := 18) (by decide +kernel))) rfl
theorem kw_9_19 : (Cond.code yX9_printed cX9_printed 3 (some .int)) ∈ uG := uG_mem (tb_9 (List.mem_of_getElem? (i := 19) (by decide +kernel))) rfl
theorem kw_9_20 : (Cond.methodLink RL 140 yX9_meanPrinted) ∈ uG := uG_mem (tb_9 (List.mem_of_getElem? (i := 20) (by decide +kernel))) rfl
theorem kw_9_21 : (Cond.instanceMethod yX9_meanPrinted) ∈ uG := uG_mem (tb_9 (List.mem_of_getElem? (i := 21) (by decide +kernel))) rfl
theorem kw_9_22 : (Cond.selects RX9 yX9_meanPrinted yX9_meanPrinted) ∈ uG := uG_mem (tb_9 (List.mem_of_getElem? (i := 22) (by decide +kernel))) rfl
theorem kw_9_23 : (Cond.code yX9_meanPrinted cX9_meanPrinted 1 (some .double)) ∈ uG := uG_mem (tb_9 (List.mem_of_getElem? (i := 23) (by decide +kernel))) rfl
theorem kw_9_24 : (Cond.methodLink RL 143 yX9_many) ∈ uG := uG_mem (tb_9 (List.mem_of_getElem? (i := 24) (by decide +kernel))) rfl
theorem kw_9_25 : (Cond.instanceMethod yX9_many) ∈ uG := uG_mem (tb_9 (List.mem_of_getElem? (i := 25) (by decide +kernel))) rfl
theorem kw_9_26 : (Cond.selects RX9 yX9_many yX9_many) ∈ uG := uG_mem (tb_9 (List.mem_of_getElem? (i := 26) (by decide +kernel))) rfl
theorem kw_9_27 : (Cond.code yX9_many cX9_many 2 (some .int)) ∈ uG := uG_mem (tb_9 (List.mem_of_getElem? (i := 27) (by decide +kernel))) rfl
theorem kw_9_28 : (Cond.methodLink RX9 494 yX9_manyNow) ∈ uG := uG_mem (tb_9 (List.mem_of_getElem? (i := 28) (by decide +kernel))) rfl
theorem kw_9_30 : (Cond.instanceMethod yX9_manyNow) ∈ uG := uG_mem (tb_9 (List.mem_of_getElem? (i := 30) (by decide +kernel))) rfl
theorem kw_9_31 : (Cond.code yX9_manyNow cX9_manyNow 4 (some .int)) ∈ uG := uG_mem (tb_9 (List.mem_of_getElem? (i := 31) (by decide +kernel))) rfl
theorem kw_9_32 : (Cond.methodLink RX9 491 yX9_allCode) ∈ uG := uG_mem (tb_9 (List.mem_of_getElem? (i := 32) (by decide +kernel))) rfl
theorem kw_9_34 : (Cond.instanceMethod yX9_allCode) ∈ uG := uG_mem (tb_9 (List.mem_of_getElem? (i := 34) (by decide +kernel))) rfl
theorem kw_9_35 : (Cond.code yX9_allCode cX9_allCode 4 (some .int)) ∈ uG := uG_mem (tb_9 (List.mem_of_getElem? (i := 35) (by decide +kernel))) rfl
theorem kw_9_36 : (Cond.methodLink RL 146 yX9_wouldRun) ∈ uG := uG_mem (tb_9 (List.mem_of_getElem? (i := 36) (by decide +kernel))) rfl
theorem kw_9_37 : (Cond.instanceMethod yX9_wouldRun) ∈ uG := uG_mem (tb_9 (List.mem_of_getElem? (i := 37) (by decide +kernel))) rfl
theorem kw_9_38 : (Cond.selects RX9 yX9_wouldRun yX9_wouldRun) ∈ uG := uG_mem (tb_9 (List.mem_of_getElem? (i := 38) (by decide +kernel))) rfl
theorem kw_9_39 : (Cond.code yX9_wouldRun cX9_wouldRun 4 (some .int)) ∈ uG := uG_mem (tb_9 (List.mem_of_getElem? (i := 39) (by decide +kernel))) rfl
theorem kw_9_40 : (Cond.methodLink RL 149 yX9_with) ∈ uG := uG_mem (tb_9 (List.mem_of_getElem? (i := 40) (by decide +kernel))) rfl
theorem kw_9_41 : (Cond.instanceMethod yX9_with) ∈ uG := uG_mem (tb_9 (List.mem_of_getElem? (i := 41) (by decide +kernel))) rfl
theorem kw_9_42 : (Cond.selects RX9 yX9_with yX9_with) ∈ uG := uG_mem (tb_9 (List.mem_of_getElem? (i := 42) (by decide +kernel))) rfl
theorem kw_9_43 : (Cond.code yX9_with cX9_with 3 (some .int)) ∈ uG := uG_mem (tb_9 (List.mem_of_getElem? (i := 43) (by decide +kernel))) rfl
theorem kw_9_44 : (Cond.methodLink RL 152 yX9_hiddenBy) ∈ uG := uG_mem (tb_9 (List.mem_of_getElem? (i := 44) (by decide +kernel))) rfl
theorem kw_9_45 : (Cond.instanceMethod yX9_hiddenBy) ∈ uG := uG_mem (tb_9 (List.mem_of_getElem? (i := 45) (by decide +kernel))) rfl
theorem kw_9_46 : (Cond.selects RX9 yX9_hiddenBy yX9_hiddenBy) ∈ uG := uG_mem (tb_9 (List.mem_of_getElem? (i := 46) (by decide +kernel))) rfl
theorem kw_9_47 : (Cond.code yX9_hiddenBy cX9_hiddenBy 3 (some .int)) ∈ uG := uG_mem (tb_9 (List.mem_of_getElem? (i := 47) (by decide +kernel))) rfl
theorem kw_9_48 : (Cond.methodLink RX9 497 yX9_hiddenNow) ∈ uG := uG_mem (tb_9 (List.mem_of_getElem? (i := 48) (by decide +kernel))) rfl
theorem kw_9_50 : (Cond.instanceMethod yX9_hiddenNow) ∈ uG := uG_mem (tb_9 (List.mem_of_getElem? (i := 50) (by decide +kernel))) rfl
theorem kw_9_51 : (Cond.code yX9_hiddenNow cX9_hiddenNow 6 (some .int)) ∈ uG := uG_mem (tb_9 (List.mem_of_getElem? (i := 51) (by decide +kernel))) rfl
theorem kw_9_52 : (Cond.methodLink RL 157 yX9_digest) ∈ uG := uG_mem (tb_9 (List.mem_of_getElem? (i := 52) (by decide +kernel))) rfl
theorem kw_9_53 : (Cond.instanceMethod yX9_digest) ∈ uG := uG_mem (tb_9 (List.mem_of_getElem? (i := 53) (by decide +kernel))) rfl
theorem kw_9_54 : (Cond.selects RX9 yX9_digest yX9_digest) ∈ uG := uG_mem (tb_9 (List.mem_of_getElem? (i := 54) (by decide +kernel))) rfl
theorem kw_9_55 : (Cond.code yX9_digest cX9_digest 9 (some .long)) ∈ uG := uG_mem (tb_9 (List.mem_of_getElem? (i := 55) (by decide +kernel))) rfl
theorem kw_9_56 : (Cond.constantLong RX9 500 (58126 : Int64)) ∈ uG := uG_mem (tb_9 (List.mem_of_getElem? (i := 56) (by decide +kernel))) rfl
theorem kw_9_57 : (Cond.constantLong RX9 502 (31 : Int64)) ∈ uG := uG_mem (tb_9 (List.mem_of_getElem? (i := 57) (by decide +kernel))) rfl
theorem kw_9_58 : (Cond.arrayClass FieldType.long) ∈ uG := uG_mem (tb_9 (List.mem_of_getElem? (i := 58) (by decide +kernel))) rfl
theorem ks_1_0 : (Cond.selects RX8 yX8_refresh yX8_refresh) ∈ uG := by
  have h := uG_sel (pv_1 (List.getElem_mem (l := lw_privs_1) (n := 0) (by decide +kernel)))
  exact h
theorem ks_1_1 : (Cond.selects RX4 yX4_findWhereNodesAre yX4_findWhereNodesAre) ∈ uG := by
  have h := uG_sel (pv_1 (List.getElem_mem (l := lw_privs_1) (n := 1) (by decide +kernel)))
  exact h
theorem ks_1_2 : (Cond.selects RX4 yX4_bind yX4_bind) ∈ uG := by
  have h := uG_sel (pv_1 (List.getElem_mem (l := lw_privs_1) (n := 2) (by decide +kernel)))
  exact h
theorem ks_1_3 : (Cond.selects RX4 yX4_hasPlace yX4_hasPlace) ∈ uG := by
  have h := uG_sel (pv_1 (List.getElem_mem (l := lw_privs_1) (n := 3) (by decide +kernel)))
  exact h
theorem ks_1_4 : (Cond.selects RX4 yX4_fold yX4_fold) ∈ uG := by
  have h := uG_sel (pv_1 (List.getElem_mem (l := lw_privs_1) (n := 4) (by decide +kernel)))
  exact h
theorem ks_1_5 : (Cond.selects RX4 yX4_isKnown yX4_isKnown) ∈ uG := by
  have h := uG_sel (pv_1 (List.getElem_mem (l := lw_privs_1) (n := 5) (by decide +kernel)))
  exact h
theorem ks_1_6 : (Cond.selects RX4 yX4_findHandedOn yX4_findHandedOn) ∈ uG := by
  have h := uG_sel (pv_1 (List.getElem_mem (l := lw_privs_1) (n := 6) (by decide +kernel)))
  exact h
theorem ks_1_7 : (Cond.selects RX4 yX4_findEscapes yX4_findEscapes) ∈ uG := by
  have h := uG_sel (pv_1 (List.getElem_mem (l := lw_privs_1) (n := 7) (by decide +kernel)))
  exact h
theorem ks_1_8 : (Cond.selects RX4 yX4_isOutliving yX4_isOutliving) ∈ uG := by
  have h := uG_sel (pv_1 (List.getElem_mem (l := lw_privs_1) (n := 8) (by decide +kernel)))
  exact h
theorem ks_1_9 : (Cond.selects RX4 yX4_findLabels yX4_findLabels) ∈ uG := by
  have h := uG_sel (pv_1 (List.getElem_mem (l := lw_privs_1) (n := 9) (by decide +kernel)))
  exact h
theorem ks_1_10 : (Cond.selects RX4 yX4_isTail yX4_isTail) ∈ uG := by
  have h := uG_sel (pv_1 (List.getElem_mem (l := lw_privs_1) (n := 10) (by decide +kernel)))
  exact h
theorem ks_1_11 : (Cond.selects RX4 yX4_hopsToLoop yX4_hopsToLoop) ∈ uG := by
  have h := uG_sel (pv_1 (List.getElem_mem (l := lw_privs_1) (n := 11) (by decide +kernel)))
  exact h
theorem ks_1_12 : (Cond.selects RX4 yX4_isInLoop yX4_isInLoop) ∈ uG := by
  have h := uG_sel (pv_1 (List.getElem_mem (l := lw_privs_1) (n := 12) (by decide +kernel)))
  exact h
theorem ks_1_13 : (Cond.selects RX4 yX4_findModes yX4_findModes) ∈ uG := by
  have h := uG_sel (pv_1 (List.getElem_mem (l := lw_privs_1) (n := 13) (by decide +kernel)))
  exact h
theorem ks_1_14 : (Cond.selects RX4 yX4_sumUp yX4_sumUp) ∈ uG := by
  have h := uG_sel (pv_1 (List.getElem_mem (l := lw_privs_1) (n := 14) (by decide +kernel)))
  exact h
theorem ks_1_15 : (Cond.selects RX2 yX2_tell yX2_tell) ∈ uG := by
  have h := uG_sel (pv_1 (List.getElem_mem (l := lw_privs_1) (n := 15) (by decide +kernel)))
  exact h
theorem ks_2_0 : (Cond.selects RX2 yX2_await yX2_await) ∈ uG := by
  have h := uG_sel (pv_2 (List.getElem_mem (l := lw_privs_2) (n := 0) (by decide +kernel)))
  exact h
theorem ks_2_1 : (Cond.selects RX2 yX2_faultOf yX2_faultOf) ∈ uG := by
  have h := uG_sel (pv_2 (List.getElem_mem (l := lw_privs_2) (n := 1) (by decide +kernel)))
  exact h
theorem ks_2_2 : (Cond.selects RX2 yX2_isAsItHasToBe yX2_isAsItHasToBe) ∈ uG := by
  have h := uG_sel (pv_2 (List.getElem_mem (l := lw_privs_2) (n := 2) (by decide +kernel)))
  exact h
theorem ks_2_3 : (Cond.selects RX2 yX2_faultOfArguments yX2_faultOfArguments) ∈ uG := by
  have h := uG_sel (pv_2 (List.getElem_mem (l := lw_privs_2) (n := 3) (by decide +kernel)))
  exact h
theorem ks_2_4 : (Cond.selects RX2 yX2_suits yX2_suits) ∈ uG := by
  have h := uG_sel (pv_2 (List.getElem_mem (l := lw_privs_2) (n := 4) (by decide +kernel)))
  exact h
theorem ks_2_6 : (Cond.selects RX8 yX8_wholeCodeLength yX8_wholeCodeLength) ∈ uG := by
  have h := uG_sel (pv_2 (List.getElem_mem (l := lw_privs_2) (n := 6) (by decide +kernel)))
  exact h
theorem ks_2_7 : (Cond.selects RX0 yX0_isPushed yX0_isPushed) ∈ uG := by
  have h := uG_sel (pv_2 (List.getElem_mem (l := lw_privs_2) (n := 7) (by decide +kernel)))
  exact h
theorem ks_2_8 : (Cond.selects RX0 yX0_lengthOfPart yX0_lengthOfPart) ∈ uG := by
  have h := uG_sel (pv_2 (List.getElem_mem (l := lw_privs_2) (n := 8) (by decide +kernel)))
  exact h
theorem ks_2_9 : (Cond.selects RX0 yX0_ownLength yX0_ownLength) ∈ uG := by
  have h := uG_sel (pv_2 (List.getElem_mem (l := lw_privs_2) (n := 9) (by decide +kernel)))
  exact h
theorem ks_2_10 : (Cond.selects RX0 yX0_isJump yX0_isJump) ∈ uG := by
  have h := uG_sel (pv_2 (List.getElem_mem (l := lw_privs_2) (n := 10) (by decide +kernel)))
  exact h
theorem ks_2_11 : (Cond.selects RX0 yX0_placeProcedures yX0_placeProcedures) ∈ uG := by
  have h := uG_sel (pv_2 (List.getElem_mem (l := lw_privs_2) (n := 11) (by decide +kernel)))
  exact h
theorem ks_2_12 : (Cond.selects RX0 yX0_clear yX0_clear) ∈ uG := by
  have h := uG_sel (pv_2 (List.getElem_mem (l := lw_privs_2) (n := 12) (by decide +kernel)))
  exact h
theorem ks_2_13 : (Cond.selects RX0 yX0_put yX0_put) ∈ uG := by
  have h := uG_sel (pv_2 (List.getElem_mem (l := lw_privs_2) (n := 13) (by decide +kernel)))
  exact h
theorem ks_2_14 : (Cond.selects RX0 yX0_placeParts yX0_placeParts) ∈ uG := by
  have h := uG_sel (pv_2 (List.getElem_mem (l := lw_privs_2) (n := 14) (by decide +kernel)))
  exact h
theorem ks_2_15 : (Cond.selects RX0 yX0_swallow yX0_swallow) ∈ uG := by
  have h := uG_sel (pv_2 (List.getElem_mem (l := lw_privs_2) (n := 15) (by decide +kernel)))
  exact h
theorem ks_3_0 : (Cond.selects RX0 yX0_place yX0_place) ∈ uG := by
  have h := uG_sel (pv_3 (List.getElem_mem (l := lw_privs_3) (n := 0) (by decide +kernel)))
  exact h
theorem ks_3_1 : (Cond.selects RX0 yX0_noteBegin yX0_noteBegin) ∈ uG := by
  have h := uG_sel (pv_3 (List.getElem_mem (l := lw_privs_3) (n := 1) (by decide +kernel)))
  exact h
theorem ks_3_2 : (Cond.selects RX0 yX0_write yX0_write) ∈ uG := by
  have h := uG_sel (pv_3 (List.getElem_mem (l := lw_privs_3) (n := 2) (by decide +kernel)))
  exact h
theorem ks_3_3 : (Cond.selects RX0 yX0_writeExpression yX0_writeExpression) ∈ uG := by
  have h := uG_sel (pv_3 (List.getElem_mem (l := lw_privs_3) (n := 3) (by decide +kernel)))
  exact h
theorem ks_3_4 : (Cond.selects RX0 yX0_putNamed yX0_putNamed) ∈ uG := by
  have h := uG_sel (pv_3 (List.getElem_mem (l := lw_privs_3) (n := 4) (by decide +kernel)))
  exact h
theorem ks_3_5 : (Cond.selects RX0 yX0_writeCall yX0_writeCall) ∈ uG := by
  have h := uG_sel (pv_3 (List.getElem_mem (l := lw_privs_3) (n := 5) (by decide +kernel)))
  exact h
theorem ks_3_6 : (Cond.selects RX0 yX0_writeStatement yX0_writeStatement) ∈ uG := by
  have h := uG_sel (pv_3 (List.getElem_mem (l := lw_privs_3) (n := 6) (by decide +kernel)))
  exact h
theorem ks_3_7 : (Cond.selects RX0 yX0_writeIf yX0_writeIf) ∈ uG := by
  have h := uG_sel (pv_3 (List.getElem_mem (l := lw_privs_3) (n := 7) (by decide +kernel)))
  exact h
theorem ks_3_8 : (Cond.selects RX0 yX0_writeLoop yX0_writeLoop) ∈ uG := by
  have h := uG_sel (pv_3 (List.getElem_mem (l := lw_privs_3) (n := 8) (by decide +kernel)))
  exact h
theorem ks_3_9 : (Cond.selects RX8 yX8_needProcedure yX8_needProcedure) ∈ uG := by
  have h := uG_sel (pv_3 (List.getElem_mem (l := lw_privs_3) (n := 9) (by decide +kernel)))
  exact h
theorem ks_3_10 : (Cond.selects RX8 yX8_codeLength yX8_codeLength) ∈ uG := by
  have h := uG_sel (pv_3 (List.getElem_mem (l := lw_privs_3) (n := 10) (by decide +kernel)))
  exact h
theorem ks_3_11 : (Cond.selects RX8 yX8_needNode yX8_needNode) ∈ uG := by
  have h := uG_sel (pv_3 (List.getElem_mem (l := lw_privs_3) (n := 11) (by decide +kernel)))
  exact h
theorem ks_3_12 : (Cond.selects RX3 yX3_clear yX3_clear) ∈ uG := by
  have h := uG_sel (pv_3 (List.getElem_mem (l := lw_privs_3) (n := 12) (by decide +kernel)))
  exact h
theorem ks_3_13 : (Cond.selects RX3 yX3_keepReturn yX3_keepReturn) ∈ uG := by
  have h := uG_sel (pv_3 (List.getElem_mem (l := lw_privs_3) (n := 13) (by decide +kernel)))
  exact h
theorem ks_3_14 : (Cond.selects RX7 yX7_has yX7_has) ∈ uG := by
  have h := uG_sel (pv_3 (List.getElem_mem (l := lw_privs_3) (n := 14) (by decide +kernel)))
  exact h
theorem ks_3_15 : (Cond.selects RX3 yX3_call yX3_call) ∈ uG := by
  have h := uG_sel (pv_3 (List.getElem_mem (l := lw_privs_3) (n := 15) (by decide +kernel)))
  exact h
theorem ks_4_0 : (Cond.selects RX3 yX3_layPlaces yX3_layPlaces) ∈ uG := by
  have h := uG_sel (pv_4 (List.getElem_mem (l := lw_privs_4) (n := 0) (by decide +kernel)))
  exact h
theorem ks_4_1 : (Cond.selects RX3 yX3_begin yX3_begin) ∈ uG := by
  have h := uG_sel (pv_4 (List.getElem_mem (l := lw_privs_4) (n := 1) (by decide +kernel)))
  exact h
theorem ks_4_2 : (Cond.selects RX3 yX3_trap yX3_trap) ∈ uG := by
  have h := uG_sel (pv_4 (List.getElem_mem (l := lw_privs_4) (n := 2) (by decide +kernel)))
  exact h
theorem ks_4_3 : (Cond.selects RX3 yX3_perform yX3_perform) ∈ uG := by
  have h := uG_sel (pv_4 (List.getElem_mem (l := lw_privs_4) (n := 3) (by decide +kernel)))
  exact h
theorem ks_4_4 : (Cond.selects RX3 yX3_push yX3_push) ∈ uG := by
  have h := uG_sel (pv_4 (List.getElem_mem (l := lw_privs_4) (n := 4) (by decide +kernel)))
  exact h
theorem ks_4_5 : (Cond.selects RX3 yX3_cellOf yX3_cellOf) ∈ uG := by
  have h := uG_sel (pv_4 (List.getElem_mem (l := lw_privs_4) (n := 5) (by decide +kernel)))
  exact h
theorem ks_4_6 : (Cond.selects RX3 yX3_frameAt yX3_frameAt) ∈ uG := by
  have h := uG_sel (pv_4 (List.getElem_mem (l := lw_privs_4) (n := 6) (by decide +kernel)))
  exact h
theorem ks_4_7 : (Cond.selects RX3 yX3_get yX3_get) ∈ uG := by
  have h := uG_sel (pv_4 (List.getElem_mem (l := lw_privs_4) (n := 7) (by decide +kernel)))
  exact h
theorem ks_4_8 : (Cond.selects RX3 yX3_pushCell yX3_pushCell) ∈ uG := by
  have h := uG_sel (pv_4 (List.getElem_mem (l := lw_privs_4) (n := 8) (by decide +kernel)))
  exact h
theorem ks_4_9 : (Cond.selects RX3 yX3_pick yX3_pick) ∈ uG := by
  have h := uG_sel (pv_4 (List.getElem_mem (l := lw_privs_4) (n := 9) (by decide +kernel)))
  exact h
theorem ks_4_10 : (Cond.selects RX3 yX3_pop yX3_pop) ∈ uG := by
  have h := uG_sel (pv_4 (List.getElem_mem (l := lw_privs_4) (n := 10) (by decide +kernel)))
  exact h
theorem ks_4_11 : (Cond.selects RX3 yX3_go yX3_go) ∈ uG := by
  have h := uG_sel (pv_4 (List.getElem_mem (l := lw_privs_4) (n := 11) (by decide +kernel)))
  exact h
theorem ks_4_12 : (Cond.selects RX3 yX3_goByProc yX3_goByProc) ∈ uG := by
  have h := uG_sel (pv_4 (List.getElem_mem (l := lw_privs_4) (n := 12) (by decide +kernel)))
  exact h
theorem ks_4_13 : (Cond.selects RX3 yX3_refer yX3_refer) ∈ uG := by
  have h := uG_sel (pv_4 (List.getElem_mem (l := lw_privs_4) (n := 13) (by decide +kernel)))
  exact h
theorem ks_4_14 : (Cond.selects RX3 yX3_later yX3_later) ∈ uG := by
  have h := uG_sel (pv_4 (List.getElem_mem (l := lw_privs_4) (n := 14) (by decide +kernel)))
  exact h
theorem ks_4_15 : (Cond.selects RX3 yX3_skip yX3_skip) ∈ uG := by
  have h := uG_sel (pv_4 (List.getElem_mem (l := lw_privs_4) (n := 15) (by decide +kernel)))
  exact h
theorem ks_5_0 : (Cond.selects RX3 yX3_goBack yX3_goBack) ∈ uG := by
  have h := uG_sel (pv_5 (List.getElem_mem (l := lw_privs_5) (n := 0) (by decide +kernel)))
  exact h
theorem ks_5_1 : (Cond.selects RX3 yX3_copy yX3_copy) ∈ uG := by
  have h := uG_sel (pv_5 (List.getElem_mem (l := lw_privs_5) (n := 1) (by decide +kernel)))
  exact h
theorem ks_5_2 : (Cond.selects RX3 yX3_put yX3_put) ∈ uG := by
  have h := uG_sel (pv_5 (List.getElem_mem (l := lw_privs_5) (n := 2) (by decide +kernel)))
  exact h
theorem ks_5_3 : (Cond.selects RX3 yX3_stow yX3_stow) ∈ uG := by
  have h := uG_sel (pv_5 (List.getElem_mem (l := lw_privs_5) (n := 3) (by decide +kernel)))
  exact h
theorem ks_5_4 : (Cond.selects RX3 yX3_open yX3_open) ∈ uG := by
  have h := uG_sel (pv_5 (List.getElem_mem (l := lw_privs_5) (n := 4) (by decide +kernel)))
  exact h
theorem ks_5_5 : (Cond.selects RX3 yX3_leave yX3_leave) ∈ uG := by
  have h := uG_sel (pv_5 (List.getElem_mem (l := lw_privs_5) (n := 5) (by decide +kernel)))
  exact h
theorem ks_5_6 : (Cond.selects RX3 yX3_isLoopOf yX3_isLoopOf) ∈ uG := by
  have h := uG_sel (pv_5 (List.getElem_mem (l := lw_privs_5) (n := 6) (by decide +kernel)))
  exact h
theorem ks_5_7 : (Cond.selects RX3 yX3_reckon yX3_reckon) ∈ uG := by
  have h := uG_sel (pv_5 (List.getElem_mem (l := lw_privs_5) (n := 7) (by decide +kernel)))
  exact h
theorem ks_5_8 : (Cond.selects RX1 yX1_declare yX1_declare) ∈ uG := by
  have h := uG_sel (pv_5 (List.getElem_mem (l := lw_privs_5) (n := 8) (by decide +kernel)))
  exact h
theorem ks_5_9 : (Cond.selects RX1 yX1_declarePlace yX1_declarePlace) ∈ uG := by
  have h := uG_sel (pv_5 (List.getElem_mem (l := lw_privs_5) (n := 9) (by decide +kernel)))
  exact h
theorem ks_5_10 : (Cond.selects RX5 yX5_fills yX5_fills) ∈ uG := by
  have h := uG_sel (pv_5 (List.getElem_mem (l := lw_privs_5) (n := 10) (by decide +kernel)))
  exact h
theorem ks_5_11 : (Cond.selects RX5 yX5_isPartFor yX5_isPartFor) ∈ uG := by
  have h := uG_sel (pv_5 (List.getElem_mem (l := lw_privs_5) (n := 11) (by decide +kernel)))
  exact h
theorem ks_5_12 : (Cond.selects RX5 yX5_claim yX5_claim) ∈ uG := by
  have h := uG_sel (pv_5 (List.getElem_mem (l := lw_privs_5) (n := 12) (by decide +kernel)))
  exact h
theorem ks_5_13 : (Cond.selects RX9 yX9_isProcedure yX9_isProcedure) ∈ uG := by
  have h := uG_sel (pv_5 (List.getElem_mem (l := lw_privs_5) (n := 13) (by decide +kernel)))
  exact h
theorem ks_5_14 : (Cond.selects RX9 yX9_no yX9_no) ∈ uG := by
  have h := uG_sel (pv_5 (List.getElem_mem (l := lw_privs_5) (n := 14) (by decide +kernel)))
  exact h
theorem ks_5_15 : (Cond.selects RX9 yX9_declare yX9_declare) ∈ uG := by
  have h := uG_sel (pv_5 (List.getElem_mem (l := lw_privs_5) (n := 15) (by decide +kernel)))
  exact h
theorem ks_6_0 : (Cond.selects RX9 yX9_addPlace yX9_addPlace) ∈ uG := by
  have h := uG_sel (pv_6 (List.getElem_mem (l := lw_privs_6) (n := 0) (by decide +kernel)))
  exact h
theorem ks_6_1 : (Cond.selects RX9 yX9_declarer yX9_declarer) ∈ uG := by
  have h := uG_sel (pv_6 (List.getElem_mem (l := lw_privs_6) (n := 1) (by decide +kernel)))
  exact h
theorem ks_6_2 : (Cond.selects RX9 yX9_hops yX9_hops) ∈ uG := by
  have h := uG_sel (pv_6 (List.getElem_mem (l := lw_privs_6) (n := 2) (by decide +kernel)))
  exact h
theorem ks_6_3 : (Cond.selects RX9 yX9_placeIs yX9_placeIs) ∈ uG := by
  have h := uG_sel (pv_6 (List.getElem_mem (l := lw_privs_6) (n := 3) (by decide +kernel)))
  exact h
theorem ks_6_4 : (Cond.selects RX9 yX9_whatIs yX9_whatIs) ∈ uG := by
  have h := uG_sel (pv_6 (List.getElem_mem (l := lw_privs_6) (n := 4) (by decide +kernel)))
  exact h
theorem ks_6_5 : (Cond.selects RX9 yX9_sizeIs yX9_sizeIs) ∈ uG := by
  have h := uG_sel (pv_6 (List.getElem_mem (l := lw_privs_6) (n := 5) (by decide +kernel)))
  exact h
theorem ks_6_6 : (Cond.selects RX9 yX9_canBe yX9_canBe) ∈ uG := by
  have h := uG_sel (pv_6 (List.getElem_mem (l := lw_privs_6) (n := 6) (by decide +kernel)))
  exact h
theorem ks_6_7 : (Cond.selects RX9 yX9_isFreeExpression yX9_isFreeExpression) ∈ uG := by
  have h := uG_sel (pv_6 (List.getElem_mem (l := lw_privs_6) (n := 7) (by decide +kernel)))
  exact h
theorem ks_6_8 : (Cond.selects RX9 yX9_isFree yX9_isFree) ∈ uG := by
  have h := uG_sel (pv_6 (List.getElem_mem (l := lw_privs_6) (n := 8) (by decide +kernel)))
  exact h
theorem ks_6_9 : (Cond.selects RX9 yX9_isNode yX9_isNode) ∈ uG := by
  have h := uG_sel (pv_6 (List.getElem_mem (l := lw_privs_6) (n := 9) (by decide +kernel)))
  exact h
theorem ks_6_10 : (Cond.selects RX9 yX9_isArgument yX9_isArgument) ∈ uG := by
  have h := uG_sel (pv_6 (List.getElem_mem (l := lw_privs_6) (n := 10) (by decide +kernel)))
  exact h
theorem ks_6_11 : (Cond.selects RX9 yX9_isFreeStatement yX9_isFreeStatement) ∈ uG := by
  have h := uG_sel (pv_6 (List.getElem_mem (l := lw_privs_6) (n := 11) (by decide +kernel)))
  exact h
theorem ks_6_12 : (Cond.selects RX9 yX9_part yX9_part) ∈ uG := by
  have h := uG_sel (pv_6 (List.getElem_mem (l := lw_privs_6) (n := 12) (by decide +kernel)))
  exact h
theorem ks_6_13 : (Cond.selects RX9 yX9_ofProcedureNow yX9_ofProcedureNow) ∈ uG := by
  have h := uG_sel (pv_6 (List.getElem_mem (l := lw_privs_6) (n := 13) (by decide +kernel)))
  exact h
theorem ks_6_14 : (Cond.selects RX9 yX9_escapes yX9_escapes) ∈ uG := by
  have h := uG_sel (pv_6 (List.getElem_mem (l := lw_privs_6) (n := 14) (by decide +kernel)))
  exact h
theorem ks_6_15 : (Cond.selects RX9 yX9_in yX9_in) ∈ uG := by
  have h := uG_sel (pv_6 (List.getElem_mem (l := lw_privs_6) (n := 15) (by decide +kernel)))
  exact h
theorem ks_7_0 : (Cond.selects RX9 yX9_isInside yX9_isInside) ∈ uG := by
  have h := uG_sel (pv_7 (List.getElem_mem (l := lw_privs_7) (n := 0) (by decide +kernel)))
  exact h
theorem ks_7_1 : (Cond.selects RX9 yX9_isReached yX9_isReached) ∈ uG := by
  have h := uG_sel (pv_7 (List.getElem_mem (l := lw_privs_7) (n := 1) (by decide +kernel)))
  exact h
theorem ks_7_2 : (Cond.selects RX9 yX9_isHandedOn yX9_isHandedOn) ∈ uG := by
  have h := uG_sel (pv_7 (List.getElem_mem (l := lw_privs_7) (n := 2) (by decide +kernel)))
  exact h
theorem ks_7_3 : (Cond.selects RX9 yX9_faults yX9_faults) ∈ uG := by
  have h := uG_sel (pv_7 (List.getElem_mem (l := lw_privs_7) (n := 3) (by decide +kernel)))
  exact h
theorem ks_7_4 : (Cond.selects RX9 yX9_lookFor yX9_lookFor) ∈ uG := by
  have h := uG_sel (pv_7 (List.getElem_mem (l := lw_privs_7) (n := 4) (by decide +kernel)))
  exact h
theorem ks_7_5 : (Cond.selects RX9 yX9_faultOf yX9_faultOf) ∈ uG := by
  have h := uG_sel (pv_7 (List.getElem_mem (l := lw_privs_7) (n := 5) (by decide +kernel)))
  exact h
theorem ks_7_6 : (Cond.selects RX9 yX9_isLoopAround yX9_isLoopAround) ∈ uG := by
  have h := uG_sel (pv_7 (List.getElem_mem (l := lw_privs_7) (n := 6) (by decide +kernel)))
  exact h
theorem ks_7_7 : (Cond.selects RX9 yX9_loopAround yX9_loopAround) ∈ uG := by
  have h := uG_sel (pv_7 (List.getElem_mem (l := lw_privs_7) (n := 7) (by decide +kernel)))
  exact h
theorem ks_7_8 : (Cond.selects RX9 yX9_loopOutside yX9_loopOutside) ∈ uG := by
  have h := uG_sel (pv_7 (List.getElem_mem (l := lw_privs_7) (n := 8) (by decide +kernel)))
  exact h
theorem ks_7_9 : (Cond.selects RX9 yX9_hasLoop yX9_hasLoop) ∈ uG := by
  have h := uG_sel (pv_7 (List.getElem_mem (l := lw_privs_7) (n := 9) (by decide +kernel)))
  exact h
theorem ks_7_10 : (Cond.selects RX9 yX9_nameFault yX9_nameFault) ∈ uG := by
  have h := uG_sel (pv_7 (List.getElem_mem (l := lw_privs_7) (n := 10) (by decide +kernel)))
  exact h
theorem ks_7_11 : (Cond.selects RX9 yX9_areValues yX9_areValues) ∈ uG := by
  have h := uG_sel (pv_7 (List.getElem_mem (l := lw_privs_7) (n := 11) (by decide +kernel)))
  exact h
theorem ks_7_12 : (Cond.selects RX9 yX9_callFault yX9_callFault) ∈ uG := by
  have h := uG_sel (pv_7 (List.getElem_mem (l := lw_privs_7) (n := 12) (by decide +kernel)))
  exact h
theorem ks_7_13 : (Cond.selects RX9 yX9_count yX9_count) ∈ uG := by
  have h := uG_sel (pv_7 (List.getElem_mem (l := lw_privs_7) (n := 13) (by decide +kernel)))
  exact h
theorem ks_7_14 : (Cond.selects RX9 yX9_modeOf yX9_modeOf) ∈ uG := by
  have h := uG_sel (pv_7 (List.getElem_mem (l := lw_privs_7) (n := 14) (by decide +kernel)))
  exact h
theorem ks_7_15 : (Cond.selects RX9 yX9_suits yX9_suits) ∈ uG := by
  have h := uG_sel (pv_7 (List.getElem_mem (l := lw_privs_7) (n := 15) (by decide +kernel)))
  exact h
theorem ks_8_0 : (Cond.selects RX9 yX9_length yX9_length) ∈ uG := by
  have h := uG_sel (pv_8 (List.getElem_mem (l := lw_privs_8) (n := 0) (by decide +kernel)))
  exact h
theorem ks_8_1 : (Cond.selects RX9 yX9_writeAll yX9_writeAll) ∈ uG := by
  have h := uG_sel (pv_8 (List.getElem_mem (l := lw_privs_8) (n := 1) (by decide +kernel)))
  exact h
theorem ks_8_2 : (Cond.selects RX9 yX9_write yX9_write) ∈ uG := by
  have h := uG_sel (pv_8 (List.getElem_mem (l := lw_privs_8) (n := 2) (by decide +kernel)))
  exact h
theorem ks_8_3 : (Cond.selects RX9 yX9_emit yX9_emit) ∈ uG := by
  have h := uG_sel (pv_8 (List.getElem_mem (l := lw_privs_8) (n := 3) (by decide +kernel)))
  exact h
theorem ks_8_4 : (Cond.selects RX9 yX9_named yX9_named) ∈ uG := by
  have h := uG_sel (pv_8 (List.getElem_mem (l := lw_privs_8) (n := 4) (by decide +kernel)))
  exact h
theorem ks_8_5 : (Cond.selects RX9 yX9_writeCall yX9_writeCall) ∈ uG := by
  have h := uG_sel (pv_8 (List.getElem_mem (l := lw_privs_8) (n := 5) (by decide +kernel)))
  exact h
theorem ks_8_6 : (Cond.selects RX9 yX9_writeArgument yX9_writeArgument) ∈ uG := by
  have h := uG_sel (pv_8 (List.getElem_mem (l := lw_privs_8) (n := 6) (by decide +kernel)))
  exact h
theorem ks_8_7 : (Cond.selects RX9 yX9_routine yX9_routine) ∈ uG := by
  have h := uG_sel (pv_8 (List.getElem_mem (l := lw_privs_8) (n := 7) (by decide +kernel)))
  exact h
theorem ks_8_8 : (Cond.selects RX9 yX9_writeTurn yX9_writeTurn) ∈ uG := by
  have h := uG_sel (pv_8 (List.getElem_mem (l := lw_privs_8) (n := 8) (by decide +kernel)))
  exact h
theorem ks_8_9 : (Cond.selects RX9 yX9_writeSimple yX9_writeSimple) ∈ uG := by
  have h := uG_sel (pv_8 (List.getElem_mem (l := lw_privs_8) (n := 9) (by decide +kernel)))
  exact h
theorem ks_8_10 : (Cond.selects RX9 yX9_isFolded yX9_isFolded) ∈ uG := by
  have h := uG_sel (pv_8 (List.getElem_mem (l := lw_privs_8) (n := 10) (by decide +kernel)))
  exact h
theorem ks_8_11 : (Cond.selects RX9 yX9_isPlain yX9_isPlain) ∈ uG := by
  have h := uG_sel (pv_8 (List.getElem_mem (l := lw_privs_8) (n := 11) (by decide +kernel)))
  exact h
theorem ks_8_12 : (Cond.selects RX9 yX9_plain yX9_plain) ∈ uG := by
  have h := uG_sel (pv_8 (List.getElem_mem (l := lw_privs_8) (n := 12) (by decide +kernel)))
  exact h
theorem ks_8_13 : (Cond.selects RX9 yX9_beginWith yX9_beginWith) ∈ uG := by
  have h := uG_sel (pv_8 (List.getElem_mem (l := lw_privs_8) (n := 13) (by decide +kernel)))
  exact h
theorem ks_8_14 : (Cond.selects RX9 yX9_isTail yX9_isTail) ∈ uG := by
  have h := uG_sel (pv_8 (List.getElem_mem (l := lw_privs_8) (n := 14) (by decide +kernel)))
  exact h
theorem ks_8_15 : (Cond.selects RX9 yX9_ofNodeNow yX9_ofNodeNow) ∈ uG := by
  have h := uG_sel (pv_8 (List.getElem_mem (l := lw_privs_8) (n := 15) (by decide +kernel)))
  exact h
theorem ks_9_0 : (Cond.selects RX9 yX9_instruction yX9_instruction) ∈ uG := by
  have h := uG_sel (pv_9 (List.getElem_mem (l := lw_privs_9) (n := 0) (by decide +kernel)))
  exact h
theorem ks_9_1 : (Cond.selects RX9 yX9_go yX9_go) ∈ uG := by
  have h := uG_sel (pv_9 (List.getElem_mem (l := lw_privs_9) (n := 1) (by decide +kernel)))
  exact h
theorem ks_9_2 : (Cond.selects RX9 yX9_newFrame yX9_newFrame) ∈ uG := by
  have h := uG_sel (pv_9 (List.getElem_mem (l := lw_privs_9) (n := 2) (by decide +kernel)))
  exact h
theorem ks_9_3 : (Cond.selects RX9 yX9_allot yX9_allot) ∈ uG := by
  have h := uG_sel (pv_9 (List.getElem_mem (l := lw_privs_9) (n := 3) (by decide +kernel)))
  exact h
theorem ks_9_4 : (Cond.selects RX9 yX9_newArray yX9_newArray) ∈ uG := by
  have h := uG_sel (pv_9 (List.getElem_mem (l := lw_privs_9) (n := 4) (by decide +kernel)))
  exact h
theorem ks_9_5 : (Cond.selects RX9 yX9_begin yX9_begin) ∈ uG := by
  have h := uG_sel (pv_9 (List.getElem_mem (l := lw_privs_9) (n := 5) (by decide +kernel)))
  exact h
theorem ks_9_6 : (Cond.selects RX9 yX9_stop yX9_stop) ∈ uG := by
  have h := uG_sel (pv_9 (List.getElem_mem (l := lw_privs_9) (n := 6) (by decide +kernel)))
  exact h
theorem ks_9_7 : (Cond.selects RX9 yX9_walk yX9_walk) ∈ uG := by
  have h := uG_sel (pv_9 (List.getElem_mem (l := lw_privs_9) (n := 7) (by decide +kernel)))
  exact h
theorem ks_9_8 : (Cond.selects RX9 yX9_finish yX9_finish) ∈ uG := by
  have h := uG_sel (pv_9 (List.getElem_mem (l := lw_privs_9) (n := 8) (by decide +kernel)))
  exact h
theorem ks_9_9 : (Cond.selects RX9 yX9_put yX9_put) ∈ uG := by
  have h := uG_sel (pv_9 (List.getElem_mem (l := lw_privs_9) (n := 9) (by decide +kernel)))
  exact h
theorem ks_9_10 : (Cond.selects RX9 yX9_use yX9_use) ∈ uG := by
  have h := uG_sel (pv_9 (List.getElem_mem (l := lw_privs_9) (n := 10) (by decide +kernel)))
  exact h
theorem ks_9_11 : (Cond.selects RX9 yX9_slot yX9_slot) ∈ uG := by
  have h := uG_sel (pv_9 (List.getElem_mem (l := lw_privs_9) (n := 11) (by decide +kernel)))
  exact h
theorem ks_9_12 : (Cond.selects RX9 yX9_frameOf yX9_frameOf) ∈ uG := by
  have h := uG_sel (pv_9 (List.getElem_mem (l := lw_privs_9) (n := 12) (by decide +kernel)))
  exact h
theorem ks_9_13 : (Cond.selects RX9 yX9_reckonNode yX9_reckonNode) ∈ uG := by
  have h := uG_sel (pv_9 (List.getElem_mem (l := lw_privs_9) (n := 13) (by decide +kernel)))
  exact h
theorem ks_9_14 : (Cond.selects RX9 yX9_take yX9_take) ∈ uG := by
  have h := uG_sel (pv_9 (List.getElem_mem (l := lw_privs_9) (n := 14) (by decide +kernel)))
  exact h
theorem ks_9_15 : (Cond.selects RX9 yX9_call yX9_call) ∈ uG := by
  have h := uG_sel (pv_9 (List.getElem_mem (l := lw_privs_9) (n := 15) (by decide +kernel)))
  exact h
theorem ks_10_0 : (Cond.selects RX9 yX9_enter yX9_enter) ∈ uG := by
  have h := uG_sel (pv_10 (List.getElem_mem (l := lw_privs_10) (n := 0) (by decide +kernel)))
  exact h
theorem ks_10_1 : (Cond.selects RX9 yX9_cutTo yX9_cutTo) ∈ uG := by
  have h := uG_sel (pv_10 (List.getElem_mem (l := lw_privs_10) (n := 1) (by decide +kernel)))
  exact h
theorem ks_10_2 : (Cond.selects RX9 yX9_argument yX9_argument) ∈ uG := by
  have h := uG_sel (pv_10 (List.getElem_mem (l := lw_privs_10) (n := 2) (by decide +kernel)))
  exact h
theorem ks_10_3 : (Cond.selects RX9 yX9_copyOf yX9_copyOf) ∈ uG := by
  have h := uG_sel (pv_10 (List.getElem_mem (l := lw_privs_10) (n := 3) (by decide +kernel)))
  exact h
theorem ks_10_4 : (Cond.selects RX9 yX9_leave yX9_leave) ∈ uG := by
  have h := uG_sel (pv_10 (List.getElem_mem (l := lw_privs_10) (n := 4) (by decide +kernel)))
  exact h
theorem ks_10_5 : (Cond.selects RX9 yX9_state yX9_state) ∈ uG := by
  have h := uG_sel (pv_10 (List.getElem_mem (l := lw_privs_10) (n := 5) (by decide +kernel)))
  exact h
theorem ks_10_6 : (Cond.selects RX9 yX9_store yX9_store) ∈ uG := by
  have h := uG_sel (pv_10 (List.getElem_mem (l := lw_privs_10) (n := 6) (by decide +kernel)))
  exact h
theorem ks_10_7 : (Cond.selects RX9 yX9_turn yX9_turn) ∈ uG := by
  have h := uG_sel (pv_10 (List.getElem_mem (l := lw_privs_10) (n := 7) (by decide +kernel)))
  exact h
theorem ks_10_8 : (Cond.selects RX9 yX9_give yX9_give) ∈ uG := by
  have h := uG_sel (pv_10 (List.getElem_mem (l := lw_privs_10) (n := 8) (by decide +kernel)))
  exact h
theorem ks_10_9 : (Cond.selects RX9 yX9_print yX9_print) ∈ uG := by
  have h := uG_sel (pv_10 (List.getElem_mem (l := lw_privs_10) (n := 9) (by decide +kernel)))
  exact h
theorem ks_10_10 : (Cond.selects RX9 yX9_manyNow yX9_manyNow) ∈ uG := by
  have h := uG_sel (pv_10 (List.getElem_mem (l := lw_privs_10) (n := 10) (by decide +kernel)))
  exact h
theorem ks_10_11 : (Cond.selects RX9 yX9_allCode yX9_allCode) ∈ uG := by
  have h := uG_sel (pv_10 (List.getElem_mem (l := lw_privs_10) (n := 11) (by decide +kernel)))
  exact h
theorem ks_10_12 : (Cond.selects RX9 yX9_hiddenNow yX9_hiddenNow) ∈ uG := by
  have h := uG_sel (pv_10 (List.getElem_mem (l := lw_privs_10) (n := 12) (by decide +kernel)))
  exact h
theorem mi_X0_forget : mI yX0_forget cX0_forget 1 none 0 := ⟨kw_3_235, kw_3_236, kw_1_7, kw_3_237, by decide +kernel, by decide +kernel, by decide +kernel⟩
theorem mi_X0_layOut : mI yX0_layOut cX0_layOut 3 none 1 := ⟨kw_4_80, kw_4_81, kw_1_7, kw_4_82, by decide +kernel, by decide +kernel, by decide +kernel⟩
theorem mi_X0_isPushed : mI yX0_isPushed cX0_isPushed 2 (some .boolean) 1 := ⟨kw_4_85, ks_2_7, kw_1_7, kw_4_86, by decide +kernel, by decide +kernel, by decide +kernel⟩
theorem mi_X0_isJump : mI yX0_isJump cX0_isJump 2 (some .boolean) 1 := ⟨kw_4_100, ks_2_10, kw_1_7, kw_4_101, by decide +kernel, by decide +kernel, by decide +kernel⟩
theorem mi_X0_lengthOfPart : mI yX0_lengthOfPart cX0_lengthOfPart 2 (some .int) 1 := ⟨kw_4_90, ks_2_8, kw_1_7, kw_4_91, by decide +kernel, by decide +kernel, by decide +kernel⟩
theorem mi_X0_ownLength : mI yX0_ownLength cX0_ownLength 2 (some .int) 1 := ⟨kw_4_96, ks_2_9, kw_1_7, kw_4_97, by decide +kernel, by decide +kernel, by decide +kernel⟩
theorem mi_X0_placeProcedures : mI yX0_placeProcedures cX0_placeProcedures 4 none 0 := ⟨kw_4_104, ks_2_11, kw_1_7, kw_4_105, by decide +kernel, by decide +kernel, by decide +kernel⟩
theorem mi_X0_clear : mI yX0_clear cX0_clear 4 none 2 := ⟨kw_4_108, ks_2_12, kw_1_7, kw_4_109, by decide +kernel, by decide +kernel, by decide +kernel⟩
theorem mi_X0_placeParts : mI yX0_placeParts cX0_placeParts 8 none 1 := ⟨kw_4_116, ks_2_14, kw_1_7, kw_4_117, by decide +kernel, by decide +kernel, by decide +kernel⟩
theorem mi_X0_place : mI yX0_place cX0_place 3 none 2 := ⟨kw_4_124, ks_3_0, kw_1_7, kw_4_125, by decide +kernel, by decide +kernel, by decide +kernel⟩
theorem mi_X0_swallow : mI yX0_swallow cX0_swallow 3 none 2 := ⟨kw_4_120, ks_2_15, kw_1_7, kw_4_121, by decide +kernel, by decide +kernel, by decide +kernel⟩
theorem mi_X0_noteBegin : mI yX0_noteBegin cX0_noteBegin 3 none 1 := ⟨kw_4_128, ks_3_1, kw_1_7, kw_4_129, by decide +kernel, by decide +kernel, by decide +kernel⟩
theorem mi_X0_put : mI yX0_put cX0_put 6 none 5 := ⟨kw_4_112, ks_2_13, kw_1_7, kw_4_113, by decide +kernel, by decide +kernel, by decide +kernel⟩
theorem mi_X0_putNamed : mI yX0_putNamed cX0_putNamed 4 none 3 := ⟨kw_4_144, ks_3_4, kw_1_7, kw_4_145, by decide +kernel, by decide +kernel, by decide +kernel⟩
theorem mi_X0_write : mI yX0_write cX0_write 4 none 1 := ⟨kw_4_132, ks_3_2, kw_1_7, kw_4_133, by decide +kernel, by decide +kernel, by decide +kernel⟩
theorem mi_X0_writeExpression : mI yX0_writeExpression cX0_writeExpression 5 none 3 := ⟨kw_4_136, ks_3_3, kw_1_7, kw_4_137, by decide +kernel, by decide +kernel, by decide +kernel⟩
theorem mi_X0_writeCall : mI yX0_writeCall cX0_writeCall 6 none 3 := ⟨kw_4_148, ks_3_5, kw_1_7, kw_4_149, by decide +kernel, by decide +kernel, by decide +kernel⟩
theorem mi_X0_writeStatement : mI yX0_writeStatement cX0_writeStatement 4 none 3 := ⟨kw_4_152, ks_3_6, kw_1_7, kw_4_153, by decide +kernel, by decide +kernel, by decide +kernel⟩
theorem mi_X0_writeIf : mI yX0_writeIf cX0_writeIf 5 none 1 := ⟨kw_4_156, ks_3_7, kw_1_7, kw_4_157, by decide +kernel, by decide +kernel, by decide +kernel⟩
theorem mi_X0_writeLoop : mI yX0_writeLoop cX0_writeLoop 4 none 2 := ⟨kw_4_160, ks_3_8, kw_1_7, kw_4_161, by decide +kernel, by decide +kernel, by decide +kernel⟩
theorem mi_X1_has : mI yX1_has cX1_has 2 (some .boolean) 1 := ⟨kw_4_171, kw_4_172, kw_1_2, kw_4_173, by decide +kernel, by decide +kernel, by decide +kernel⟩
theorem mi_X1_declares : mI yX1_declares cX1_declares 3 (some .boolean) 2 := ⟨kw_3_98, kw_3_99, kw_1_2, kw_3_100, by decide +kernel, by decide +kernel, by decide +kernel⟩
theorem mi_X1_takesParameter : mI yX1_takesParameter cX1_takesParameter 3 (some .boolean) 2 := ⟨kw_5_218, kw_5_219, kw_1_2, kw_5_220, by decide +kernel, by decide +kernel, by decide +kernel⟩
theorem mi_X1_takesVariable : mI yX1_takesVariable cX1_takesVariable 3 (some .boolean) 2 := ⟨kw_6_0, kw_6_1, kw_1_2, kw_6_2, by decide +kernel, by decide +kernel, by decide +kernel⟩
theorem mi_X1_addProcedure : mI yX1_addProcedure cX1_addProcedure 4 (some .int) 2 := ⟨kw_5_203, kw_5_204, kw_1_2, kw_5_205, by decide +kernel, by decide +kernel, by decide +kernel⟩
theorem mi_X1_addParameter : mI yX1_addParameter cX1_addParameter 4 (some .int) 3 := ⟨kw_5_222, kw_5_223, kw_1_2, kw_5_224, by decide +kernel, by decide +kernel, by decide +kernel⟩
theorem mi_X1_addVariable : mI yX1_addVariable cX1_addVariable 5 (some .int) 4 := ⟨kw_6_4, kw_6_5, kw_1_2, kw_6_6, by decide +kernel, by decide +kernel, by decide +kernel⟩
theorem mi_X1_declare : mI yX1_declare cX1_declare 6 none 4 := ⟨kw_5_208, ks_5_8, kw_1_2, kw_5_209, by decide +kernel, by decide +kernel, by decide +kernel⟩
theorem mi_X1_declarePlace : mI yX1_declarePlace cX1_declarePlace 6 (some .int) 4 := ⟨kw_5_227, ks_5_9, kw_1_2, kw_5_228, by decide +kernel, by decide +kernel, by decide +kernel⟩
theorem mi_X1_declarer : mI yX1_declarer cX1_declarer 5 (some .int) 2 := ⟨kw_3_94, kw_3_95, kw_1_2, kw_3_96, by decide +kernel, by decide +kernel, by decide +kernel⟩
theorem mi_X1_hopsTo : mI yX1_hopsTo cX1_hopsTo 5 (some .int) 2 := ⟨kw_3_102, kw_3_103, kw_1_2, kw_3_104, by decide +kernel, by decide +kernel, by decide +kernel⟩
theorem mi_X1_isInside : mI yX1_isInside cX1_isInside 5 (some .boolean) 2 := ⟨kw_3_149, kw_3_150, kw_1_2, kw_3_151, by decide +kernel, by decide +kernel, by decide +kernel⟩
theorem mi_X1_takesValuesAlone : mI yX1_takesValuesAlone cX1_takesValuesAlone 3 (some .boolean) 1 := ⟨kw_3_145, kw_3_146, kw_1_2, kw_3_147, by decide +kernel, by decide +kernel, by decide +kernel⟩
theorem mi_X2_find : mI yX2_find cX2_find 4 none 0 := ⟨kw_3_175, kw_3_176, kw_1_6, kw_3_177, by decide +kernel, by decide +kernel, by decide +kernel⟩
theorem mi_X2_await : mI yX2_await cX2_await 2 none 1 := ⟨kw_3_184, ks_2_0, kw_1_6, kw_3_185, by decide +kernel, by decide +kernel, by decide +kernel⟩
theorem mi_X2_tell : mI yX2_tell cX2_tell 4 none 3 := ⟨kw_3_180, ks_1_15, kw_1_6, kw_3_181, by decide +kernel, by decide +kernel, by decide +kernel⟩
theorem mi_X2_faultOf : mI yX2_faultOf cX2_faultOf 4 (some .int) 1 := ⟨kw_3_188, ks_2_1, kw_1_6, kw_3_189, by decide +kernel, by decide +kernel, by decide +kernel⟩
theorem mi_X2_isAsItHasToBe : mI yX2_isAsItHasToBe cX2_isAsItHasToBe 3 (some .boolean) 1 := ⟨kw_3_193, ks_2_2, kw_1_6, kw_3_194, by decide +kernel, by decide +kernel, by decide +kernel⟩
theorem ms_X2_isToBeSet : mS yX2_isToBeSet cX2_isToBeSet 1 (some .boolean) 1 := ⟨kw_3_196, kw_1_6, kw_3_197, by decide +kernel, by decide +kernel, by decide +kernel⟩
theorem ms_X2_isProc : mS yX2_isProc cX2_isProc 1 (some .boolean) 1 := ⟨kw_3_199, kw_1_6, kw_3_200, by decide +kernel, by decide +kernel, by decide +kernel⟩
theorem mi_X2_faultOfArguments : mI yX2_faultOfArguments cX2_faultOfArguments 6 (some .int) 1 := ⟨kw_3_204, ks_2_3, kw_1_6, kw_3_205, by decide +kernel, by decide +kernel, by decide +kernel⟩
theorem mi_X2_suits : mI yX2_suits cX2_suits 3 (some .boolean) 2 := ⟨kw_3_212, ks_2_4, kw_1_6, kw_3_213, by decide +kernel, by decide +kernel, by decide +kernel⟩
theorem mi_X3_execute : mI yX3_execute cX3_execute 7 none 4 := ⟨kw_5_8, kw_5_9, kw_1_8, kw_5_10, by decide +kernel, by decide +kernel, by decide +kernel⟩
theorem mi_X3_clear : mI yX3_clear cX3_clear 1 none 0 := ⟨kw_5_14, ks_3_12, kw_1_8, kw_5_15, by decide +kernel, by decide +kernel, by decide +kernel⟩
theorem mi_X3_begin : mI yX3_begin cX3_begin 5 (some .boolean) 2 := ⟨kw_5_76, ks_4_1, kw_1_8, kw_5_77, by decide +kernel, by decide +kernel, by decide +kernel⟩
theorem mi_X3_trap : mI yX3_trap cX3_trap 3 none 2 := ⟨kw_5_80, ks_4_2, kw_1_8, kw_5_81, by decide +kernel, by decide +kernel, by decide +kernel⟩
theorem mi_X3_perform : mI yX3_perform cX3_perform 4 none 2 := ⟨kw_5_84, ks_4_3, kw_1_8, kw_5_85, by decide +kernel, by decide +kernel, by decide +kernel⟩
theorem mi_X3_push : mI yX3_push cX3_push 4 none 2 := ⟨kw_5_88, ks_4_4, kw_1_8, kw_5_89, by decide +kernel, by decide +kernel, by decide +kernel⟩
theorem mi_X3_pushCell : mI yX3_pushCell cX3_pushCell 2 none 1 := ⟨kw_5_104, ks_4_8, kw_1_8, kw_5_105, by decide +kernel, by decide +kernel, by decide +kernel⟩
theorem mi_X3_pop : mI yX3_pop cX3_pop 2 (some .int) 0 := ⟨kw_5_112, ks_4_10, kw_1_8, kw_5_113, by decide +kernel, by decide +kernel, by decide +kernel⟩
theorem mi_X3_frameAt : mI yX3_frameAt cX3_frameAt 4 (some .int) 1 := ⟨kw_5_96, ks_4_6, kw_1_8, kw_5_97, by decide +kernel, by decide +kernel, by decide +kernel⟩
theorem mi_X3_cellOf : mI yX3_cellOf cX3_cellOf 2 (some .int) 1 := ⟨kw_5_92, ks_4_5, kw_1_8, kw_5_93, by decide +kernel, by decide +kernel, by decide +kernel⟩
theorem mi_X3_reckon : mI yX3_reckon cX3_reckon 5 none 2 := ⟨kw_5_170, ks_5_7, kw_1_8, kw_5_171, by decide +kernel, by decide +kernel, by decide +kernel⟩
theorem mi_X3_get : mI yX3_get cX3_get 4 none 2 := ⟨kw_5_100, ks_4_7, kw_1_8, kw_5_101, by decide +kernel, by decide +kernel, by decide +kernel⟩
theorem mi_X3_refer : mI yX3_refer cX3_refer 4 none 2 := ⟨kw_5_126, ks_4_13, kw_1_8, kw_5_127, by decide +kernel, by decide +kernel, by decide +kernel⟩
theorem mi_X3_pick : mI yX3_pick cX3_pick 6 none 3 := ⟨kw_5_108, ks_4_9, kw_1_8, kw_5_109, by decide +kernel, by decide +kernel, by decide +kernel⟩
theorem mi_X3_stow : mI yX3_stow cX3_stow 5 none 2 := ⟨kw_5_150, ks_5_3, kw_1_8, kw_5_151, by decide +kernel, by decide +kernel, by decide +kernel⟩
theorem mi_X3_put : mI yX3_put cX3_put 5 none 2 := ⟨kw_5_146, ks_5_2, kw_1_8, kw_5_147, by decide +kernel, by decide +kernel, by decide +kernel⟩
theorem mi_X3_copy : mI yX3_copy cX3_copy 6 none 1 := ⟨kw_5_142, ks_5_1, kw_1_8, kw_5_143, by decide +kernel, by decide +kernel, by decide +kernel⟩
theorem mi_X3_later : mI yX3_later cX3_later 2 none 1 := ⟨kw_5_130, ks_4_14, kw_1_8, kw_5_131, by decide +kernel, by decide +kernel, by decide +kernel⟩
theorem mi_X3_skip : mI yX3_skip cX3_skip 4 none 2 := ⟨kw_5_134, ks_4_15, kw_1_8, kw_5_135, by decide +kernel, by decide +kernel, by decide +kernel⟩
theorem mi_X3_open : mI yX3_open cX3_open 4 none 1 := ⟨kw_5_154, ks_5_4, kw_1_8, kw_5_155, by decide +kernel, by decide +kernel, by decide +kernel⟩
theorem mi_X3_leave : mI yX3_leave cX3_leave 6 none 1 := ⟨kw_5_158, ks_5_5, kw_1_8, kw_5_159, by decide +kernel, by decide +kernel, by decide +kernel⟩
theorem mi_X3_isLoopOf : mI yX3_isLoopOf cX3_isLoopOf 4 (some .boolean) 3 := ⟨kw_5_162, ks_5_6, kw_1_8, kw_5_163, by decide +kernel, by decide +kernel, by decide +kernel⟩
theorem mi_X3_go : mI yX3_go cX3_go 4 none 1 := ⟨kw_5_116, ks_4_11, kw_1_8, kw_5_117, by decide +kernel, by decide +kernel, by decide +kernel⟩
theorem mi_X3_goByProc : mI yX3_goByProc cX3_goByProc 5 none 2 := ⟨kw_5_120, ks_4_12, kw_1_8, kw_5_121, by decide +kernel, by decide +kernel, by decide +kernel⟩
theorem mi_X3_keepReturn : mI yX3_keepReturn cX3_keepReturn 4 none 2 := ⟨kw_5_26, ks_3_13, kw_1_8, kw_5_27, by decide +kernel, by decide +kernel, by decide +kernel⟩
theorem mi_X3_goBack : mI yX3_goBack cX3_goBack 2 none 0 := ⟨kw_5_138, ks_5_0, kw_1_8, kw_5_139, by decide +kernel, by decide +kernel, by decide +kernel⟩
theorem mi_X3_call : mI yX3_call cX3_call 3 none 2 := ⟨kw_5_59, ks_3_15, kw_1_8, kw_5_60, by decide +kernel, by decide +kernel, by decide +kernel⟩
theorem mi_X3_layPlaces : mI yX3_layPlaces cX3_layPlaces 11 none 1 := ⟨kw_5_71, ks_4_0, kw_1_8, kw_5_72, by decide +kernel, by decide +kernel, by decide +kernel⟩
theorem mi_X4_find : mI yX4_find cX4_find 2 none 0 := ⟨kw_3_76, kw_3_77, kw_1_5, kw_3_78, by decide +kernel, by decide +kernel, by decide +kernel⟩
theorem mi_X4_findWhereNodesAre : mI yX4_findWhereNodesAre cX4_findWhereNodesAre 2 none 0 := ⟨kw_3_81, ks_1_1, kw_1_5, kw_3_82, by decide +kernel, by decide +kernel, by decide +kernel⟩
theorem mi_X4_bind : mI yX4_bind cX4_bind 4 none 1 := ⟨kw_3_85, ks_1_2, kw_1_5, kw_3_86, by decide +kernel, by decide +kernel, by decide +kernel⟩
theorem mi_X4_hasPlace : mI yX4_hasPlace cX4_hasPlace 2 (some .boolean) 1 := ⟨kw_3_107, ks_1_3, kw_1_5, kw_3_108, by decide +kernel, by decide +kernel, by decide +kernel⟩
theorem mi_X4_fold : mI yX4_fold cX4_fold 4 none 1 := ⟨kw_3_111, ks_1_4, kw_1_5, kw_3_112, by decide +kernel, by decide +kernel, by decide +kernel⟩
theorem mi_X4_isKnown : mI yX4_isKnown cX4_isKnown 2 (some .boolean) 1 := ⟨kw_3_118, ks_1_5, kw_1_5, kw_3_119, by decide +kernel, by decide +kernel, by decide +kernel⟩
theorem ms_X4_isReckoned : mS yX4_isReckoned cX4_isReckoned 1 (some .boolean) 1 := ⟨kw_3_114, kw_1_5, kw_3_115, by decide +kernel, by decide +kernel, by decide +kernel⟩
theorem ms_X4_reckon : mS yX4_reckon cX4_reckon 3 (some .int) 3 := ⟨kw_3_121, kw_1_5, kw_3_122, by decide +kernel, by decide +kernel, by decide +kernel⟩
theorem mi_X4_findHandedOn : mI yX4_findHandedOn cX4_findHandedOn 2 none 0 := ⟨kw_3_125, ks_1_6, kw_1_5, kw_3_126, by decide +kernel, by decide +kernel, by decide +kernel⟩
theorem mi_X4_findEscapes : mI yX4_findEscapes cX4_findEscapes 2 none 0 := ⟨kw_3_130, ks_1_7, kw_1_5, kw_3_131, by decide +kernel, by decide +kernel, by decide +kernel⟩
theorem mi_X4_isOutliving : mI yX4_isOutliving cX4_isOutliving 5 (some .boolean) 2 := ⟨kw_3_134, ks_1_8, kw_1_5, kw_3_135, by decide +kernel, by decide +kernel, by decide +kernel⟩
theorem mi_X4_isTail : mI yX4_isTail cX4_isTail 4 (some .boolean) 1 := ⟨kw_3_142, ks_1_10, kw_1_5, kw_3_143, by decide +kernel, by decide +kernel, by decide +kernel⟩
theorem mi_X4_findLabels : mI yX4_findLabels cX4_findLabels 2 none 0 := ⟨kw_3_138, ks_1_9, kw_1_5, kw_3_139, by decide +kernel, by decide +kernel, by decide +kernel⟩
theorem mi_X4_hopsToLoop : mI yX4_hopsToLoop cX4_hopsToLoop 4 (some .int) 1 := ⟨kw_3_154, ks_1_11, kw_1_5, kw_3_155, by decide +kernel, by decide +kernel, by decide +kernel⟩
theorem mi_X4_isInLoop : mI yX4_isInLoop cX4_isInLoop 4 (some .boolean) 1 := ⟨kw_3_158, ks_1_12, kw_1_5, kw_3_159, by decide +kernel, by decide +kernel, by decide +kernel⟩
theorem mi_X4_findModes : mI yX4_findModes cX4_findModes 5 none 0 := ⟨kw_3_162, ks_1_13, kw_1_5, kw_3_163, by decide +kernel, by decide +kernel, by decide +kernel⟩
theorem mi_X4_sumUp : mI yX4_sumUp cX4_sumUp 2 none 0 := ⟨kw_3_166, ks_1_14, kw_1_5, kw_3_167, by decide +kernel, by decide +kernel, by decide +kernel⟩
theorem mi_X4_modeOfPart : mI yX4_modeOfPart cX4_modeOfPart 3 (some .int) 1 := ⟨kw_4_139, kw_4_140, kw_1_5, kw_4_141, by decide +kernel, by decide +kernel, by decide +kernel⟩
theorem mi_X4_reaching : mI yX4_reaching cX4_reaching 6 (some .int) 2 := ⟨kw_4_203, kw_4_204, kw_1_5, kw_4_205, by decide +kernel, by decide +kernel, by decide +kernel⟩
theorem mi_X5_has : mI yX5_has cX5_has 2 (some .boolean) 1 := ⟨kw_4_223, kw_4_224, kw_1_4, kw_4_225, by decide +kernel, by decide +kernel, by decide +kernel⟩
theorem mi_X5_isFree : mI yX5_isFree cX5_isFree 2 (some .boolean) 1 := ⟨kw_6_42, kw_6_43, kw_1_4, kw_6_44, by decide +kernel, by decide +kernel, by decide +kernel⟩
theorem mi_X5_isExpression : mI yX5_isExpression cX5_isExpression 2 (some .boolean) 1 := ⟨kw_3_215, kw_3_216, kw_1_4, kw_3_217, by decide +kernel, by decide +kernel, by decide +kernel⟩
theorem mi_X5_isStatement : mI yX5_isStatement cX5_isStatement 2 (some .boolean) 1 := ⟨kw_6_47, kw_6_48, kw_1_4, kw_6_49, by decide +kernel, by decide +kernel, by decide +kernel⟩
theorem mi_X5_argumentsOf : mI yX5_argumentsOf cX5_argumentsOf 4 (some .int) 1 := ⟨kw_3_207, kw_3_208, kw_1_4, kw_3_209, by decide +kernel, by decide +kernel, by decide +kernel⟩
theorem mi_X5_hasName : mI yX5_hasName cX5_hasName 2 (some .boolean) 1 := ⟨kw_3_88, kw_3_89, kw_1_4, kw_3_90, by decide +kernel, by decide +kernel, by decide +kernel⟩
theorem mi_X5_partA : mI yX5_partA cX5_partA 2 (some .int) 1 := ⟨kw_3_231, kw_3_232, kw_1_4, kw_3_233, by decide +kernel, by decide +kernel, by decide +kernel⟩
theorem mi_X5_partB : mI yX5_partB cX5_partB 2 (some .int) 1 := ⟨kw_3_225, kw_3_226, kw_1_4, kw_3_227, by decide +kernel, by decide +kernel, by decide +kernel⟩
theorem mi_X5_partC : mI yX5_partC cX5_partC 2 (some .int) 1 := ⟨kw_3_219, kw_3_220, kw_1_4, kw_3_221, by decide +kernel, by decide +kernel, by decide +kernel⟩
theorem mi_X5_suits : mI yX5_suits cX5_suits 5 (some .boolean) 4 := ⟨kw_6_28, kw_6_29, kw_1_4, kw_6_30, by decide +kernel, by decide +kernel, by decide +kernel⟩
theorem mi_X5_fills : mI yX5_fills cX5_fills 3 (some .boolean) 2 := ⟨kw_6_33, ks_5_10, kw_1_4, kw_6_34, by decide +kernel, by decide +kernel, by decide +kernel⟩
theorem mi_X5_isPartFor : mI yX5_isPartFor cX5_isPartFor 3 (some .boolean) 2 := ⟨kw_6_38, ks_5_11, kw_1_4, kw_6_39, by decide +kernel, by decide +kernel, by decide +kernel⟩
theorem ms_X5_isSamePart : mS yX5_isSamePart cX5_isSamePart 4 (some .boolean) 4 := ⟨kw_6_51, kw_1_4, kw_6_52, by decide +kernel, by decide +kernel, by decide +kernel⟩
theorem mi_X5_add : mI yX5_add cX5_add 6 (some .int) 4 := ⟨kw_6_54, kw_6_55, kw_1_4, kw_6_56, by decide +kernel, by decide +kernel, by decide +kernel⟩
theorem mi_X5_claim : mI yX5_claim cX5_claim 3 none 2 := ⟨kw_6_60, ks_5_12, kw_1_4, kw_6_61, by decide +kernel, by decide +kernel, by decide +kernel⟩
theorem mi_X6_start : mI yX6_start cX6_start 1 none 0 := ⟨kw_5_21, kw_5_22, kw_1_10, kw_5_23, by decide +kernel, by decide +kernel, by decide +kernel⟩
theorem mi_X6_print : mI yX6_print cX6_print 3 none 2 := ⟨kw_5_165, kw_5_166, kw_1_10, kw_5_167, by decide +kernel, by decide +kernel, by decide +kernel⟩
theorem mi_X6_kept : mI yX6_kept cX6_kept 1 (some .int) 0 := ⟨kw_5_0, kw_5_1, kw_1_10, kw_5_2, by decide +kernel, by decide +kernel, by decide +kernel⟩
theorem mi_X6_answer : mI yX6_answer cX6_answer 2 (some .int) 1 := ⟨kw_4_236, kw_4_237, kw_1_10, kw_4_238, by decide +kernel, by decide +kernel, by decide +kernel⟩
theorem mi_X7_add : mI yX7_add cX7_add 3 (some .int) 0 := ⟨kw_5_29, kw_5_30, kw_1_9, kw_5_31, by decide +kernel, by decide +kernel, by decide +kernel⟩
theorem mi_X7_at : mI yX7_at cX7_at 3 (some .int) 2 := ⟨kw_5_62, kw_5_63, kw_1_9, kw_5_64, by decide +kernel, by decide +kernel, by decide +kernel⟩
theorem mi_X7_put : mI yX7_put cX7_put 4 none 3 := ⟨kw_5_50, kw_5_51, kw_1_9, kw_5_52, by decide +kernel, by decide +kernel, by decide +kernel⟩
theorem mi_X7_cut : mI yX7_cut cX7_cut 2 none 1 := ⟨kw_5_17, kw_5_18, kw_1_9, kw_5_19, by decide +kernel, by decide +kernel, by decide +kernel⟩
theorem mi_X7_has : mI yX7_has cX7_has 3 (some .boolean) 2 := ⟨kw_5_55, ks_3_14, kw_1_9, kw_5_56, by decide +kernel, by decide +kernel, by decide +kernel⟩
theorem mi_X8_procedure : mI yX8_procedure cX8_procedure 3 (some .int) 2 := ⟨kw_5_180, kw_5_181, kw_1_1, kw_5_182, by decide +kernel, by decide +kernel, by decide +kernel⟩
theorem mi_X8_parameter : mI yX8_parameter cX8_parameter 4 (some .int) 3 := ⟨kw_5_214, kw_5_215, kw_1_1, kw_5_216, by decide +kernel, by decide +kernel, by decide +kernel⟩
theorem mi_X8_variable : mI yX8_variable cX8_variable 5 (some .int) 4 := ⟨kw_5_233, kw_5_234, kw_1_1, kw_5_235, by decide +kernel, by decide +kernel, by decide +kernel⟩
theorem mi_X8_ofName : mI yX8_ofName cX8_ofName 6 (some .int) 3 := ⟨kw_6_11, kw_6_12, kw_1_1, kw_6_13, by decide +kernel, by decide +kernel, by decide +kernel⟩
theorem mi_X8_ofProcedure : mI yX8_ofProcedure cX8_ofProcedure 3 (some .int) 2 := ⟨kw_4_163, kw_4_164, kw_1_1, kw_4_165, by decide +kernel, by decide +kernel, by decide +kernel⟩
theorem mi_X8_node : mI yX8_node cX8_node 5 (some .int) 4 := ⟨kw_6_24, kw_6_25, kw_1_1, kw_6_26, by decide +kernel, by decide +kernel, by decide +kernel⟩
theorem mi_X8_body : mI yX8_body cX8_body 4 (some .int) 2 := ⟨kw_6_68, kw_6_69, kw_1_1, kw_6_70, by decide +kernel, by decide +kernel, by decide +kernel⟩
theorem mi_X8_ofNode : mI yX8_ofNode cX8_ofNode 3 (some .int) 2 := ⟨kw_4_215, kw_4_216, kw_1_1, kw_4_217, by decide +kernel, by decide +kernel, by decide +kernel⟩
theorem mi_X8_fault : mI yX8_fault cX8_fault 3 (some .int) 2 := ⟨kw_4_228, kw_4_229, kw_1_1, kw_4_230, by decide +kernel, by decide +kernel, by decide +kernel⟩
theorem mi_X8_passes : mI yX8_passes cX8_passes 3 (some .int) 1 := ⟨kw_6_85, kw_6_86, kw_1_1, kw_6_87, by decide +kernel, by decide +kernel, by decide +kernel⟩
theorem mi_X8_code : mI yX8_code cX8_code 5 (some .int) 3 := ⟨kw_4_207, kw_4_208, kw_1_1, kw_4_209, by decide +kernel, by decide +kernel, by decide +kernel⟩
theorem mi_X8_limits : mI yX8_limits cX8_limits 4 (some .int) 2 := ⟨kw_6_99, kw_6_100, kw_1_1, kw_6_101, by decide +kernel, by decide +kernel, by decide +kernel⟩
theorem mi_X8_run : mI yX8_run cX8_run 1 (some .int) 0 := ⟨kw_6_109, kw_6_110, kw_1_1, kw_6_111, by decide +kernel, by decide +kernel, by decide +kernel⟩
theorem mi_X8_ofRun : mI yX8_ofRun cX8_ofRun 2 (some .int) 1 := ⟨kw_4_232, kw_4_233, kw_1_1, kw_4_234, by decide +kernel, by decide +kernel, by decide +kernel⟩
theorem mi_X8_printed : mI yX8_printed cX8_printed 3 (some .int) 2 := ⟨kw_5_4, kw_5_5, kw_1_1, kw_5_6, by decide +kernel, by decide +kernel, by decide +kernel⟩
theorem mi_X8_meanPrinted : mI yX8_meanPrinted cX8_meanPrinted 1 (some .double) 0 := ⟨kw_3_64, kw_3_65, kw_1_1, kw_3_66, by decide +kernel, by decide +kernel, by decide +kernel⟩
theorem mi_X8_many : mI yX8_many cX8_many 2 (some .int) 1 := ⟨kw_4_1, kw_4_2, kw_1_1, kw_4_3, by decide +kernel, by decide +kernel, by decide +kernel⟩
theorem mi_X8_wouldRun : mI yX8_wouldRun cX8_wouldRun 4 (some .int) 3 := ⟨kw_6_128, kw_6_129, kw_1_1, kw_6_130, by decide +kernel, by decide +kernel, by decide +kernel⟩
theorem mi_X8_with : mI yX8_with cX8_with 3 (some .int) 2 := ⟨kw_6_135, kw_6_136, kw_1_1, kw_6_137, by decide +kernel, by decide +kernel, by decide +kernel⟩
theorem mi_X8_hiddenBy : mI yX8_hiddenBy cX8_hiddenBy 3 (some .int) 2 := ⟨kw_4_195, kw_4_196, kw_1_1, kw_4_197, by decide +kernel, by decide +kernel, by decide +kernel⟩
theorem mi_X8_digest : mI yX8_digest cX8_digest 6 (some .long) 0 := ⟨kw_3_68, kw_3_69, kw_1_1, kw_3_70, by decide +kernel, by decide +kernel, by decide +kernel⟩
theorem mi_X8_refresh : mI yX8_refresh cX8_refresh 1 none 0 := ⟨kw_3_73, ks_1_0, kw_1_1, kw_3_74, by decide +kernel, by decide +kernel, by decide +kernel⟩
theorem mi_X8_codeLength : mI yX8_codeLength cX8_codeLength 2 (some .int) 1 := ⟨kw_4_192, ks_3_10, kw_1_1, kw_4_193, by decide +kernel, by decide +kernel, by decide +kernel⟩
theorem mi_X8_wholeCodeLength : mI yX8_wholeCodeLength cX8_wholeCodeLength 2 (some .int) 1 := ⟨kw_4_77, ks_2_6, kw_1_1, kw_4_78, by decide +kernel, by decide +kernel, by decide +kernel⟩
theorem mi_X8_needProcedure : mI yX8_needProcedure cX8_needProcedure 2 none 1 := ⟨kw_4_168, ks_3_9, kw_1_1, kw_4_169, by decide +kernel, by decide +kernel, by decide +kernel⟩
theorem mi_X8_needNode : mI yX8_needNode cX8_needNode 2 none 1 := ⟨kw_4_220, ks_3_11, kw_1_1, kw_4_221, by decide +kernel, by decide +kernel, by decide +kernel⟩
theorem ms_X8_needPlace : mS yX8_needPlace cX8_needPlace 1 none 1 := ⟨kw_4_211, kw_1_1, kw_4_212, by decide +kernel, by decide +kernel, by decide +kernel⟩
theorem ms_X8_needArgument : mS yX8_needArgument cX8_needArgument 1 none 1 := ⟨kw_4_5, kw_1_1, kw_4_6, by decide +kernel, by decide +kernel, by decide +kernel⟩
theorem ms_X8_needState : mS yX8_needState cX8_needState 1 none 1 := ⟨kw_5_184, kw_1_1, kw_5_185, by decide +kernel, by decide +kernel, by decide +kernel⟩
theorem ms_X8_isName : mS yX8_isName cX8_isName 1 (some .boolean) 1 := ⟨kw_4_199, kw_1_1, kw_4_200, by decide +kernel, by decide +kernel, by decide +kernel⟩
theorem ms_X8_isPasses : mS yX8_isPasses cX8_isPasses 1 (some .boolean) 1 := ⟨kw_6_89, kw_1_1, kw_6_90, by decide +kernel, by decide +kernel, by decide +kernel⟩
theorem ms_X8_areLimits : mS yX8_areLimits cX8_areLimits 2 (some .boolean) 2 := ⟨kw_6_103, kw_1_1, kw_6_104, by decide +kernel, by decide +kernel, by decide +kernel⟩
theorem ms_X8_isSizeOf : mS yX8_isSizeOf cX8_isSizeOf 2 (some .boolean) 2 := ⟨kw_5_237, kw_1_1, kw_5_238, by decide +kernel, by decide +kernel, by decide +kernel⟩
theorem mi_X9_thrown : mI yX9_thrown cX9_thrown 1 (some .int) 0 := ⟨kw_7_90, kw_7_91, kw_1_11, kw_7_92, by decide +kernel, by decide +kernel, by decide +kernel⟩
theorem mi_X9_no : mI yX9_no cX9_no 2 (some .int) 1 := ⟨kw_7_106, ks_5_14, kw_1_11, kw_7_107, by decide +kernel, by decide +kernel, by decide +kernel⟩
theorem ms_X9_isIn : mS yX9_isIn cX9_isIn 3 (some .boolean) 3 := ⟨kw_7_102, kw_1_11, kw_7_103, by decide +kernel, by decide +kernel, by decide +kernel⟩
theorem ms_X9_has : mS yX9_has cX9_has 2 (some .boolean) 2 := ⟨kw_7_193, kw_1_11, kw_7_194, by decide +kernel, by decide +kernel, by decide +kernel⟩
theorem mi_X9_isProcedure : mI yX9_isProcedure cX9_isProcedure 2 (some .boolean) 1 := ⟨kw_7_99, ks_5_13, kw_1_11, kw_7_100, by decide +kernel, by decide +kernel, by decide +kernel⟩
theorem mi_X9_isNode : mI yX9_isNode cX9_isNode 2 (some .boolean) 1 := ⟨kw_7_169, ks_6_9, kw_1_11, kw_7_170, by decide +kernel, by decide +kernel, by decide +kernel⟩
theorem ms_X9_isName : mS yX9_isName cX9_isName 1 (some .boolean) 1 := ⟨kw_7_109, kw_1_11, kw_7_110, by decide +kernel, by decide +kernel, by decide +kernel⟩
theorem mi_X9_declare : mI yX9_declare cX9_declare 6 (some .int) 5 := ⟨kw_7_113, ks_5_15, kw_1_11, kw_7_114, by decide +kernel, by decide +kernel, by decide +kernel⟩
theorem mi_X9_addPlace : mI yX9_addPlace cX9_addPlace 4 (some .int) 3 := ⟨kw_7_121, ks_6_0, kw_1_11, kw_7_122, by decide +kernel, by decide +kernel, by decide +kernel⟩
theorem mi_X9_procedure : mI yX9_procedure cX9_procedure 3 (some .int) 2 := ⟨kw_7_94, kw_7_95, kw_1_11, kw_7_96, by decide +kernel, by decide +kernel, by decide +kernel⟩
theorem mi_X9_parameter : mI yX9_parameter cX9_parameter 4 (some .int) 3 := ⟨kw_7_116, kw_7_117, kw_1_11, kw_7_118, by decide +kernel, by decide +kernel, by decide +kernel⟩
theorem mi_X9_variable : mI yX9_variable cX9_variable 6 (some .int) 4 := ⟨kw_7_124, kw_7_125, kw_1_11, kw_7_126, by decide +kernel, by decide +kernel, by decide +kernel⟩
theorem mi_X9_declarer : mI yX9_declarer cX9_declarer 4 (some .int) 2 := ⟨kw_7_133, ks_6_1, kw_1_11, kw_7_134, by decide +kernel, by decide +kernel, by decide +kernel⟩
theorem mi_X9_hops : mI yX9_hops cX9_hops 5 (some .int) 2 := ⟨kw_7_137, ks_6_2, kw_1_11, kw_7_138, by decide +kernel, by decide +kernel, by decide +kernel⟩
theorem mi_X9_whatIs : mI yX9_whatIs cX9_whatIs 4 (some .int) 2 := ⟨kw_7_145, ks_6_4, kw_1_11, kw_7_146, by decide +kernel, by decide +kernel, by decide +kernel⟩
theorem mi_X9_sizeIs : mI yX9_sizeIs cX9_sizeIs 3 (some .int) 2 := ⟨kw_7_149, ks_6_5, kw_1_11, kw_7_150, by decide +kernel, by decide +kernel, by decide +kernel⟩
theorem mi_X9_placeIs : mI yX9_placeIs cX9_placeIs 3 (some .int) 2 := ⟨kw_7_141, ks_6_3, kw_1_11, kw_7_142, by decide +kernel, by decide +kernel, by decide +kernel⟩
theorem mi_X9_ofName : mI yX9_ofName cX9_ofName 5 (some .int) 3 := ⟨kw_7_128, kw_7_129, kw_1_11, kw_7_130, by decide +kernel, by decide +kernel, by decide +kernel⟩
theorem mi_X9_isInside : mI yX9_isInside cX9_isInside 4 (some .boolean) 2 := ⟨kw_7_220, ks_7_0, kw_1_11, kw_7_221, by decide +kernel, by decide +kernel, by decide +kernel⟩
theorem ms_X9_isExpression : mS yX9_isExpression cX9_isExpression 1 (some .boolean) 1 := ⟨kw_7_172, kw_1_11, kw_7_173, by decide +kernel, by decide +kernel, by decide +kernel⟩
theorem ms_X9_isStatement : mS yX9_isStatement cX9_isStatement 1 (some .boolean) 1 := ⟨kw_7_183, kw_1_11, kw_7_184, by decide +kernel, by decide +kernel, by decide +kernel⟩
theorem mi_X9_isFree : mI yX9_isFree cX9_isFree 2 (some .boolean) 1 := ⟨kw_7_165, ks_6_8, kw_1_11, kw_7_166, by decide +kernel, by decide +kernel, by decide +kernel⟩
theorem mi_X9_isFreeExpression : mI yX9_isFreeExpression cX9_isFreeExpression 2 (some .boolean) 1 := ⟨kw_7_161, ks_6_7, kw_1_11, kw_7_162, by decide +kernel, by decide +kernel, by decide +kernel⟩
theorem mi_X9_isFreeStatement : mI yX9_isFreeStatement cX9_isFreeStatement 2 (some .boolean) 1 := ⟨kw_7_180, ks_6_11, kw_1_11, kw_7_181, by decide +kernel, by decide +kernel, by decide +kernel⟩
theorem mi_X9_isArgument : mI yX9_isArgument cX9_isArgument 2 (some .boolean) 1 := ⟨kw_7_176, ks_6_10, kw_1_11, kw_7_177, by decide +kernel, by decide +kernel, by decide +kernel⟩
theorem mi_X9_canBe : mI yX9_canBe cX9_canBe 5 (some .boolean) 4 := ⟨kw_7_157, ks_6_6, kw_1_11, kw_7_158, by decide +kernel, by decide +kernel, by decide +kernel⟩
theorem ms_X9_parts : mS yX9_parts cX9_parts 1 (some .int) 1 := ⟨kw_7_190, kw_1_11, kw_7_191, by decide +kernel, by decide +kernel, by decide +kernel⟩
theorem mi_X9_part : mI yX9_part cX9_part 3 (some .int) 2 := ⟨kw_7_187, ks_6_12, kw_1_11, kw_7_188, by decide +kernel, by decide +kernel, by decide +kernel⟩
theorem mi_X9_node : mI yX9_node cX9_node 6 (some .int) 4 := ⟨kw_7_152, kw_7_153, kw_1_11, kw_7_154, by decide +kernel, by decide +kernel, by decide +kernel⟩
theorem mi_X9_body : mI yX9_body cX9_body 4 (some .int) 2 := ⟨kw_7_196, kw_7_197, kw_1_11, kw_7_198, by decide +kernel, by decide +kernel, by decide +kernel⟩
theorem mi_X9_in : mI yX9_in cX9_in 3 (some .int) 1 := ⟨kw_7_216, ks_6_15, kw_1_11, kw_7_217, by decide +kernel, by decide +kernel, by decide +kernel⟩
theorem ms_X9_hasName : mS yX9_hasName cX9_hasName 1 (some .boolean) 1 := ⟨kw_7_212, kw_1_11, kw_7_213, by decide +kernel, by decide +kernel, by decide +kernel⟩
theorem mi_X9_isHandedOn : mI yX9_isHandedOn cX9_isHandedOn 3 (some .boolean) 1 := ⟨kw_7_228, ks_7_2, kw_1_11, kw_7_229, by decide +kernel, by decide +kernel, by decide +kernel⟩
theorem mi_X9_isReached : mI yX9_isReached cX9_isReached 4 (some .boolean) 2 := ⟨kw_7_224, ks_7_1, kw_1_11, kw_7_225, by decide +kernel, by decide +kernel, by decide +kernel⟩
theorem mi_X9_escapes : mI yX9_escapes cX9_escapes 4 (some .int) 1 := ⟨kw_7_209, ks_6_14, kw_1_11, kw_7_210, by decide +kernel, by decide +kernel, by decide +kernel⟩
theorem mi_X9_isPlain : mI yX9_isPlain cX9_isPlain 2 (some .boolean) 1 := ⟨kw_8_95, ks_8_11, kw_1_11, kw_8_96, by decide +kernel, by decide +kernel, by decide +kernel⟩
theorem mi_X9_isFolded : mI yX9_isFolded cX9_isFolded 2 (some .boolean) 1 := ⟨kw_8_91, ks_8_10, kw_1_11, kw_8_92, by decide +kernel, by decide +kernel, by decide +kernel⟩
theorem mi_X9_plain : mI yX9_plain cX9_plain 2 (some .int) 1 := ⟨kw_8_99, ks_8_12, kw_1_11, kw_8_100, by decide +kernel, by decide +kernel, by decide +kernel⟩
theorem ms_X9_reckon : mS yX9_reckon cX9_reckon 3 (some .int) 3 := ⟨kw_8_102, kw_1_11, kw_8_103, by decide +kernel, by decide +kernel, by decide +kernel⟩
theorem mi_X9_isTail : mI yX9_isTail cX9_isTail 4 (some .boolean) 1 := ⟨kw_8_110, ks_8_14, kw_1_11, kw_8_111, by decide +kernel, by decide +kernel, by decide +kernel⟩
theorem mi_X9_areValues : mI yX9_areValues cX9_areValues 3 (some .boolean) 1 := ⟨kw_8_27, ks_7_11, kw_1_11, kw_8_28, by decide +kernel, by decide +kernel, by decide +kernel⟩
theorem mi_X9_ofProcedureNow : mI yX9_ofProcedureNow cX9_ofProcedureNow 3 (some .int) 2 := ⟨kw_7_205, ks_6_13, kw_1_11, kw_7_206, by decide +kernel, by decide +kernel, by decide +kernel⟩
theorem mi_X9_ofProcedure : mI yX9_ofProcedure cX9_ofProcedure 3 (some .int) 2 := ⟨kw_7_200, kw_7_201, kw_1_11, kw_7_202, by decide +kernel, by decide +kernel, by decide +kernel⟩
theorem mi_X9_ofNodeNow : mI yX9_ofNodeNow cX9_ofNodeNow 4 (some .int) 2 := ⟨kw_8_118, ks_8_15, kw_1_11, kw_8_119, by decide +kernel, by decide +kernel, by decide +kernel⟩
theorem mi_X9_ofNode : mI yX9_ofNode cX9_ofNode 3 (some .int) 2 := ⟨kw_8_113, kw_8_114, kw_1_11, kw_8_115, by decide +kernel, by decide +kernel, by decide +kernel⟩
theorem mi_X9_isLoopAround : mI yX9_isLoopAround cX9_isLoopAround 3 (some .boolean) 2 := ⟨kw_8_4, ks_7_6, kw_1_11, kw_8_5, by decide +kernel, by decide +kernel, by decide +kernel⟩
theorem mi_X9_loopAround : mI yX9_loopAround cX9_loopAround 4 (some .int) 2 := ⟨kw_8_8, ks_7_7, kw_1_11, kw_8_9, by decide +kernel, by decide +kernel, by decide +kernel⟩
theorem mi_X9_hasLoop : mI yX9_hasLoop cX9_hasLoop 4 (some .boolean) 2 := ⟨kw_8_16, ks_7_9, kw_1_11, kw_8_17, by decide +kernel, by decide +kernel, by decide +kernel⟩
theorem mi_X9_loopOutside : mI yX9_loopOutside cX9_loopOutside 4 (some .int) 2 := ⟨kw_8_12, ks_7_8, kw_1_11, kw_8_13, by decide +kernel, by decide +kernel, by decide +kernel⟩
theorem ms_X9_isArray : mS yX9_isArray cX9_isArray 1 (some .boolean) 1 := ⟨kw_8_30, kw_1_11, kw_8_31, by decide +kernel, by decide +kernel, by decide +kernel⟩
theorem ms_X9_canBeSet : mS yX9_canBeSet cX9_canBeSet 1 (some .boolean) 1 := ⟨kw_8_23, kw_1_11, kw_8_24, by decide +kernel, by decide +kernel, by decide +kernel⟩
theorem mi_X9_nameFault : mI yX9_nameFault cX9_nameFault 6 (some .int) 4 := ⟨kw_8_20, ks_7_10, kw_1_11, kw_8_21, by decide +kernel, by decide +kernel, by decide +kernel⟩
theorem mi_X9_count : mI yX9_count cX9_count 4 (some .int) 1 := ⟨kw_8_38, ks_7_13, kw_1_11, kw_8_39, by decide +kernel, by decide +kernel, by decide +kernel⟩
theorem mi_X9_modeOf : mI yX9_modeOf cX9_modeOf 4 (some .int) 2 := ⟨kw_8_42, ks_7_14, kw_1_11, kw_8_43, by decide +kernel, by decide +kernel, by decide +kernel⟩
theorem mi_X9_suits : mI yX9_suits cX9_suits 4 (some .boolean) 3 := ⟨kw_8_46, ks_7_15, kw_1_11, kw_8_47, by decide +kernel, by decide +kernel, by decide +kernel⟩
theorem mi_X9_callFault : mI yX9_callFault cX9_callFault 6 (some .int) 2 := ⟨kw_8_34, ks_7_12, kw_1_11, kw_8_35, by decide +kernel, by decide +kernel, by decide +kernel⟩
theorem mi_X9_faultOf : mI yX9_faultOf cX9_faultOf 5 (some .int) 1 := ⟨kw_8_0, ks_7_5, kw_1_11, kw_8_1, by decide +kernel, by decide +kernel, by decide +kernel⟩
theorem mi_X9_lookFor : mI yX9_lookFor cX9_lookFor 10 (some .int) 2 := ⟨kw_7_236, ks_7_4, kw_1_11, kw_7_237, by decide +kernel, by decide +kernel, by decide +kernel⟩
theorem mi_X9_faults : mI yX9_faults cX9_faults 1 (some .int) 0 := ⟨kw_7_232, ks_7_3, kw_1_11, kw_7_233, by decide +kernel, by decide +kernel, by decide +kernel⟩
theorem mi_X9_fault : mI yX9_fault cX9_fault 3 (some .int) 2 := ⟨kw_8_121, kw_8_122, kw_1_11, kw_8_123, by decide +kernel, by decide +kernel, by decide +kernel⟩
theorem mi_X9_emit : mI yX9_emit cX9_emit 5 none 3 := ⟨kw_8_62, ks_8_3, kw_1_11, kw_8_63, by decide +kernel, by decide +kernel, by decide +kernel⟩
theorem mi_X9_named : mI yX9_named cX9_named 4 none 3 := ⟨kw_8_67, ks_8_4, kw_1_11, kw_8_68, by decide +kernel, by decide +kernel, by decide +kernel⟩
theorem mi_X9_routine : mI yX9_routine cX9_routine 4 none 3 := ⟨kw_8_79, ks_8_7, kw_1_11, kw_8_80, by decide +kernel, by decide +kernel, by decide +kernel⟩
theorem mi_X9_write : mI yX9_write cX9_write 7 none 2 := ⟨kw_8_58, ks_8_2, kw_1_11, kw_8_59, by decide +kernel, by decide +kernel, by decide +kernel⟩
theorem mi_X9_beginWith : mI yX9_beginWith cX9_beginWith 3 none 1 := ⟨kw_8_106, ks_8_13, kw_1_11, kw_8_107, by decide +kernel, by decide +kernel, by decide +kernel⟩
theorem mi_X9_writeSimple : mI yX9_writeSimple cX9_writeSimple 4 none 2 := ⟨kw_8_87, ks_8_9, kw_1_11, kw_8_88, by decide +kernel, by decide +kernel, by decide +kernel⟩
theorem mi_X9_writeCall : mI yX9_writeCall cX9_writeCall 6 none 3 := ⟨kw_8_71, ks_8_5, kw_1_11, kw_8_72, by decide +kernel, by decide +kernel, by decide +kernel⟩
theorem mi_X9_writeArgument : mI yX9_writeArgument cX9_writeArgument 6 none 3 := ⟨kw_8_75, ks_8_6, kw_1_11, kw_8_76, by decide +kernel, by decide +kernel, by decide +kernel⟩
theorem mi_X9_writeTurn : mI yX9_writeTurn cX9_writeTurn 7 none 2 := ⟨kw_8_83, ks_8_8, kw_1_11, kw_8_84, by decide +kernel, by decide +kernel, by decide +kernel⟩
theorem mi_X9_writeAll : mI yX9_writeAll cX9_writeAll 4 none 2 := ⟨kw_8_54, ks_8_1, kw_1_11, kw_8_55, by decide +kernel, by decide +kernel, by decide +kernel⟩
theorem mi_X9_length : mI yX9_length cX9_length 3 (some .int) 2 := ⟨kw_8_50, ks_8_0, kw_1_11, kw_8_51, by decide +kernel, by decide +kernel, by decide +kernel⟩
theorem mi_X9_allCode : mI yX9_allCode cX9_allCode 4 (some .int) 1 := ⟨kw_9_34, ks_10_11, kw_1_11, kw_9_35, by decide +kernel, by decide +kernel, by decide +kernel⟩
theorem mi_X9_passes : mI yX9_passes cX9_passes 3 (some .int) 1 := ⟨kw_8_125, kw_8_126, kw_1_11, kw_8_127, by decide +kernel, by decide +kernel, by decide +kernel⟩
theorem mi_X9_instruction : mI yX9_instruction cX9_instruction 5 (some .int) 2 := ⟨kw_8_134, ks_9_0, kw_1_11, kw_8_135, by decide +kernel, by decide +kernel, by decide +kernel⟩
theorem mi_X9_code : mI yX9_code cX9_code 4 (some .int) 3 := ⟨kw_8_129, kw_8_130, kw_1_11, kw_8_131, by decide +kernel, by decide +kernel, by decide +kernel⟩
theorem ms_X9_room : mS yX9_room cX9_room 3 (some (.array .int)) 2 := ⟨kw_8_156, kw_1_11, kw_8_157, by decide +kernel, by decide +kernel, by decide +kernel⟩
theorem mi_X9_stop : mI yX9_stop cX9_stop 3 none 2 := ⟨kw_8_173, ks_9_6, kw_1_11, kw_8_174, by decide +kernel, by decide +kernel, by decide +kernel⟩
theorem mi_X9_put : mI yX9_put cX9_put 2 none 1 := ⟨kw_8_185, ks_9_9, kw_1_11, kw_8_186, by decide +kernel, by decide +kernel, by decide +kernel⟩
theorem mi_X9_take : mI yX9_take cX9_take 1 (some .int) 0 := ⟨kw_8_205, ks_9_14, kw_1_11, kw_8_206, by decide +kernel, by decide +kernel, by decide +kernel⟩
theorem mi_X9_begin : mI yX9_begin cX9_begin 5 none 3 := ⟨kw_8_169, ks_9_5, kw_1_11, kw_8_170, by decide +kernel, by decide +kernel, by decide +kernel⟩
theorem mi_X9_cutTo : mI yX9_cutTo cX9_cutTo 2 none 1 := ⟨kw_8_217, ks_10_1, kw_1_11, kw_8_218, by decide +kernel, by decide +kernel, by decide +kernel⟩
theorem mi_X9_finish : mI yX9_finish cX9_finish 2 none 1 := ⟨kw_8_181, ks_9_8, kw_1_11, kw_8_182, by decide +kernel, by decide +kernel, by decide +kernel⟩
theorem mi_X9_allot : mI yX9_allot cX9_allot 3 (some .int) 1 := ⟨kw_8_161, ks_9_3, kw_1_11, kw_8_162, by decide +kernel, by decide +kernel, by decide +kernel⟩
theorem mi_X9_newArray : mI yX9_newArray cX9_newArray 3 (some .int) 1 := ⟨kw_8_165, ks_9_4, kw_1_11, kw_8_166, by decide +kernel, by decide +kernel, by decide +kernel⟩
theorem mi_X9_copyOf : mI yX9_copyOf cX9_copyOf 3 (some .int) 1 := ⟨kw_8_225, ks_10_3, kw_1_11, kw_8_226, by decide +kernel, by decide +kernel, by decide +kernel⟩
theorem mi_X9_frameOf : mI yX9_frameOf cX9_frameOf 5 (some .int) 2 := ⟨kw_8_197, ks_9_12, kw_1_11, kw_8_198, by decide +kernel, by decide +kernel, by decide +kernel⟩
theorem mi_X9_slot : mI yX9_slot cX9_slot 3 (some .int) 2 := ⟨kw_8_193, ks_9_11, kw_1_11, kw_8_194, by decide +kernel, by decide +kernel, by decide +kernel⟩
theorem mi_X9_newFrame : mI yX9_newFrame cX9_newFrame 8 (some .int) 3 := ⟨kw_8_153, ks_9_2, kw_1_11, kw_8_154, by decide +kernel, by decide +kernel, by decide +kernel⟩
theorem mi_X9_walk : mI yX9_walk cX9_walk 7 none 0 := ⟨kw_8_177, ks_9_7, kw_1_11, kw_8_178, by decide +kernel, by decide +kernel, by decide +kernel⟩
theorem mi_X9_use : mI yX9_use cX9_use 7 none 4 := ⟨kw_8_189, ks_9_10, kw_1_11, kw_8_190, by decide +kernel, by decide +kernel, by decide +kernel⟩
theorem mi_X9_reckonNode : mI yX9_reckonNode cX9_reckonNode 7 none 4 := ⟨kw_8_201, ks_9_13, kw_1_11, kw_8_202, by decide +kernel, by decide +kernel, by decide +kernel⟩
theorem mi_X9_argument : mI yX9_argument cX9_argument 7 none 4 := ⟨kw_8_221, ks_10_2, kw_1_11, kw_8_222, by decide +kernel, by decide +kernel, by decide +kernel⟩
theorem mi_X9_call : mI yX9_call cX9_call 5 none 4 := ⟨kw_8_209, ks_9_15, kw_1_11, kw_8_210, by decide +kernel, by decide +kernel, by decide +kernel⟩
theorem mi_X9_enter : mI yX9_enter cX9_enter 15 none 3 := ⟨kw_8_213, ks_10_0, kw_1_11, kw_8_214, by decide +kernel, by decide +kernel, by decide +kernel⟩
theorem mi_X9_leave : mI yX9_leave cX9_leave 7 none 2 := ⟨kw_8_229, ks_10_4, kw_1_11, kw_8_230, by decide +kernel, by decide +kernel, by decide +kernel⟩
theorem mi_X9_state : mI yX9_state cX9_state 6 none 3 := ⟨kw_8_233, ks_10_5, kw_1_11, kw_8_234, by decide +kernel, by decide +kernel, by decide +kernel⟩
theorem mi_X9_store : mI yX9_store cX9_store 6 none 2 := ⟨kw_8_237, ks_10_6, kw_1_11, kw_8_238, by decide +kernel, by decide +kernel, by decide +kernel⟩
theorem mi_X9_turn : mI yX9_turn cX9_turn 7 (some .boolean) 3 := ⟨kw_9_1, ks_10_7, kw_1_11, kw_9_2, by decide +kernel, by decide +kernel, by decide +kernel⟩
theorem mi_X9_give : mI yX9_give cX9_give 4 none 2 := ⟨kw_9_5, ks_10_8, kw_1_11, kw_9_6, by decide +kernel, by decide +kernel, by decide +kernel⟩
theorem mi_X9_print : mI yX9_print cX9_print 3 none 2 := ⟨kw_9_9, ks_10_9, kw_1_11, kw_9_10, by decide +kernel, by decide +kernel, by decide +kernel⟩
theorem mi_X9_go : mI yX9_go cX9_go 5 (some (.array .int)) 3 := ⟨kw_8_146, ks_9_1, kw_1_11, kw_8_147, by decide +kernel, by decide +kernel, by decide +kernel⟩
theorem ms_X9_bits : mS yX9_bits cX9_bits 3 (some .int) 1 := ⟨kw_8_149, kw_1_11, kw_8_150, by decide +kernel, by decide +kernel, by decide +kernel⟩
theorem mi_X9_limits : mI yX9_limits cX9_limits 4 (some .int) 2 := ⟨kw_8_137, kw_8_138, kw_1_11, kw_8_139, by decide +kernel, by decide +kernel, by decide +kernel⟩
theorem mi_X9_run : mI yX9_run cX9_run 1 (some .int) 0 := ⟨kw_8_141, kw_8_142, kw_1_11, kw_8_143, by decide +kernel, by decide +kernel, by decide +kernel⟩
theorem mi_X9_ofRun : mI yX9_ofRun cX9_ofRun 2 (some .int) 1 := ⟨kw_9_13, kw_9_14, kw_1_11, kw_9_15, by decide +kernel, by decide +kernel, by decide +kernel⟩
theorem mi_X9_printed : mI yX9_printed cX9_printed 3 (some .int) 2 := ⟨kw_9_17, kw_9_18, kw_1_11, kw_9_19, by decide +kernel, by decide +kernel, by decide +kernel⟩
theorem mi_X9_meanPrinted : mI yX9_meanPrinted cX9_meanPrinted 1 (some .double) 0 := ⟨kw_9_21, kw_9_22, kw_1_11, kw_9_23, by decide +kernel, by decide +kernel, by decide +kernel⟩
theorem mi_X9_manyNow : mI yX9_manyNow cX9_manyNow 4 (some .int) 1 := ⟨kw_9_30, ks_10_10, kw_1_11, kw_9_31, by decide +kernel, by decide +kernel, by decide +kernel⟩
theorem mi_X9_many : mI yX9_many cX9_many 2 (some .int) 1 := ⟨kw_9_25, kw_9_26, kw_1_11, kw_9_27, by decide +kernel, by decide +kernel, by decide +kernel⟩
theorem mi_X9_wouldRun : mI yX9_wouldRun cX9_wouldRun 4 (some .int) 3 := ⟨kw_9_37, kw_9_38, kw_1_11, kw_9_39, by decide +kernel, by decide +kernel, by decide +kernel⟩
theorem mi_X9_with : mI yX9_with cX9_with 3 (some .int) 2 := ⟨kw_9_41, kw_9_42, kw_1_11, kw_9_43, by decide +kernel, by decide +kernel, by decide +kernel⟩
theorem mi_X9_hiddenNow : mI yX9_hiddenNow cX9_hiddenNow 6 (some .int) 2 := ⟨kw_9_50, ks_10_12, kw_1_11, kw_9_51, by decide +kernel, by decide +kernel, by decide +kernel⟩
theorem mi_X9_hiddenBy : mI yX9_hiddenBy cX9_hiddenBy 3 (some .int) 2 := ⟨kw_9_45, kw_9_46, kw_1_11, kw_9_47, by decide +kernel, by decide +kernel, by decide +kernel⟩
theorem mi_X9_digest : mI yX9_digest cX9_digest 9 (some .long) 0 := ⟨kw_9_53, kw_9_54, kw_1_11, kw_9_55, by decide +kernel, by decide +kernel, by decide +kernel⟩
theorem ms_J6_bitCount_0f7a4 : mS yJ6_bitCount_0f7a4 cJ6_bitCount_0f7a4 1 (some .int) 1 := ⟨kw_3_169, kw_1_18, kw_3_170, by decide +kernel, by decide +kernel, by decide +kernel⟩
theorem ms_J9_max_7cf53 : mS yJ9_max_7cf53 cJ9_max_7cf53 2 (some .int) 2 := ⟨kw_5_67, kw_1_20, kw_5_68, by decide +kernel, by decide +kernel, by decide +kernel⟩
theorem ms_J9_min_7cf53 : mS yJ9_min_7cf53 cJ9_min_7cf53 2 (some .int) 2 := ⟨kw_5_44, kw_1_20, kw_5_45, by decide +kernel, by decide +kernel, by decide +kernel⟩
theorem ms_J7_fill_53178 : mS yJ7_fill_53178 cJ7_fill_53178 4 none 2 := ⟨kw_1_36, kw_1_3, kw_1_37, by decide +kernel, by decide +kernel, by decide +kernel⟩
theorem ms_J7_copyOf_59c91 : mS yJ7_copyOf_59c91 cJ7_copyOf_59c91 3 (some (.array .int)) 2 := ⟨kw_5_34, kw_1_3, kw_5_35, by decide +kernel, by decide +kernel, by decide +kernel⟩
theorem inX0 : ∀ w ∈ u_ws RX0 TX0 17, w ∈ uG := by
  have h : u_ws RX0 TX0 17 = [Cond.laysFinal RX0 "StaticLink$Code" "declarations" "LStaticLink$Declarations;", Cond.laysFinal RX0 "StaticLink$Code" "nodes" "LStaticLink$Nodes;", Cond.laysFinal RX0 "StaticLink$Code" "meaning" "LStaticLink$Meaning;", Cond.lays RX0 "StaticLink$Code" "laidOut" "I", Cond.lays RX0 "StaticLink$Code" "total" "I", Cond.laysFinal RX0 "StaticLink$Code" "from" "[I", Cond.laysFinal RX0 "StaticLink$Code" "size" "[I", Cond.laysFinal RX0 "StaticLink$Code" "op" "[I", Cond.laysFinal RX0 "StaticLink$Code" "x" "[I", Cond.laysFinal RX0 "StaticLink$Code" "y" "[I", Cond.laysFinal RX0 "StaticLink$Code" "node" "[I", Cond.laysFinal RX0 "StaticLink$Code" "first" "[I", Cond.laysFinal RX0 "StaticLink$Code" "begins" "[I", Cond.laysFinal RX0 "StaticLink$Code" "start" "[I", Cond.laysFinal RX0 "StaticLink$Code" "length" "[I", Cond.laysFinal RX0 "StaticLink$Code" "next" "[I", Cond.laysFinal RX0 "StaticLink$Code" "swallowed" "[Z"] := by decide +kernel
  rw [h]
  exact List.forall_mem_cons.mpr ⟨kw_2_82, List.forall_mem_cons.mpr ⟨kw_2_84, List.forall_mem_cons.mpr ⟨kw_2_86, List.forall_mem_cons.mpr ⟨kw_2_88, List.forall_mem_cons.mpr ⟨kw_2_90, List.forall_mem_cons.mpr ⟨kw_2_92, List.forall_mem_cons.mpr ⟨kw_2_94, List.forall_mem_cons.mpr ⟨kw_2_96, List.forall_mem_cons.mpr ⟨kw_2_98, List.forall_mem_cons.mpr ⟨kw_2_100, List.forall_mem_cons.mpr ⟨kw_2_102, List.forall_mem_cons.mpr ⟨kw_2_104, List.forall_mem_cons.mpr ⟨kw_2_106, List.forall_mem_cons.mpr ⟨kw_2_108, List.forall_mem_cons.mpr ⟨kw_2_110, List.forall_mem_cons.mpr ⟨kw_2_112, List.forall_mem_cons.mpr ⟨kw_2_114, fun _ h => absurd h List.not_mem_nil⟩⟩⟩⟩⟩⟩⟩⟩⟩⟩⟩⟩⟩⟩⟩⟩⟩
theorem inX1 : ∀ w ∈ u_ws RX1 TX1 12, w ∈ uG := by
  have h : u_ws RX1 TX1 12 = [Cond.lays RX1 "StaticLink$Declarations" "count" "I", Cond.laysFinal RX1 "StaticLink$Declarations" "parent" "[I", Cond.laysFinal RX1 "StaticLink$Declarations" "called" "[I", Cond.laysFinal RX1 "StaticLink$Declarations" "parameters" "[I", Cond.laysFinal RX1 "StaticLink$Declarations" "variables" "[I", Cond.laysFinal RX1 "StaticLink$Declarations" "places" "[I", Cond.laysFinal RX1 "StaticLink$Declarations" "bodyNode" "[I", Cond.laysFinal RX1 "StaticLink$Declarations" "what" "[I", Cond.laysFinal RX1 "StaticLink$Declarations" "place" "[I", Cond.laysFinal RX1 "StaticLink$Declarations" "detail" "[I", Cond.laysFinal RX1 "StaticLink$Declarations" "whatAt" "[I", Cond.laysFinal RX1 "StaticLink$Declarations" "sizeAt" "[I"] := by decide +kernel
  rw [h]
  exact List.forall_mem_cons.mpr ⟨kw_1_75, List.forall_mem_cons.mpr ⟨kw_1_77, List.forall_mem_cons.mpr ⟨kw_1_79, List.forall_mem_cons.mpr ⟨kw_1_81, List.forall_mem_cons.mpr ⟨kw_1_83, List.forall_mem_cons.mpr ⟨kw_1_85, List.forall_mem_cons.mpr ⟨kw_1_87, List.forall_mem_cons.mpr ⟨kw_1_89, List.forall_mem_cons.mpr ⟨kw_1_91, List.forall_mem_cons.mpr ⟨kw_1_93, List.forall_mem_cons.mpr ⟨kw_1_95, List.forall_mem_cons.mpr ⟨kw_1_97, fun _ h => absurd h List.not_mem_nil⟩⟩⟩⟩⟩⟩⟩⟩⟩⟩⟩⟩
theorem inX2 : ∀ w ∈ u_ws RX2 TX2 9, w ∈ uG := by
  have h : u_ws RX2 TX2 9 = [Cond.laysFinal RX2 "StaticLink$Faults" "declarations" "LStaticLink$Declarations;", Cond.laysFinal RX2 "StaticLink$Faults" "nodes" "LStaticLink$Nodes;", Cond.laysFinal RX2 "StaticLink$Faults" "meaning" "LStaticLink$Meaning;", Cond.lays RX2 "StaticLink$Faults" "count" "I", Cond.laysFinal RX2 "StaticLink$Faults" "which" "[I", Cond.laysFinal RX2 "StaticLink$Faults" "procedureOf" "[I", Cond.laysFinal RX2 "StaticLink$Faults" "nodeOf" "[I", Cond.laysFinal RX2 "StaticLink$Faults" "waiting" "[I", Cond.lays RX2 "StaticLink$Faults" "waits" "I"] := by decide +kernel
  rw [h]
  exact List.forall_mem_cons.mpr ⟨kw_2_23, List.forall_mem_cons.mpr ⟨kw_2_25, List.forall_mem_cons.mpr ⟨kw_2_27, List.forall_mem_cons.mpr ⟨kw_2_29, List.forall_mem_cons.mpr ⟨kw_2_31, List.forall_mem_cons.mpr ⟨kw_2_33, List.forall_mem_cons.mpr ⟨kw_2_35, List.forall_mem_cons.mpr ⟨kw_2_37, List.forall_mem_cons.mpr ⟨kw_2_39, fun _ h => absurd h List.not_mem_nil⟩⟩⟩⟩⟩⟩⟩⟩⟩
theorem inX3 : ∀ w ∈ u_ws RX3 TX3 17, w ∈ uG := by
  have h : u_ws RX3 TX3 17 = [Cond.laysFinal RX3 "StaticLink$Machine" "declarations" "LStaticLink$Declarations;", Cond.laysFinal RX3 "StaticLink$Machine" "nodes" "LStaticLink$Nodes;", Cond.laysFinal RX3 "StaticLink$Machine" "meaning" "LStaticLink$Meaning;", Cond.laysFinal RX3 "StaticLink$Machine" "plain" "LStaticLink$Code;", Cond.laysFinal RX3 "StaticLink$Machine" "memory" "LStaticLink$Table;", Cond.laysFinal RX3 "StaticLink$Machine" "operands" "LStaticLink$Table;", Cond.laysFinal RX3 "StaticLink$Machine" "frames" "LStaticLink$Table;", Cond.laysFinal RX3 "StaticLink$Machine" "returns" "LStaticLink$Table;", Cond.laysFinal RX3 "StaticLink$Machine" "loops" "LStaticLink$Table;", Cond.lays RX3 "StaticLink$Machine" "told" "LStaticLink$Outcome;", Cond.lays RX3 "StaticLink$Machine" "passes" "I", Cond.lays RX3 "StaticLink$Machine" "deep" "I", Cond.lays RX3 "StaticLink$Machine" "pc" "I", Cond.lays RX3 "StaticLink$Machine" "frame" "I", Cond.lays RX3 "StaticLink$Machine" "live" "I", Cond.lays RX3 "StaticLink$Machine" "depth" "I", Cond.lays RX3 "StaticLink$Machine" "isOver" "Z"] := by decide +kernel
  rw [h]
  exact List.forall_mem_cons.mpr ⟨kw_2_223, List.forall_mem_cons.mpr ⟨kw_2_225, List.forall_mem_cons.mpr ⟨kw_2_227, List.forall_mem_cons.mpr ⟨kw_2_229, List.forall_mem_cons.mpr ⟨kw_2_231, List.forall_mem_cons.mpr ⟨kw_2_233, List.forall_mem_cons.mpr ⟨kw_2_235, List.forall_mem_cons.mpr ⟨kw_2_237, List.forall_mem_cons.mpr ⟨kw_2_239, List.forall_mem_cons.mpr ⟨kw_3_1, List.forall_mem_cons.mpr ⟨kw_3_3, List.forall_mem_cons.mpr ⟨kw_3_5, List.forall_mem_cons.mpr ⟨kw_3_7, List.forall_mem_cons.mpr ⟨kw_3_9, List.forall_mem_cons.mpr ⟨kw_3_11, List.forall_mem_cons.mpr ⟨kw_3_13, List.forall_mem_cons.mpr ⟨kw_3_15, fun _ h => absurd h List.not_mem_nil⟩⟩⟩⟩⟩⟩⟩⟩⟩⟩⟩⟩⟩⟩⟩⟩⟩
theorem inX4 : ∀ w ∈ u_ws RX4 TX4 19, w ∈ uG := by
  have h : u_ws RX4 TX4 19 = [Cond.laysFinal RX4 "StaticLink$Meaning" "declarations" "LStaticLink$Declarations;", Cond.laysFinal RX4 "StaticLink$Meaning" "nodes" "LStaticLink$Nodes;", Cond.laysFinal RX4 "StaticLink$Meaning" "in" "[I", Cond.laysFinal RX4 "StaticLink$Meaning" "owner" "[I", Cond.laysFinal RX4 "StaticLink$Meaning" "hops" "[I", Cond.laysFinal RX4 "StaticLink$Meaning" "is" "[I", Cond.laysFinal RX4 "StaticLink$Meaning" "target" "[I", Cond.laysFinal RX4 "StaticLink$Meaning" "folded" "[Z", Cond.laysFinal RX4 "StaticLink$Meaning" "worth" "[I", Cond.laysFinal RX4 "StaticLink$Meaning" "tail" "[Z", Cond.laysFinal RX4 "StaticLink$Meaning" "mode" "[I", Cond.laysFinal RX4 "StaticLink$Meaning" "leaves" "[I", Cond.laysFinal RX4 "StaticLink$Meaning" "labels" "[I", Cond.laysFinal RX4 "StaticLink$Meaning" "handedOn" "[Z", Cond.laysFinal RX4 "StaticLink$Meaning" "escapes" "[I", Cond.lays RX4 "StaticLink$Meaning" "nodesInNone" "I", Cond.lays RX4 "StaticLink$Meaning" "nodesFolded" "I", Cond.lays RX4 "StaticLink$Meaning" "tails" "I", Cond.lays RX4 "StaticLink$Meaning" "placesEscaping" "I"] := by decide +kernel
  rw [h]
  exact List.forall_mem_cons.mpr ⟨kw_1_204, List.forall_mem_cons.mpr ⟨kw_1_206, List.forall_mem_cons.mpr ⟨kw_1_208, List.forall_mem_cons.mpr ⟨kw_1_210, List.forall_mem_cons.mpr ⟨kw_1_212, List.forall_mem_cons.mpr ⟨kw_1_214, List.forall_mem_cons.mpr ⟨kw_1_216, List.forall_mem_cons.mpr ⟨kw_1_218, List.forall_mem_cons.mpr ⟨kw_1_220, List.forall_mem_cons.mpr ⟨kw_1_222, List.forall_mem_cons.mpr ⟨kw_1_224, List.forall_mem_cons.mpr ⟨kw_1_226, List.forall_mem_cons.mpr ⟨kw_1_228, List.forall_mem_cons.mpr ⟨kw_1_230, List.forall_mem_cons.mpr ⟨kw_1_232, List.forall_mem_cons.mpr ⟨kw_1_234, List.forall_mem_cons.mpr ⟨kw_1_236, List.forall_mem_cons.mpr ⟨kw_1_238, List.forall_mem_cons.mpr ⟨kw_2_0, fun _ h => absurd h List.not_mem_nil⟩⟩⟩⟩⟩⟩⟩⟩⟩⟩⟩⟩⟩⟩⟩⟩⟩⟩⟩
theorem inX5 : ∀ w ∈ u_ws RX5 TX5 7, w ∈ uG := by
  have h : u_ws RX5 TX5 7 = [Cond.lays RX5 "StaticLink$Nodes" "count" "I", Cond.laysFinal RX5 "StaticLink$Nodes" "kind" "[I", Cond.laysFinal RX5 "StaticLink$Nodes" "a" "[I", Cond.laysFinal RX5 "StaticLink$Nodes" "b" "[I", Cond.laysFinal RX5 "StaticLink$Nodes" "c" "[I", Cond.laysFinal RX5 "StaticLink$Nodes" "whole" "[I", Cond.laysFinal RX5 "StaticLink$Nodes" "bodyOf" "[I"] := by decide +kernel
  rw [h]
  exact List.forall_mem_cons.mpr ⟨kw_1_137, List.forall_mem_cons.mpr ⟨kw_1_139, List.forall_mem_cons.mpr ⟨kw_1_141, List.forall_mem_cons.mpr ⟨kw_1_143, List.forall_mem_cons.mpr ⟨kw_1_145, List.forall_mem_cons.mpr ⟨kw_1_147, List.forall_mem_cons.mpr ⟨kw_1_149, fun _ h => absurd h List.not_mem_nil⟩⟩⟩⟩⟩⟩⟩
theorem inX6 : ∀ w ∈ u_ws RX6 TX6 14, w ∈ uG := by
  have h : u_ws RX6 TX6 14 = [Cond.lays RX6 "StaticLink$Outcome" "trap" "I", Cond.lays RX6 "StaticLink$Outcome" "trapNode" "I", Cond.lays RX6 "StaticLink$Outcome" "trapProcedure" "I", Cond.lays RX6 "StaticLink$Outcome" "steps" "I", Cond.lays RX6 "StaticLink$Outcome" "numbers" "I", Cond.lays RX6 "StaticLink$Outcome" "calls" "I", Cond.lays RX6 "StaticLink$Outcome" "cells" "I", Cond.lays RX6 "StaticLink$Outcome" "mostLive" "I", Cond.lays RX6 "StaticLink$Outcome" "mostDepth" "I", Cond.lays RX6 "StaticLink$Outcome" "gave" "I", Cond.lays RX6 "StaticLink$Outcome" "sum" "J", Cond.laysFinal RX6 "StaticLink$Outcome" "number" "[I", Cond.laysFinal RX6 "StaticLink$Outcome" "stepsBy" "[I", Cond.laysFinal RX6 "StaticLink$Outcome" "printNode" "[I"] := by decide +kernel
  rw [h]
  exact List.forall_mem_cons.mpr ⟨kw_2_177, List.forall_mem_cons.mpr ⟨kw_2_179, List.forall_mem_cons.mpr ⟨kw_2_181, List.forall_mem_cons.mpr ⟨kw_2_183, List.forall_mem_cons.mpr ⟨kw_2_185, List.forall_mem_cons.mpr ⟨kw_2_187, List.forall_mem_cons.mpr ⟨kw_2_189, List.forall_mem_cons.mpr ⟨kw_2_191, List.forall_mem_cons.mpr ⟨kw_2_193, List.forall_mem_cons.mpr ⟨kw_2_195, List.forall_mem_cons.mpr ⟨kw_2_197, List.forall_mem_cons.mpr ⟨kw_2_199, List.forall_mem_cons.mpr ⟨kw_2_201, List.forall_mem_cons.mpr ⟨kw_2_203, fun _ h => absurd h List.not_mem_nil⟩⟩⟩⟩⟩⟩⟩⟩⟩⟩⟩⟩⟩⟩
theorem inX7 : ∀ w ∈ u_ws RX7 TX7 3, w ∈ uG := by
  have h : u_ws RX7 TX7 3 = [Cond.laysFinal RX7 "StaticLink$Table" "width" "I", Cond.lays RX7 "StaticLink$Table" "numbers" "[I", Cond.lays RX7 "StaticLink$Table" "count" "I"] := by decide +kernel
  rw [h]
  exact List.forall_mem_cons.mpr ⟨kw_2_133, List.forall_mem_cons.mpr ⟨kw_2_135, List.forall_mem_cons.mpr ⟨kw_2_137, fun _ h => absurd h List.not_mem_nil⟩⟩⟩
theorem inX8 : ∀ w ∈ u_ws RX8 TX8 14, w ∈ uG := by
  have h : u_ws RX8 TX8 14 = [Cond.laysFinal RX8 "StaticLink" "declarations" "LStaticLink$Declarations;", Cond.laysFinal RX8 "StaticLink" "nodes" "LStaticLink$Nodes;", Cond.laysFinal RX8 "StaticLink" "meaning" "LStaticLink$Meaning;", Cond.laysFinal RX8 "StaticLink" "faults" "LStaticLink$Faults;", Cond.laysFinal RX8 "StaticLink" "written" "LStaticLink$Code;", Cond.laysFinal RX8 "StaticLink" "plain" "LStaticLink$Code;", Cond.laysFinal RX8 "StaticLink" "machine" "LStaticLink$Machine;", Cond.laysFinal RX8 "StaticLink" "latest" "LStaticLink$Outcome;", Cond.laysFinal RX8 "StaticLink" "trial" "LStaticLink$Outcome;", Cond.lays RX8 "StaticLink" "stale" "Z", Cond.lays RX8 "StaticLink" "passes" "I", Cond.lays RX8 "StaticLink" "most" "I", Cond.lays RX8 "StaticLink" "deep" "I", Cond.lays RX8 "StaticLink" "runs" "I"] := by decide +kernel
  rw [h]
  exact List.forall_mem_cons.mpr ⟨kw_3_34, List.forall_mem_cons.mpr ⟨kw_3_36, List.forall_mem_cons.mpr ⟨kw_3_38, List.forall_mem_cons.mpr ⟨kw_3_40, List.forall_mem_cons.mpr ⟨kw_3_42, List.forall_mem_cons.mpr ⟨kw_3_44, List.forall_mem_cons.mpr ⟨kw_3_46, List.forall_mem_cons.mpr ⟨kw_3_48, List.forall_mem_cons.mpr ⟨kw_3_50, List.forall_mem_cons.mpr ⟨kw_3_52, List.forall_mem_cons.mpr ⟨kw_3_54, List.forall_mem_cons.mpr ⟨kw_3_56, List.forall_mem_cons.mpr ⟨kw_3_58, List.forall_mem_cons.mpr ⟨kw_3_60, fun _ h => absurd h List.not_mem_nil⟩⟩⟩⟩⟩⟩⟩⟩⟩⟩⟩⟩⟩⟩
theorem inX9 : ∀ w ∈ u_ws RX9 TX9 60, w ∈ uG := by
  have h : u_ws RX9 TX9 60 = [Cond.lays RX9 "StaticLinkModel" "thrown" "I", Cond.lays RX9 "StaticLinkModel" "procedures" "I", Cond.laysFinal RX9 "StaticLinkModel" "parent" "[I", Cond.laysFinal RX9 "StaticLinkModel" "named" "[I", Cond.laysFinal RX9 "StaticLinkModel" "parameters" "[I", Cond.laysFinal RX9 "StaticLinkModel" "variables" "[I", Cond.laysFinal RX9 "StaticLinkModel" "places" "[I", Cond.laysFinal RX9 "StaticLinkModel" "bodies" "[I", Cond.laysFinal RX9 "StaticLinkModel" "what" "[I", Cond.laysFinal RX9 "StaticLinkModel" "place" "[I", Cond.laysFinal RX9 "StaticLinkModel" "size" "[I", Cond.laysFinal RX9 "StaticLinkModel" "at" "[I", Cond.laysFinal RX9 "StaticLinkModel" "sizeAt" "[I", Cond.lays RX9 "StaticLinkModel" "nodes" "I", Cond.laysFinal RX9 "StaticLinkModel" "kind" "[I", Cond.laysFinal RX9 "StaticLinkModel" "a" "[I", Cond.laysFinal RX9 "StaticLinkModel" "b" "[I", Cond.laysFinal RX9 "StaticLinkModel" "c" "[I", Cond.laysFinal RX9 "StaticLinkModel" "above" "[I", Cond.laysFinal RX9 "StaticLinkModel" "bodyOf" "[I", Cond.lays RX9 "StaticLinkModel" "passes" "I", Cond.lays RX9 "StaticLinkModel" "most" "I", Cond.lays RX9 "StaticLinkModel" "deep" "I", Cond.lays RX9 "StaticLinkModel" "runs" "I", Cond.lays RX9 "StaticLinkModel" "latest" "[I", Cond.lays RX9 "StaticLinkModel" "printed" "[I", Cond.lays RX9 "StaticLinkModel" "written" "[I", Cond.lays RX9 "StaticLinkModel" "end" "I", Cond.lays RX9 "StaticLinkModel" "set" "I", Cond.laysFinal RX9 "StaticLinkModel" "begins" "[I", Cond.lays RX9 "StaticLinkModel" "tasks" "[I", Cond.lays RX9 "StaticLinkModel" "values" "[I", Cond.lays RX9 "StaticLinkModel" "memory" "[I", Cond.lays RX9 "StaticLinkModel" "frames" "[I", Cond.lays RX9 "StaticLinkModel" "arrays" "[I", Cond.lays RX9 "StaticLinkModel" "top" "I", Cond.lays RX9 "StaticLinkModel" "filled" "I", Cond.lays RX9 "StaticLinkModel" "used" "I", Cond.lays RX9 "StaticLinkModel" "framed" "I", Cond.lays RX9 "StaticLinkModel" "arrayed" "I", Cond.lays RX9 "StaticLinkModel" "steps" "I", Cond.lays RX9 "StaticLinkModel" "limit" "I", Cond.lays RX9 "StaticLinkModel" "bound" "I", Cond.lays RX9 "StaticLinkModel" "trap" "I", Cond.lays RX9 "StaticLinkModel" "trapNode" "I", Cond.lays RX9 "StaticLinkModel" "calls" "I", Cond.lays RX9 "StaticLinkModel" "cells" "I", Cond.lays RX9 "StaticLinkModel" "depth" "I", Cond.lays RX9 "StaticLinkModel" "live" "I", Cond.lays RX9 "StaticLinkModel" "mostDepth" "I", Cond.lays RX9 "StaticLinkModel" "mostLive" "I", Cond.lays RX9 "StaticLinkModel" "gave" "I", Cond.lays RX9 "StaticLinkModel" "outs" "I", Cond.lays RX9 "StaticLinkModel" "total" "J", Cond.lays RX9 "StaticLinkModel" "latestTotal" "J", Cond.lays RX9 "StaticLinkModel" "doesCut" "Z", Cond.lays RX9 "StaticLinkModel" "out" "[I", Cond.laysFinal RX9 "StaticLinkModel" "home" "[I", Cond.laysFinal RX9 "StaticLinkModel" "cost" "[I", Cond.laysFinal RX9 "StaticLinkModel" "tails" "[Z"] := by decide +kernel
  rw [h]
  exact List.forall_mem_cons.mpr ⟨kw_6_208, List.forall_mem_cons.mpr ⟨kw_6_210, List.forall_mem_cons.mpr ⟨kw_6_212, List.forall_mem_cons.mpr ⟨kw_6_214, List.forall_mem_cons.mpr ⟨kw_6_216, List.forall_mem_cons.mpr ⟨kw_6_218, List.forall_mem_cons.mpr ⟨kw_6_220, List.forall_mem_cons.mpr ⟨kw_6_222, List.forall_mem_cons.mpr ⟨kw_6_224, List.forall_mem_cons.mpr ⟨kw_6_226, List.forall_mem_cons.mpr ⟨kw_6_228, List.forall_mem_cons.mpr ⟨kw_6_230, List.forall_mem_cons.mpr ⟨kw_6_232, List.forall_mem_cons.mpr ⟨kw_6_234, List.forall_mem_cons.mpr ⟨kw_6_236, List.forall_mem_cons.mpr ⟨kw_6_238, List.forall_mem_cons.mpr ⟨kw_7_0, List.forall_mem_cons.mpr ⟨kw_7_2, List.forall_mem_cons.mpr ⟨kw_7_4, List.forall_mem_cons.mpr ⟨kw_7_6, List.forall_mem_cons.mpr ⟨kw_7_8, List.forall_mem_cons.mpr ⟨kw_7_10, List.forall_mem_cons.mpr ⟨kw_7_12, List.forall_mem_cons.mpr ⟨kw_7_14, List.forall_mem_cons.mpr ⟨kw_7_16, List.forall_mem_cons.mpr ⟨kw_7_18, List.forall_mem_cons.mpr ⟨kw_7_20, List.forall_mem_cons.mpr ⟨kw_7_22, List.forall_mem_cons.mpr ⟨kw_7_24, List.forall_mem_cons.mpr ⟨kw_7_26, List.forall_mem_cons.mpr ⟨kw_7_28, List.forall_mem_cons.mpr ⟨kw_7_30, List.forall_mem_cons.mpr ⟨kw_7_32, List.forall_mem_cons.mpr ⟨kw_7_34, List.forall_mem_cons.mpr ⟨kw_7_36, List.forall_mem_cons.mpr ⟨kw_7_38, List.forall_mem_cons.mpr ⟨kw_7_40, List.forall_mem_cons.mpr ⟨kw_7_42, List.forall_mem_cons.mpr ⟨kw_7_44, List.forall_mem_cons.mpr ⟨kw_7_46, List.forall_mem_cons.mpr ⟨kw_7_48, List.forall_mem_cons.mpr ⟨kw_7_50, List.forall_mem_cons.mpr ⟨kw_7_52, List.forall_mem_cons.mpr ⟨kw_7_54, List.forall_mem_cons.mpr ⟨kw_7_56, List.forall_mem_cons.mpr ⟨kw_7_58, List.forall_mem_cons.mpr ⟨kw_7_60, List.forall_mem_cons.mpr ⟨kw_7_62, List.forall_mem_cons.mpr ⟨kw_7_64, List.forall_mem_cons.mpr ⟨kw_7_66, List.forall_mem_cons.mpr ⟨kw_7_68, List.forall_mem_cons.mpr ⟨kw_7_70, List.forall_mem_cons.mpr ⟨kw_7_72, List.forall_mem_cons.mpr ⟨kw_7_74, List.forall_mem_cons.mpr ⟨kw_7_76, List.forall_mem_cons.mpr ⟨kw_7_78, List.forall_mem_cons.mpr ⟨kw_7_80, List.forall_mem_cons.mpr ⟨kw_7_82, List.forall_mem_cons.mpr ⟨kw_7_84, List.forall_mem_cons.mpr ⟨kw_7_86, fun _ h => absurd h List.not_mem_nil⟩⟩⟩⟩⟩⟩⟩⟩⟩⟩⟩⟩⟩⟩⟩⟩⟩⟩⟩⟩⟩⟩⟩⟩⟩⟩⟩⟩⟩⟩⟩⟩⟩⟩⟩⟩⟩⟩⟩⟩⟩⟩⟩⟩⟩⟩⟩⟩⟩⟩⟩⟩⟩⟩⟩⟩⟩⟩⟩⟩
end XW
