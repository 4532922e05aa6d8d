section XW2
theorem kw_3_237 : (Cond.fieldLink RX1 37 "StaticLink$Declarations" "place" "[I") ∈ uG := uG_mem (tb_3 (List.mem_of_getElem? (i := 237) (by decide +kernel))) rfl
theorem kw_3_238 : (Cond.fieldLink RX4 141 "StaticLink$Declarations" "place" "[I") ∈ uG := uG_mem (tb_3 (List.mem_of_getElem? (i := 238) (by decide +kernel))) rfl
theorem kw_3_239 : (Cond.fieldLink RX1 40 "StaticLink$Declarations" "detail" "[I") ∈ uG := uG_mem (tb_3 (List.mem_of_getElem? (i := 239) (by decide +kernel))) rfl
theorem kw_4_0 : (Cond.fieldLink RX4 144 "StaticLink$Declarations" "detail" "[I") ∈ uG := uG_mem (tb_4 (List.mem_of_getElem? (i := 0) (by decide +kernel))) rfl
theorem kw_4_1 : (Cond.fieldLink RX1 43 "StaticLink$Declarations" "whatAt" "[I") ∈ uG := uG_mem (tb_4 (List.mem_of_getElem? (i := 1) (by decide +kernel))) rfl
theorem kw_4_2 : (Cond.fieldLink RX4 188 "StaticLink$Declarations" "whatAt" "[I") ∈ uG := uG_mem (tb_4 (List.mem_of_getElem? (i := 2) (by decide +kernel))) rfl
theorem kw_4_3 : (Cond.fieldLink RX3 298 "StaticLink$Declarations" "whatAt" "[I") ∈ uG := uG_mem (tb_4 (List.mem_of_getElem? (i := 3) (by decide +kernel))) rfl
theorem kw_4_4 : (Cond.fieldLink RX1 46 "StaticLink$Declarations" "sizeAt" "[I") ∈ uG := uG_mem (tb_4 (List.mem_of_getElem? (i := 4) (by decide +kernel))) rfl
theorem kw_4_5 : (Cond.fieldLink RX3 301 "StaticLink$Declarations" "sizeAt" "[I") ∈ uG := uG_mem (tb_4 (List.mem_of_getElem? (i := 5) (by decide +kernel))) rfl
theorem kw_4_6 : (Cond.lays RX1 "StaticLink$Declarations" "count" "I") ∈ uG := uG_mem (tb_4 (List.mem_of_getElem? (i := 6) (by decide +kernel))) rfl
theorem kw_4_8 : (Cond.laysFinal RX1 "StaticLink$Declarations" "parent" "[I") ∈ uG := uG_mem (tb_4 (List.mem_of_getElem? (i := 8) (by decide +kernel))) rfl
theorem kw_4_10 : (Cond.laysFinal RX1 "StaticLink$Declarations" "called" "[I") ∈ uG := uG_mem (tb_4 (List.mem_of_getElem? (i := 10) (by decide +kernel))) rfl
theorem kw_4_12 : (Cond.laysFinal RX1 "StaticLink$Declarations" "parameters" "[I") ∈ uG := uG_mem (tb_4 (List.mem_of_getElem? (i := 12) (by decide +kernel))) rfl
theorem kw_4_14 : (Cond.laysFinal RX1 "StaticLink$Declarations" "variables" "[I") ∈ uG := uG_mem (tb_4 (List.mem_of_getElem? (i := 14) (by decide +kernel))) rfl
theorem kw_4_16 : (Cond.laysFinal RX1 "StaticLink$Declarations" "places" "[I") ∈ uG := uG_mem (tb_4 (List.mem_of_getElem? (i := 16) (by decide +kernel))) rfl
theorem kw_4_18 : (Cond.laysFinal RX1 "StaticLink$Declarations" "bodyNode" "[I") ∈ uG := uG_mem (tb_4 (List.mem_of_getElem? (i := 18) (by decide +kernel))) rfl
theorem kw_4_20 : (Cond.laysFinal RX1 "StaticLink$Declarations" "what" "[I") ∈ uG := uG_mem (tb_4 (List.mem_of_getElem? (i := 20) (by decide +kernel))) rfl
theorem kw_4_22 : (Cond.laysFinal RX1 "StaticLink$Declarations" "place" "[I") ∈ uG := uG_mem (tb_4 (List.mem_of_getElem? (i := 22) (by decide +kernel))) rfl
theorem kw_4_24 : (Cond.laysFinal RX1 "StaticLink$Declarations" "detail" "[I") ∈ uG := uG_mem (tb_4 (List.mem_of_getElem? (i := 24) (by decide +kernel))) rfl
theorem kw_4_26 : (Cond.laysFinal RX1 "StaticLink$Declarations" "whatAt" "[I") ∈ uG := uG_mem (tb_4 (List.mem_of_getElem? (i := 26) (by decide +kernel))) rfl
theorem kw_4_28 : (Cond.laysFinal RX1 "StaticLink$Declarations" "sizeAt" "[I") ∈ uG := uG_mem (tb_4 (List.mem_of_getElem? (i := 28) (by decide +kernel))) rfl
theorem kw_4_31 : (Cond.classLink RX8 16 RX5) ∈ uG := uG_mem (tb_4 (List.mem_of_getElem? (i := 31) (by decide +kernel))) rfl
theorem kw_4_32 : (Cond.instantiable RX5 7) ∈ uG := uG_mem (tb_4 (List.mem_of_getElem? (i := 32) (by decide +kernel))) rfl
theorem kw_4_34 : (Cond.instanceMethod yX5_init) ∈ uG := uG_mem (tb_4 (List.mem_of_getElem? (i := 34) (by decide +kernel))) rfl
theorem kw_4_35 : (Cond.code yX5_init cX5_init 1 none) ∈ uG := uG_mem (tb_4 (List.mem_of_getElem? (i := 35) (by decide +kernel))) rfl
theorem kw_4_36 : (Cond.methodLink RX5 3 ⟨"java/lang/Object", "<init>", "()V"⟩) ∈ uG := uG_mem (tb_4 (List.mem_of_getElem? (i := 36) (by decide +kernel))) rfl
theorem kw_4_37 : (Cond.fieldLink RX5 9 "StaticLink$Nodes" "count" "I") ∈ uG := uG_mem (tb_4 (List.mem_of_getElem? (i := 37) (by decide +kernel))) rfl
theorem kw_4_38 : (Cond.fieldLink RX4 76 "StaticLink$Nodes" "count" "I") ∈ uG := uG_mem (tb_4 (List.mem_of_getElem? (i := 38) (by decide +kernel))) rfl
theorem kw_4_39 : (Cond.fieldLink RX0 68 "StaticLink$Nodes" "count" "I") ∈ uG := uG_mem (tb_4 (List.mem_of_getElem? (i := 39) (by decide +kernel))) rfl
theorem kw_4_40 : (Cond.fieldLink RX8 179 "StaticLink$Nodes" "count" "I") ∈ uG := uG_mem (tb_4 (List.mem_of_getElem? (i := 40) (by decide +kernel))) rfl
theorem kw_4_41 : (Cond.fieldLink RX5 15 "StaticLink$Nodes" "kind" "[I") ∈ uG := uG_mem (tb_4 (List.mem_of_getElem? (i := 41) (by decide +kernel))) rfl
theorem kw_4_42 : (Cond.fieldLink RX4 101 "StaticLink$Nodes" "kind" "[I") ∈ uG := uG_mem (tb_4 (List.mem_of_getElem? (i := 42) (by decide +kernel))) rfl
theorem kw_4_43 : (Cond.fieldLink RX2 72 "StaticLink$Nodes" "kind" "[I") ∈ uG := uG_mem (tb_4 (List.mem_of_getElem? (i := 43) (by decide +kernel))) rfl
theorem kw_4_44 : (Cond.fieldLink RX0 117 "StaticLink$Nodes" "kind" "[I") ∈ uG := uG_mem (tb_4 (List.mem_of_getElem? (i := 44) (by decide +kernel))) rfl
theorem kw_4_45 : (Cond.fieldLink RX8 195 "StaticLink$Nodes" "kind" "[I") ∈ uG := uG_mem (tb_4 (List.mem_of_getElem? (i := 45) (by decide +kernel))) rfl
theorem kw_4_46 : (Cond.fieldLink RX5 19 "StaticLink$Nodes" "a" "[I") ∈ uG := uG_mem (tb_4 (List.mem_of_getElem? (i := 46) (by decide +kernel))) rfl
theorem kw_4_47 : (Cond.fieldLink RX4 123 "StaticLink$Nodes" "a" "[I") ∈ uG := uG_mem (tb_4 (List.mem_of_getElem? (i := 47) (by decide +kernel))) rfl
theorem kw_4_48 : (Cond.fieldLink RX0 123 "StaticLink$Nodes" "a" "[I") ∈ uG := uG_mem (tb_4 (List.mem_of_getElem? (i := 48) (by decide +kernel))) rfl
theorem kw_4_49 : (Cond.fieldLink RX8 198 "StaticLink$Nodes" "a" "[I") ∈ uG := uG_mem (tb_4 (List.mem_of_getElem? (i := 49) (by decide +kernel))) rfl
theorem kw_4_50 : (Cond.fieldLink RX5 22 "StaticLink$Nodes" "b" "[I") ∈ uG := uG_mem (tb_4 (List.mem_of_getElem? (i := 50) (by decide +kernel))) rfl
theorem kw_4_51 : (Cond.fieldLink RX4 150 "StaticLink$Nodes" "b" "[I") ∈ uG := uG_mem (tb_4 (List.mem_of_getElem? (i := 51) (by decide +kernel))) rfl
theorem kw_4_52 : (Cond.fieldLink RX2 111 "StaticLink$Nodes" "b" "[I") ∈ uG := uG_mem (tb_4 (List.mem_of_getElem? (i := 52) (by decide +kernel))) rfl
theorem kw_4_53 : (Cond.fieldLink RX8 201 "StaticLink$Nodes" "b" "[I") ∈ uG := uG_mem (tb_4 (List.mem_of_getElem? (i := 53) (by decide +kernel))) rfl
theorem kw_4_54 : (Cond.fieldLink RX0 180 "StaticLink$Nodes" "b" "[I") ∈ uG := uG_mem (tb_4 (List.mem_of_getElem? (i := 54) (by decide +kernel))) rfl
theorem kw_4_55 : (Cond.fieldLink RX5 25 "StaticLink$Nodes" "c" "[I") ∈ uG := uG_mem (tb_4 (List.mem_of_getElem? (i := 55) (by decide +kernel))) rfl
theorem kw_4_56 : (Cond.fieldLink RX4 156 "StaticLink$Nodes" "c" "[I") ∈ uG := uG_mem (tb_4 (List.mem_of_getElem? (i := 56) (by decide +kernel))) rfl
theorem kw_4_57 : (Cond.fieldLink RX8 204 "StaticLink$Nodes" "c" "[I") ∈ uG := uG_mem (tb_4 (List.mem_of_getElem? (i := 57) (by decide +kernel))) rfl
theorem kw_4_58 : (Cond.fieldLink RX2 121 "StaticLink$Nodes" "c" "[I") ∈ uG := uG_mem (tb_4 (List.mem_of_getElem? (i := 58) (by decide +kernel))) rfl
theorem kw_4_59 : (Cond.fieldLink RX0 192 "StaticLink$Nodes" "c" "[I") ∈ uG := uG_mem (tb_4 (List.mem_of_getElem? (i := 59) (by decide +kernel))) rfl
theorem kw_4_60 : (Cond.fieldLink RX5 28 "StaticLink$Nodes" "whole" "[I") ∈ uG := uG_mem (tb_4 (List.mem_of_getElem? (i := 60) (by decide +kernel))) rfl
theorem kw_4_61 : (Cond.fieldLink RX4 117 "StaticLink$Nodes" "whole" "[I") ∈ uG := uG_mem (tb_4 (List.mem_of_getElem? (i := 61) (by decide +kernel))) rfl
theorem kw_4_62 : (Cond.fieldLink RX0 177 "StaticLink$Nodes" "whole" "[I") ∈ uG := uG_mem (tb_4 (List.mem_of_getElem? (i := 62) (by decide +kernel))) rfl
theorem kw_4_63 : (Cond.fieldLink RX3 249 "StaticLink$Nodes" "whole" "[I") ∈ uG := uG_mem (tb_4 (List.mem_of_getElem? (i := 63) (by decide +kernel))) rfl
theorem kw_4_64 : (Cond.fieldLink RX5 31 "StaticLink$Nodes" "bodyOf" "[I") ∈ uG := uG_mem (tb_4 (List.mem_of_getElem? (i := 64) (by decide +kernel))) rfl
theorem kw_4_65 : (Cond.fieldLink RX4 114 "StaticLink$Nodes" "bodyOf" "[I") ∈ uG := uG_mem (tb_4 (List.mem_of_getElem? (i := 65) (by decide +kernel))) rfl
theorem kw_4_66 : (Cond.fieldLink RX8 192 "StaticLink$Nodes" "bodyOf" "[I") ∈ uG := uG_mem (tb_4 (List.mem_of_getElem? (i := 66) (by decide +kernel))) rfl
theorem kw_4_67 : (Cond.lays RX5 "StaticLink$Nodes" "count" "I") ∈ uG := uG_mem (tb_4 (List.mem_of_getElem? (i := 67) (by decide +kernel))) rfl
theorem kw_4_69 : (Cond.laysFinal RX5 "StaticLink$Nodes" "kind" "[I") ∈ uG := uG_mem (tb_4 (List.mem_of_getElem? (i := 69) (by decide +kernel))) rfl
theorem kw_4_71 : (Cond.laysFinal RX5 "StaticLink$Nodes" "a" "[I") ∈ uG := uG_mem (tb_4 (List.mem_of_getElem? (i := 71) (by decide +kernel))) rfl
theorem kw_4_73 : (Cond.laysFinal RX5 "StaticLink$Nodes" "b" "[I") ∈ uG := uG_mem (tb_4 (List.mem_of_getElem? (i := 73) (by decide +kernel))) rfl
theorem kw_4_75 : (Cond.laysFinal RX5 "StaticLink$Nodes" "c" "[I") ∈ uG := uG_mem (tb_4 (List.mem_of_getElem? (i := 75) (by decide +kernel))) rfl
theorem kw_4_77 : (Cond.laysFinal RX5 "StaticLink$Nodes" "whole" "[I") ∈ uG := uG_mem (tb_4 (List.mem_of_getElem? (i := 77) (by decide +kernel))) rfl
theorem kw_4_79 : (Cond.laysFinal RX5 "StaticLink$Nodes" "bodyOf" "[I") ∈ uG := uG_mem (tb_4 (List.mem_of_getElem? (i := 79) (by decide +kernel))) rfl
theorem kw_4_82 : (Cond.classLink RX8 23 RX4) ∈ uG := uG_mem (tb_4 (List.mem_of_getElem? (i := 82) (by decide +kernel))) rfl
theorem kw_4_83 : (Cond.methodLink RX8 25 yX4_init) ∈ uG := uG_mem (tb_4 (List.mem_of_getElem? (i := 83) (by decide +kernel))) rfl
theorem kw_4_84 : (Cond.instanceMethod yX4_init) ∈ uG := uG_mem (tb_4 (List.mem_of_getElem? (i := 84) (by decide +kernel))) rfl
theorem kw_4_85 : (Cond.code yX4_init cX4_init 3 none) ∈ uG := uG_mem (tb_4 (List.mem_of_getElem? (i := 85) (by decide +kernel))) rfl
theorem kw_4_86 : (Cond.methodLink RX4 3 ⟨"java/lang/Object", "<init>", "()V"⟩) ∈ uG := uG_mem (tb_4 (List.mem_of_getElem? (i := 86) (by decide +kernel))) rfl
theorem kw_4_87 : (Cond.fieldLink RX4 65 "StaticLink$Meaning" "declarations" "LStaticLink$Declarations;") ∈ uG := uG_mem (tb_4 (List.mem_of_getElem? (i := 87) (by decide +kernel))) rfl
theorem kw_4_88 : (Cond.fieldLink RX4 69 "StaticLink$Meaning" "nodes" "LStaticLink$Nodes;") ∈ uG := uG_mem (tb_4 (List.mem_of_getElem? (i := 88) (by decide +kernel))) rfl
theorem kw_4_89 : (Cond.fieldLink RX4 9 "StaticLink$Meaning" "in" "[I") ∈ uG := uG_mem (tb_4 (List.mem_of_getElem? (i := 89) (by decide +kernel))) rfl
theorem kw_4_90 : (Cond.fieldLink RX0 96 "StaticLink$Meaning" "in" "[I") ∈ uG := uG_mem (tb_4 (List.mem_of_getElem? (i := 90) (by decide +kernel))) rfl
theorem kw_4_91 : (Cond.fieldLink RX3 131 "StaticLink$Meaning" "in" "[I") ∈ uG := uG_mem (tb_4 (List.mem_of_getElem? (i := 91) (by decide +kernel))) rfl
theorem kw_4_92 : (Cond.fieldLink RX8 207 "StaticLink$Meaning" "in" "[I") ∈ uG := uG_mem (tb_4 (List.mem_of_getElem? (i := 92) (by decide +kernel))) rfl
theorem kw_4_93 : (Cond.fieldLink RX4 15 "StaticLink$Meaning" "owner" "[I") ∈ uG := uG_mem (tb_4 (List.mem_of_getElem? (i := 93) (by decide +kernel))) rfl
theorem kw_4_94 : (Cond.fieldLink RX4 18 "StaticLink$Meaning" "hops" "[I") ∈ uG := uG_mem (tb_4 (List.mem_of_getElem? (i := 94) (by decide +kernel))) rfl
theorem kw_4_95 : (Cond.fieldLink RX8 216 "StaticLink$Meaning" "hops" "[I") ∈ uG := uG_mem (tb_4 (List.mem_of_getElem? (i := 95) (by decide +kernel))) rfl
theorem kw_4_96 : (Cond.fieldLink RX0 149 "StaticLink$Meaning" "hops" "[I") ∈ uG := uG_mem (tb_4 (List.mem_of_getElem? (i := 96) (by decide +kernel))) rfl
theorem kw_4_97 : (Cond.fieldLink RX4 21 "StaticLink$Meaning" "is" "[I") ∈ uG := uG_mem (tb_4 (List.mem_of_getElem? (i := 97) (by decide +kernel))) rfl
theorem kw_4_98 : (Cond.fieldLink RX2 79 "StaticLink$Meaning" "is" "[I") ∈ uG := uG_mem (tb_4 (List.mem_of_getElem? (i := 98) (by decide +kernel))) rfl
theorem kw_4_99 : (Cond.fieldLink RX3 228 "StaticLink$Meaning" "is" "[I") ∈ uG := uG_mem (tb_4 (List.mem_of_getElem? (i := 99) (by decide +kernel))) rfl
theorem kw_4_100 : (Cond.fieldLink RX0 171 "StaticLink$Meaning" "is" "[I") ∈ uG := uG_mem (tb_4 (List.mem_of_getElem? (i := 100) (by decide +kernel))) rfl
theorem kw_4_101 : (Cond.fieldLink RX4 24 "StaticLink$Meaning" "target" "[I") ∈ uG := uG_mem (tb_4 (List.mem_of_getElem? (i := 101) (by decide +kernel))) rfl
theorem kw_4_102 : (Cond.fieldLink RX2 99 "StaticLink$Meaning" "target" "[I") ∈ uG := uG_mem (tb_4 (List.mem_of_getElem? (i := 102) (by decide +kernel))) rfl
theorem kw_4_103 : (Cond.fieldLink RX0 152 "StaticLink$Meaning" "target" "[I") ∈ uG := uG_mem (tb_4 (List.mem_of_getElem? (i := 103) (by decide +kernel))) rfl
theorem kw_4_104 : (Cond.fieldLink RX4 27 "StaticLink$Meaning" "folded" "[Z") ∈ uG := uG_mem (tb_4 (List.mem_of_getElem? (i := 104) (by decide +kernel))) rfl
theorem kw_4_105 : (Cond.fieldLink RX0 111 "StaticLink$Meaning" "folded" "[Z") ∈ uG := uG_mem (tb_4 (List.mem_of_getElem? (i := 105) (by decide +kernel))) rfl
theorem kw_4_106 : (Cond.fieldLink RX8 210 "StaticLink$Meaning" "folded" "[Z") ∈ uG := uG_mem (tb_4 (List.mem_of_getElem? (i := 106) (by decide +kernel))) rfl
theorem kw_4_107 : (Cond.fieldLink RX4 31 "StaticLink$Meaning" "worth" "[I") ∈ uG := uG_mem (tb_4 (List.mem_of_getElem? (i := 107) (by decide +kernel))) rfl
theorem kw_4_108 : (Cond.fieldLink RX0 155 "StaticLink$Meaning" "worth" "[I") ∈ uG := uG_mem (tb_4 (List.mem_of_getElem? (i := 108) (by decide +kernel))) rfl
theorem kw_4_109 : (Cond.fieldLink RX4 34 "StaticLink$Meaning" "tail" "[Z") ∈ uG := uG_mem (tb_4 (List.mem_of_getElem? (i := 109) (by decide +kernel))) rfl
theorem kw_4_110 : (Cond.fieldLink RX0 114 "StaticLink$Meaning" "tail" "[Z") ∈ uG := uG_mem (tb_4 (List.mem_of_getElem? (i := 110) (by decide +kernel))) rfl
theorem kw_4_111 : (Cond.fieldLink RX8 213 "StaticLink$Meaning" "tail" "[Z") ∈ uG := uG_mem (tb_4 (List.mem_of_getElem? (i := 111) (by decide +kernel))) rfl
theorem kw_4_112 : (Cond.fieldLink RX3 254 "StaticLink$Meaning" "tail" "[Z") ∈ uG := uG_mem (tb_4 (List.mem_of_getElem? (i := 112) (by decide +kernel))) rfl
theorem kw_4_113 : (Cond.fieldLink RX4 37 "StaticLink$Meaning" "mode" "[I") ∈ uG := uG_mem (tb_4 (List.mem_of_getElem? (i := 113) (by decide +kernel))) rfl
theorem kw_4_114 : (Cond.fieldLink RX0 120 "StaticLink$Meaning" "mode" "[I") ∈ uG := uG_mem (tb_4 (List.mem_of_getElem? (i := 114) (by decide +kernel))) rfl
theorem kw_4_115 : (Cond.fieldLink RX2 114 "StaticLink$Meaning" "mode" "[I") ∈ uG := uG_mem (tb_4 (List.mem_of_getElem? (i := 115) (by decide +kernel))) rfl
theorem kw_4_116 : (Cond.fieldLink RX4 40 "StaticLink$Meaning" "leaves" "[I") ∈ uG := uG_mem (tb_4 (List.mem_of_getElem? (i := 116) (by decide +kernel))) rfl
theorem kw_4_117 : (Cond.fieldLink RX2 90 "StaticLink$Meaning" "leaves" "[I") ∈ uG := uG_mem (tb_4 (List.mem_of_getElem? (i := 117) (by decide +kernel))) rfl
theorem kw_4_118 : (Cond.fieldLink RX0 189 "StaticLink$Meaning" "leaves" "[I") ∈ uG := uG_mem (tb_4 (List.mem_of_getElem? (i := 118) (by decide +kernel))) rfl
theorem kw_4_119 : (Cond.fieldLink RX4 43 "StaticLink$Meaning" "labels" "[I") ∈ uG := uG_mem (tb_4 (List.mem_of_getElem? (i := 119) (by decide +kernel))) rfl
theorem kw_4_120 : (Cond.fieldLink RX4 46 "StaticLink$Meaning" "handedOn" "[Z") ∈ uG := uG_mem (tb_4 (List.mem_of_getElem? (i := 120) (by decide +kernel))) rfl
theorem kw_4_121 : (Cond.fieldLink RX8 164 "StaticLink$Meaning" "handedOn" "[Z") ∈ uG := uG_mem (tb_4 (List.mem_of_getElem? (i := 121) (by decide +kernel))) rfl
theorem kw_4_122 : (Cond.fieldLink RX4 49 "StaticLink$Meaning" "escapes" "[I") ∈ uG := uG_mem (tb_4 (List.mem_of_getElem? (i := 122) (by decide +kernel))) rfl
theorem kw_4_123 : (Cond.fieldLink RX8 161 "StaticLink$Meaning" "escapes" "[I") ∈ uG := uG_mem (tb_4 (List.mem_of_getElem? (i := 123) (by decide +kernel))) rfl
theorem kw_4_124 : (Cond.fieldLink RX3 273 "StaticLink$Meaning" "escapes" "[I") ∈ uG := uG_mem (tb_4 (List.mem_of_getElem? (i := 124) (by decide +kernel))) rfl
theorem kw_4_125 : (Cond.fieldLink RX4 52 "StaticLink$Meaning" "nodesInNone" "I") ∈ uG := uG_mem (tb_4 (List.mem_of_getElem? (i := 125) (by decide +kernel))) rfl
theorem kw_4_126 : (Cond.fieldLink RX8 283 "StaticLink$Meaning" "nodesInNone" "I") ∈ uG := uG_mem (tb_4 (List.mem_of_getElem? (i := 126) (by decide +kernel))) rfl
theorem kw_4_127 : (Cond.fieldLink RX4 56 "StaticLink$Meaning" "nodesFolded" "I") ∈ uG := uG_mem (tb_4 (List.mem_of_getElem? (i := 127) (by decide +kernel))) rfl
theorem kw_4_128 : (Cond.fieldLink RX8 289 "StaticLink$Meaning" "nodesFolded" "I") ∈ uG := uG_mem (tb_4 (List.mem_of_getElem? (i := 128) (by decide +kernel))) rfl
theorem kw_4_129 : (Cond.fieldLink RX4 59 "StaticLink$Meaning" "tails" "I") ∈ uG := uG_mem (tb_4 (List.mem_of_getElem? (i := 129) (by decide +kernel))) rfl
theorem kw_4_130 : (Cond.fieldLink RX8 286 "StaticLink$Meaning" "tails" "I") ∈ uG := uG_mem (tb_4 (List.mem_of_getElem? (i := 130) (by decide +kernel))) rfl
theorem kw_4_131 : (Cond.fieldLink RX4 62 "StaticLink$Meaning" "placesEscaping" "I") ∈ uG := uG_mem (tb_4 (List.mem_of_getElem? (i := 131) (by decide +kernel))) rfl
theorem kw_4_132 : (Cond.fieldLink RX8 292 "StaticLink$Meaning" "placesEscaping" "I") ∈ uG := uG_mem (tb_4 (List.mem_of_getElem? (i := 132) (by decide +kernel))) rfl
theorem kw_4_133 : (Cond.laysFinal RX4 "StaticLink$Meaning" "declarations" "LStaticLink$Declarations;") ∈ uG := uG_mem (tb_4 (List.mem_of_getElem? (i := 133) (by decide +kernel))) rfl
theorem kw_4_135 : (Cond.laysFinal RX4 "StaticLink$Meaning" "nodes" "LStaticLink$Nodes;") ∈ uG := uG_mem (tb_4 (List.mem_of_getElem? (i := 135) (by decide +kernel))) rfl
theorem kw_4_137 : (Cond.laysFinal RX4 "StaticLink$Meaning" "in" "[I") ∈ uG := uG_mem (tb_4 (List.mem_of_getElem? (i := 137) (by decide +kernel))) rfl
theorem kw_4_139 : (Cond.laysFinal RX4 "StaticLink$Meaning" "owner" "[I") ∈ uG := uG_mem (tb_4 (List.mem_of_getElem? (i := 139) (by decide +kernel))) rfl
theorem kw_4_141 : (Cond.laysFinal RX4 "StaticLink$Meaning" "hops" "[I") ∈ uG := uG_mem (tb_4 (List.mem_of_getElem? (i := 141) (by decide +kernel))) rfl
theorem kw_4_143 : (Cond.laysFinal RX4 "StaticLink$Meaning" "is" "[I") ∈ uG := uG_mem (tb_4 (List.mem_of_getElem? (i := 143) (by decide +kernel))) rfl
theorem kw_4_145 : (Cond.laysFinal RX4 "StaticLink$Meaning" "target" "[I") ∈ uG := uG_mem (tb_4 (List.mem_of_getElem? (i := 145) (by decide +kernel))) rfl
theorem kw_4_147 : (Cond.laysFinal RX4 "StaticLink$Meaning" "folded" "[Z") ∈ uG := uG_mem (tb_4 (List.mem_of_getElem? (i := 147) (by decide +kernel))) rfl
theorem kw_4_149 : (Cond.laysFinal RX4 "StaticLink$Meaning" "worth" "[I") ∈ uG := uG_mem (tb_4 (List.mem_of_getElem? (i := 149) (by decide +kernel))) rfl
theorem kw_4_151 : (Cond.laysFinal RX4 "StaticLink$Meaning" "tail" "[Z") ∈ uG := uG_mem (tb_4 (List.mem_of_getElem? (i := 151) (by decide +kernel))) rfl
theorem kw_4_153 : (Cond.laysFinal RX4 "StaticLink$Meaning" "mode" "[I") ∈ uG := uG_mem (tb_4 (List.mem_of_getElem? (i := 153) (by decide +kernel))) rfl
theorem kw_4_155 : (Cond.laysFinal RX4 "StaticLink$Meaning" "leaves" "[I") ∈ uG := uG_mem (tb_4 (List.mem_of_getElem? (i := 155) (by decide +kernel))) rfl
theorem kw_4_157 : (Cond.laysFinal RX4 "StaticLink$Meaning" "labels" "[I") ∈ uG := uG_mem (tb_4 (List.mem_of_getElem? (i := 157) (by decide +kernel))) rfl
theorem kw_4_159 : (Cond.laysFinal RX4 "StaticLink$Meaning" "handedOn" "[Z") ∈ uG := uG_mem (tb_4 (List.mem_of_getElem? (i := 159) (by decide +kernel))) rfl
theorem kw_4_161 : (Cond.laysFinal RX4 "StaticLink$Meaning" "escapes" "[I") ∈ uG := uG_mem (tb_4 (List.mem_of_getElem? (i := 161) (by decide +kernel))) rfl
theorem kw_4_163 : (Cond.lays RX4 "StaticLink$Meaning" "nodesInNone" "I") ∈ uG := uG_mem (tb_4 (List.mem_of_getElem? (i := 163) (by decide +kernel))) rfl
theorem kw_4_165 : (Cond.lays RX4 "StaticLink$Meaning" "nodesFolded" "I") ∈ uG := uG_mem (tb_4 (List.mem_of_getElem? (i := 165) (by decide +kernel))) rfl
theorem kw_4_167 : (Cond.lays RX4 "StaticLink$Meaning" "tails" "I") ∈ uG := uG_mem (tb_4 (List.mem_of_getElem? (i := 167) (by decide +kernel))) rfl
theorem kw_4_169 : (Cond.lays RX4 "StaticLink$Meaning" "placesEscaping" "I") ∈ uG := uG_mem (tb_4 (List.mem_of_getElem? (i := 169) (by decide +kernel))) rfl
theorem kw_4_172 : (Cond.arrayClass FieldType.boolean) ∈ uG := uG_mem (tb_4 (List.mem_of_getElem? (i := 172) (by decide +kernel))) rfl
theorem kw_4_173 : (Cond.classLink RX8 32 RX2) ∈ uG := uG_mem (tb_4 (List.mem_of_getElem? (i := 173) (by decide +kernel))) rfl
theorem kw_4_174 : (Cond.methodLink RX8 34 yX2_init) ∈ uG := uG_mem (tb_4 (List.mem_of_getElem? (i := 174) (by decide +kernel))) rfl
theorem kw_4_175 : (Cond.instanceMethod yX2_init) ∈ uG := uG_mem (tb_4 (List.mem_of_getElem? (i := 175) (by decide +kernel))) rfl
theorem kw_4_176 : (Cond.code yX2_init cX2_init 4 none) ∈ uG := uG_mem (tb_4 (List.mem_of_getElem? (i := 176) (by decide +kernel))) rfl
theorem kw_4_177 : (Cond.methodLink RX2 3 ⟨"java/lang/Object", "<init>", "()V"⟩) ∈ uG := uG_mem (tb_4 (List.mem_of_getElem? (i := 177) (by decide +kernel))) rfl
theorem kw_4_178 : (Cond.fieldLink RX2 31 "StaticLink$Faults" "declarations" "LStaticLink$Declarations;") ∈ uG := uG_mem (tb_4 (List.mem_of_getElem? (i := 178) (by decide +kernel))) rfl
theorem kw_4_179 : (Cond.fieldLink RX2 35 "StaticLink$Faults" "nodes" "LStaticLink$Nodes;") ∈ uG := uG_mem (tb_4 (List.mem_of_getElem? (i := 179) (by decide +kernel))) rfl
theorem kw_4_180 : (Cond.fieldLink RX2 39 "StaticLink$Faults" "meaning" "LStaticLink$Meaning;") ∈ uG := uG_mem (tb_4 (List.mem_of_getElem? (i := 180) (by decide +kernel))) rfl
theorem kw_4_181 : (Cond.fieldLink RX2 9 "StaticLink$Faults" "count" "I") ∈ uG := uG_mem (tb_4 (List.mem_of_getElem? (i := 181) (by decide +kernel))) rfl
theorem kw_4_182 : (Cond.fieldLink RX8 219 "StaticLink$Faults" "count" "I") ∈ uG := uG_mem (tb_4 (List.mem_of_getElem? (i := 182) (by decide +kernel))) rfl
theorem kw_4_183 : (Cond.fieldLink RX2 15 "StaticLink$Faults" "which" "[I") ∈ uG := uG_mem (tb_4 (List.mem_of_getElem? (i := 183) (by decide +kernel))) rfl
theorem kw_4_184 : (Cond.fieldLink RX8 223 "StaticLink$Faults" "which" "[I") ∈ uG := uG_mem (tb_4 (List.mem_of_getElem? (i := 184) (by decide +kernel))) rfl
theorem kw_4_185 : (Cond.fieldLink RX2 19 "StaticLink$Faults" "procedureOf" "[I") ∈ uG := uG_mem (tb_4 (List.mem_of_getElem? (i := 185) (by decide +kernel))) rfl
theorem kw_4_186 : (Cond.fieldLink RX8 226 "StaticLink$Faults" "procedureOf" "[I") ∈ uG := uG_mem (tb_4 (List.mem_of_getElem? (i := 186) (by decide +kernel))) rfl
theorem kw_4_187 : (Cond.fieldLink RX2 22 "StaticLink$Faults" "nodeOf" "[I") ∈ uG := uG_mem (tb_4 (List.mem_of_getElem? (i := 187) (by decide +kernel))) rfl
theorem kw_4_188 : (Cond.fieldLink RX8 229 "StaticLink$Faults" "nodeOf" "[I") ∈ uG := uG_mem (tb_4 (List.mem_of_getElem? (i := 188) (by decide +kernel))) rfl
theorem kw_4_189 : (Cond.fieldLink RX2 25 "StaticLink$Faults" "waiting" "[I") ∈ uG := uG_mem (tb_4 (List.mem_of_getElem? (i := 189) (by decide +kernel))) rfl
theorem kw_4_190 : (Cond.fieldLink RX2 28 "StaticLink$Faults" "waits" "I") ∈ uG := uG_mem (tb_4 (List.mem_of_getElem? (i := 190) (by decide +kernel))) rfl
theorem kw_4_191 : (Cond.laysFinal RX2 "StaticLink$Faults" "declarations" "LStaticLink$Declarations;") ∈ uG := uG_mem (tb_4 (List.mem_of_getElem? (i := 191) (by decide +kernel))) rfl
theorem kw_4_193 : (Cond.laysFinal RX2 "StaticLink$Faults" "nodes" "LStaticLink$Nodes;") ∈ uG := uG_mem (tb_4 (List.mem_of_getElem? (i := 193) (by decide +kernel))) rfl
theorem kw_4_195 : (Cond.laysFinal RX2 "StaticLink$Faults" "meaning" "LStaticLink$Meaning;") ∈ uG := uG_mem (tb_4 (List.mem_of_getElem? (i := 195) (by decide +kernel))) rfl
theorem kw_4_197 : (Cond.lays RX2 "StaticLink$Faults" "count" "I") ∈ uG := uG_mem (tb_4 (List.mem_of_getElem? (i := 197) (by decide +kernel))) rfl
theorem kw_4_199 : (Cond.laysFinal RX2 "StaticLink$Faults" "which" "[I") ∈ uG := uG_mem (tb_4 (List.mem_of_getElem? (i := 199) (by decide +kernel))) rfl
theorem kw_4_201 : (Cond.laysFinal RX2 "StaticLink$Faults" "procedureOf" "[I") ∈ uG := uG_mem (tb_4 (List.mem_of_getElem? (i := 201) (by decide +kernel))) rfl
theorem kw_4_203 : (Cond.laysFinal RX2 "StaticLink$Faults" "nodeOf" "[I") ∈ uG := uG_mem (tb_4 (List.mem_of_getElem? (i := 203) (by decide +kernel))) rfl
theorem kw_4_205 : (Cond.laysFinal RX2 "StaticLink$Faults" "waiting" "[I") ∈ uG := uG_mem (tb_4 (List.mem_of_getElem? (i := 205) (by decide +kernel))) rfl
theorem kw_4_207 : (Cond.lays RX2 "StaticLink$Faults" "waits" "I") ∈ uG := uG_mem (tb_4 (List.mem_of_getElem? (i := 207) (by decide +kernel))) rfl
theorem kw_4_210 : (Cond.classLink RX8 41 RX0) ∈ uG := uG_mem (tb_4 (List.mem_of_getElem? (i := 210) (by decide +kernel))) rfl
theorem kw_4_211 : (Cond.methodLink RX8 43 yX0_init) ∈ uG := uG_mem (tb_4 (List.mem_of_getElem? (i := 211) (by decide +kernel))) rfl
theorem kw_4_212 : (Cond.instanceMethod yX0_init) ∈ uG := uG_mem (tb_4 (List.mem_of_getElem? (i := 212) (by decide +kernel))) rfl
theorem kw_4_213 : (Cond.code yX0_init cX0_init 4 none) ∈ uG := uG_mem (tb_4 (List.mem_of_getElem? (i := 213) (by decide +kernel))) rfl
theorem kw_4_214 : (Cond.methodLink RX0 3 ⟨"java/lang/Object", "<init>", "()V"⟩) ∈ uG := uG_mem (tb_4 (List.mem_of_getElem? (i := 214) (by decide +kernel))) rfl
theorem kw_4_215 : (Cond.fieldLink RX0 56 "StaticLink$Code" "declarations" "LStaticLink$Declarations;") ∈ uG := uG_mem (tb_4 (List.mem_of_getElem? (i := 215) (by decide +kernel))) rfl
theorem kw_4_216 : (Cond.fieldLink RX0 60 "StaticLink$Code" "nodes" "LStaticLink$Nodes;") ∈ uG := uG_mem (tb_4 (List.mem_of_getElem? (i := 216) (by decide +kernel))) rfl
theorem kw_4_217 : (Cond.fieldLink RX0 64 "StaticLink$Code" "meaning" "LStaticLink$Meaning;") ∈ uG := uG_mem (tb_4 (List.mem_of_getElem? (i := 217) (by decide +kernel))) rfl
theorem kw_4_218 : (Cond.fieldLink RX0 9 "StaticLink$Code" "laidOut" "I") ∈ uG := uG_mem (tb_4 (List.mem_of_getElem? (i := 218) (by decide +kernel))) rfl
theorem kw_4_219 : (Cond.fieldLink RX0 15 "StaticLink$Code" "total" "I") ∈ uG := uG_mem (tb_4 (List.mem_of_getElem? (i := 219) (by decide +kernel))) rfl
theorem kw_4_220 : (Cond.fieldLink RX3 97 "StaticLink$Code" "total" "I") ∈ uG := uG_mem (tb_4 (List.mem_of_getElem? (i := 220) (by decide +kernel))) rfl
theorem kw_4_221 : (Cond.fieldLink RX8 348 "StaticLink$Code" "total" "I") ∈ uG := uG_mem (tb_4 (List.mem_of_getElem? (i := 221) (by decide +kernel))) rfl
theorem kw_4_222 : (Cond.fieldLink RX0 18 "StaticLink$Code" "from" "[I") ∈ uG := uG_mem (tb_4 (List.mem_of_getElem? (i := 222) (by decide +kernel))) rfl
theorem kw_4_223 : (Cond.fieldLink RX8 235 "StaticLink$Code" "from" "[I") ∈ uG := uG_mem (tb_4 (List.mem_of_getElem? (i := 223) (by decide +kernel))) rfl
theorem kw_4_224 : (Cond.fieldLink RX3 237 "StaticLink$Code" "from" "[I") ∈ uG := uG_mem (tb_4 (List.mem_of_getElem? (i := 224) (by decide +kernel))) rfl
theorem kw_4_225 : (Cond.fieldLink RX0 22 "StaticLink$Code" "size" "[I") ∈ uG := uG_mem (tb_4 (List.mem_of_getElem? (i := 225) (by decide +kernel))) rfl
theorem kw_4_226 : (Cond.fieldLink RX8 345 "StaticLink$Code" "size" "[I") ∈ uG := uG_mem (tb_4 (List.mem_of_getElem? (i := 226) (by decide +kernel))) rfl
theorem kw_4_227 : (Cond.fieldLink RX0 25 "StaticLink$Code" "op" "[I") ∈ uG := uG_mem (tb_4 (List.mem_of_getElem? (i := 227) (by decide +kernel))) rfl
theorem kw_4_228 : (Cond.fieldLink RX3 104 "StaticLink$Code" "op" "[I") ∈ uG := uG_mem (tb_4 (List.mem_of_getElem? (i := 228) (by decide +kernel))) rfl
theorem kw_4_229 : (Cond.fieldLink RX8 238 "StaticLink$Code" "op" "[I") ∈ uG := uG_mem (tb_4 (List.mem_of_getElem? (i := 229) (by decide +kernel))) rfl
theorem kw_4_230 : (Cond.fieldLink RX0 28 "StaticLink$Code" "x" "[I") ∈ uG := uG_mem (tb_4 (List.mem_of_getElem? (i := 230) (by decide +kernel))) rfl
theorem kw_4_231 : (Cond.fieldLink RX3 139 "StaticLink$Code" "x" "[I") ∈ uG := uG_mem (tb_4 (List.mem_of_getElem? (i := 231) (by decide +kernel))) rfl
theorem kw_4_232 : (Cond.fieldLink RX8 241 "StaticLink$Code" "x" "[I") ∈ uG := uG_mem (tb_4 (List.mem_of_getElem? (i := 232) (by decide +kernel))) rfl
theorem kw_4_233 : (Cond.fieldLink RX0 31 "StaticLink$Code" "y" "[I") ∈ uG := uG_mem (tb_4 (List.mem_of_getElem? (i := 233) (by decide +kernel))) rfl
theorem kw_4_234 : (Cond.fieldLink RX3 177 "StaticLink$Code" "y" "[I") ∈ uG := uG_mem (tb_4 (List.mem_of_getElem? (i := 234) (by decide +kernel))) rfl
theorem kw_4_235 : (Cond.fieldLink RX8 244 "StaticLink$Code" "y" "[I") ∈ uG := uG_mem (tb_4 (List.mem_of_getElem? (i := 235) (by decide +kernel))) rfl
theorem kw_4_236 : (Cond.fieldLink RX0 34 "StaticLink$Code" "node" "[I") ∈ uG := uG_mem (tb_4 (List.mem_of_getElem? (i := 236) (by decide +kernel))) rfl
theorem kw_4_237 : (Cond.fieldLink RX3 206 "StaticLink$Code" "node" "[I") ∈ uG := uG_mem (tb_4 (List.mem_of_getElem? (i := 237) (by decide +kernel))) rfl
theorem kw_4_238 : (Cond.fieldLink RX0 37 "StaticLink$Code" "first" "[I") ∈ uG := uG_mem (tb_4 (List.mem_of_getElem? (i := 238) (by decide +kernel))) rfl
theorem kw_4_239 : (Cond.fieldLink RX3 114 "StaticLink$Code" "first" "[I") ∈ uG := uG_mem (tb_4 (List.mem_of_getElem? (i := 239) (by decide +kernel))) rfl
theorem kw_5_0 : (Cond.fieldLink RX0 40 "StaticLink$Code" "begins" "[I") ∈ uG := uG_mem (tb_5 (List.mem_of_getElem? (i := 0) (by decide +kernel))) rfl
theorem kw_5_1 : (Cond.fieldLink RX8 247 "StaticLink$Code" "begins" "[I") ∈ uG := uG_mem (tb_5 (List.mem_of_getElem? (i := 1) (by decide +kernel))) rfl
theorem kw_5_2 : (Cond.fieldLink RX0 43 "StaticLink$Code" "start" "[I") ∈ uG := uG_mem (tb_5 (List.mem_of_getElem? (i := 2) (by decide +kernel))) rfl
theorem kw_5_3 : (Cond.fieldLink RX3 240 "StaticLink$Code" "start" "[I") ∈ uG := uG_mem (tb_5 (List.mem_of_getElem? (i := 3) (by decide +kernel))) rfl
theorem kw_5_4 : (Cond.fieldLink RX0 46 "StaticLink$Code" "length" "[I") ∈ uG := uG_mem (tb_5 (List.mem_of_getElem? (i := 4) (by decide +kernel))) rfl
theorem kw_5_5 : (Cond.fieldLink RX3 242 "StaticLink$Code" "length" "[I") ∈ uG := uG_mem (tb_5 (List.mem_of_getElem? (i := 5) (by decide +kernel))) rfl
theorem kw_5_6 : (Cond.fieldLink RX0 49 "StaticLink$Code" "next" "[I") ∈ uG := uG_mem (tb_5 (List.mem_of_getElem? (i := 6) (by decide +kernel))) rfl
theorem kw_5_7 : (Cond.fieldLink RX3 123 "StaticLink$Code" "next" "[I") ∈ uG := uG_mem (tb_5 (List.mem_of_getElem? (i := 7) (by decide +kernel))) rfl
theorem kw_5_8 : (Cond.fieldLink RX0 52 "StaticLink$Code" "swallowed" "[Z") ∈ uG := uG_mem (tb_5 (List.mem_of_getElem? (i := 8) (by decide +kernel))) rfl
theorem kw_5_9 : (Cond.laysFinal RX0 "StaticLink$Code" "declarations" "LStaticLink$Declarations;") ∈ uG := uG_mem (tb_5 (List.mem_of_getElem? (i := 9) (by decide +kernel))) rfl
theorem kw_5_11 : (Cond.laysFinal RX0 "StaticLink$Code" "nodes" "LStaticLink$Nodes;") ∈ uG := uG_mem (tb_5 (List.mem_of_getElem? (i := 11) (by decide +kernel))) rfl
theorem kw_5_13 : (Cond.laysFinal RX0 "StaticLink$Code" "meaning" "LStaticLink$Meaning;") ∈ uG := uG_mem (tb_5 (List.mem_of_getElem? (i := 13) (by decide +kernel))) rfl
theorem kw_5_15 : (Cond.lays RX0 "StaticLink$Code" "laidOut" "I") ∈ uG := uG_mem (tb_5 (List.mem_of_getElem? (i := 15) (by decide +kernel))) rfl
theorem kw_5_17 : (Cond.lays RX0 "StaticLink$Code" "total" "I") ∈ uG := uG_mem (tb_5 (List.mem_of_getElem? (i := 17) (by decide +kernel))) rfl
theorem kw_5_19 : (Cond.laysFinal RX0 "StaticLink$Code" "from" "[I") ∈ uG := uG_mem (tb_5 (List.mem_of_getElem? (i := 19) (by decide +kernel))) rfl
theorem kw_5_21 : (Cond.laysFinal RX0 "StaticLink$Code" "size" "[I") ∈ uG := uG_mem (tb_5 (List.mem_of_getElem? (i := 21) (by decide +kernel))) rfl
theorem kw_5_23 : (Cond.laysFinal RX0 "StaticLink$Code" "op" "[I") ∈ uG := uG_mem (tb_5 (List.mem_of_getElem? (i := 23) (by decide +kernel))) rfl
theorem kw_5_25 : (Cond.laysFinal RX0 "StaticLink$Code" "x" "[I") ∈ uG := uG_mem (tb_5 (List.mem_of_getElem? (i := 25) (by decide +kernel))) rfl
theorem kw_5_27 : (Cond.laysFinal RX0 "StaticLink$Code" "y" "[I") ∈ uG := uG_mem (tb_5 (List.mem_of_getElem? (i := 27) (by decide +kernel))) rfl
theorem kw_5_29 : (Cond.laysFinal RX0 "StaticLink$Code" "node" "[I") ∈ uG := uG_mem (tb_5 (List.mem_of_getElem? (i := 29) (by decide +kernel))) rfl
theorem kw_5_31 : (Cond.laysFinal RX0 "StaticLink$Code" "first" "[I") ∈ uG := uG_mem (tb_5 (List.mem_of_getElem? (i := 31) (by decide +kernel))) rfl
theorem kw_5_33 : (Cond.laysFinal RX0 "StaticLink$Code" "begins" "[I") ∈ uG := uG_mem (tb_5 (List.mem_of_getElem? (i := 33) (by decide +kernel))) rfl
theorem kw_5_35 : (Cond.laysFinal RX0 "StaticLink$Code" "start" "[I") ∈ uG := uG_mem (tb_5 (List.mem_of_getElem? (i := 35) (by decide +kernel))) rfl
theorem kw_5_37 : (Cond.laysFinal RX0 "StaticLink$Code" "length" "[I") ∈ uG := uG_mem (tb_5 (List.mem_of_getElem? (i := 37) (by decide +kernel))) rfl
theorem kw_5_39 : (Cond.laysFinal RX0 "StaticLink$Code" "next" "[I") ∈ uG := uG_mem (tb_5 (List.mem_of_getElem? (i := 39) (by decide +kernel))) rfl
theorem kw_5_41 : (Cond.laysFinal RX0 "StaticLink$Code" "swallowed" "[Z") ∈ uG := uG_mem (tb_5 (List.mem_of_getElem? (i := 41) (by decide +kernel))) rfl
theorem kw_5_44 : (Cond.classLink RX8 51 RX3) ∈ uG := uG_mem (tb_5 (List.mem_of_getElem? (i := 44) (by decide +kernel))) rfl
theorem kw_5_45 : (Cond.methodLink RX8 53 yX3_init) ∈ uG := uG_mem (tb_5 (List.mem_of_getElem? (i := 45) (by decide +kernel))) rfl
theorem kw_5_46 : (Cond.instanceMethod yX3_init) ∈ uG := uG_mem (tb_5 (List.mem_of_getElem? (i := 46) (by decide +kernel))) rfl
theorem kw_5_47 : (Cond.code yX3_init cX3_init 5 none) ∈ uG := uG_mem (tb_5 (List.mem_of_getElem? (i := 47) (by decide +kernel))) rfl
theorem kw_5_48 : (Cond.methodLink RX3 3 ⟨"java/lang/Object", "<init>", "()V"⟩) ∈ uG := uG_mem (tb_5 (List.mem_of_getElem? (i := 48) (by decide +kernel))) rfl
theorem kw_5_49 : (Cond.classLink RX3 9 RX7) ∈ uG := uG_mem (tb_5 (List.mem_of_getElem? (i := 49) (by decide +kernel))) rfl
theorem kw_5_50 : (Cond.methodLink RX3 11 yX7_init) ∈ uG := uG_mem (tb_5 (List.mem_of_getElem? (i := 50) (by decide +kernel))) rfl
theorem kw_5_51 : (Cond.instanceMethod yX7_init) ∈ uG := uG_mem (tb_5 (List.mem_of_getElem? (i := 51) (by decide +kernel))) rfl
theorem kw_5_52 : (Cond.code yX7_init cX7_init 2 none) ∈ uG := uG_mem (tb_5 (List.mem_of_getElem? (i := 52) (by decide +kernel))) rfl
theorem kw_5_53 : (Cond.methodLink RX7 3 ⟨"java/lang/Object", "<init>", "()V"⟩) ∈ uG := uG_mem (tb_5 (List.mem_of_getElem? (i := 53) (by decide +kernel))) rfl
theorem kw_5_54 : (Cond.fieldLink RX7 15 "StaticLink$Table" "width" "I") ∈ uG := uG_mem (tb_5 (List.mem_of_getElem? (i := 54) (by decide +kernel))) rfl
theorem kw_5_55 : (Cond.fieldLink RX7 18 "StaticLink$Table" "numbers" "[I") ∈ uG := uG_mem (tb_5 (List.mem_of_getElem? (i := 55) (by decide +kernel))) rfl
theorem kw_5_56 : (Cond.fieldLink RX7 9 "StaticLink$Table" "count" "I") ∈ uG := uG_mem (tb_5 (List.mem_of_getElem? (i := 56) (by decide +kernel))) rfl
theorem kw_5_57 : (Cond.fieldLink RX3 200 "StaticLink$Table" "count" "I") ∈ uG := uG_mem (tb_5 (List.mem_of_getElem? (i := 57) (by decide +kernel))) rfl
theorem kw_5_58 : (Cond.laysFinal RX7 "StaticLink$Table" "width" "I") ∈ uG := uG_mem (tb_5 (List.mem_of_getElem? (i := 58) (by decide +kernel))) rfl
theorem kw_5_60 : (Cond.lays RX7 "StaticLink$Table" "numbers" "[I") ∈ uG := uG_mem (tb_5 (List.mem_of_getElem? (i := 60) (by decide +kernel))) rfl
theorem kw_5_62 : (Cond.lays RX7 "StaticLink$Table" "count" "I") ∈ uG := uG_mem (tb_5 (List.mem_of_getElem? (i := 62) (by decide +kernel))) rfl
theorem kw_5_65 : (Cond.classLink RX3 32 RX6) ∈ uG := uG_mem (tb_5 (List.mem_of_getElem? (i := 65) (by decide +kernel))) rfl
theorem kw_5_66 : (Cond.instantiable RX6 14) ∈ uG := uG_mem (tb_5 (List.mem_of_getElem? (i := 66) (by decide +kernel))) rfl
theorem kw_5_68 : (Cond.instanceMethod yX6_init) ∈ uG := uG_mem (tb_5 (List.mem_of_getElem? (i := 68) (by decide +kernel))) rfl
theorem kw_5_69 : (Cond.code yX6_init cX6_init 1 none) ∈ uG := uG_mem (tb_5 (List.mem_of_getElem? (i := 69) (by decide +kernel))) rfl
theorem kw_5_70 : (Cond.methodLink RX6 3 ⟨"java/lang/Object", "<init>", "()V"⟩) ∈ uG := uG_mem (tb_5 (List.mem_of_getElem? (i := 70) (by decide +kernel))) rfl
theorem kw_5_71 : (Cond.fieldLink RX6 9 "StaticLink$Outcome" "trap" "I") ∈ uG := uG_mem (tb_5 (List.mem_of_getElem? (i := 71) (by decide +kernel))) rfl
theorem kw_5_72 : (Cond.fieldLink RX3 126 "StaticLink$Outcome" "trap" "I") ∈ uG := uG_mem (tb_5 (List.mem_of_getElem? (i := 72) (by decide +kernel))) rfl
theorem kw_5_73 : (Cond.fieldLink RX8 257 "StaticLink$Outcome" "trap" "I") ∈ uG := uG_mem (tb_5 (List.mem_of_getElem? (i := 73) (by decide +kernel))) rfl
theorem kw_5_74 : (Cond.fieldLink RX6 15 "StaticLink$Outcome" "trapNode" "I") ∈ uG := uG_mem (tb_5 (List.mem_of_getElem? (i := 74) (by decide +kernel))) rfl
theorem kw_5_75 : (Cond.fieldLink RX3 128 "StaticLink$Outcome" "trapNode" "I") ∈ uG := uG_mem (tb_5 (List.mem_of_getElem? (i := 75) (by decide +kernel))) rfl
theorem kw_5_76 : (Cond.fieldLink RX6 18 "StaticLink$Outcome" "trapProcedure" "I") ∈ uG := uG_mem (tb_5 (List.mem_of_getElem? (i := 76) (by decide +kernel))) rfl
theorem kw_5_77 : (Cond.fieldLink RX3 136 "StaticLink$Outcome" "trapProcedure" "I") ∈ uG := uG_mem (tb_5 (List.mem_of_getElem? (i := 77) (by decide +kernel))) rfl
theorem kw_5_78 : (Cond.fieldLink RX6 21 "StaticLink$Outcome" "steps" "I") ∈ uG := uG_mem (tb_5 (List.mem_of_getElem? (i := 78) (by decide +kernel))) rfl
theorem kw_5_79 : (Cond.fieldLink RX3 117 "StaticLink$Outcome" "steps" "I") ∈ uG := uG_mem (tb_5 (List.mem_of_getElem? (i := 79) (by decide +kernel))) rfl
theorem kw_5_80 : (Cond.fieldLink RX6 24 "StaticLink$Outcome" "numbers" "I") ∈ uG := uG_mem (tb_5 (List.mem_of_getElem? (i := 80) (by decide +kernel))) rfl
theorem kw_5_81 : (Cond.fieldLink RX6 27 "StaticLink$Outcome" "calls" "I") ∈ uG := uG_mem (tb_5 (List.mem_of_getElem? (i := 81) (by decide +kernel))) rfl
theorem kw_5_82 : (Cond.fieldLink RX3 267 "StaticLink$Outcome" "calls" "I") ∈ uG := uG_mem (tb_5 (List.mem_of_getElem? (i := 82) (by decide +kernel))) rfl
theorem kw_5_83 : (Cond.fieldLink RX6 30 "StaticLink$Outcome" "cells" "I") ∈ uG := uG_mem (tb_5 (List.mem_of_getElem? (i := 83) (by decide +kernel))) rfl
theorem kw_5_84 : (Cond.fieldLink RX8 298 "StaticLink$Outcome" "cells" "I") ∈ uG := uG_mem (tb_5 (List.mem_of_getElem? (i := 84) (by decide +kernel))) rfl
theorem kw_5_85 : (Cond.fieldLink RX3 270 "StaticLink$Outcome" "cells" "I") ∈ uG := uG_mem (tb_5 (List.mem_of_getElem? (i := 85) (by decide +kernel))) rfl
theorem kw_5_86 : (Cond.fieldLink RX6 33 "StaticLink$Outcome" "mostLive" "I") ∈ uG := uG_mem (tb_5 (List.mem_of_getElem? (i := 86) (by decide +kernel))) rfl
theorem kw_5_87 : (Cond.fieldLink RX8 301 "StaticLink$Outcome" "mostLive" "I") ∈ uG := uG_mem (tb_5 (List.mem_of_getElem? (i := 87) (by decide +kernel))) rfl
theorem kw_5_88 : (Cond.fieldLink RX3 284 "StaticLink$Outcome" "mostLive" "I") ∈ uG := uG_mem (tb_5 (List.mem_of_getElem? (i := 88) (by decide +kernel))) rfl
theorem kw_5_89 : (Cond.fieldLink RX6 36 "StaticLink$Outcome" "mostDepth" "I") ∈ uG := uG_mem (tb_5 (List.mem_of_getElem? (i := 89) (by decide +kernel))) rfl
theorem kw_5_90 : (Cond.fieldLink RX3 292 "StaticLink$Outcome" "mostDepth" "I") ∈ uG := uG_mem (tb_5 (List.mem_of_getElem? (i := 90) (by decide +kernel))) rfl
theorem kw_5_91 : (Cond.fieldLink RX6 39 "StaticLink$Outcome" "gave" "I") ∈ uG := uG_mem (tb_5 (List.mem_of_getElem? (i := 91) (by decide +kernel))) rfl
theorem kw_5_92 : (Cond.fieldLink RX3 264 "StaticLink$Outcome" "gave" "I") ∈ uG := uG_mem (tb_5 (List.mem_of_getElem? (i := 92) (by decide +kernel))) rfl
theorem kw_5_93 : (Cond.fieldLink RX6 42 "StaticLink$Outcome" "sum" "J") ∈ uG := uG_mem (tb_5 (List.mem_of_getElem? (i := 93) (by decide +kernel))) rfl
theorem kw_5_94 : (Cond.fieldLink RX6 46 "StaticLink$Outcome" "number" "[I") ∈ uG := uG_mem (tb_5 (List.mem_of_getElem? (i := 94) (by decide +kernel))) rfl
theorem kw_5_95 : (Cond.fieldLink RX8 267 "StaticLink$Outcome" "number" "[I") ∈ uG := uG_mem (tb_5 (List.mem_of_getElem? (i := 95) (by decide +kernel))) rfl
theorem kw_5_96 : (Cond.fieldLink RX6 50 "StaticLink$Outcome" "stepsBy" "[I") ∈ uG := uG_mem (tb_5 (List.mem_of_getElem? (i := 96) (by decide +kernel))) rfl
theorem kw_5_97 : (Cond.fieldLink RX8 270 "StaticLink$Outcome" "stepsBy" "[I") ∈ uG := uG_mem (tb_5 (List.mem_of_getElem? (i := 97) (by decide +kernel))) rfl
theorem kw_5_98 : (Cond.fieldLink RX6 53 "StaticLink$Outcome" "printNode" "[I") ∈ uG := uG_mem (tb_5 (List.mem_of_getElem? (i := 98) (by decide +kernel))) rfl
theorem kw_5_99 : (Cond.fieldLink RX8 273 "StaticLink$Outcome" "printNode" "[I") ∈ uG := uG_mem (tb_5 (List.mem_of_getElem? (i := 99) (by decide +kernel))) rfl
theorem kw_5_100 : (Cond.lays RX6 "StaticLink$Outcome" "trap" "I") ∈ uG := uG_mem (tb_5 (List.mem_of_getElem? (i := 100) (by decide +kernel))) rfl
theorem kw_5_102 : (Cond.lays RX6 "StaticLink$Outcome" "trapNode" "I") ∈ uG := uG_mem (tb_5 (List.mem_of_getElem? (i := 102) (by decide +kernel))) rfl
theorem kw_5_104 : (Cond.lays RX6 "StaticLink$Outcome" "trapProcedure" "I") ∈ uG := uG_mem (tb_5 (List.mem_of_getElem? (i := 104) (by decide +kernel))) rfl
theorem kw_5_106 : (Cond.lays RX6 "StaticLink$Outcome" "steps" "I") ∈ uG := uG_mem (tb_5 (List.mem_of_getElem? (i := 106) (by decide +kernel))) rfl
theorem kw_5_108 : (Cond.lays RX6 "StaticLink$Outcome" "numbers" "I") ∈ uG := uG_mem (tb_5 (List.mem_of_getElem? (i := 108) (by decide +kernel))) rfl
theorem kw_5_110 : (Cond.lays RX6 "StaticLink$Outcome" "calls" "I") ∈ uG := uG_mem (tb_5 (List.mem_of_getElem? (i := 110) (by decide +kernel))) rfl
theorem kw_5_112 : (Cond.lays RX6 "StaticLink$Outcome" "cells" "I") ∈ uG := uG_mem (tb_5 (List.mem_of_getElem? (i := 112) (by decide +kernel))) rfl
theorem kw_5_114 : (Cond.lays RX6 "StaticLink$Outcome" "mostLive" "I") ∈ uG := uG_mem (tb_5 (List.mem_of_getElem? (i := 114) (by decide +kernel))) rfl
theorem kw_5_116 : (Cond.lays RX6 "StaticLink$Outcome" "mostDepth" "I") ∈ uG := uG_mem (tb_5 (List.mem_of_getElem? (i := 116) (by decide +kernel))) rfl
theorem kw_5_118 : (Cond.lays RX6 "StaticLink$Outcome" "gave" "I") ∈ uG := uG_mem (tb_5 (List.mem_of_getElem? (i := 118) (by decide +kernel))) rfl
theorem kw_5_120 : (Cond.lays RX6 "StaticLink$Outcome" "sum" "J") ∈ uG := uG_mem (tb_5 (List.mem_of_getElem? (i := 120) (by decide +kernel))) rfl
theorem kw_5_122 : (Cond.laysFinal RX6 "StaticLink$Outcome" "number" "[I") ∈ uG := uG_mem (tb_5 (List.mem_of_getElem? (i := 122) (by decide +kernel))) rfl
theorem kw_5_124 : (Cond.laysFinal RX6 "StaticLink$Outcome" "stepsBy" "[I") ∈ uG := uG_mem (tb_5 (List.mem_of_getElem? (i := 124) (by decide +kernel))) rfl
theorem kw_5_126 : (Cond.laysFinal RX6 "StaticLink$Outcome" "printNode" "[I") ∈ uG := uG_mem (tb_5 (List.mem_of_getElem? (i := 126) (by decide +kernel))) rfl
theorem kw_5_129 : (Cond.fieldLink RX3 62 "StaticLink$Machine" "declarations" "LStaticLink$Declarations;") ∈ uG := uG_mem (tb_5 (List.mem_of_getElem? (i := 129) (by decide +kernel))) rfl
theorem kw_5_130 : (Cond.fieldLink RX3 66 "StaticLink$Machine" "nodes" "LStaticLink$Nodes;") ∈ uG := uG_mem (tb_5 (List.mem_of_getElem? (i := 130) (by decide +kernel))) rfl
theorem kw_5_131 : (Cond.fieldLink RX3 70 "StaticLink$Machine" "meaning" "LStaticLink$Meaning;") ∈ uG := uG_mem (tb_5 (List.mem_of_getElem? (i := 131) (by decide +kernel))) rfl
theorem kw_5_132 : (Cond.fieldLink RX3 74 "StaticLink$Machine" "plain" "LStaticLink$Code;") ∈ uG := uG_mem (tb_5 (List.mem_of_getElem? (i := 132) (by decide +kernel))) rfl
theorem kw_5_133 : (Cond.fieldLink RX3 14 "StaticLink$Machine" "memory" "LStaticLink$Table;") ∈ uG := uG_mem (tb_5 (List.mem_of_getElem? (i := 133) (by decide +kernel))) rfl
theorem kw_5_134 : (Cond.fieldLink RX3 20 "StaticLink$Machine" "operands" "LStaticLink$Table;") ∈ uG := uG_mem (tb_5 (List.mem_of_getElem? (i := 134) (by decide +kernel))) rfl
theorem kw_5_135 : (Cond.fieldLink RX3 23 "StaticLink$Machine" "frames" "LStaticLink$Table;") ∈ uG := uG_mem (tb_5 (List.mem_of_getElem? (i := 135) (by decide +kernel))) rfl
theorem kw_5_136 : (Cond.fieldLink RX3 26 "StaticLink$Machine" "returns" "LStaticLink$Table;") ∈ uG := uG_mem (tb_5 (List.mem_of_getElem? (i := 136) (by decide +kernel))) rfl
theorem kw_5_137 : (Cond.fieldLink RX3 29 "StaticLink$Machine" "loops" "LStaticLink$Table;") ∈ uG := uG_mem (tb_5 (List.mem_of_getElem? (i := 137) (by decide +kernel))) rfl
theorem kw_5_138 : (Cond.fieldLink RX3 35 "StaticLink$Machine" "told" "LStaticLink$Outcome;") ∈ uG := uG_mem (tb_5 (List.mem_of_getElem? (i := 138) (by decide +kernel))) rfl
theorem kw_5_139 : (Cond.fieldLink RX3 39 "StaticLink$Machine" "passes" "I") ∈ uG := uG_mem (tb_5 (List.mem_of_getElem? (i := 139) (by decide +kernel))) rfl
theorem kw_5_140 : (Cond.fieldLink RX3 43 "StaticLink$Machine" "deep" "I") ∈ uG := uG_mem (tb_5 (List.mem_of_getElem? (i := 140) (by decide +kernel))) rfl
theorem kw_5_141 : (Cond.fieldLink RX3 46 "StaticLink$Machine" "pc" "I") ∈ uG := uG_mem (tb_5 (List.mem_of_getElem? (i := 141) (by decide +kernel))) rfl
theorem kw_5_142 : (Cond.fieldLink RX3 49 "StaticLink$Machine" "frame" "I") ∈ uG := uG_mem (tb_5 (List.mem_of_getElem? (i := 142) (by decide +kernel))) rfl
theorem kw_5_143 : (Cond.fieldLink RX3 52 "StaticLink$Machine" "live" "I") ∈ uG := uG_mem (tb_5 (List.mem_of_getElem? (i := 143) (by decide +kernel))) rfl
theorem kw_5_144 : (Cond.fieldLink RX3 55 "StaticLink$Machine" "depth" "I") ∈ uG := uG_mem (tb_5 (List.mem_of_getElem? (i := 144) (by decide +kernel))) rfl
theorem kw_5_145 : (Cond.fieldLink RX3 58 "StaticLink$Machine" "isOver" "Z") ∈ uG := uG_mem (tb_5 (List.mem_of_getElem? (i := 145) (by decide +kernel))) rfl
theorem kw_5_146 : (Cond.laysFinal RX3 "StaticLink$Machine" "declarations" "LStaticLink$Declarations;") ∈ uG := uG_mem (tb_5 (List.mem_of_getElem? (i := 146) (by decide +kernel))) rfl
theorem kw_5_148 : (Cond.laysFinal RX3 "StaticLink$Machine" "nodes" "LStaticLink$Nodes;") ∈ uG := uG_mem (tb_5 (List.mem_of_getElem? (i := 148) (by decide +kernel))) rfl
theorem kw_5_150 : (Cond.laysFinal RX3 "StaticLink$Machine" "meaning" "LStaticLink$Meaning;") ∈ uG := uG_mem (tb_5 (List.mem_of_getElem? (i := 150) (by decide +kernel))) rfl
theorem kw_5_152 : (Cond.laysFinal RX3 "StaticLink$Machine" "plain" "LStaticLink$Code;") ∈ uG := uG_mem (tb_5 (List.mem_of_getElem? (i := 152) (by decide +kernel))) rfl
theorem kw_5_154 : (Cond.laysFinal RX3 "StaticLink$Machine" "memory" "LStaticLink$Table;") ∈ uG := uG_mem (tb_5 (List.mem_of_getElem? (i := 154) (by decide +kernel))) rfl
theorem kw_5_156 : (Cond.laysFinal RX3 "StaticLink$Machine" "operands" "LStaticLink$Table;") ∈ uG := uG_mem (tb_5 (List.mem_of_getElem? (i := 156) (by decide +kernel))) rfl
theorem kw_5_158 : (Cond.laysFinal RX3 "StaticLink$Machine" "frames" "LStaticLink$Table;") ∈ uG := uG_mem (tb_5 (List.mem_of_getElem? (i := 158) (by decide +kernel))) rfl
theorem kw_5_160 : (Cond.laysFinal RX3 "StaticLink$Machine" "returns" "LStaticLink$Table;") ∈ uG := uG_mem (tb_5 (List.mem_of_getElem? (i := 160) (by decide +kernel))) rfl
theorem kw_5_162 : (Cond.laysFinal RX3 "StaticLink$Machine" "loops" "LStaticLink$Table;") ∈ uG := uG_mem (tb_5 (List.mem_of_getElem? (i := 162) (by decide +kernel))) rfl
theorem kw_5_164 : (Cond.lays RX3 "StaticLink$Machine" "told" "LStaticLink$Outcome;") ∈ uG := uG_mem (tb_5 (List.mem_of_getElem? (i := 164) (by decide +kernel))) rfl
theorem kw_5_166 : (Cond.lays RX3 "StaticLink$Machine" "passes" "I") ∈ uG := uG_mem (tb_5 (List.mem_of_getElem? (i := 166) (by decide +kernel))) rfl
theorem kw_5_168 : (Cond.lays RX3 "StaticLink$Machine" "deep" "I") ∈ uG := uG_mem (tb_5 (List.mem_of_getElem? (i := 168) (by decide +kernel))) rfl
theorem kw_5_170 : (Cond.lays RX3 "StaticLink$Machine" "pc" "I") ∈ uG := uG_mem (tb_5 (List.mem_of_getElem? (i := 170) (by decide +kernel))) rfl
theorem kw_5_172 : (Cond.lays RX3 "StaticLink$Machine" "frame" "I") ∈ uG := uG_mem (tb_5 (List.mem_of_getElem? (i := 172) (by decide +kernel))) rfl
theorem kw_5_174 : (Cond.lays RX3 "StaticLink$Machine" "live" "I") ∈ uG := uG_mem (tb_5 (List.mem_of_getElem? (i := 174) (by decide +kernel))) rfl
theorem kw_5_176 : (Cond.lays RX3 "StaticLink$Machine" "depth" "I") ∈ uG := uG_mem (tb_5 (List.mem_of_getElem? (i := 176) (by decide +kernel))) rfl
theorem kw_5_178 : (Cond.lays RX3 "StaticLink$Machine" "isOver" "Z") ∈ uG := uG_mem (tb_5 (List.mem_of_getElem? (i := 178) (by decide +kernel))) rfl
theorem kw_5_181 : (Cond.classLink RX8 60 RX6) ∈ uG := uG_mem (tb_5 (List.mem_of_getElem? (i := 181) (by decide +kernel))) rfl
theorem kw_5_183 : (Cond.fieldLink RX8 12 "StaticLink" "declarations" "LStaticLink$Declarations;") ∈ uG := uG_mem (tb_5 (List.mem_of_getElem? (i := 183) (by decide +kernel))) rfl
theorem kw_5_184 : (Cond.fieldLink RX8 19 "StaticLink" "nodes" "LStaticLink$Nodes;") ∈ uG := uG_mem (tb_5 (List.mem_of_getElem? (i := 184) (by decide +kernel))) rfl
theorem kw_5_185 : (Cond.fieldLink RX8 28 "StaticLink" "meaning" "LStaticLink$Meaning;") ∈ uG := uG_mem (tb_5 (List.mem_of_getElem? (i := 185) (by decide +kernel))) rfl
theorem kw_5_186 : (Cond.fieldLink RX8 37 "StaticLink" "faults" "LStaticLink$Faults;") ∈ uG := uG_mem (tb_5 (List.mem_of_getElem? (i := 186) (by decide +kernel))) rfl
theorem kw_5_187 : (Cond.fieldLink RX8 44 "StaticLink" "written" "LStaticLink$Code;") ∈ uG := uG_mem (tb_5 (List.mem_of_getElem? (i := 187) (by decide +kernel))) rfl
theorem kw_5_188 : (Cond.fieldLink RX8 48 "StaticLink" "plain" "LStaticLink$Code;") ∈ uG := uG_mem (tb_5 (List.mem_of_getElem? (i := 188) (by decide +kernel))) rfl
theorem kw_5_189 : (Cond.fieldLink RX8 56 "StaticLink" "machine" "LStaticLink$Machine;") ∈ uG := uG_mem (tb_5 (List.mem_of_getElem? (i := 189) (by decide +kernel))) rfl
theorem kw_5_190 : (Cond.fieldLink RX8 63 "StaticLink" "latest" "LStaticLink$Outcome;") ∈ uG := uG_mem (tb_5 (List.mem_of_getElem? (i := 190) (by decide +kernel))) rfl
theorem kw_5_191 : (Cond.fieldLink RX8 67 "StaticLink" "trial" "LStaticLink$Outcome;") ∈ uG := uG_mem (tb_5 (List.mem_of_getElem? (i := 191) (by decide +kernel))) rfl
theorem kw_5_192 : (Cond.fieldLink RX8 70 "StaticLink" "stale" "Z") ∈ uG := uG_mem (tb_5 (List.mem_of_getElem? (i := 192) (by decide +kernel))) rfl
theorem kw_5_193 : (Cond.fieldLink RX8 74 "StaticLink" "passes" "I") ∈ uG := uG_mem (tb_5 (List.mem_of_getElem? (i := 193) (by decide +kernel))) rfl
theorem kw_5_194 : (Cond.fieldLink RX8 78 "StaticLink" "most" "I") ∈ uG := uG_mem (tb_5 (List.mem_of_getElem? (i := 194) (by decide +kernel))) rfl
theorem kw_5_195 : (Cond.fieldLink RX8 81 "StaticLink" "deep" "I") ∈ uG := uG_mem (tb_5 (List.mem_of_getElem? (i := 195) (by decide +kernel))) rfl
theorem kw_5_196 : (Cond.fieldLink RX8 84 "StaticLink" "runs" "I") ∈ uG := uG_mem (tb_5 (List.mem_of_getElem? (i := 196) (by decide +kernel))) rfl
theorem kw_5_197 : (Cond.laysFinal RX8 "StaticLink" "declarations" "LStaticLink$Declarations;") ∈ uG := uG_mem (tb_5 (List.mem_of_getElem? (i := 197) (by decide +kernel))) rfl
theorem kw_5_199 : (Cond.laysFinal RX8 "StaticLink" "nodes" "LStaticLink$Nodes;") ∈ uG := uG_mem (tb_5 (List.mem_of_getElem? (i := 199) (by decide +kernel))) rfl
theorem kw_5_201 : (Cond.laysFinal RX8 "StaticLink" "meaning" "LStaticLink$Meaning;") ∈ uG := uG_mem (tb_5 (List.mem_of_getElem? (i := 201) (by decide +kernel))) rfl
theorem kw_5_203 : (Cond.laysFinal RX8 "StaticLink" "faults" "LStaticLink$Faults;") ∈ uG := uG_mem (tb_5 (List.mem_of_getElem? (i := 203) (by decide +kernel))) rfl
theorem kw_5_205 : (Cond.laysFinal RX8 "StaticLink" "written" "LStaticLink$Code;") ∈ uG := uG_mem (tb_5 (List.mem_of_getElem? (i := 205) (by decide +kernel))) rfl
theorem kw_5_207 : (Cond.laysFinal RX8 "StaticLink" "plain" "LStaticLink$Code;") ∈ uG := uG_mem (tb_5 (List.mem_of_getElem? (i := 207) (by decide +kernel))) rfl
theorem kw_5_209 : (Cond.laysFinal RX8 "StaticLink" "machine" "LStaticLink$Machine;") ∈ uG := uG_mem (tb_5 (List.mem_of_getElem? (i := 209) (by decide +kernel))) rfl
theorem kw_5_211 : (Cond.laysFinal RX8 "StaticLink" "latest" "LStaticLink$Outcome;") ∈ uG := uG_mem (tb_5 (List.mem_of_getElem? (i := 211) (by decide +kernel))) rfl
theorem kw_5_213 : (Cond.laysFinal RX8 "StaticLink" "trial" "LStaticLink$Outcome;") ∈ uG := uG_mem (tb_5 (List.mem_of_getElem? (i := 213) (by decide +kernel))) rfl
theorem kw_5_215 : (Cond.lays RX8 "StaticLink" "stale" "Z") ∈ uG := uG_mem (tb_5 (List.mem_of_getElem? (i := 215) (by decide +kernel))) rfl
theorem kw_5_217 : (Cond.lays RX8 "StaticLink" "passes" "I") ∈ uG := uG_mem (tb_5 (List.mem_of_getElem? (i := 217) (by decide +kernel))) rfl
theorem kw_5_219 : (Cond.lays RX8 "StaticLink" "most" "I") ∈ uG := uG_mem (tb_5 (List.mem_of_getElem? (i := 219) (by decide +kernel))) rfl
theorem kw_5_221 : (Cond.lays RX8 "StaticLink" "deep" "I") ∈ uG := uG_mem (tb_5 (List.mem_of_getElem? (i := 221) (by decide +kernel))) rfl
theorem kw_5_223 : (Cond.lays RX8 "StaticLink" "runs" "I") ∈ uG := uG_mem (tb_5 (List.mem_of_getElem? (i := 223) (by decide +kernel))) rfl
theorem kw_5_226 : (Cond.classLink RX9 16 "[I") ∈ uG := uG_mem (tb_5 (List.mem_of_getElem? (i := 226) (by decide +kernel))) rfl
theorem kw_5_228 : (Cond.fieldLink RX9 10 "StaticLinkLaw$Mill" "m" "LStaticLink;") ∈ uG := uG_mem (tb_5 (List.mem_of_getElem? (i := 228) (by decide +kernel))) rfl
theorem kw_5_229 : (Cond.fieldLink RL 14 "StaticLinkLaw$Mill" "m" "LStaticLink;") ∈ uG := uG_mem (tb_5 (List.mem_of_getElem? (i := 229) (by decide +kernel))) rfl
theorem kw_5_230 : (Cond.fieldLink RX9 34 "StaticLinkLaw$Mill" "s" "[I") ∈ uG := uG_mem (tb_5 (List.mem_of_getElem? (i := 230) (by decide +kernel))) rfl
theorem kw_5_231 : (Cond.fieldLink RX9 37 "StaticLinkLaw$Mill" "draws" "I") ∈ uG := uG_mem (tb_5 (List.mem_of_getElem? (i := 231) (by decide +kernel))) rfl
theorem kw_5_232 : (Cond.fieldLink RL 31 "StaticLinkLaw$Mill" "n" "I") ∈ uG := uG_mem (tb_5 (List.mem_of_getElem? (i := 232) (by decide +kernel))) rfl
theorem kw_5_233 : (Cond.fieldLink RX9 68 "StaticLinkLaw$Mill" "n" "I") ∈ uG := uG_mem (tb_5 (List.mem_of_getElem? (i := 233) (by decide +kernel))) rfl
theorem kw_5_234 : (Cond.fieldLink RX9 18 "StaticLinkLaw$Mill" "nodes" "[[I") ∈ uG := uG_mem (tb_5 (List.mem_of_getElem? (i := 234) (by decide +kernel))) rfl
theorem kw_5_235 : (Cond.fieldLink RX9 22 "StaticLinkLaw$Mill" "numbers" "[I") ∈ uG := uG_mem (tb_5 (List.mem_of_getElem? (i := 235) (by decide +kernel))) rfl
theorem kw_5_236 : (Cond.fieldLink RX9 25 "StaticLinkLaw$Mill" "row" "[I") ∈ uG := uG_mem (tb_5 (List.mem_of_getElem? (i := 236) (by decide +kernel))) rfl
theorem kw_5_237 : (Cond.fieldLink RX9 61 "StaticLinkLaw$Mill" "constant" "I") ∈ uG := uG_mem (tb_5 (List.mem_of_getElem? (i := 237) (by decide +kernel))) rfl
theorem kw_5_238 : (Cond.fieldLink RX9 28 "StaticLinkLaw$Mill" "printed" "[I") ∈ uG := uG_mem (tb_5 (List.mem_of_getElem? (i := 238) (by decide +kernel))) rfl
theorem kw_5_239 : (Cond.fieldLink RX9 31 "StaticLinkLaw$Mill" "printedAt" "[I") ∈ uG := uG_mem (tb_5 (List.mem_of_getElem? (i := 239) (by decide +kernel))) rfl
theorem kw_6_0 : (Cond.laysFinal RX9 "StaticLinkLaw$Mill" "m" "LStaticLink;") ∈ uG := uG_mem (tb_6 (List.mem_of_getElem? (i := 0) (by decide +kernel))) rfl
theorem kw_6_2 : (Cond.laysFinal RX9 "StaticLinkLaw$Mill" "s" "[I") ∈ uG := uG_mem (tb_6 (List.mem_of_getElem? (i := 2) (by decide +kernel))) rfl
theorem kw_6_4 : (Cond.lays RX9 "StaticLinkLaw$Mill" "draws" "I") ∈ uG := uG_mem (tb_6 (List.mem_of_getElem? (i := 4) (by decide +kernel))) rfl
theorem kw_6_6 : (Cond.lays RX9 "StaticLinkLaw$Mill" "n" "I") ∈ uG := uG_mem (tb_6 (List.mem_of_getElem? (i := 6) (by decide +kernel))) rfl
theorem kw_6_8 : (Cond.laysFinal RX9 "StaticLinkLaw$Mill" "nodes" "[[I") ∈ uG := uG_mem (tb_6 (List.mem_of_getElem? (i := 8) (by decide +kernel))) rfl
theorem kw_6_10 : (Cond.lays RX9 "StaticLinkLaw$Mill" "numbers" "[I") ∈ uG := uG_mem (tb_6 (List.mem_of_getElem? (i := 10) (by decide +kernel))) rfl
theorem kw_6_12 : (Cond.lays RX9 "StaticLinkLaw$Mill" "row" "[I") ∈ uG := uG_mem (tb_6 (List.mem_of_getElem? (i := 12) (by decide +kernel))) rfl
theorem kw_6_14 : (Cond.lays RX9 "StaticLinkLaw$Mill" "constant" "I") ∈ uG := uG_mem (tb_6 (List.mem_of_getElem? (i := 14) (by decide +kernel))) rfl
theorem kw_6_16 : (Cond.lays RX9 "StaticLinkLaw$Mill" "steps" "I") ∈ uG := uG_mem (tb_6 (List.mem_of_getElem? (i := 16) (by decide +kernel))) rfl
theorem kw_6_18 : (Cond.lays RX9 "StaticLinkLaw$Mill" "most" "I") ∈ uG := uG_mem (tb_6 (List.mem_of_getElem? (i := 18) (by decide +kernel))) rfl
theorem kw_6_20 : (Cond.lays RX9 "StaticLinkLaw$Mill" "trap" "I") ∈ uG := uG_mem (tb_6 (List.mem_of_getElem? (i := 20) (by decide +kernel))) rfl
theorem kw_6_22 : (Cond.lays RX9 "StaticLinkLaw$Mill" "where" "I") ∈ uG := uG_mem (tb_6 (List.mem_of_getElem? (i := 22) (by decide +kernel))) rfl
theorem kw_6_24 : (Cond.lays RX9 "StaticLinkLaw$Mill" "printed" "[I") ∈ uG := uG_mem (tb_6 (List.mem_of_getElem? (i := 24) (by decide +kernel))) rfl
theorem kw_6_26 : (Cond.lays RX9 "StaticLinkLaw$Mill" "printedAt" "[I") ∈ uG := uG_mem (tb_6 (List.mem_of_getElem? (i := 26) (by decide +kernel))) rfl
theorem kw_6_29 : (Cond.methodLink RL 58 yX9_draw) ∈ uG := uG_mem (tb_6 (List.mem_of_getElem? (i := 29) (by decide +kernel))) rfl
theorem kw_6_30 : (Cond.instanceMethod yX9_draw) ∈ uG := uG_mem (tb_6 (List.mem_of_getElem? (i := 30) (by decide +kernel))) rfl
theorem kw_6_31 : (Cond.selects RX9 yX9_draw yX9_draw) ∈ uG := uG_mem (tb_6 (List.mem_of_getElem? (i := 31) (by decide +kernel))) rfl
theorem kw_6_32 : (Cond.code yX9_draw cX9_draw 3 (some .int)) ∈ uG := uG_mem (tb_6 (List.mem_of_getElem? (i := 32) (by decide +kernel))) rfl
theorem kw_6_34 : (Cond.static yL_cell) ∈ uG := uG_mem (tb_6 (List.mem_of_getElem? (i := 34) (by decide +kernel))) rfl
theorem kw_6_35 : (Cond.code yL_cell cL_cell 2 (some .int)) ∈ uG := uG_mem (tb_6 (List.mem_of_getElem? (i := 35) (by decide +kernel))) rfl
theorem kw_6_36 : (Cond.constant RL 8 (790386105 : Int32)) ∈ uG := uG_mem (tb_6 (List.mem_of_getElem? (i := 36) (by decide +kernel))) rfl
theorem kw_6_38 : (Cond.static yL_below) ∈ uG := uG_mem (tb_6 (List.mem_of_getElem? (i := 38) (by decide +kernel))) rfl
theorem kw_6_39 : (Cond.code yL_below cL_below 2 (some .int)) ∈ uG := uG_mem (tb_6 (List.mem_of_getElem? (i := 39) (by decide +kernel))) rfl
theorem kw_6_40 : (Cond.constant RL 7 (2147483647 : Int32)) ∈ uG := uG_mem (tb_6 (List.mem_of_getElem? (i := 40) (by decide +kernel))) rfl
theorem kw_6_41 : (Cond.methodLink RL 18 yX9_declare) ∈ uG := uG_mem (tb_6 (List.mem_of_getElem? (i := 41) (by decide +kernel))) rfl
theorem kw_6_42 : (Cond.instanceMethod yX9_declare) ∈ uG := uG_mem (tb_6 (List.mem_of_getElem? (i := 42) (by decide +kernel))) rfl
theorem kw_6_43 : (Cond.selects RX9 yX9_declare yX9_declare) ∈ uG := uG_mem (tb_6 (List.mem_of_getElem? (i := 43) (by decide +kernel))) rfl
theorem kw_6_44 : (Cond.code yX9_declare cX9_declare 1 (some .boolean)) ∈ uG := uG_mem (tb_6 (List.mem_of_getElem? (i := 44) (by decide +kernel))) rfl
theorem kw_6_45 : (Cond.methodLink RX9 57 yX9_draw) ∈ uG := uG_mem (tb_6 (List.mem_of_getElem? (i := 45) (by decide +kernel))) rfl
theorem kw_6_46 : (Cond.methodLink RX9 64 yX8_variable) ∈ uG := uG_mem (tb_6 (List.mem_of_getElem? (i := 46) (by decide +kernel))) rfl
theorem kw_6_47 : (Cond.instanceMethod yX8_variable) ∈ uG := uG_mem (tb_6 (List.mem_of_getElem? (i := 47) (by decide +kernel))) rfl
theorem kw_6_48 : (Cond.selects RX8 yX8_variable yX8_variable) ∈ uG := uG_mem (tb_6 (List.mem_of_getElem? (i := 48) (by decide +kernel))) rfl
theorem kw_6_49 : (Cond.code yX8_variable cX8_variable 5 (some .int)) ∈ uG := uG_mem (tb_6 (List.mem_of_getElem? (i := 49) (by decide +kernel))) rfl
theorem kw_6_50 : (Cond.methodLink RX8 120 yX8_isSizeOf) ∈ uG := uG_mem (tb_6 (List.mem_of_getElem? (i := 50) (by decide +kernel))) rfl
theorem kw_6_51 : (Cond.static yX8_isSizeOf) ∈ uG := uG_mem (tb_6 (List.mem_of_getElem? (i := 51) (by decide +kernel))) rfl
theorem kw_6_52 : (Cond.code yX8_isSizeOf cX8_isSizeOf 2 (some .boolean)) ∈ uG := uG_mem (tb_6 (List.mem_of_getElem? (i := 52) (by decide +kernel))) rfl
theorem kw_6_53 : (Cond.methodLink RX8 123 yX1_takesVariable) ∈ uG := uG_mem (tb_6 (List.mem_of_getElem? (i := 53) (by decide +kernel))) rfl
theorem kw_6_54 : (Cond.instanceMethod yX1_takesVariable) ∈ uG := uG_mem (tb_6 (List.mem_of_getElem? (i := 54) (by decide +kernel))) rfl
theorem kw_6_55 : (Cond.selects RX1 yX1_takesVariable yX1_takesVariable) ∈ uG := uG_mem (tb_6 (List.mem_of_getElem? (i := 55) (by decide +kernel))) rfl
theorem kw_6_56 : (Cond.code yX1_takesVariable cX1_takesVariable 3 (some .boolean)) ∈ uG := uG_mem (tb_6 (List.mem_of_getElem? (i := 56) (by decide +kernel))) rfl
theorem kw_6_57 : (Cond.methodLink RX8 126 yX1_addVariable) ∈ uG := uG_mem (tb_6 (List.mem_of_getElem? (i := 57) (by decide +kernel))) rfl
theorem kw_6_58 : (Cond.instanceMethod yX1_addVariable) ∈ uG := uG_mem (tb_6 (List.mem_of_getElem? (i := 58) (by decide +kernel))) rfl
theorem kw_6_59 : (Cond.selects RX1 yX1_addVariable yX1_addVariable) ∈ uG := uG_mem (tb_6 (List.mem_of_getElem? (i := 59) (by decide +kernel))) rfl
theorem kw_6_60 : (Cond.code yX1_addVariable cX1_addVariable 5 (some .int)) ∈ uG := uG_mem (tb_6 (List.mem_of_getElem? (i := 60) (by decide +kernel))) rfl
theorem kw_6_61 : (Cond.methodLink RX1 59 yX1_declare) ∈ uG := uG_mem (tb_6 (List.mem_of_getElem? (i := 61) (by decide +kernel))) rfl
theorem kw_6_63 : (Cond.instanceMethod yX1_declare) ∈ uG := uG_mem (tb_6 (List.mem_of_getElem? (i := 63) (by decide +kernel))) rfl
theorem kw_6_64 : (Cond.code yX1_declare cX1_declare 6 none) ∈ uG := uG_mem (tb_6 (List.mem_of_getElem? (i := 64) (by decide +kernel))) rfl
theorem kw_6_65 : (Cond.methodLink RX1 63 yX1_declarePlace) ∈ uG := uG_mem (tb_6 (List.mem_of_getElem? (i := 65) (by decide +kernel))) rfl
theorem kw_6_67 : (Cond.instanceMethod yX1_declarePlace) ∈ uG := uG_mem (tb_6 (List.mem_of_getElem? (i := 67) (by decide +kernel))) rfl
theorem kw_6_68 : (Cond.code yX1_declarePlace cX1_declarePlace 6 (some .int)) ∈ uG := uG_mem (tb_6 (List.mem_of_getElem? (i := 68) (by decide +kernel))) rfl
theorem kw_6_69 : (Cond.methodLink RL 77 yX9_add) ∈ uG := uG_mem (tb_6 (List.mem_of_getElem? (i := 69) (by decide +kernel))) rfl
theorem kw_6_70 : (Cond.instanceMethod yX9_add) ∈ uG := uG_mem (tb_6 (List.mem_of_getElem? (i := 70) (by decide +kernel))) rfl
theorem kw_6_71 : (Cond.selects RX9 yX9_add yX9_add) ∈ uG := uG_mem (tb_6 (List.mem_of_getElem? (i := 71) (by decide +kernel))) rfl
theorem kw_6_72 : (Cond.code yX9_add cX9_add 6 (some .int)) ∈ uG := uG_mem (tb_6 (List.mem_of_getElem? (i := 72) (by decide +kernel))) rfl
theorem kw_6_73 : (Cond.methodLink RX9 71 yX8_node) ∈ uG := uG_mem (tb_6 (List.mem_of_getElem? (i := 73) (by decide +kernel))) rfl
theorem kw_6_74 : (Cond.instanceMethod yX8_node) ∈ uG := uG_mem (tb_6 (List.mem_of_getElem? (i := 74) (by decide +kernel))) rfl
theorem kw_6_75 : (Cond.selects RX8 yX8_node yX8_node) ∈ uG := uG_mem (tb_6 (List.mem_of_getElem? (i := 75) (by decide +kernel))) rfl
theorem kw_6_76 : (Cond.code yX8_node cX8_node 5 (some .int)) ∈ uG := uG_mem (tb_6 (List.mem_of_getElem? (i := 76) (by decide +kernel))) rfl
theorem kw_6_77 : (Cond.methodLink RX8 175 yX5_suits) ∈ uG := uG_mem (tb_6 (List.mem_of_getElem? (i := 77) (by decide +kernel))) rfl
theorem kw_6_78 : (Cond.instanceMethod yX5_suits) ∈ uG := uG_mem (tb_6 (List.mem_of_getElem? (i := 78) (by decide +kernel))) rfl
theorem kw_6_79 : (Cond.selects RX5 yX5_suits yX5_suits) ∈ uG := uG_mem (tb_6 (List.mem_of_getElem? (i := 79) (by decide +kernel))) rfl
theorem kw_6_80 : (Cond.code yX5_suits cX5_suits 5 (some .boolean)) ∈ uG := uG_mem (tb_6 (List.mem_of_getElem? (i := 80) (by decide +kernel))) rfl
theorem kw_6_81 : (Cond.methodLink RX5 43 yX5_fills) ∈ uG := uG_mem (tb_6 (List.mem_of_getElem? (i := 81) (by decide +kernel))) rfl
theorem kw_6_83 : (Cond.instanceMethod yX5_fills) ∈ uG := uG_mem (tb_6 (List.mem_of_getElem? (i := 83) (by decide +kernel))) rfl
theorem kw_6_84 : (Cond.code yX5_fills cX5_fills 3 (some .boolean)) ∈ uG := uG_mem (tb_6 (List.mem_of_getElem? (i := 84) (by decide +kernel))) rfl
theorem kw_6_86 : (Cond.methodLink RX5 55 yX5_isPartFor) ∈ uG := uG_mem (tb_6 (List.mem_of_getElem? (i := 86) (by decide +kernel))) rfl
theorem kw_6_88 : (Cond.instanceMethod yX5_isPartFor) ∈ uG := uG_mem (tb_6 (List.mem_of_getElem? (i := 88) (by decide +kernel))) rfl
theorem kw_6_89 : (Cond.code yX5_isPartFor cX5_isPartFor 3 (some .boolean)) ∈ uG := uG_mem (tb_6 (List.mem_of_getElem? (i := 89) (by decide +kernel))) rfl
theorem kw_6_90 : (Cond.methodLink RX5 58 yX5_has) ∈ uG := uG_mem (tb_6 (List.mem_of_getElem? (i := 90) (by decide +kernel))) rfl
theorem kw_6_91 : (Cond.methodLink RX5 61 yX5_isFree) ∈ uG := uG_mem (tb_6 (List.mem_of_getElem? (i := 91) (by decide +kernel))) rfl
theorem kw_6_92 : (Cond.methodLink RX5 64 yX5_isExpression) ∈ uG := uG_mem (tb_6 (List.mem_of_getElem? (i := 92) (by decide +kernel))) rfl
theorem kw_6_93 : (Cond.methodLink RX5 67 yX5_isStatement) ∈ uG := uG_mem (tb_6 (List.mem_of_getElem? (i := 93) (by decide +kernel))) rfl
theorem kw_6_94 : (Cond.methodLink RX5 47 yX5_isSamePart) ∈ uG := uG_mem (tb_6 (List.mem_of_getElem? (i := 94) (by decide +kernel))) rfl
theorem kw_6_95 : (Cond.static yX5_isSamePart) ∈ uG := uG_mem (tb_6 (List.mem_of_getElem? (i := 95) (by decide +kernel))) rfl
theorem kw_6_96 : (Cond.code yX5_isSamePart cX5_isSamePart 4 (some .boolean)) ∈ uG := uG_mem (tb_6 (List.mem_of_getElem? (i := 96) (by decide +kernel))) rfl
theorem kw_6_97 : (Cond.methodLink RX8 180 yX5_add) ∈ uG := uG_mem (tb_6 (List.mem_of_getElem? (i := 97) (by decide +kernel))) rfl
theorem kw_6_98 : (Cond.instanceMethod yX5_add) ∈ uG := uG_mem (tb_6 (List.mem_of_getElem? (i := 98) (by decide +kernel))) rfl
theorem kw_6_99 : (Cond.selects RX5 yX5_add yX5_add) ∈ uG := uG_mem (tb_6 (List.mem_of_getElem? (i := 99) (by decide +kernel))) rfl
theorem kw_6_100 : (Cond.code yX5_add cX5_add 6 (some .int)) ∈ uG := uG_mem (tb_6 (List.mem_of_getElem? (i := 100) (by decide +kernel))) rfl
theorem kw_6_101 : (Cond.methodLink RX5 70 yX5_partA) ∈ uG := uG_mem (tb_6 (List.mem_of_getElem? (i := 101) (by decide +kernel))) rfl
theorem kw_6_102 : (Cond.methodLink RX5 74 yX5_claim) ∈ uG := uG_mem (tb_6 (List.mem_of_getElem? (i := 102) (by decide +kernel))) rfl
theorem kw_6_104 : (Cond.instanceMethod yX5_claim) ∈ uG := uG_mem (tb_6 (List.mem_of_getElem? (i := 104) (by decide +kernel))) rfl
theorem kw_6_105 : (Cond.code yX5_claim cX5_claim 3 none) ∈ uG := uG_mem (tb_6 (List.mem_of_getElem? (i := 105) (by decide +kernel))) rfl
theorem kw_6_106 : (Cond.methodLink RX5 78 yX5_partB) ∈ uG := uG_mem (tb_6 (List.mem_of_getElem? (i := 106) (by decide +kernel))) rfl
theorem kw_6_107 : (Cond.methodLink RX5 81 yX5_partC) ∈ uG := uG_mem (tb_6 (List.mem_of_getElem? (i := 107) (by decide +kernel))) rfl
theorem kw_6_108 : (Cond.methodLink RL 22 yX9_statement) ∈ uG := uG_mem (tb_6 (List.mem_of_getElem? (i := 108) (by decide +kernel))) rfl
theorem kw_6_109 : (Cond.instanceMethod yX9_statement) ∈ uG := uG_mem (tb_6 (List.mem_of_getElem? (i := 109) (by decide +kernel))) rfl
theorem kw_6_110 : (Cond.selects RX9 yX9_statement yX9_statement) ∈ uG := uG_mem (tb_6 (List.mem_of_getElem? (i := 110) (by decide +kernel))) rfl
theorem kw_6_111 : (Cond.code yX9_statement cX9_statement 6 (some .int)) ∈ uG := uG_mem (tb_6 (List.mem_of_getElem? (i := 111) (by decide +kernel))) rfl
theorem kw_6_112 : (Cond.methodLink RX9 77 yX9_expression) ∈ uG := uG_mem (tb_6 (List.mem_of_getElem? (i := 112) (by decide +kernel))) rfl
theorem kw_6_113 : (Cond.instanceMethod yX9_expression) ∈ uG := uG_mem (tb_6 (List.mem_of_getElem? (i := 113) (by decide +kernel))) rfl
theorem kw_6_114 : (Cond.selects RX9 yX9_expression yX9_expression) ∈ uG := uG_mem (tb_6 (List.mem_of_getElem? (i := 114) (by decide +kernel))) rfl
theorem kw_6_115 : (Cond.code yX9_expression cX9_expression 5 (some .int)) ∈ uG := uG_mem (tb_6 (List.mem_of_getElem? (i := 115) (by decide +kernel))) rfl
theorem kw_6_116 : (Cond.methodLink RX9 74 yX9_add) ∈ uG := uG_mem (tb_6 (List.mem_of_getElem? (i := 116) (by decide +kernel))) rfl
theorem kw_6_117 : (Cond.methodLink RX9 80 yX9_statement) ∈ uG := uG_mem (tb_6 (List.mem_of_getElem? (i := 117) (by decide +kernel))) rfl
theorem kw_6_118 : (Cond.methodLink RX9 83 yX9_loop) ∈ uG := uG_mem (tb_6 (List.mem_of_getElem? (i := 118) (by decide +kernel))) rfl
theorem kw_6_120 : (Cond.instanceMethod yX9_loop) ∈ uG := uG_mem (tb_6 (List.mem_of_getElem? (i := 120) (by decide +kernel))) rfl
theorem kw_6_121 : (Cond.code yX9_loop cX9_loop 10 (some .int)) ∈ uG := uG_mem (tb_6 (List.mem_of_getElem? (i := 121) (by decide +kernel))) rfl
theorem kw_6_122 : (Cond.methodLink RL 46 yJ9_min_7cf53) ∈ uG := uG_mem (tb_6 (List.mem_of_getElem? (i := 122) (by decide +kernel))) rfl
theorem ks_1_0 : (Cond.selects RX8 yX8_needProcedure yX8_needProcedure) ∈ uG := by
  have h := uG_sel (pv_1 (List.getElem_mem (l := lw_privs_1) (n := 0) (by decide +kernel)))
  exact h
theorem ks_1_2 : (Cond.selects RX8 yX8_refresh yX8_refresh) ∈ uG := by
  have h := uG_sel (pv_1 (List.getElem_mem (l := lw_privs_1) (n := 2) (by decide +kernel)))
  exact h
theorem ks_1_3 : (Cond.selects RX4 yX4_findWhereNodesAre yX4_findWhereNodesAre) ∈ uG := by
  have h := uG_sel (pv_1 (List.getElem_mem (l := lw_privs_1) (n := 3) (by decide +kernel)))
  exact h
theorem ks_1_4 : (Cond.selects RX4 yX4_bind yX4_bind) ∈ uG := by
  have h := uG_sel (pv_1 (List.getElem_mem (l := lw_privs_1) (n := 4) (by decide +kernel)))
  exact h
theorem ks_1_5 : (Cond.selects RX4 yX4_hasPlace yX4_hasPlace) ∈ uG := by
  have h := uG_sel (pv_1 (List.getElem_mem (l := lw_privs_1) (n := 5) (by decide +kernel)))
  exact h
theorem ks_1_6 : (Cond.selects RX4 yX4_fold yX4_fold) ∈ uG := by
  have h := uG_sel (pv_1 (List.getElem_mem (l := lw_privs_1) (n := 6) (by decide +kernel)))
  exact h
theorem ks_1_7 : (Cond.selects RX4 yX4_isKnown yX4_isKnown) ∈ uG := by
  have h := uG_sel (pv_1 (List.getElem_mem (l := lw_privs_1) (n := 7) (by decide +kernel)))
  exact h
theorem ks_1_8 : (Cond.selects RX4 yX4_findHandedOn yX4_findHandedOn) ∈ uG := by
  have h := uG_sel (pv_1 (List.getElem_mem (l := lw_privs_1) (n := 8) (by decide +kernel)))
  exact h
theorem ks_1_9 : (Cond.selects RX4 yX4_findEscapes yX4_findEscapes) ∈ uG := by
  have h := uG_sel (pv_1 (List.getElem_mem (l := lw_privs_1) (n := 9) (by decide +kernel)))
  exact h
theorem ks_1_10 : (Cond.selects RX4 yX4_isOutliving yX4_isOutliving) ∈ uG := by
  have h := uG_sel (pv_1 (List.getElem_mem (l := lw_privs_1) (n := 10) (by decide +kernel)))
  exact h
theorem ks_1_11 : (Cond.selects RX4 yX4_findLabels yX4_findLabels) ∈ uG := by
  have h := uG_sel (pv_1 (List.getElem_mem (l := lw_privs_1) (n := 11) (by decide +kernel)))
  exact h
theorem ks_1_12 : (Cond.selects RX4 yX4_isTail yX4_isTail) ∈ uG := by
  have h := uG_sel (pv_1 (List.getElem_mem (l := lw_privs_1) (n := 12) (by decide +kernel)))
  exact h
theorem ks_1_13 : (Cond.selects RX4 yX4_hopsToLoop yX4_hopsToLoop) ∈ uG := by
  have h := uG_sel (pv_1 (List.getElem_mem (l := lw_privs_1) (n := 13) (by decide +kernel)))
  exact h
theorem ks_1_14 : (Cond.selects RX4 yX4_isInLoop yX4_isInLoop) ∈ uG := by
  have h := uG_sel (pv_1 (List.getElem_mem (l := lw_privs_1) (n := 14) (by decide +kernel)))
  exact h
theorem ks_1_15 : (Cond.selects RX4 yX4_findModes yX4_findModes) ∈ uG := by
  have h := uG_sel (pv_1 (List.getElem_mem (l := lw_privs_1) (n := 15) (by decide +kernel)))
  exact h
theorem ks_2_0 : (Cond.selects RX4 yX4_sumUp yX4_sumUp) ∈ uG := by
  have h := uG_sel (pv_2 (List.getElem_mem (l := lw_privs_2) (n := 0) (by decide +kernel)))
  exact h
theorem ks_2_1 : (Cond.selects RX2 yX2_tell yX2_tell) ∈ uG := by
  have h := uG_sel (pv_2 (List.getElem_mem (l := lw_privs_2) (n := 1) (by decide +kernel)))
  exact h
theorem ks_2_2 : (Cond.selects RX2 yX2_await yX2_await) ∈ uG := by
  have h := uG_sel (pv_2 (List.getElem_mem (l := lw_privs_2) (n := 2) (by decide +kernel)))
  exact h
theorem ks_2_3 : (Cond.selects RX2 yX2_faultOf yX2_faultOf) ∈ uG := by
  have h := uG_sel (pv_2 (List.getElem_mem (l := lw_privs_2) (n := 3) (by decide +kernel)))
  exact h
theorem ks_2_4 : (Cond.selects RX2 yX2_isAsItHasToBe yX2_isAsItHasToBe) ∈ uG := by
  have h := uG_sel (pv_2 (List.getElem_mem (l := lw_privs_2) (n := 4) (by decide +kernel)))
  exact h
theorem ks_2_5 : (Cond.selects RX2 yX2_faultOfArguments yX2_faultOfArguments) ∈ uG := by
  have h := uG_sel (pv_2 (List.getElem_mem (l := lw_privs_2) (n := 5) (by decide +kernel)))
  exact h
theorem ks_2_6 : (Cond.selects RX2 yX2_suits yX2_suits) ∈ uG := by
  have h := uG_sel (pv_2 (List.getElem_mem (l := lw_privs_2) (n := 6) (by decide +kernel)))
  exact h
theorem ks_2_7 : (Cond.selects RX8 yX8_codeLength yX8_codeLength) ∈ uG := by
  have h := uG_sel (pv_2 (List.getElem_mem (l := lw_privs_2) (n := 7) (by decide +kernel)))
  exact h
theorem ks_2_8 : (Cond.selects RX0 yX0_isPushed yX0_isPushed) ∈ uG := by
  have h := uG_sel (pv_2 (List.getElem_mem (l := lw_privs_2) (n := 8) (by decide +kernel)))
  exact h
theorem ks_2_9 : (Cond.selects RX0 yX0_lengthOfPart yX0_lengthOfPart) ∈ uG := by
  have h := uG_sel (pv_2 (List.getElem_mem (l := lw_privs_2) (n := 9) (by decide +kernel)))
  exact h
theorem ks_2_10 : (Cond.selects RX0 yX0_ownLength yX0_ownLength) ∈ uG := by
  have h := uG_sel (pv_2 (List.getElem_mem (l := lw_privs_2) (n := 10) (by decide +kernel)))
  exact h
theorem ks_2_11 : (Cond.selects RX0 yX0_isJump yX0_isJump) ∈ uG := by
  have h := uG_sel (pv_2 (List.getElem_mem (l := lw_privs_2) (n := 11) (by decide +kernel)))
  exact h
theorem ks_2_12 : (Cond.selects RX0 yX0_placeProcedures yX0_placeProcedures) ∈ uG := by
  have h := uG_sel (pv_2 (List.getElem_mem (l := lw_privs_2) (n := 12) (by decide +kernel)))
  exact h
theorem ks_2_13 : (Cond.selects RX0 yX0_clear yX0_clear) ∈ uG := by
  have h := uG_sel (pv_2 (List.getElem_mem (l := lw_privs_2) (n := 13) (by decide +kernel)))
  exact h
theorem ks_2_14 : (Cond.selects RX0 yX0_put yX0_put) ∈ uG := by
  have h := uG_sel (pv_2 (List.getElem_mem (l := lw_privs_2) (n := 14) (by decide +kernel)))
  exact h
theorem ks_2_15 : (Cond.selects RX0 yX0_placeParts yX0_placeParts) ∈ uG := by
  have h := uG_sel (pv_2 (List.getElem_mem (l := lw_privs_2) (n := 15) (by decide +kernel)))
  exact h
theorem ks_3_0 : (Cond.selects RX0 yX0_swallow yX0_swallow) ∈ uG := by
  have h := uG_sel (pv_3 (List.getElem_mem (l := lw_privs_3) (n := 0) (by decide +kernel)))
  exact h
theorem ks_3_1 : (Cond.selects RX0 yX0_place yX0_place) ∈ uG := by
  have h := uG_sel (pv_3 (List.getElem_mem (l := lw_privs_3) (n := 1) (by decide +kernel)))
  exact h
theorem ks_3_2 : (Cond.selects RX0 yX0_noteBegin yX0_noteBegin) ∈ uG := by
  have h := uG_sel (pv_3 (List.getElem_mem (l := lw_privs_3) (n := 2) (by decide +kernel)))
  exact h
theorem ks_3_3 : (Cond.selects RX0 yX0_write yX0_write) ∈ uG := by
  have h := uG_sel (pv_3 (List.getElem_mem (l := lw_privs_3) (n := 3) (by decide +kernel)))
  exact h
theorem ks_3_4 : (Cond.selects RX0 yX0_writeExpression yX0_writeExpression) ∈ uG := by
  have h := uG_sel (pv_3 (List.getElem_mem (l := lw_privs_3) (n := 4) (by decide +kernel)))
  exact h
theorem ks_3_5 : (Cond.selects RX0 yX0_putNamed yX0_putNamed) ∈ uG := by
  have h := uG_sel (pv_3 (List.getElem_mem (l := lw_privs_3) (n := 5) (by decide +kernel)))
  exact h
theorem ks_3_6 : (Cond.selects RX0 yX0_writeCall yX0_writeCall) ∈ uG := by
  have h := uG_sel (pv_3 (List.getElem_mem (l := lw_privs_3) (n := 6) (by decide +kernel)))
  exact h
theorem ks_3_7 : (Cond.selects RX0 yX0_writeStatement yX0_writeStatement) ∈ uG := by
  have h := uG_sel (pv_3 (List.getElem_mem (l := lw_privs_3) (n := 7) (by decide +kernel)))
  exact h
theorem ks_3_8 : (Cond.selects RX0 yX0_writeIf yX0_writeIf) ∈ uG := by
  have h := uG_sel (pv_3 (List.getElem_mem (l := lw_privs_3) (n := 8) (by decide +kernel)))
  exact h
theorem ks_3_9 : (Cond.selects RX0 yX0_writeLoop yX0_writeLoop) ∈ uG := by
  have h := uG_sel (pv_3 (List.getElem_mem (l := lw_privs_3) (n := 9) (by decide +kernel)))
  exact h
theorem ks_3_10 : (Cond.selects RX8 yX8_needNode yX8_needNode) ∈ uG := by
  have h := uG_sel (pv_3 (List.getElem_mem (l := lw_privs_3) (n := 10) (by decide +kernel)))
  exact h
theorem ks_3_11 : (Cond.selects RX3 yX3_clear yX3_clear) ∈ uG := by
  have h := uG_sel (pv_3 (List.getElem_mem (l := lw_privs_3) (n := 11) (by decide +kernel)))
  exact h
theorem ks_3_12 : (Cond.selects RX3 yX3_keepReturn yX3_keepReturn) ∈ uG := by
  have h := uG_sel (pv_3 (List.getElem_mem (l := lw_privs_3) (n := 12) (by decide +kernel)))
  exact h
theorem ks_3_13 : (Cond.selects RX7 yX7_has yX7_has) ∈ uG := by
  have h := uG_sel (pv_3 (List.getElem_mem (l := lw_privs_3) (n := 13) (by decide +kernel)))
  exact h
theorem ks_3_14 : (Cond.selects RX3 yX3_call yX3_call) ∈ uG := by
  have h := uG_sel (pv_3 (List.getElem_mem (l := lw_privs_3) (n := 14) (by decide +kernel)))
  exact h
theorem ks_3_15 : (Cond.selects RX3 yX3_layPlaces yX3_layPlaces) ∈ uG := by
  have h := uG_sel (pv_3 (List.getElem_mem (l := lw_privs_3) (n := 15) (by decide +kernel)))
  exact h
theorem ks_4_0 : (Cond.selects RX3 yX3_begin yX3_begin) ∈ uG := by
  have h := uG_sel (pv_4 (List.getElem_mem (l := lw_privs_4) (n := 0) (by decide +kernel)))
  exact h
theorem ks_4_1 : (Cond.selects RX3 yX3_trap yX3_trap) ∈ uG := by
  have h := uG_sel (pv_4 (List.getElem_mem (l := lw_privs_4) (n := 1) (by decide +kernel)))
  exact h
theorem ks_4_2 : (Cond.selects RX3 yX3_perform yX3_perform) ∈ uG := by
  have h := uG_sel (pv_4 (List.getElem_mem (l := lw_privs_4) (n := 2) (by decide +kernel)))
  exact h
theorem ks_4_3 : (Cond.selects RX3 yX3_push yX3_push) ∈ uG := by
  have h := uG_sel (pv_4 (List.getElem_mem (l := lw_privs_4) (n := 3) (by decide +kernel)))
  exact h
theorem ks_4_4 : (Cond.selects RX3 yX3_cellOf yX3_cellOf) ∈ uG := by
  have h := uG_sel (pv_4 (List.getElem_mem (l := lw_privs_4) (n := 4) (by decide +kernel)))
  exact h
theorem ks_4_5 : (Cond.selects RX3 yX3_frameAt yX3_frameAt) ∈ uG := by
  have h := uG_sel (pv_4 (List.getElem_mem (l := lw_privs_4) (n := 5) (by decide +kernel)))
  exact h
theorem ks_4_6 : (Cond.selects RX3 yX3_get yX3_get) ∈ uG := by
  have h := uG_sel (pv_4 (List.getElem_mem (l := lw_privs_4) (n := 6) (by decide +kernel)))
  exact h
theorem ks_4_7 : (Cond.selects RX3 yX3_pushCell yX3_pushCell) ∈ uG := by
  have h := uG_sel (pv_4 (List.getElem_mem (l := lw_privs_4) (n := 7) (by decide +kernel)))
  exact h
theorem ks_4_8 : (Cond.selects RX3 yX3_pick yX3_pick) ∈ uG := by
  have h := uG_sel (pv_4 (List.getElem_mem (l := lw_privs_4) (n := 8) (by decide +kernel)))
  exact h
theorem ks_4_9 : (Cond.selects RX3 yX3_pop yX3_pop) ∈ uG := by
  have h := uG_sel (pv_4 (List.getElem_mem (l := lw_privs_4) (n := 9) (by decide +kernel)))
  exact h
theorem ks_4_10 : (Cond.selects RX3 yX3_go yX3_go) ∈ uG := by
  have h := uG_sel (pv_4 (List.getElem_mem (l := lw_privs_4) (n := 10) (by decide +kernel)))
  exact h
theorem ks_4_11 : (Cond.selects RX3 yX3_goByProc yX3_goByProc) ∈ uG := by
  have h := uG_sel (pv_4 (List.getElem_mem (l := lw_privs_4) (n := 11) (by decide +kernel)))
  exact h
theorem ks_4_12 : (Cond.selects RX3 yX3_refer yX3_refer) ∈ uG := by
  have h := uG_sel (pv_4 (List.getElem_mem (l := lw_privs_4) (n := 12) (by decide +kernel)))
  exact h
theorem ks_4_13 : (Cond.selects RX3 yX3_later yX3_later) ∈ uG := by
  have h := uG_sel (pv_4 (List.getElem_mem (l := lw_privs_4) (n := 13) (by decide +kernel)))
  exact h
theorem ks_4_14 : (Cond.selects RX3 yX3_skip yX3_skip) ∈ uG := by
  have h := uG_sel (pv_4 (List.getElem_mem (l := lw_privs_4) (n := 14) (by decide +kernel)))
  exact h
theorem ks_4_15 : (Cond.selects RX3 yX3_goBack yX3_goBack) ∈ uG := by
  have h := uG_sel (pv_4 (List.getElem_mem (l := lw_privs_4) (n := 15) (by decide +kernel)))
  exact h
theorem ks_5_0 : (Cond.selects RX3 yX3_copy yX3_copy) ∈ uG := by
  have h := uG_sel (pv_5 (List.getElem_mem (l := lw_privs_5) (n := 0) (by decide +kernel)))
  exact h
theorem ks_5_1 : (Cond.selects RX3 yX3_put yX3_put) ∈ uG := by
  have h := uG_sel (pv_5 (List.getElem_mem (l := lw_privs_5) (n := 1) (by decide +kernel)))
  exact h
theorem ks_5_2 : (Cond.selects RX3 yX3_stow yX3_stow) ∈ uG := by
  have h := uG_sel (pv_5 (List.getElem_mem (l := lw_privs_5) (n := 2) (by decide +kernel)))
  exact h
theorem ks_5_3 : (Cond.selects RX3 yX3_open yX3_open) ∈ uG := by
  have h := uG_sel (pv_5 (List.getElem_mem (l := lw_privs_5) (n := 3) (by decide +kernel)))
  exact h
theorem ks_5_4 : (Cond.selects RX3 yX3_leave yX3_leave) ∈ uG := by
  have h := uG_sel (pv_5 (List.getElem_mem (l := lw_privs_5) (n := 4) (by decide +kernel)))
  exact h
theorem ks_5_5 : (Cond.selects RX3 yX3_isLoopOf yX3_isLoopOf) ∈ uG := by
  have h := uG_sel (pv_5 (List.getElem_mem (l := lw_privs_5) (n := 5) (by decide +kernel)))
  exact h
theorem ks_5_6 : (Cond.selects RX3 yX3_reckon yX3_reckon) ∈ uG := by
  have h := uG_sel (pv_5 (List.getElem_mem (l := lw_privs_5) (n := 6) (by decide +kernel)))
  exact h
theorem ks_5_7 : (Cond.selects RX8 yX8_wholeCodeLength yX8_wholeCodeLength) ∈ uG := by
  have h := uG_sel (pv_5 (List.getElem_mem (l := lw_privs_5) (n := 7) (by decide +kernel)))
  exact h
theorem ks_5_8 : (Cond.selects RX1 yX1_declare yX1_declare) ∈ uG := by
  have h := uG_sel (pv_5 (List.getElem_mem (l := lw_privs_5) (n := 8) (by decide +kernel)))
  exact h
theorem ks_5_9 : (Cond.selects RX1 yX1_declarePlace yX1_declarePlace) ∈ uG := by
  have h := uG_sel (pv_5 (List.getElem_mem (l := lw_privs_5) (n := 9) (by decide +kernel)))
  exact h
theorem ks_5_10 : (Cond.selects RX5 yX5_fills yX5_fills) ∈ uG := by
  have h := uG_sel (pv_5 (List.getElem_mem (l := lw_privs_5) (n := 10) (by decide +kernel)))
  exact h
theorem ks_5_11 : (Cond.selects RX5 yX5_isPartFor yX5_isPartFor) ∈ uG := by
  have h := uG_sel (pv_5 (List.getElem_mem (l := lw_privs_5) (n := 11) (by decide +kernel)))
  exact h
theorem ks_5_12 : (Cond.selects RX5 yX5_claim yX5_claim) ∈ uG := by
  have h := uG_sel (pv_5 (List.getElem_mem (l := lw_privs_5) (n := 12) (by decide +kernel)))
  exact h
theorem ks_5_13 : (Cond.selects RX9 yX9_loop yX9_loop) ∈ uG := by
  have h := uG_sel (pv_5 (List.getElem_mem (l := lw_privs_5) (n := 13) (by decide +kernel)))
  exact h
theorem mi_X0_forget : mI yX0_forget cX0_forget 1 none 0 := ⟨kw_2_51, kw_2_52, kw_1_8, kw_2_53, by decide +kernel, by decide +kernel, by decide +kernel⟩
theorem mi_X0_layOut : mI yX0_layOut cX0_layOut 3 none 1 := ⟨kw_2_59, kw_2_60, kw_1_8, kw_2_61, by decide +kernel, by decide +kernel, by decide +kernel⟩
theorem mi_X0_isPushed : mI yX0_isPushed cX0_isPushed 2 (some .boolean) 1 := ⟨kw_2_64, ks_2_8, kw_1_8, kw_2_66, by decide +kernel, by decide +kernel, by decide +kernel⟩
theorem mi_X0_isJump : mI yX0_isJump cX0_isJump 2 (some .boolean) 1 := ⟨kw_2_80, ks_2_11, kw_1_8, kw_2_81, by decide +kernel, by decide +kernel, by decide +kernel⟩
theorem mi_X0_lengthOfPart : mI yX0_lengthOfPart cX0_lengthOfPart 2 (some .int) 1 := ⟨kw_2_70, ks_2_9, kw_1_8, kw_2_71, by decide +kernel, by decide +kernel, by decide +kernel⟩
theorem mi_X0_ownLength : mI yX0_ownLength cX0_ownLength 2 (some .int) 1 := ⟨kw_2_76, ks_2_10, kw_1_8, kw_2_77, by decide +kernel, by decide +kernel, by decide +kernel⟩
theorem mi_X0_placeProcedures : mI yX0_placeProcedures cX0_placeProcedures 4 none 0 := ⟨kw_2_84, ks_2_12, kw_1_8, kw_2_85, by decide +kernel, by decide +kernel, by decide +kernel⟩
theorem mi_X0_clear : mI yX0_clear cX0_clear 4 none 2 := ⟨kw_2_88, ks_2_13, kw_1_8, kw_2_89, by decide +kernel, by decide +kernel, by decide +kernel⟩
theorem mi_X0_placeParts : mI yX0_placeParts cX0_placeParts 8 none 1 := ⟨kw_2_96, ks_2_15, kw_1_8, kw_2_97, by decide +kernel, by decide +kernel, by decide +kernel⟩
theorem mi_X0_place : mI yX0_place cX0_place 3 none 2 := ⟨kw_2_104, ks_3_1, kw_1_8, kw_2_105, by decide +kernel, by decide +kernel, by decide +kernel⟩
theorem mi_X0_swallow : mI yX0_swallow cX0_swallow 3 none 2 := ⟨kw_2_100, ks_3_0, kw_1_8, kw_2_101, by decide +kernel, by decide +kernel, by decide +kernel⟩
theorem mi_X0_noteBegin : mI yX0_noteBegin cX0_noteBegin 3 none 1 := ⟨kw_2_108, ks_3_2, kw_1_8, kw_2_109, by decide +kernel, by decide +kernel, by decide +kernel⟩
theorem mi_X0_put : mI yX0_put cX0_put 6 none 5 := ⟨kw_2_92, ks_2_14, kw_1_8, kw_2_93, by decide +kernel, by decide +kernel, by decide +kernel⟩
theorem mi_X0_putNamed : mI yX0_putNamed cX0_putNamed 4 none 3 := ⟨kw_2_124, ks_3_5, kw_1_8, kw_2_125, by decide +kernel, by decide +kernel, by decide +kernel⟩
theorem mi_X0_write : mI yX0_write cX0_write 4 none 1 := ⟨kw_2_112, ks_3_3, kw_1_8, kw_2_113, by decide +kernel, by decide +kernel, by decide +kernel⟩
theorem mi_X0_writeExpression : mI yX0_writeExpression cX0_writeExpression 5 none 3 := ⟨kw_2_116, ks_3_4, kw_1_8, kw_2_117, by decide +kernel, by decide +kernel, by decide +kernel⟩
theorem mi_X0_writeCall : mI yX0_writeCall cX0_writeCall 6 none 3 := ⟨kw_2_128, ks_3_6, kw_1_8, kw_2_129, by decide +kernel, by decide +kernel, by decide +kernel⟩
theorem mi_X0_writeStatement : mI yX0_writeStatement cX0_writeStatement 4 none 3 := ⟨kw_2_132, ks_3_7, kw_1_8, kw_2_133, by decide +kernel, by decide +kernel, by decide +kernel⟩
theorem mi_X0_writeIf : mI yX0_writeIf cX0_writeIf 5 none 1 := ⟨kw_2_136, ks_3_8, kw_1_8, kw_2_137, by decide +kernel, by decide +kernel, by decide +kernel⟩
theorem mi_X0_writeLoop : mI yX0_writeLoop cX0_writeLoop 4 none 2 := ⟨kw_2_140, ks_3_9, kw_1_8, kw_2_141, by decide +kernel, by decide +kernel, by decide +kernel⟩
theorem mi_X1_has : mI yX1_has cX1_has 2 (some .boolean) 1 := ⟨kw_1_31, kw_1_32, kw_1_3, kw_1_33, by decide +kernel, by decide +kernel, by decide +kernel⟩
theorem mi_X1_declares : mI yX1_declares cX1_declares 3 (some .boolean) 2 := ⟨kw_1_151, kw_1_152, kw_1_3, kw_1_153, by decide +kernel, by decide +kernel, by decide +kernel⟩
theorem mi_X1_takesVariable : mI yX1_takesVariable cX1_takesVariable 3 (some .boolean) 2 := ⟨kw_6_54, kw_6_55, kw_1_3, kw_6_56, by decide +kernel, by decide +kernel, by decide +kernel⟩
theorem mi_X1_addVariable : mI yX1_addVariable cX1_addVariable 5 (some .int) 4 := ⟨kw_6_58, kw_6_59, kw_1_3, kw_6_60, by decide +kernel, by decide +kernel, by decide +kernel⟩
theorem mi_X1_declare : mI yX1_declare cX1_declare 6 none 4 := ⟨kw_6_63, ks_5_8, kw_1_3, kw_6_64, by decide +kernel, by decide +kernel, by decide +kernel⟩
theorem mi_X1_declarePlace : mI yX1_declarePlace cX1_declarePlace 6 (some .int) 4 := ⟨kw_6_67, ks_5_9, kw_1_3, kw_6_68, by decide +kernel, by decide +kernel, by decide +kernel⟩
theorem mi_X1_declarer : mI yX1_declarer cX1_declarer 5 (some .int) 2 := ⟨kw_1_147, kw_1_148, kw_1_3, kw_1_149, by decide +kernel, by decide +kernel, by decide +kernel⟩
theorem mi_X1_hopsTo : mI yX1_hopsTo cX1_hopsTo 5 (some .int) 2 := ⟨kw_1_155, kw_1_156, kw_1_3, kw_1_157, by decide +kernel, by decide +kernel, by decide +kernel⟩
theorem mi_X1_isInside : mI yX1_isInside cX1_isInside 5 (some .boolean) 2 := ⟨kw_1_204, kw_1_205, kw_1_3, kw_1_206, by decide +kernel, by decide +kernel, by decide +kernel⟩
theorem mi_X1_takesValuesAlone : mI yX1_takesValuesAlone cX1_takesValuesAlone 3 (some .boolean) 1 := ⟨kw_1_200, kw_1_201, kw_1_3, kw_1_202, by decide +kernel, by decide +kernel, by decide +kernel⟩
theorem mi_X2_find : mI yX2_find cX2_find 4 none 0 := ⟨kw_1_230, kw_1_231, kw_1_7, kw_1_232, by decide +kernel, by decide +kernel, by decide +kernel⟩
theorem mi_X2_await : mI yX2_await cX2_await 2 none 1 := ⟨kw_2_0, ks_2_2, kw_1_7, kw_2_1, by decide +kernel, by decide +kernel, by decide +kernel⟩
theorem mi_X2_tell : mI yX2_tell cX2_tell 4 none 3 := ⟨kw_1_235, ks_2_1, kw_1_7, kw_1_237, by decide +kernel, by decide +kernel, by decide +kernel⟩
theorem mi_X2_faultOf : mI yX2_faultOf cX2_faultOf 4 (some .int) 1 := ⟨kw_2_4, ks_2_3, kw_1_7, kw_2_5, by decide +kernel, by decide +kernel, by decide +kernel⟩
theorem mi_X2_isAsItHasToBe : mI yX2_isAsItHasToBe cX2_isAsItHasToBe 3 (some .boolean) 1 := ⟨kw_2_9, ks_2_4, kw_1_7, kw_2_10, by decide +kernel, by decide +kernel, by decide +kernel⟩
theorem ms_X2_isToBeSet : mS yX2_isToBeSet cX2_isToBeSet 1 (some .boolean) 1 := ⟨kw_2_12, kw_1_7, kw_2_13, by decide +kernel, by decide +kernel, by decide +kernel⟩
theorem ms_X2_isProc : mS yX2_isProc cX2_isProc 1 (some .boolean) 1 := ⟨kw_2_15, kw_1_7, kw_2_16, by decide +kernel, by decide +kernel, by decide +kernel⟩
theorem mi_X2_faultOfArguments : mI yX2_faultOfArguments cX2_faultOfArguments 6 (some .int) 1 := ⟨kw_2_20, ks_2_5, kw_1_7, kw_2_21, by decide +kernel, by decide +kernel, by decide +kernel⟩
theorem mi_X2_suits : mI yX2_suits cX2_suits 3 (some .boolean) 2 := ⟨kw_2_28, ks_2_6, kw_1_7, kw_2_29, by decide +kernel, by decide +kernel, by decide +kernel⟩
theorem mi_X3_execute : mI yX3_execute cX3_execute 7 none 4 := ⟨kw_2_203, kw_2_204, kw_1_9, kw_2_205, by decide +kernel, by decide +kernel, by decide +kernel⟩
theorem mi_X3_clear : mI yX3_clear cX3_clear 1 none 0 := ⟨kw_2_209, ks_3_11, kw_1_9, kw_2_211, by decide +kernel, by decide +kernel, by decide +kernel⟩
theorem mi_X3_begin : mI yX3_begin cX3_begin 5 (some .boolean) 2 := ⟨kw_3_33, ks_4_0, kw_1_9, kw_3_34, by decide +kernel, by decide +kernel, by decide +kernel⟩
theorem mi_X3_trap : mI yX3_trap cX3_trap 3 none 2 := ⟨kw_3_37, ks_4_1, kw_1_9, kw_3_38, by decide +kernel, by decide +kernel, by decide +kernel⟩
theorem mi_X3_perform : mI yX3_perform cX3_perform 4 none 2 := ⟨kw_3_41, ks_4_2, kw_1_9, kw_3_42, by decide +kernel, by decide +kernel, by decide +kernel⟩
theorem mi_X3_push : mI yX3_push cX3_push 4 none 2 := ⟨kw_3_45, ks_4_3, kw_1_9, kw_3_46, by decide +kernel, by decide +kernel, by decide +kernel⟩
theorem mi_X3_pushCell : mI yX3_pushCell cX3_pushCell 2 none 1 := ⟨kw_3_61, ks_4_7, kw_1_9, kw_3_62, by decide +kernel, by decide +kernel, by decide +kernel⟩
theorem mi_X3_pop : mI yX3_pop cX3_pop 2 (some .int) 0 := ⟨kw_3_69, ks_4_9, kw_1_9, kw_3_70, by decide +kernel, by decide +kernel, by decide +kernel⟩
theorem mi_X3_frameAt : mI yX3_frameAt cX3_frameAt 4 (some .int) 1 := ⟨kw_3_53, ks_4_5, kw_1_9, kw_3_54, by decide +kernel, by decide +kernel, by decide +kernel⟩
theorem mi_X3_cellOf : mI yX3_cellOf cX3_cellOf 2 (some .int) 1 := ⟨kw_3_49, ks_4_4, kw_1_9, kw_3_50, by decide +kernel, by decide +kernel, by decide +kernel⟩
theorem mi_X3_reckon : mI yX3_reckon cX3_reckon 5 none 2 := ⟨kw_3_127, ks_5_6, kw_1_9, kw_3_128, by decide +kernel, by decide +kernel, by decide +kernel⟩
end XW2
