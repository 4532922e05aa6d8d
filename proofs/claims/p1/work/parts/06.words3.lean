section XW3
theorem kw_7_20 : (Cond.lays RX9 "StaticLinkModel" "written" "[I") ∈ uG := uG_mem (tb_7 (List.mem_of_getElem? (i := 20) (by decide +kernel))) rfl
theorem kw_7_22 : (Cond.lays RX9 "StaticLinkModel" "end" "I") ∈ uG := uG_mem (tb_7 (List.mem_of_getElem? (i := 22) (by decide +kernel))) rfl
theorem kw_7_24 : (Cond.lays RX9 "StaticLinkModel" "set" "I") ∈ uG := uG_mem (tb_7 (List.mem_of_getElem? (i := 24) (by decide +kernel))) rfl
theorem kw_7_26 : (Cond.laysFinal RX9 "StaticLinkModel" "begins" "[I") ∈ uG := uG_mem (tb_7 (List.mem_of_getElem? (i := 26) (by decide +kernel))) rfl
theorem kw_7_28 : (Cond.lays RX9 "StaticLinkModel" "tasks" "[I") ∈ uG := uG_mem (tb_7 (List.mem_of_getElem? (i := 28) (by decide +kernel))) rfl
theorem kw_7_30 : (Cond.lays RX9 "StaticLinkModel" "values" "[I") ∈ uG := uG_mem (tb_7 (List.mem_of_getElem? (i := 30) (by decide +kernel))) rfl
theorem kw_7_32 : (Cond.lays RX9 "StaticLinkModel" "memory" "[I") ∈ uG := uG_mem (tb_7 (List.mem_of_getElem? (i := 32) (by decide +kernel))) rfl
theorem kw_7_34 : (Cond.lays RX9 "StaticLinkModel" "frames" "[I") ∈ uG := uG_mem (tb_7 (List.mem_of_getElem? (i := 34) (by decide +kernel))) rfl
theorem kw_7_36 : (Cond.lays RX9 "StaticLinkModel" "arrays" "[I") ∈ uG := uG_mem (tb_7 (List.mem_of_getElem? (i := 36) (by decide +kernel))) rfl
theorem kw_7_38 : (Cond.lays RX9 "StaticLinkModel" "top" "I") ∈ uG := uG_mem (tb_7 (List.mem_of_getElem? (i := 38) (by decide +kernel))) rfl
theorem kw_7_40 : (Cond.lays RX9 "StaticLinkModel" "filled" "I") ∈ uG := uG_mem (tb_7 (List.mem_of_getElem? (i := 40) (by decide +kernel))) rfl
theorem kw_7_42 : (Cond.lays RX9 "StaticLinkModel" "used" "I") ∈ uG := uG_mem (tb_7 (List.mem_of_getElem? (i := 42) (by decide +kernel))) rfl
theorem kw_7_44 : (Cond.lays RX9 "StaticLinkModel" "framed" "I") ∈ uG := uG_mem (tb_7 (List.mem_of_getElem? (i := 44) (by decide +kernel))) rfl
theorem kw_7_46 : (Cond.lays RX9 "StaticLinkModel" "arrayed" "I") ∈ uG := uG_mem (tb_7 (List.mem_of_getElem? (i := 46) (by decide +kernel))) rfl
theorem kw_7_48 : (Cond.lays RX9 "StaticLinkModel" "steps" "I") ∈ uG := uG_mem (tb_7 (List.mem_of_getElem? (i := 48) (by decide +kernel))) rfl
theorem kw_7_50 : (Cond.lays RX9 "StaticLinkModel" "limit" "I") ∈ uG := uG_mem (tb_7 (List.mem_of_getElem? (i := 50) (by decide +kernel))) rfl
theorem kw_7_52 : (Cond.lays RX9 "StaticLinkModel" "bound" "I") ∈ uG := uG_mem (tb_7 (List.mem_of_getElem? (i := 52) (by decide +kernel))) rfl
theorem kw_7_54 : (Cond.lays RX9 "StaticLinkModel" "trap" "I") ∈ uG := uG_mem (tb_7 (List.mem_of_getElem? (i := 54) (by decide +kernel))) rfl
theorem kw_7_56 : (Cond.lays RX9 "StaticLinkModel" "trapNode" "I") ∈ uG := uG_mem (tb_7 (List.mem_of_getElem? (i := 56) (by decide +kernel))) rfl
theorem kw_7_58 : (Cond.lays RX9 "StaticLinkModel" "calls" "I") ∈ uG := uG_mem (tb_7 (List.mem_of_getElem? (i := 58) (by decide +kernel))) rfl
theorem kw_7_60 : (Cond.lays RX9 "StaticLinkModel" "cells" "I") ∈ uG := uG_mem (tb_7 (List.mem_of_getElem? (i := 60) (by decide +kernel))) rfl
theorem kw_7_62 : (Cond.lays RX9 "StaticLinkModel" "depth" "I") ∈ uG := uG_mem (tb_7 (List.mem_of_getElem? (i := 62) (by decide +kernel))) rfl
theorem kw_7_64 : (Cond.lays RX9 "StaticLinkModel" "live" "I") ∈ uG := uG_mem (tb_7 (List.mem_of_getElem? (i := 64) (by decide +kernel))) rfl
theorem kw_7_66 : (Cond.lays RX9 "StaticLinkModel" "mostDepth" "I") ∈ uG := uG_mem (tb_7 (List.mem_of_getElem? (i := 66) (by decide +kernel))) rfl
theorem kw_7_68 : (Cond.lays RX9 "StaticLinkModel" "mostLive" "I") ∈ uG := uG_mem (tb_7 (List.mem_of_getElem? (i := 68) (by decide +kernel))) rfl
theorem kw_7_70 : (Cond.lays RX9 "StaticLinkModel" "gave" "I") ∈ uG := uG_mem (tb_7 (List.mem_of_getElem? (i := 70) (by decide +kernel))) rfl
theorem kw_7_72 : (Cond.lays RX9 "StaticLinkModel" "outs" "I") ∈ uG := uG_mem (tb_7 (List.mem_of_getElem? (i := 72) (by decide +kernel))) rfl
theorem kw_7_74 : (Cond.lays RX9 "StaticLinkModel" "total" "J") ∈ uG := uG_mem (tb_7 (List.mem_of_getElem? (i := 74) (by decide +kernel))) rfl
theorem kw_7_76 : (Cond.lays RX9 "StaticLinkModel" "latestTotal" "J") ∈ uG := uG_mem (tb_7 (List.mem_of_getElem? (i := 76) (by decide +kernel))) rfl
theorem kw_7_78 : (Cond.lays RX9 "StaticLinkModel" "doesCut" "Z") ∈ uG := uG_mem (tb_7 (List.mem_of_getElem? (i := 78) (by decide +kernel))) rfl
theorem kw_7_80 : (Cond.lays RX9 "StaticLinkModel" "out" "[I") ∈ uG := uG_mem (tb_7 (List.mem_of_getElem? (i := 80) (by decide +kernel))) rfl
theorem kw_7_82 : (Cond.laysFinal RX9 "StaticLinkModel" "home" "[I") ∈ uG := uG_mem (tb_7 (List.mem_of_getElem? (i := 82) (by decide +kernel))) rfl
theorem kw_7_84 : (Cond.laysFinal RX9 "StaticLinkModel" "cost" "[I") ∈ uG := uG_mem (tb_7 (List.mem_of_getElem? (i := 84) (by decide +kernel))) rfl
theorem kw_7_86 : (Cond.laysFinal RX9 "StaticLinkModel" "tails" "[Z") ∈ uG := uG_mem (tb_7 (List.mem_of_getElem? (i := 86) (by decide +kernel))) rfl
theorem kw_7_89 : (Cond.methodLink RL 87 yX9_thrown) ∈ uG := uG_mem (tb_7 (List.mem_of_getElem? (i := 89) (by decide +kernel))) rfl
theorem kw_7_90 : (Cond.instanceMethod yX9_thrown) ∈ uG := uG_mem (tb_7 (List.mem_of_getElem? (i := 90) (by decide +kernel))) rfl
theorem kw_7_91 : (Cond.selects RX9 yX9_thrown yX9_thrown) ∈ uG := uG_mem (tb_7 (List.mem_of_getElem? (i := 91) (by decide +kernel))) rfl
theorem kw_7_92 : (Cond.code yX9_thrown cX9_thrown 1 (some .int)) ∈ uG := uG_mem (tb_7 (List.mem_of_getElem? (i := 92) (by decide +kernel))) rfl
theorem kw_7_93 : (Cond.methodLink RL 86 yX9_procedure) ∈ uG := uG_mem (tb_7 (List.mem_of_getElem? (i := 93) (by decide +kernel))) rfl
theorem kw_7_94 : (Cond.instanceMethod yX9_procedure) ∈ uG := uG_mem (tb_7 (List.mem_of_getElem? (i := 94) (by decide +kernel))) rfl
theorem kw_7_95 : (Cond.selects RX9 yX9_procedure yX9_procedure) ∈ uG := uG_mem (tb_7 (List.mem_of_getElem? (i := 95) (by decide +kernel))) rfl
theorem kw_7_96 : (Cond.code yX9_procedure cX9_procedure 3 (some .int)) ∈ uG := uG_mem (tb_7 (List.mem_of_getElem? (i := 96) (by decide +kernel))) rfl
theorem kw_7_97 : (Cond.methodLink RX9 124 yX9_isProcedure) ∈ uG := uG_mem (tb_7 (List.mem_of_getElem? (i := 97) (by decide +kernel))) rfl
theorem kw_7_99 : (Cond.instanceMethod yX9_isProcedure) ∈ uG := uG_mem (tb_7 (List.mem_of_getElem? (i := 99) (by decide +kernel))) rfl
theorem kw_7_100 : (Cond.code yX9_isProcedure cX9_isProcedure 2 (some .boolean)) ∈ uG := uG_mem (tb_7 (List.mem_of_getElem? (i := 100) (by decide +kernel))) rfl
theorem kw_7_101 : (Cond.methodLink RX9 117 yX9_isIn) ∈ uG := uG_mem (tb_7 (List.mem_of_getElem? (i := 101) (by decide +kernel))) rfl
theorem kw_7_102 : (Cond.static yX9_isIn) ∈ uG := uG_mem (tb_7 (List.mem_of_getElem? (i := 102) (by decide +kernel))) rfl
theorem kw_7_103 : (Cond.code yX9_isIn cX9_isIn 3 (some .boolean)) ∈ uG := uG_mem (tb_7 (List.mem_of_getElem? (i := 103) (by decide +kernel))) rfl
theorem kw_7_104 : (Cond.methodLink RX9 128 yX9_no) ∈ uG := uG_mem (tb_7 (List.mem_of_getElem? (i := 104) (by decide +kernel))) rfl
theorem kw_7_106 : (Cond.instanceMethod yX9_no) ∈ uG := uG_mem (tb_7 (List.mem_of_getElem? (i := 106) (by decide +kernel))) rfl
theorem kw_7_107 : (Cond.code yX9_no cX9_no 2 (some .int)) ∈ uG := uG_mem (tb_7 (List.mem_of_getElem? (i := 107) (by decide +kernel))) rfl
theorem kw_7_108 : (Cond.methodLink RX9 132 yX9_isName) ∈ uG := uG_mem (tb_7 (List.mem_of_getElem? (i := 108) (by decide +kernel))) rfl
theorem kw_7_109 : (Cond.static yX9_isName) ∈ uG := uG_mem (tb_7 (List.mem_of_getElem? (i := 109) (by decide +kernel))) rfl
theorem kw_7_110 : (Cond.code yX9_isName cX9_isName 1 (some .boolean)) ∈ uG := uG_mem (tb_7 (List.mem_of_getElem? (i := 110) (by decide +kernel))) rfl
theorem kw_7_111 : (Cond.methodLink RX9 135 yX9_declare) ∈ uG := uG_mem (tb_7 (List.mem_of_getElem? (i := 111) (by decide +kernel))) rfl
theorem kw_7_113 : (Cond.instanceMethod yX9_declare) ∈ uG := uG_mem (tb_7 (List.mem_of_getElem? (i := 113) (by decide +kernel))) rfl
theorem kw_7_114 : (Cond.code yX9_declare cX9_declare 6 (some .int)) ∈ uG := uG_mem (tb_7 (List.mem_of_getElem? (i := 114) (by decide +kernel))) rfl
theorem kw_7_115 : (Cond.methodLink RL 93 yX9_parameter) ∈ uG := uG_mem (tb_7 (List.mem_of_getElem? (i := 115) (by decide +kernel))) rfl
theorem kw_7_116 : (Cond.instanceMethod yX9_parameter) ∈ uG := uG_mem (tb_7 (List.mem_of_getElem? (i := 116) (by decide +kernel))) rfl
theorem kw_7_117 : (Cond.selects RX9 yX9_parameter yX9_parameter) ∈ uG := uG_mem (tb_7 (List.mem_of_getElem? (i := 117) (by decide +kernel))) rfl
theorem kw_7_118 : (Cond.code yX9_parameter cX9_parameter 4 (some .int)) ∈ uG := uG_mem (tb_7 (List.mem_of_getElem? (i := 118) (by decide +kernel))) rfl
theorem kw_7_119 : (Cond.methodLink RX9 139 yX9_addPlace) ∈ uG := uG_mem (tb_7 (List.mem_of_getElem? (i := 119) (by decide +kernel))) rfl
theorem kw_7_121 : (Cond.instanceMethod yX9_addPlace) ∈ uG := uG_mem (tb_7 (List.mem_of_getElem? (i := 121) (by decide +kernel))) rfl
theorem kw_7_122 : (Cond.code yX9_addPlace cX9_addPlace 4 (some .int)) ∈ uG := uG_mem (tb_7 (List.mem_of_getElem? (i := 122) (by decide +kernel))) rfl
theorem kw_7_123 : (Cond.methodLink RL 97 yX9_variable) ∈ uG := uG_mem (tb_7 (List.mem_of_getElem? (i := 123) (by decide +kernel))) rfl
theorem kw_7_124 : (Cond.instanceMethod yX9_variable) ∈ uG := uG_mem (tb_7 (List.mem_of_getElem? (i := 124) (by decide +kernel))) rfl
theorem kw_7_125 : (Cond.selects RX9 yX9_variable yX9_variable) ∈ uG := uG_mem (tb_7 (List.mem_of_getElem? (i := 125) (by decide +kernel))) rfl
theorem kw_7_126 : (Cond.code yX9_variable cX9_variable 6 (some .int)) ∈ uG := uG_mem (tb_7 (List.mem_of_getElem? (i := 126) (by decide +kernel))) rfl
theorem kw_7_127 : (Cond.methodLink RL 100 yX9_ofName) ∈ uG := uG_mem (tb_7 (List.mem_of_getElem? (i := 127) (by decide +kernel))) rfl
theorem kw_7_128 : (Cond.instanceMethod yX9_ofName) ∈ uG := uG_mem (tb_7 (List.mem_of_getElem? (i := 128) (by decide +kernel))) rfl
theorem kw_7_129 : (Cond.selects RX9 yX9_ofName yX9_ofName) ∈ uG := uG_mem (tb_7 (List.mem_of_getElem? (i := 129) (by decide +kernel))) rfl
theorem kw_7_130 : (Cond.code yX9_ofName cX9_ofName 5 (some .int)) ∈ uG := uG_mem (tb_7 (List.mem_of_getElem? (i := 130) (by decide +kernel))) rfl
theorem kw_7_131 : (Cond.methodLink RX9 143 yX9_declarer) ∈ uG := uG_mem (tb_7 (List.mem_of_getElem? (i := 131) (by decide +kernel))) rfl
theorem kw_7_133 : (Cond.instanceMethod yX9_declarer) ∈ uG := uG_mem (tb_7 (List.mem_of_getElem? (i := 133) (by decide +kernel))) rfl
theorem kw_7_134 : (Cond.code yX9_declarer cX9_declarer 4 (some .int)) ∈ uG := uG_mem (tb_7 (List.mem_of_getElem? (i := 134) (by decide +kernel))) rfl
theorem kw_7_135 : (Cond.methodLink RX9 147 yX9_hops) ∈ uG := uG_mem (tb_7 (List.mem_of_getElem? (i := 135) (by decide +kernel))) rfl
theorem kw_7_137 : (Cond.instanceMethod yX9_hops) ∈ uG := uG_mem (tb_7 (List.mem_of_getElem? (i := 137) (by decide +kernel))) rfl
theorem kw_7_138 : (Cond.code yX9_hops cX9_hops 5 (some .int)) ∈ uG := uG_mem (tb_7 (List.mem_of_getElem? (i := 138) (by decide +kernel))) rfl
theorem kw_7_139 : (Cond.methodLink RX9 150 yX9_placeIs) ∈ uG := uG_mem (tb_7 (List.mem_of_getElem? (i := 139) (by decide +kernel))) rfl
theorem kw_7_141 : (Cond.instanceMethod yX9_placeIs) ∈ uG := uG_mem (tb_7 (List.mem_of_getElem? (i := 141) (by decide +kernel))) rfl
theorem kw_7_142 : (Cond.code yX9_placeIs cX9_placeIs 3 (some .int)) ∈ uG := uG_mem (tb_7 (List.mem_of_getElem? (i := 142) (by decide +kernel))) rfl
theorem kw_7_143 : (Cond.methodLink RX9 153 yX9_whatIs) ∈ uG := uG_mem (tb_7 (List.mem_of_getElem? (i := 143) (by decide +kernel))) rfl
theorem kw_7_145 : (Cond.instanceMethod yX9_whatIs) ∈ uG := uG_mem (tb_7 (List.mem_of_getElem? (i := 145) (by decide +kernel))) rfl
theorem kw_7_146 : (Cond.code yX9_whatIs cX9_whatIs 4 (some .int)) ∈ uG := uG_mem (tb_7 (List.mem_of_getElem? (i := 146) (by decide +kernel))) rfl
theorem kw_7_147 : (Cond.methodLink RX9 156 yX9_sizeIs) ∈ uG := uG_mem (tb_7 (List.mem_of_getElem? (i := 147) (by decide +kernel))) rfl
theorem kw_7_149 : (Cond.instanceMethod yX9_sizeIs) ∈ uG := uG_mem (tb_7 (List.mem_of_getElem? (i := 149) (by decide +kernel))) rfl
theorem kw_7_150 : (Cond.code yX9_sizeIs cX9_sizeIs 3 (some .int)) ∈ uG := uG_mem (tb_7 (List.mem_of_getElem? (i := 150) (by decide +kernel))) rfl
theorem kw_7_151 : (Cond.methodLink RL 106 yX9_node) ∈ uG := uG_mem (tb_7 (List.mem_of_getElem? (i := 151) (by decide +kernel))) rfl
theorem kw_7_152 : (Cond.instanceMethod yX9_node) ∈ uG := uG_mem (tb_7 (List.mem_of_getElem? (i := 152) (by decide +kernel))) rfl
theorem kw_7_153 : (Cond.selects RX9 yX9_node yX9_node) ∈ uG := uG_mem (tb_7 (List.mem_of_getElem? (i := 153) (by decide +kernel))) rfl
theorem kw_7_154 : (Cond.code yX9_node cX9_node 6 (some .int)) ∈ uG := uG_mem (tb_7 (List.mem_of_getElem? (i := 154) (by decide +kernel))) rfl
theorem kw_7_155 : (Cond.methodLink RX9 187 yX9_canBe) ∈ uG := uG_mem (tb_7 (List.mem_of_getElem? (i := 155) (by decide +kernel))) rfl
theorem kw_7_157 : (Cond.instanceMethod yX9_canBe) ∈ uG := uG_mem (tb_7 (List.mem_of_getElem? (i := 157) (by decide +kernel))) rfl
theorem kw_7_158 : (Cond.code yX9_canBe cX9_canBe 5 (some .boolean)) ∈ uG := uG_mem (tb_7 (List.mem_of_getElem? (i := 158) (by decide +kernel))) rfl
theorem kw_7_159 : (Cond.methodLink RX9 171 yX9_isFreeExpression) ∈ uG := uG_mem (tb_7 (List.mem_of_getElem? (i := 159) (by decide +kernel))) rfl
theorem kw_7_161 : (Cond.instanceMethod yX9_isFreeExpression) ∈ uG := uG_mem (tb_7 (List.mem_of_getElem? (i := 161) (by decide +kernel))) rfl
theorem kw_7_162 : (Cond.code yX9_isFreeExpression cX9_isFreeExpression 2 (some .boolean)) ∈ uG := uG_mem (tb_7 (List.mem_of_getElem? (i := 162) (by decide +kernel))) rfl
theorem kw_7_163 : (Cond.methodLink RX9 162 yX9_isFree) ∈ uG := uG_mem (tb_7 (List.mem_of_getElem? (i := 163) (by decide +kernel))) rfl
theorem kw_7_165 : (Cond.instanceMethod yX9_isFree) ∈ uG := uG_mem (tb_7 (List.mem_of_getElem? (i := 165) (by decide +kernel))) rfl
theorem kw_7_166 : (Cond.code yX9_isFree cX9_isFree 2 (some .boolean)) ∈ uG := uG_mem (tb_7 (List.mem_of_getElem? (i := 166) (by decide +kernel))) rfl
theorem kw_7_167 : (Cond.methodLink RX9 159 yX9_isNode) ∈ uG := uG_mem (tb_7 (List.mem_of_getElem? (i := 167) (by decide +kernel))) rfl
theorem kw_7_169 : (Cond.instanceMethod yX9_isNode) ∈ uG := uG_mem (tb_7 (List.mem_of_getElem? (i := 169) (by decide +kernel))) rfl
theorem kw_7_170 : (Cond.code yX9_isNode cX9_isNode 2 (some .boolean)) ∈ uG := uG_mem (tb_7 (List.mem_of_getElem? (i := 170) (by decide +kernel))) rfl
theorem kw_7_171 : (Cond.methodLink RX9 165 yX9_isExpression) ∈ uG := uG_mem (tb_7 (List.mem_of_getElem? (i := 171) (by decide +kernel))) rfl
theorem kw_7_172 : (Cond.static yX9_isExpression) ∈ uG := uG_mem (tb_7 (List.mem_of_getElem? (i := 172) (by decide +kernel))) rfl
theorem kw_7_173 : (Cond.code yX9_isExpression cX9_isExpression 1 (some .boolean)) ∈ uG := uG_mem (tb_7 (List.mem_of_getElem? (i := 173) (by decide +kernel))) rfl
theorem kw_7_174 : (Cond.methodLink RX9 174 yX9_isArgument) ∈ uG := uG_mem (tb_7 (List.mem_of_getElem? (i := 174) (by decide +kernel))) rfl
theorem kw_7_176 : (Cond.instanceMethod yX9_isArgument) ∈ uG := uG_mem (tb_7 (List.mem_of_getElem? (i := 176) (by decide +kernel))) rfl
theorem kw_7_177 : (Cond.code yX9_isArgument cX9_isArgument 2 (some .boolean)) ∈ uG := uG_mem (tb_7 (List.mem_of_getElem? (i := 177) (by decide +kernel))) rfl
theorem kw_7_178 : (Cond.methodLink RX9 177 yX9_isFreeStatement) ∈ uG := uG_mem (tb_7 (List.mem_of_getElem? (i := 178) (by decide +kernel))) rfl
theorem kw_7_180 : (Cond.instanceMethod yX9_isFreeStatement) ∈ uG := uG_mem (tb_7 (List.mem_of_getElem? (i := 180) (by decide +kernel))) rfl
theorem kw_7_181 : (Cond.code yX9_isFreeStatement cX9_isFreeStatement 2 (some .boolean)) ∈ uG := uG_mem (tb_7 (List.mem_of_getElem? (i := 181) (by decide +kernel))) rfl
theorem kw_7_182 : (Cond.methodLink RX9 168 yX9_isStatement) ∈ uG := uG_mem (tb_7 (List.mem_of_getElem? (i := 182) (by decide +kernel))) rfl
theorem kw_7_183 : (Cond.static yX9_isStatement) ∈ uG := uG_mem (tb_7 (List.mem_of_getElem? (i := 183) (by decide +kernel))) rfl
theorem kw_7_184 : (Cond.code yX9_isStatement cX9_isStatement 1 (some .boolean)) ∈ uG := uG_mem (tb_7 (List.mem_of_getElem? (i := 184) (by decide +kernel))) rfl
theorem kw_7_185 : (Cond.methodLink RX9 191 yX9_part) ∈ uG := uG_mem (tb_7 (List.mem_of_getElem? (i := 185) (by decide +kernel))) rfl
theorem kw_7_187 : (Cond.instanceMethod yX9_part) ∈ uG := uG_mem (tb_7 (List.mem_of_getElem? (i := 187) (by decide +kernel))) rfl
theorem kw_7_188 : (Cond.code yX9_part cX9_part 3 (some .int)) ∈ uG := uG_mem (tb_7 (List.mem_of_getElem? (i := 188) (by decide +kernel))) rfl
theorem kw_7_189 : (Cond.methodLink RX9 180 yX9_parts) ∈ uG := uG_mem (tb_7 (List.mem_of_getElem? (i := 189) (by decide +kernel))) rfl
theorem kw_7_190 : (Cond.static yX9_parts) ∈ uG := uG_mem (tb_7 (List.mem_of_getElem? (i := 190) (by decide +kernel))) rfl
theorem kw_7_191 : (Cond.code yX9_parts cX9_parts 1 (some .int)) ∈ uG := uG_mem (tb_7 (List.mem_of_getElem? (i := 191) (by decide +kernel))) rfl
theorem kw_7_192 : (Cond.methodLink RX9 183 yX9_has) ∈ uG := uG_mem (tb_7 (List.mem_of_getElem? (i := 192) (by decide +kernel))) rfl
theorem kw_7_193 : (Cond.static yX9_has) ∈ uG := uG_mem (tb_7 (List.mem_of_getElem? (i := 193) (by decide +kernel))) rfl
theorem kw_7_194 : (Cond.code yX9_has cX9_has 2 (some .boolean)) ∈ uG := uG_mem (tb_7 (List.mem_of_getElem? (i := 194) (by decide +kernel))) rfl
theorem kw_7_195 : (Cond.methodLink RL 109 yX9_body) ∈ uG := uG_mem (tb_7 (List.mem_of_getElem? (i := 195) (by decide +kernel))) rfl
theorem kw_7_196 : (Cond.instanceMethod yX9_body) ∈ uG := uG_mem (tb_7 (List.mem_of_getElem? (i := 196) (by decide +kernel))) rfl
theorem kw_7_197 : (Cond.selects RX9 yX9_body yX9_body) ∈ uG := uG_mem (tb_7 (List.mem_of_getElem? (i := 197) (by decide +kernel))) rfl
theorem kw_7_198 : (Cond.code yX9_body cX9_body 4 (some .int)) ∈ uG := uG_mem (tb_7 (List.mem_of_getElem? (i := 198) (by decide +kernel))) rfl
theorem kw_7_199 : (Cond.methodLink RL 103 yX9_ofProcedure) ∈ uG := uG_mem (tb_7 (List.mem_of_getElem? (i := 199) (by decide +kernel))) rfl
theorem kw_7_200 : (Cond.instanceMethod yX9_ofProcedure) ∈ uG := uG_mem (tb_7 (List.mem_of_getElem? (i := 200) (by decide +kernel))) rfl
theorem kw_7_201 : (Cond.selects RX9 yX9_ofProcedure yX9_ofProcedure) ∈ uG := uG_mem (tb_7 (List.mem_of_getElem? (i := 201) (by decide +kernel))) rfl
theorem kw_7_202 : (Cond.code yX9_ofProcedure cX9_ofProcedure 3 (some .int)) ∈ uG := uG_mem (tb_7 (List.mem_of_getElem? (i := 202) (by decide +kernel))) rfl
theorem kw_7_203 : (Cond.methodLink RX9 234 yX9_ofProcedureNow) ∈ uG := uG_mem (tb_7 (List.mem_of_getElem? (i := 203) (by decide +kernel))) rfl
theorem kw_7_205 : (Cond.instanceMethod yX9_ofProcedureNow) ∈ uG := uG_mem (tb_7 (List.mem_of_getElem? (i := 205) (by decide +kernel))) rfl
theorem kw_7_206 : (Cond.code yX9_ofProcedureNow cX9_ofProcedureNow 3 (some .int)) ∈ uG := uG_mem (tb_7 (List.mem_of_getElem? (i := 206) (by decide +kernel))) rfl
theorem kw_7_207 : (Cond.methodLink RX9 224 yX9_escapes) ∈ uG := uG_mem (tb_7 (List.mem_of_getElem? (i := 207) (by decide +kernel))) rfl
theorem kw_7_209 : (Cond.instanceMethod yX9_escapes) ∈ uG := uG_mem (tb_7 (List.mem_of_getElem? (i := 209) (by decide +kernel))) rfl
theorem kw_7_210 : (Cond.code yX9_escapes cX9_escapes 4 (some .int)) ∈ uG := uG_mem (tb_7 (List.mem_of_getElem? (i := 210) (by decide +kernel))) rfl
theorem kw_7_211 : (Cond.methodLink RX9 200 yX9_hasName) ∈ uG := uG_mem (tb_7 (List.mem_of_getElem? (i := 211) (by decide +kernel))) rfl
theorem kw_7_212 : (Cond.static yX9_hasName) ∈ uG := uG_mem (tb_7 (List.mem_of_getElem? (i := 212) (by decide +kernel))) rfl
theorem kw_7_213 : (Cond.code yX9_hasName cX9_hasName 1 (some .boolean)) ∈ uG := uG_mem (tb_7 (List.mem_of_getElem? (i := 213) (by decide +kernel))) rfl
theorem kw_7_214 : (Cond.methodLink RX9 194 yX9_in) ∈ uG := uG_mem (tb_7 (List.mem_of_getElem? (i := 214) (by decide +kernel))) rfl
theorem kw_7_216 : (Cond.instanceMethod yX9_in) ∈ uG := uG_mem (tb_7 (List.mem_of_getElem? (i := 216) (by decide +kernel))) rfl
theorem kw_7_217 : (Cond.code yX9_in cX9_in 3 (some .int)) ∈ uG := uG_mem (tb_7 (List.mem_of_getElem? (i := 217) (by decide +kernel))) rfl
theorem kw_7_218 : (Cond.methodLink RX9 203 yX9_isInside) ∈ uG := uG_mem (tb_7 (List.mem_of_getElem? (i := 218) (by decide +kernel))) rfl
theorem kw_7_220 : (Cond.instanceMethod yX9_isInside) ∈ uG := uG_mem (tb_7 (List.mem_of_getElem? (i := 220) (by decide +kernel))) rfl
theorem kw_7_221 : (Cond.code yX9_isInside cX9_isInside 4 (some .boolean)) ∈ uG := uG_mem (tb_7 (List.mem_of_getElem? (i := 221) (by decide +kernel))) rfl
theorem kw_7_222 : (Cond.methodLink RX9 206 yX9_isReached) ∈ uG := uG_mem (tb_7 (List.mem_of_getElem? (i := 222) (by decide +kernel))) rfl
theorem kw_7_224 : (Cond.instanceMethod yX9_isReached) ∈ uG := uG_mem (tb_7 (List.mem_of_getElem? (i := 224) (by decide +kernel))) rfl
theorem kw_7_225 : (Cond.code yX9_isReached cX9_isReached 4 (some .boolean)) ∈ uG := uG_mem (tb_7 (List.mem_of_getElem? (i := 225) (by decide +kernel))) rfl
theorem kw_7_226 : (Cond.methodLink RX9 197 yX9_isHandedOn) ∈ uG := uG_mem (tb_7 (List.mem_of_getElem? (i := 226) (by decide +kernel))) rfl
theorem kw_7_228 : (Cond.instanceMethod yX9_isHandedOn) ∈ uG := uG_mem (tb_7 (List.mem_of_getElem? (i := 228) (by decide +kernel))) rfl
theorem kw_7_229 : (Cond.code yX9_isHandedOn cX9_isHandedOn 3 (some .boolean)) ∈ uG := uG_mem (tb_7 (List.mem_of_getElem? (i := 229) (by decide +kernel))) rfl
theorem kw_7_230 : (Cond.methodLink RX9 227 yX9_faults) ∈ uG := uG_mem (tb_7 (List.mem_of_getElem? (i := 230) (by decide +kernel))) rfl
theorem kw_7_232 : (Cond.instanceMethod yX9_faults) ∈ uG := uG_mem (tb_7 (List.mem_of_getElem? (i := 232) (by decide +kernel))) rfl
theorem kw_7_233 : (Cond.code yX9_faults cX9_faults 1 (some .int)) ∈ uG := uG_mem (tb_7 (List.mem_of_getElem? (i := 233) (by decide +kernel))) rfl
theorem kw_7_234 : (Cond.methodLink RX9 280 yX9_lookFor) ∈ uG := uG_mem (tb_7 (List.mem_of_getElem? (i := 234) (by decide +kernel))) rfl
theorem kw_7_236 : (Cond.instanceMethod yX9_lookFor) ∈ uG := uG_mem (tb_7 (List.mem_of_getElem? (i := 236) (by decide +kernel))) rfl
theorem kw_7_237 : (Cond.code yX9_lookFor cX9_lookFor 10 (some .int)) ∈ uG := uG_mem (tb_7 (List.mem_of_getElem? (i := 237) (by decide +kernel))) rfl
theorem kw_7_238 : (Cond.methodLink RX9 277 yX9_faultOf) ∈ uG := uG_mem (tb_7 (List.mem_of_getElem? (i := 238) (by decide +kernel))) rfl
theorem kw_8_0 : (Cond.instanceMethod yX9_faultOf) ∈ uG := uG_mem (tb_8 (List.mem_of_getElem? (i := 0) (by decide +kernel))) rfl
theorem kw_8_1 : (Cond.code yX9_faultOf cX9_faultOf 5 (some .int)) ∈ uG := uG_mem (tb_8 (List.mem_of_getElem? (i := 1) (by decide +kernel))) rfl
theorem kw_8_2 : (Cond.methodLink RX9 264 yX9_isLoopAround) ∈ uG := uG_mem (tb_8 (List.mem_of_getElem? (i := 2) (by decide +kernel))) rfl
theorem kw_8_4 : (Cond.instanceMethod yX9_isLoopAround) ∈ uG := uG_mem (tb_8 (List.mem_of_getElem? (i := 4) (by decide +kernel))) rfl
theorem kw_8_5 : (Cond.code yX9_isLoopAround cX9_isLoopAround 3 (some .boolean)) ∈ uG := uG_mem (tb_8 (List.mem_of_getElem? (i := 5) (by decide +kernel))) rfl
theorem kw_8_6 : (Cond.methodLink RX9 243 yX9_loopAround) ∈ uG := uG_mem (tb_8 (List.mem_of_getElem? (i := 6) (by decide +kernel))) rfl
theorem kw_8_8 : (Cond.instanceMethod yX9_loopAround) ∈ uG := uG_mem (tb_8 (List.mem_of_getElem? (i := 8) (by decide +kernel))) rfl
theorem kw_8_9 : (Cond.code yX9_loopAround cX9_loopAround 4 (some .int)) ∈ uG := uG_mem (tb_8 (List.mem_of_getElem? (i := 9) (by decide +kernel))) rfl
theorem kw_8_10 : (Cond.methodLink RX9 267 yX9_loopOutside) ∈ uG := uG_mem (tb_8 (List.mem_of_getElem? (i := 10) (by decide +kernel))) rfl
theorem kw_8_12 : (Cond.instanceMethod yX9_loopOutside) ∈ uG := uG_mem (tb_8 (List.mem_of_getElem? (i := 12) (by decide +kernel))) rfl
theorem kw_8_13 : (Cond.code yX9_loopOutside cX9_loopOutside 4 (some .int)) ∈ uG := uG_mem (tb_8 (List.mem_of_getElem? (i := 13) (by decide +kernel))) rfl
theorem kw_8_14 : (Cond.methodLink RX9 246 yX9_hasLoop) ∈ uG := uG_mem (tb_8 (List.mem_of_getElem? (i := 14) (by decide +kernel))) rfl
theorem kw_8_16 : (Cond.instanceMethod yX9_hasLoop) ∈ uG := uG_mem (tb_8 (List.mem_of_getElem? (i := 16) (by decide +kernel))) rfl
theorem kw_8_17 : (Cond.code yX9_hasLoop cX9_hasLoop 4 (some .boolean)) ∈ uG := uG_mem (tb_8 (List.mem_of_getElem? (i := 17) (by decide +kernel))) rfl
theorem kw_8_18 : (Cond.methodLink RX9 270 yX9_nameFault) ∈ uG := uG_mem (tb_8 (List.mem_of_getElem? (i := 18) (by decide +kernel))) rfl
theorem kw_8_20 : (Cond.instanceMethod yX9_nameFault) ∈ uG := uG_mem (tb_8 (List.mem_of_getElem? (i := 20) (by decide +kernel))) rfl
theorem kw_8_21 : (Cond.code yX9_nameFault cX9_nameFault 6 (some .int)) ∈ uG := uG_mem (tb_8 (List.mem_of_getElem? (i := 21) (by decide +kernel))) rfl
theorem kw_8_22 : (Cond.methodLink RX9 249 yX9_canBeSet) ∈ uG := uG_mem (tb_8 (List.mem_of_getElem? (i := 22) (by decide +kernel))) rfl
theorem kw_8_23 : (Cond.static yX9_canBeSet) ∈ uG := uG_mem (tb_8 (List.mem_of_getElem? (i := 23) (by decide +kernel))) rfl
theorem kw_8_24 : (Cond.code yX9_canBeSet cX9_canBeSet 1 (some .boolean)) ∈ uG := uG_mem (tb_8 (List.mem_of_getElem? (i := 24) (by decide +kernel))) rfl
theorem kw_8_25 : (Cond.methodLink RX9 221 yX9_areValues) ∈ uG := uG_mem (tb_8 (List.mem_of_getElem? (i := 25) (by decide +kernel))) rfl
theorem kw_8_27 : (Cond.instanceMethod yX9_areValues) ∈ uG := uG_mem (tb_8 (List.mem_of_getElem? (i := 27) (by decide +kernel))) rfl
theorem kw_8_28 : (Cond.code yX9_areValues cX9_areValues 3 (some .boolean)) ∈ uG := uG_mem (tb_8 (List.mem_of_getElem? (i := 28) (by decide +kernel))) rfl
theorem kw_8_29 : (Cond.methodLink RX9 252 yX9_isArray) ∈ uG := uG_mem (tb_8 (List.mem_of_getElem? (i := 29) (by decide +kernel))) rfl
theorem kw_8_30 : (Cond.static yX9_isArray) ∈ uG := uG_mem (tb_8 (List.mem_of_getElem? (i := 30) (by decide +kernel))) rfl
theorem kw_8_31 : (Cond.code yX9_isArray cX9_isArray 1 (some .boolean)) ∈ uG := uG_mem (tb_8 (List.mem_of_getElem? (i := 31) (by decide +kernel))) rfl
theorem kw_8_32 : (Cond.methodLink RX9 274 yX9_callFault) ∈ uG := uG_mem (tb_8 (List.mem_of_getElem? (i := 32) (by decide +kernel))) rfl
theorem kw_8_34 : (Cond.instanceMethod yX9_callFault) ∈ uG := uG_mem (tb_8 (List.mem_of_getElem? (i := 34) (by decide +kernel))) rfl
theorem kw_8_35 : (Cond.code yX9_callFault cX9_callFault 6 (some .int)) ∈ uG := uG_mem (tb_8 (List.mem_of_getElem? (i := 35) (by decide +kernel))) rfl
theorem kw_8_36 : (Cond.methodLink RX9 255 yX9_count) ∈ uG := uG_mem (tb_8 (List.mem_of_getElem? (i := 36) (by decide +kernel))) rfl
theorem kw_8_38 : (Cond.instanceMethod yX9_count) ∈ uG := uG_mem (tb_8 (List.mem_of_getElem? (i := 38) (by decide +kernel))) rfl
theorem kw_8_39 : (Cond.code yX9_count cX9_count 4 (some .int)) ∈ uG := uG_mem (tb_8 (List.mem_of_getElem? (i := 39) (by decide +kernel))) rfl
theorem kw_8_40 : (Cond.methodLink RX9 258 yX9_modeOf) ∈ uG := uG_mem (tb_8 (List.mem_of_getElem? (i := 40) (by decide +kernel))) rfl
theorem kw_8_42 : (Cond.instanceMethod yX9_modeOf) ∈ uG := uG_mem (tb_8 (List.mem_of_getElem? (i := 42) (by decide +kernel))) rfl
theorem kw_8_43 : (Cond.code yX9_modeOf cX9_modeOf 4 (some .int)) ∈ uG := uG_mem (tb_8 (List.mem_of_getElem? (i := 43) (by decide +kernel))) rfl
theorem kw_8_44 : (Cond.methodLink RX9 261 yX9_suits) ∈ uG := uG_mem (tb_8 (List.mem_of_getElem? (i := 44) (by decide +kernel))) rfl
theorem kw_8_46 : (Cond.instanceMethod yX9_suits) ∈ uG := uG_mem (tb_8 (List.mem_of_getElem? (i := 46) (by decide +kernel))) rfl
theorem kw_8_47 : (Cond.code yX9_suits cX9_suits 4 (some .boolean)) ∈ uG := uG_mem (tb_8 (List.mem_of_getElem? (i := 47) (by decide +kernel))) rfl
theorem kw_8_48 : (Cond.methodLink RX9 231 yX9_length) ∈ uG := uG_mem (tb_8 (List.mem_of_getElem? (i := 48) (by decide +kernel))) rfl
theorem kw_8_50 : (Cond.instanceMethod yX9_length) ∈ uG := uG_mem (tb_8 (List.mem_of_getElem? (i := 50) (by decide +kernel))) rfl
theorem kw_8_51 : (Cond.code yX9_length cX9_length 3 (some .int)) ∈ uG := uG_mem (tb_8 (List.mem_of_getElem? (i := 51) (by decide +kernel))) rfl
theorem kw_8_52 : (Cond.methodLink RX9 325 yX9_writeAll) ∈ uG := uG_mem (tb_8 (List.mem_of_getElem? (i := 52) (by decide +kernel))) rfl
theorem kw_8_54 : (Cond.instanceMethod yX9_writeAll) ∈ uG := uG_mem (tb_8 (List.mem_of_getElem? (i := 54) (by decide +kernel))) rfl
theorem kw_8_55 : (Cond.code yX9_writeAll cX9_writeAll 4 none) ∈ uG := uG_mem (tb_8 (List.mem_of_getElem? (i := 55) (by decide +kernel))) rfl
theorem kw_8_56 : (Cond.methodLink RX9 319 yX9_write) ∈ uG := uG_mem (tb_8 (List.mem_of_getElem? (i := 56) (by decide +kernel))) rfl
theorem kw_8_58 : (Cond.instanceMethod yX9_write) ∈ uG := uG_mem (tb_8 (List.mem_of_getElem? (i := 58) (by decide +kernel))) rfl
theorem kw_8_59 : (Cond.code yX9_write cX9_write 7 none) ∈ uG := uG_mem (tb_8 (List.mem_of_getElem? (i := 59) (by decide +kernel))) rfl
theorem kw_8_60 : (Cond.methodLink RX9 292 yX9_emit) ∈ uG := uG_mem (tb_8 (List.mem_of_getElem? (i := 60) (by decide +kernel))) rfl
theorem kw_8_62 : (Cond.instanceMethod yX9_emit) ∈ uG := uG_mem (tb_8 (List.mem_of_getElem? (i := 62) (by decide +kernel))) rfl
theorem kw_8_63 : (Cond.code yX9_emit cX9_emit 5 none) ∈ uG := uG_mem (tb_8 (List.mem_of_getElem? (i := 63) (by decide +kernel))) rfl
theorem kw_8_64 : (Cond.methodLink RX9 286 ⟨"java/lang/System", "arraycopy", "(Ljava/lang/Object;ILjava/lang/Object;II)V"⟩) ∈ uG := uG_mem (tb_8 (List.mem_of_getElem? (i := 64) (by decide +kernel))) rfl
theorem kw_8_65 : (Cond.methodLink RX9 296 yX9_named) ∈ uG := uG_mem (tb_8 (List.mem_of_getElem? (i := 65) (by decide +kernel))) rfl
theorem kw_8_67 : (Cond.instanceMethod yX9_named) ∈ uG := uG_mem (tb_8 (List.mem_of_getElem? (i := 67) (by decide +kernel))) rfl
theorem kw_8_68 : (Cond.code yX9_named cX9_named 4 none) ∈ uG := uG_mem (tb_8 (List.mem_of_getElem? (i := 68) (by decide +kernel))) rfl
theorem kw_8_69 : (Cond.methodLink RX9 298 yX9_writeCall) ∈ uG := uG_mem (tb_8 (List.mem_of_getElem? (i := 69) (by decide +kernel))) rfl
theorem kw_8_71 : (Cond.instanceMethod yX9_writeCall) ∈ uG := uG_mem (tb_8 (List.mem_of_getElem? (i := 71) (by decide +kernel))) rfl
theorem kw_8_72 : (Cond.code yX9_writeCall cX9_writeCall 6 none) ∈ uG := uG_mem (tb_8 (List.mem_of_getElem? (i := 72) (by decide +kernel))) rfl
theorem kw_8_73 : (Cond.methodLink RX9 322 yX9_writeArgument) ∈ uG := uG_mem (tb_8 (List.mem_of_getElem? (i := 73) (by decide +kernel))) rfl
theorem kw_8_75 : (Cond.instanceMethod yX9_writeArgument) ∈ uG := uG_mem (tb_8 (List.mem_of_getElem? (i := 75) (by decide +kernel))) rfl
theorem kw_8_76 : (Cond.code yX9_writeArgument cX9_writeArgument 6 none) ∈ uG := uG_mem (tb_8 (List.mem_of_getElem? (i := 76) (by decide +kernel))) rfl
theorem kw_8_77 : (Cond.methodLink RX9 302 yX9_routine) ∈ uG := uG_mem (tb_8 (List.mem_of_getElem? (i := 77) (by decide +kernel))) rfl
theorem kw_8_79 : (Cond.instanceMethod yX9_routine) ∈ uG := uG_mem (tb_8 (List.mem_of_getElem? (i := 79) (by decide +kernel))) rfl
theorem kw_8_80 : (Cond.code yX9_routine cX9_routine 4 none) ∈ uG := uG_mem (tb_8 (List.mem_of_getElem? (i := 80) (by decide +kernel))) rfl
theorem kw_8_81 : (Cond.methodLink RX9 305 yX9_writeTurn) ∈ uG := uG_mem (tb_8 (List.mem_of_getElem? (i := 81) (by decide +kernel))) rfl
theorem kw_8_83 : (Cond.instanceMethod yX9_writeTurn) ∈ uG := uG_mem (tb_8 (List.mem_of_getElem? (i := 83) (by decide +kernel))) rfl
theorem kw_8_84 : (Cond.code yX9_writeTurn cX9_writeTurn 7 none) ∈ uG := uG_mem (tb_8 (List.mem_of_getElem? (i := 84) (by decide +kernel))) rfl
theorem kw_8_85 : (Cond.methodLink RX9 309 yX9_writeSimple) ∈ uG := uG_mem (tb_8 (List.mem_of_getElem? (i := 85) (by decide +kernel))) rfl
theorem kw_8_87 : (Cond.instanceMethod yX9_writeSimple) ∈ uG := uG_mem (tb_8 (List.mem_of_getElem? (i := 87) (by decide +kernel))) rfl
theorem kw_8_88 : (Cond.code yX9_writeSimple cX9_writeSimple 4 none) ∈ uG := uG_mem (tb_8 (List.mem_of_getElem? (i := 88) (by decide +kernel))) rfl
theorem kw_8_89 : (Cond.methodLink RX9 209 yX9_isFolded) ∈ uG := uG_mem (tb_8 (List.mem_of_getElem? (i := 89) (by decide +kernel))) rfl
theorem kw_8_91 : (Cond.instanceMethod yX9_isFolded) ∈ uG := uG_mem (tb_8 (List.mem_of_getElem? (i := 91) (by decide +kernel))) rfl
theorem kw_8_92 : (Cond.code yX9_isFolded cX9_isFolded 2 (some .boolean)) ∈ uG := uG_mem (tb_8 (List.mem_of_getElem? (i := 92) (by decide +kernel))) rfl
theorem kw_8_93 : (Cond.methodLink RX9 212 yX9_isPlain) ∈ uG := uG_mem (tb_8 (List.mem_of_getElem? (i := 93) (by decide +kernel))) rfl
theorem kw_8_95 : (Cond.instanceMethod yX9_isPlain) ∈ uG := uG_mem (tb_8 (List.mem_of_getElem? (i := 95) (by decide +kernel))) rfl
theorem kw_8_96 : (Cond.code yX9_isPlain cX9_isPlain 2 (some .boolean)) ∈ uG := uG_mem (tb_8 (List.mem_of_getElem? (i := 96) (by decide +kernel))) rfl
theorem kw_8_97 : (Cond.methodLink RX9 215 yX9_plain) ∈ uG := uG_mem (tb_8 (List.mem_of_getElem? (i := 97) (by decide +kernel))) rfl
theorem kw_8_99 : (Cond.instanceMethod yX9_plain) ∈ uG := uG_mem (tb_8 (List.mem_of_getElem? (i := 99) (by decide +kernel))) rfl
theorem kw_8_100 : (Cond.code yX9_plain cX9_plain 2 (some .int)) ∈ uG := uG_mem (tb_8 (List.mem_of_getElem? (i := 100) (by decide +kernel))) rfl
theorem kw_8_101 : (Cond.methodLink RX9 218 yX9_reckon) ∈ uG := uG_mem (tb_8 (List.mem_of_getElem? (i := 101) (by decide +kernel))) rfl
theorem kw_8_102 : (Cond.static yX9_reckon) ∈ uG := uG_mem (tb_8 (List.mem_of_getElem? (i := 102) (by decide +kernel))) rfl
theorem kw_8_103 : (Cond.code yX9_reckon cX9_reckon 3 (some .int)) ∈ uG := uG_mem (tb_8 (List.mem_of_getElem? (i := 103) (by decide +kernel))) rfl
theorem kw_8_104 : (Cond.methodLink RX9 312 yX9_beginWith) ∈ uG := uG_mem (tb_8 (List.mem_of_getElem? (i := 104) (by decide +kernel))) rfl
theorem kw_8_106 : (Cond.instanceMethod yX9_beginWith) ∈ uG := uG_mem (tb_8 (List.mem_of_getElem? (i := 106) (by decide +kernel))) rfl
theorem kw_8_107 : (Cond.code yX9_beginWith cX9_beginWith 3 none) ∈ uG := uG_mem (tb_8 (List.mem_of_getElem? (i := 107) (by decide +kernel))) rfl
theorem kw_8_108 : (Cond.methodLink RX9 237 yX9_isTail) ∈ uG := uG_mem (tb_8 (List.mem_of_getElem? (i := 108) (by decide +kernel))) rfl
theorem kw_8_110 : (Cond.instanceMethod yX9_isTail) ∈ uG := uG_mem (tb_8 (List.mem_of_getElem? (i := 110) (by decide +kernel))) rfl
theorem kw_8_111 : (Cond.code yX9_isTail cX9_isTail 4 (some .boolean)) ∈ uG := uG_mem (tb_8 (List.mem_of_getElem? (i := 111) (by decide +kernel))) rfl
theorem kw_8_112 : (Cond.methodLink RL 112 yX9_ofNode) ∈ uG := uG_mem (tb_8 (List.mem_of_getElem? (i := 112) (by decide +kernel))) rfl
theorem kw_8_113 : (Cond.instanceMethod yX9_ofNode) ∈ uG := uG_mem (tb_8 (List.mem_of_getElem? (i := 113) (by decide +kernel))) rfl
theorem kw_8_114 : (Cond.selects RX9 yX9_ofNode yX9_ofNode) ∈ uG := uG_mem (tb_8 (List.mem_of_getElem? (i := 114) (by decide +kernel))) rfl
theorem kw_8_115 : (Cond.code yX9_ofNode cX9_ofNode 3 (some .int)) ∈ uG := uG_mem (tb_8 (List.mem_of_getElem? (i := 115) (by decide +kernel))) rfl
theorem kw_8_116 : (Cond.methodLink RX9 240 yX9_ofNodeNow) ∈ uG := uG_mem (tb_8 (List.mem_of_getElem? (i := 116) (by decide +kernel))) rfl
theorem kw_8_118 : (Cond.instanceMethod yX9_ofNodeNow) ∈ uG := uG_mem (tb_8 (List.mem_of_getElem? (i := 118) (by decide +kernel))) rfl
theorem kw_8_119 : (Cond.code yX9_ofNodeNow cX9_ofNodeNow 4 (some .int)) ∈ uG := uG_mem (tb_8 (List.mem_of_getElem? (i := 119) (by decide +kernel))) rfl
theorem kw_8_120 : (Cond.methodLink RL 115 yX9_fault) ∈ uG := uG_mem (tb_8 (List.mem_of_getElem? (i := 120) (by decide +kernel))) rfl
theorem kw_8_121 : (Cond.instanceMethod yX9_fault) ∈ uG := uG_mem (tb_8 (List.mem_of_getElem? (i := 121) (by decide +kernel))) rfl
theorem kw_8_122 : (Cond.selects RX9 yX9_fault yX9_fault) ∈ uG := uG_mem (tb_8 (List.mem_of_getElem? (i := 122) (by decide +kernel))) rfl
theorem kw_8_123 : (Cond.code yX9_fault cX9_fault 3 (some .int)) ∈ uG := uG_mem (tb_8 (List.mem_of_getElem? (i := 123) (by decide +kernel))) rfl
theorem kw_8_124 : (Cond.methodLink RL 119 yX9_passes) ∈ uG := uG_mem (tb_8 (List.mem_of_getElem? (i := 124) (by decide +kernel))) rfl
theorem kw_8_125 : (Cond.instanceMethod yX9_passes) ∈ uG := uG_mem (tb_8 (List.mem_of_getElem? (i := 125) (by decide +kernel))) rfl
theorem kw_8_126 : (Cond.selects RX9 yX9_passes yX9_passes) ∈ uG := uG_mem (tb_8 (List.mem_of_getElem? (i := 126) (by decide +kernel))) rfl
theorem kw_8_127 : (Cond.code yX9_passes cX9_passes 3 (some .int)) ∈ uG := uG_mem (tb_8 (List.mem_of_getElem? (i := 127) (by decide +kernel))) rfl
theorem kw_8_128 : (Cond.methodLink RL 122 yX9_code) ∈ uG := uG_mem (tb_8 (List.mem_of_getElem? (i := 128) (by decide +kernel))) rfl
theorem kw_8_129 : (Cond.instanceMethod yX9_code) ∈ uG := uG_mem (tb_8 (List.mem_of_getElem? (i := 129) (by decide +kernel))) rfl
theorem kw_8_130 : (Cond.selects RX9 yX9_code yX9_code) ∈ uG := uG_mem (tb_8 (List.mem_of_getElem? (i := 130) (by decide +kernel))) rfl
theorem kw_8_131 : (Cond.code yX9_code cX9_code 4 (some .int)) ∈ uG := uG_mem (tb_8 (List.mem_of_getElem? (i := 131) (by decide +kernel))) rfl
theorem kw_8_132 : (Cond.methodLink RX9 328 yX9_instruction) ∈ uG := uG_mem (tb_8 (List.mem_of_getElem? (i := 132) (by decide +kernel))) rfl
theorem kw_8_134 : (Cond.instanceMethod yX9_instruction) ∈ uG := uG_mem (tb_8 (List.mem_of_getElem? (i := 134) (by decide +kernel))) rfl
theorem kw_8_135 : (Cond.code yX9_instruction cX9_instruction 5 (some .int)) ∈ uG := uG_mem (tb_8 (List.mem_of_getElem? (i := 135) (by decide +kernel))) rfl
theorem kw_8_136 : (Cond.methodLink RL 125 yX9_limits) ∈ uG := uG_mem (tb_8 (List.mem_of_getElem? (i := 136) (by decide +kernel))) rfl
theorem kw_8_137 : (Cond.instanceMethod yX9_limits) ∈ uG := uG_mem (tb_8 (List.mem_of_getElem? (i := 137) (by decide +kernel))) rfl
theorem kw_8_138 : (Cond.selects RX9 yX9_limits yX9_limits) ∈ uG := uG_mem (tb_8 (List.mem_of_getElem? (i := 138) (by decide +kernel))) rfl
theorem kw_8_139 : (Cond.code yX9_limits cX9_limits 4 (some .int)) ∈ uG := uG_mem (tb_8 (List.mem_of_getElem? (i := 139) (by decide +kernel))) rfl
theorem kw_8_140 : (Cond.methodLink RL 129 yX9_run) ∈ uG := uG_mem (tb_8 (List.mem_of_getElem? (i := 140) (by decide +kernel))) rfl
theorem kw_8_141 : (Cond.instanceMethod yX9_run) ∈ uG := uG_mem (tb_8 (List.mem_of_getElem? (i := 141) (by decide +kernel))) rfl
theorem kw_8_142 : (Cond.selects RX9 yX9_run yX9_run) ∈ uG := uG_mem (tb_8 (List.mem_of_getElem? (i := 142) (by decide +kernel))) rfl
theorem kw_8_143 : (Cond.code yX9_run cX9_run 1 (some .int)) ∈ uG := uG_mem (tb_8 (List.mem_of_getElem? (i := 143) (by decide +kernel))) rfl
theorem kw_8_144 : (Cond.methodLink RX9 478 yX9_go) ∈ uG := uG_mem (tb_8 (List.mem_of_getElem? (i := 144) (by decide +kernel))) rfl
theorem kw_8_146 : (Cond.instanceMethod yX9_go) ∈ uG := uG_mem (tb_8 (List.mem_of_getElem? (i := 146) (by decide +kernel))) rfl
theorem kw_8_147 : (Cond.code yX9_go cX9_go 5 (some (.array .int))) ∈ uG := uG_mem (tb_8 (List.mem_of_getElem? (i := 147) (by decide +kernel))) rfl
theorem kw_8_148 : (Cond.methodLink RX9 472 yX9_bits) ∈ uG := uG_mem (tb_8 (List.mem_of_getElem? (i := 148) (by decide +kernel))) rfl
theorem kw_8_149 : (Cond.static yX9_bits) ∈ uG := uG_mem (tb_8 (List.mem_of_getElem? (i := 149) (by decide +kernel))) rfl
theorem kw_8_150 : (Cond.code yX9_bits cX9_bits 3 (some .int)) ∈ uG := uG_mem (tb_8 (List.mem_of_getElem? (i := 150) (by decide +kernel))) rfl
theorem kw_8_151 : (Cond.methodLink RX9 447 yX9_newFrame) ∈ uG := uG_mem (tb_8 (List.mem_of_getElem? (i := 151) (by decide +kernel))) rfl
theorem kw_8_153 : (Cond.instanceMethod yX9_newFrame) ∈ uG := uG_mem (tb_8 (List.mem_of_getElem? (i := 153) (by decide +kernel))) rfl
theorem kw_8_154 : (Cond.code yX9_newFrame cX9_newFrame 8 (some .int)) ∈ uG := uG_mem (tb_8 (List.mem_of_getElem? (i := 154) (by decide +kernel))) rfl
theorem kw_8_155 : (Cond.methodLink RX9 345 yX9_room) ∈ uG := uG_mem (tb_8 (List.mem_of_getElem? (i := 155) (by decide +kernel))) rfl
theorem kw_8_156 : (Cond.static yX9_room) ∈ uG := uG_mem (tb_8 (List.mem_of_getElem? (i := 156) (by decide +kernel))) rfl
theorem kw_8_157 : (Cond.code yX9_room cX9_room 3 (some (.array .int))) ∈ uG := uG_mem (tb_8 (List.mem_of_getElem? (i := 157) (by decide +kernel))) rfl
theorem kw_8_158 : (Cond.methodLink RX9 331 yJ9_max_7cf53) ∈ uG := uG_mem (tb_8 (List.mem_of_getElem? (i := 158) (by decide +kernel))) rfl
theorem kw_8_159 : (Cond.methodLink RX9 376 yX9_allot) ∈ uG := uG_mem (tb_8 (List.mem_of_getElem? (i := 159) (by decide +kernel))) rfl
theorem kw_8_161 : (Cond.instanceMethod yX9_allot) ∈ uG := uG_mem (tb_8 (List.mem_of_getElem? (i := 161) (by decide +kernel))) rfl
theorem kw_8_162 : (Cond.code yX9_allot cX9_allot 3 (some .int)) ∈ uG := uG_mem (tb_8 (List.mem_of_getElem? (i := 162) (by decide +kernel))) rfl
theorem kw_8_163 : (Cond.methodLink RX9 379 yX9_newArray) ∈ uG := uG_mem (tb_8 (List.mem_of_getElem? (i := 163) (by decide +kernel))) rfl
theorem kw_8_165 : (Cond.instanceMethod yX9_newArray) ∈ uG := uG_mem (tb_8 (List.mem_of_getElem? (i := 165) (by decide +kernel))) rfl
theorem kw_8_166 : (Cond.code yX9_newArray cX9_newArray 3 (some .int)) ∈ uG := uG_mem (tb_8 (List.mem_of_getElem? (i := 166) (by decide +kernel))) rfl
theorem kw_8_167 : (Cond.methodLink RX9 428 yX9_begin) ∈ uG := uG_mem (tb_8 (List.mem_of_getElem? (i := 167) (by decide +kernel))) rfl
theorem kw_8_169 : (Cond.instanceMethod yX9_begin) ∈ uG := uG_mem (tb_8 (List.mem_of_getElem? (i := 169) (by decide +kernel))) rfl
theorem kw_8_170 : (Cond.code yX9_begin cX9_begin 5 none) ∈ uG := uG_mem (tb_8 (List.mem_of_getElem? (i := 170) (by decide +kernel))) rfl
theorem kw_8_171 : (Cond.methodLink RX9 355 yX9_stop) ∈ uG := uG_mem (tb_8 (List.mem_of_getElem? (i := 171) (by decide +kernel))) rfl
theorem kw_8_173 : (Cond.instanceMethod yX9_stop) ∈ uG := uG_mem (tb_8 (List.mem_of_getElem? (i := 173) (by decide +kernel))) rfl
theorem kw_8_174 : (Cond.code yX9_stop cX9_stop 3 none) ∈ uG := uG_mem (tb_8 (List.mem_of_getElem? (i := 174) (by decide +kernel))) rfl
theorem kw_8_175 : (Cond.methodLink RX9 475 yX9_walk) ∈ uG := uG_mem (tb_8 (List.mem_of_getElem? (i := 175) (by decide +kernel))) rfl
theorem kw_8_177 : (Cond.instanceMethod yX9_walk) ∈ uG := uG_mem (tb_8 (List.mem_of_getElem? (i := 177) (by decide +kernel))) rfl
theorem kw_8_178 : (Cond.code yX9_walk cX9_walk 7 none) ∈ uG := uG_mem (tb_8 (List.mem_of_getElem? (i := 178) (by decide +kernel))) rfl
theorem kw_8_179 : (Cond.methodLink RX9 400 yX9_finish) ∈ uG := uG_mem (tb_8 (List.mem_of_getElem? (i := 179) (by decide +kernel))) rfl
theorem kw_8_181 : (Cond.instanceMethod yX9_finish) ∈ uG := uG_mem (tb_8 (List.mem_of_getElem? (i := 181) (by decide +kernel))) rfl
theorem kw_8_182 : (Cond.code yX9_finish cX9_finish 2 none) ∈ uG := uG_mem (tb_8 (List.mem_of_getElem? (i := 182) (by decide +kernel))) rfl
theorem kw_8_183 : (Cond.methodLink RX9 367 yX9_put) ∈ uG := uG_mem (tb_8 (List.mem_of_getElem? (i := 183) (by decide +kernel))) rfl
theorem kw_8_185 : (Cond.instanceMethod yX9_put) ∈ uG := uG_mem (tb_8 (List.mem_of_getElem? (i := 185) (by decide +kernel))) rfl
theorem kw_8_186 : (Cond.code yX9_put cX9_put 2 none) ∈ uG := uG_mem (tb_8 (List.mem_of_getElem? (i := 186) (by decide +kernel))) rfl
theorem kw_8_187 : (Cond.methodLink RX9 403 yX9_use) ∈ uG := uG_mem (tb_8 (List.mem_of_getElem? (i := 187) (by decide +kernel))) rfl
theorem kw_8_189 : (Cond.instanceMethod yX9_use) ∈ uG := uG_mem (tb_8 (List.mem_of_getElem? (i := 189) (by decide +kernel))) rfl
theorem kw_8_190 : (Cond.code yX9_use cX9_use 7 none) ∈ uG := uG_mem (tb_8 (List.mem_of_getElem? (i := 190) (by decide +kernel))) rfl
theorem kw_8_191 : (Cond.methodLink RX9 416 yX9_slot) ∈ uG := uG_mem (tb_8 (List.mem_of_getElem? (i := 191) (by decide +kernel))) rfl
theorem kw_8_193 : (Cond.instanceMethod yX9_slot) ∈ uG := uG_mem (tb_8 (List.mem_of_getElem? (i := 193) (by decide +kernel))) rfl
theorem kw_8_194 : (Cond.code yX9_slot cX9_slot 3 (some .int)) ∈ uG := uG_mem (tb_8 (List.mem_of_getElem? (i := 194) (by decide +kernel))) rfl
theorem kw_8_195 : (Cond.methodLink RX9 382 yX9_frameOf) ∈ uG := uG_mem (tb_8 (List.mem_of_getElem? (i := 195) (by decide +kernel))) rfl
theorem kw_8_197 : (Cond.instanceMethod yX9_frameOf) ∈ uG := uG_mem (tb_8 (List.mem_of_getElem? (i := 197) (by decide +kernel))) rfl
theorem kw_8_198 : (Cond.code yX9_frameOf cX9_frameOf 5 (some .int)) ∈ uG := uG_mem (tb_8 (List.mem_of_getElem? (i := 198) (by decide +kernel))) rfl
theorem kw_8_199 : (Cond.methodLink RX9 407 yX9_reckonNode) ∈ uG := uG_mem (tb_8 (List.mem_of_getElem? (i := 199) (by decide +kernel))) rfl
theorem kw_8_201 : (Cond.instanceMethod yX9_reckonNode) ∈ uG := uG_mem (tb_8 (List.mem_of_getElem? (i := 201) (by decide +kernel))) rfl
theorem kw_8_202 : (Cond.code yX9_reckonNode cX9_reckonNode 7 none) ∈ uG := uG_mem (tb_8 (List.mem_of_getElem? (i := 202) (by decide +kernel))) rfl
theorem kw_8_203 : (Cond.methodLink RX9 431 yX9_take) ∈ uG := uG_mem (tb_8 (List.mem_of_getElem? (i := 203) (by decide +kernel))) rfl
theorem kw_8_205 : (Cond.instanceMethod yX9_take) ∈ uG := uG_mem (tb_8 (List.mem_of_getElem? (i := 205) (by decide +kernel))) rfl
theorem kw_8_206 : (Cond.code yX9_take cX9_take 1 (some .int)) ∈ uG := uG_mem (tb_8 (List.mem_of_getElem? (i := 206) (by decide +kernel))) rfl
theorem kw_8_207 : (Cond.methodLink RX9 410 yX9_call) ∈ uG := uG_mem (tb_8 (List.mem_of_getElem? (i := 207) (by decide +kernel))) rfl
theorem kw_8_209 : (Cond.instanceMethod yX9_call) ∈ uG := uG_mem (tb_8 (List.mem_of_getElem? (i := 209) (by decide +kernel))) rfl
theorem kw_8_210 : (Cond.code yX9_call cX9_call 5 none) ∈ uG := uG_mem (tb_8 (List.mem_of_getElem? (i := 210) (by decide +kernel))) rfl
theorem kw_8_211 : (Cond.methodLink RX9 434 yX9_enter) ∈ uG := uG_mem (tb_8 (List.mem_of_getElem? (i := 211) (by decide +kernel))) rfl
theorem kw_8_213 : (Cond.instanceMethod yX9_enter) ∈ uG := uG_mem (tb_8 (List.mem_of_getElem? (i := 213) (by decide +kernel))) rfl
theorem kw_8_214 : (Cond.code yX9_enter cX9_enter 15 none) ∈ uG := uG_mem (tb_8 (List.mem_of_getElem? (i := 214) (by decide +kernel))) rfl
theorem kw_8_215 : (Cond.methodLink RX9 437 yX9_cutTo) ∈ uG := uG_mem (tb_8 (List.mem_of_getElem? (i := 215) (by decide +kernel))) rfl
theorem kw_8_217 : (Cond.instanceMethod yX9_cutTo) ∈ uG := uG_mem (tb_8 (List.mem_of_getElem? (i := 217) (by decide +kernel))) rfl
theorem kw_8_218 : (Cond.code yX9_cutTo cX9_cutTo 2 none) ∈ uG := uG_mem (tb_8 (List.mem_of_getElem? (i := 218) (by decide +kernel))) rfl
theorem kw_8_219 : (Cond.methodLink RX9 413 yX9_argument) ∈ uG := uG_mem (tb_8 (List.mem_of_getElem? (i := 219) (by decide +kernel))) rfl
theorem kw_8_221 : (Cond.instanceMethod yX9_argument) ∈ uG := uG_mem (tb_8 (List.mem_of_getElem? (i := 221) (by decide +kernel))) rfl
theorem kw_8_222 : (Cond.code yX9_argument cX9_argument 7 none) ∈ uG := uG_mem (tb_8 (List.mem_of_getElem? (i := 222) (by decide +kernel))) rfl
theorem kw_8_223 : (Cond.methodLink RX9 419 yX9_copyOf) ∈ uG := uG_mem (tb_8 (List.mem_of_getElem? (i := 223) (by decide +kernel))) rfl
theorem kw_8_225 : (Cond.instanceMethod yX9_copyOf) ∈ uG := uG_mem (tb_8 (List.mem_of_getElem? (i := 225) (by decide +kernel))) rfl
theorem kw_8_226 : (Cond.code yX9_copyOf cX9_copyOf 3 (some .int)) ∈ uG := uG_mem (tb_8 (List.mem_of_getElem? (i := 226) (by decide +kernel))) rfl
theorem kw_8_227 : (Cond.methodLink RX9 422 yX9_leave) ∈ uG := uG_mem (tb_8 (List.mem_of_getElem? (i := 227) (by decide +kernel))) rfl
theorem kw_8_229 : (Cond.instanceMethod yX9_leave) ∈ uG := uG_mem (tb_8 (List.mem_of_getElem? (i := 229) (by decide +kernel))) rfl
theorem kw_8_230 : (Cond.code yX9_leave cX9_leave 7 none) ∈ uG := uG_mem (tb_8 (List.mem_of_getElem? (i := 230) (by decide +kernel))) rfl
theorem kw_8_231 : (Cond.methodLink RX9 425 yX9_state) ∈ uG := uG_mem (tb_8 (List.mem_of_getElem? (i := 231) (by decide +kernel))) rfl
theorem kw_8_233 : (Cond.instanceMethod yX9_state) ∈ uG := uG_mem (tb_8 (List.mem_of_getElem? (i := 233) (by decide +kernel))) rfl
theorem kw_8_234 : (Cond.code yX9_state cX9_state 6 none) ∈ uG := uG_mem (tb_8 (List.mem_of_getElem? (i := 234) (by decide +kernel))) rfl
theorem kw_8_235 : (Cond.methodLink RX9 450 yX9_store) ∈ uG := uG_mem (tb_8 (List.mem_of_getElem? (i := 235) (by decide +kernel))) rfl
theorem kw_8_237 : (Cond.instanceMethod yX9_store) ∈ uG := uG_mem (tb_8 (List.mem_of_getElem? (i := 237) (by decide +kernel))) rfl
theorem kw_8_238 : (Cond.code yX9_store cX9_store 6 none) ∈ uG := uG_mem (tb_8 (List.mem_of_getElem? (i := 238) (by decide +kernel))) rfl
theorem kw_8_239 : (Cond.methodLink RX9 453 yX9_turn) ∈ uG := uG_mem (tb_8 (List.mem_of_getElem? (i := 239) (by decide +kernel))) rfl
theorem kw_9_1 : (Cond.instanceMethod yX9_turn) ∈ uG := uG_mem (tb_9 (List.mem_of_getElem? (i := 1) (by decide +kernel))) rfl
theorem kw_9_2 : (Cond.code yX9_turn cX9_turn 7 (some .boolean)) ∈ uG := uG_mem (tb_9 (List.mem_of_getElem? (i := 2) (by decide +kernel))) rfl
theorem kw_9_3 : (Cond.methodLink RX9 456 yX9_give) ∈ uG := uG_mem (tb_9 (List.mem_of_getElem? (i := 3) (by decide +kernel))) rfl
theorem kw_9_5 : (Cond.instanceMethod yX9_give) ∈ uG := uG_mem (tb_9 (List.mem_of_getElem? (i := 5) (by decide +kernel))) rfl
theorem kw_9_6 : (Cond.code yX9_give cX9_give 4 none) ∈ uG := uG_mem (tb_9 (List.mem_of_getElem? (i := 6) (by decide +kernel))) rfl
theorem kw_9_7 : (Cond.methodLink RX9 459 yX9_print) ∈ uG := uG_mem (tb_9 (List.mem_of_getElem? (i := 7) (by decide +kernel))) rfl
theorem kw_9_9 : (Cond.instanceMethod yX9_print) ∈ uG := uG_mem (tb_9 (List.mem_of_getElem? (i := 9) (by decide +kernel))) rfl
theorem kw_9_10 : (Cond.code yX9_print cX9_print 3 none) ∈ uG := uG_mem (tb_9 (List.mem_of_getElem? (i := 10) (by decide +kernel))) rfl
theorem kw_9_11 : (Cond.methodLink RX9 485 yJ9_min_7cf53) ∈ uG := uG_mem (tb_9 (List.mem_of_getElem? (i := 11) (by decide +kernel))) rfl
theorem kw_9_12 : (Cond.methodLink RL 132 yX9_ofRun) ∈ uG := uG_mem (tb_9 (List.mem_of_getElem? (i := 12) (by decide +kernel))) rfl
theorem kw_9_13 : (Cond.instanceMethod yX9_ofRun) ∈ uG := uG_mem (tb_9 (List.mem_of_getElem? (i := 13) (by decide +kernel))) rfl
theorem kw_9_14 : (Cond.selects RX9 yX9_ofRun yX9_ofRun) ∈ uG := uG_mem (tb_9 (List.mem_of_getElem? (i := 14) (by decide +kernel))) rfl
theorem kw_9_15 : (Cond.code yX9_ofRun cX9_ofRun 2 (some .int)) ∈ uG := uG_mem (tb_9 (List.mem_of_getElem? (i := 15) (by decide +kernel))) rfl
theorem kw_9_16 : (Cond.methodLink RL 135 yX9_printed) ∈ uG := uG_mem (tb_9 (List.mem_of_getElem? (i := 16) (by decide +kernel))) rfl
theorem kw_9_17 : (Cond.instanceMethod yX9_printed) ∈ uG := uG_mem (tb_9 (List.mem_of_getElem? (i := 17) (by decide +kernel))) rfl
theorem kw_9_18 : (Cond.selects RX9 yX9_printed yX9_printed) ∈ uG := uG_mem (tb_9 (List.mem_of_getElem? (i := 18) (by decide +kernel))) rfl
theorem kw_9_19 : (Cond.code yX9_printed cX9_printed 3 (some .int)) ∈ uG := uG_mem (tb_9 (List.mem_of_getElem? (i := 19) (by decide +kernel))) rfl
theorem kw_9_20 : (Cond.methodLink RL 140 yX9_meanPrinted) ∈ uG := uG_mem (tb_9 (List.mem_of_getElem? (i := 20) (by decide +kernel))) rfl
theorem kw_9_21 : (Cond.instanceMethod yX9_meanPrinted) ∈ uG := uG_mem (tb_9 (List.mem_of_getElem? (i := 21) (by decide +kernel))) rfl
theorem kw_9_22 : (Cond.selects RX9 yX9_meanPrinted yX9_meanPrinted) ∈ uG := uG_mem (tb_9 (List.mem_of_getElem? (i := 22) (by decide +kernel))) rfl
theorem kw_9_23 : (Cond.code yX9_meanPrinted cX9_meanPrinted 1 (some .double)) ∈ uG := uG_mem (tb_9 (List.mem_of_getElem? (i := 23) (by decide +kernel))) rfl
theorem kw_9_24 : (Cond.methodLink RL 143 yX9_many) ∈ uG := uG_mem (tb_9 (List.mem_of_getElem? (i := 24) (by decide +kernel))) rfl
theorem kw_9_25 : (Cond.instanceMethod yX9_many) ∈ uG := uG_mem (tb_9 (List.mem_of_getElem? (i := 25) (by decide +kernel))) rfl
theorem kw_9_26 : (Cond.selects RX9 yX9_many yX9_many) ∈ uG := uG_mem (tb_9 (List.mem_of_getElem? (i := 26) (by decide +kernel))) rfl
theorem kw_9_27 : (Cond.code yX9_many cX9_many 2 (some .int)) ∈ uG := uG_mem (tb_9 (List.mem_of_getElem? (i := 27) (by decide +kernel))) rfl
theorem kw_9_28 : (Cond.methodLink RX9 494 yX9_manyNow) ∈ uG := uG_mem (tb_9 (List.mem_of_getElem? (i := 28) (by decide +kernel))) rfl
theorem kw_9_30 : (Cond.instanceMethod yX9_manyNow) ∈ uG := uG_mem (tb_9 (List.mem_of_getElem? (i := 30) (by decide +kernel))) rfl
theorem kw_9_31 : (Cond.code yX9_manyNow cX9_manyNow 4 (some .int)) ∈ uG := uG_mem (tb_9 (List.mem_of_getElem? (i := 31) (by decide +kernel))) rfl
theorem kw_9_32 : (Cond.methodLink RX9 491 yX9_allCode) ∈ uG := uG_mem (tb_9 (List.mem_of_getElem? (i := 32) (by decide +kernel))) rfl
theorem kw_9_34 : (Cond.instanceMethod yX9_allCode) ∈ uG := uG_mem (tb_9 (List.mem_of_getElem? (i := 34) (by decide +kernel))) rfl
theorem kw_9_35 : (Cond.code yX9_allCode cX9_allCode 4 (some .int)) ∈ uG := uG_mem (tb_9 (List.mem_of_getElem? (i := 35) (by decide +kernel))) rfl
theorem kw_9_36 : (Cond.methodLink RL 146 yX9_wouldRun) ∈ uG := uG_mem (tb_9 (List.mem_of_getElem? (i := 36) (by decide +kernel))) rfl
theorem kw_9_37 : (Cond.instanceMethod yX9_wouldRun) ∈ uG := uG_mem (tb_9 (List.mem_of_getElem? (i := 37) (by decide +kernel))) rfl
theorem kw_9_38 : (Cond.selects RX9 yX9_wouldRun yX9_wouldRun) ∈ uG := uG_mem (tb_9 (List.mem_of_getElem? (i := 38) (by decide +kernel))) rfl
theorem kw_9_39 : (Cond.code yX9_wouldRun cX9_wouldRun 4 (some .int)) ∈ uG := uG_mem (tb_9 (List.mem_of_getElem? (i := 39) (by decide +kernel))) rfl
theorem kw_9_40 : (Cond.methodLink RL 149 yX9_with) ∈ uG := uG_mem (tb_9 (List.mem_of_getElem? (i := 40) (by decide +kernel))) rfl
theorem kw_9_41 : (Cond.instanceMethod yX9_with) ∈ uG := uG_mem (tb_9 (List.mem_of_getElem? (i := 41) (by decide +kernel))) rfl
theorem kw_9_42 : (Cond.selects RX9 yX9_with yX9_with) ∈ uG := uG_mem (tb_9 (List.mem_of_getElem? (i := 42) (by decide +kernel))) rfl
theorem kw_9_43 : (Cond.code yX9_with cX9_with 3 (some .int)) ∈ uG := uG_mem (tb_9 (List.mem_of_getElem? (i := 43) (by decide +kernel))) rfl
theorem kw_9_44 : (Cond.methodLink RL 152 yX9_hiddenBy) ∈ uG := uG_mem (tb_9 (List.mem_of_getElem? (i := 44) (by decide +kernel))) rfl
theorem kw_9_45 : (Cond.instanceMethod yX9_hiddenBy) ∈ uG := uG_mem (tb_9 (List.mem_of_getElem? (i := 45) (by decide +kernel))) rfl
theorem kw_9_46 : (Cond.selects RX9 yX9_hiddenBy yX9_hiddenBy) ∈ uG := uG_mem (tb_9 (List.mem_of_getElem? (i := 46) (by decide +kernel))) rfl
theorem kw_9_47 : (Cond.code yX9_hiddenBy cX9_hiddenBy 3 (some .int)) ∈ uG := uG_mem (tb_9 (List.mem_of_getElem? (i := 47) (by decide +kernel))) rfl
theorem kw_9_48 : (Cond.methodLink RX9 497 yX9_hiddenNow) ∈ uG := uG_mem (tb_9 (List.mem_of_getElem? (i := 48) (by decide +kernel))) rfl
theorem kw_9_50 : (Cond.instanceMethod yX9_hiddenNow) ∈ uG := uG_mem (tb_9 (List.mem_of_getElem? (i := 50) (by decide +kernel))) rfl
theorem kw_9_51 : (Cond.code yX9_hiddenNow cX9_hiddenNow 6 (some .int)) ∈ uG := uG_mem (tb_9 (List.mem_of_getElem? (i := 51) (by decide +kernel))) rfl
theorem kw_9_52 : (Cond.methodLink RL 157 yX9_digest) ∈ uG := uG_mem (tb_9 (List.mem_of_getElem? (i := 52) (by decide +kernel))) rfl
theorem kw_9_53 : (Cond.instanceMethod yX9_digest) ∈ uG := uG_mem (tb_9 (List.mem_of_getElem? (i := 53) (by decide +kernel))) rfl
theorem kw_9_54 : (Cond.selects RX9 yX9_digest yX9_digest) ∈ uG := uG_mem (tb_9 (List.mem_of_getElem? (i := 54) (by decide +kernel))) rfl
theorem kw_9_55 : (Cond.code yX9_digest cX9_digest 9 (some .long)) ∈ uG := uG_mem (tb_9 (List.mem_of_getElem? (i := 55) (by decide +kernel))) rfl
theorem kw_9_56 : (Cond.constantLong RX9 500 (58126 : Int64)) ∈ uG := uG_mem (tb_9 (List.mem_of_getElem? (i := 56) (by decide +kernel))) rfl
theorem kw_9_57 : (Cond.constantLong RX9 502 (31 : Int64)) ∈ uG := uG_mem (tb_9 (List.mem_of_getElem? (i := 57) (by decide +kernel))) rfl
theorem kw_9_58 : (Cond.arrayClass FieldType.long) ∈ uG := uG_mem (tb_9 (List.mem_of_getElem? (i := 58) (by decide +kernel))) rfl
theorem ks_1_0 : (Cond.selects RX8 yX8_refresh yX8_refresh) ∈ uG := by
  have h := uG_sel (pv_1 (List.getElem_mem (l := lw_privs_1) (n := 0) (by decide +kernel)))
  exact h
theorem ks_1_1 : (Cond.selects RX4 yX4_findWhereNodesAre yX4_findWhereNodesAre) ∈ uG := by
  have h := uG_sel (pv_1 (List.getElem_mem (l := lw_privs_1) (n := 1) (by decide +kernel)))
  exact h
theorem ks_1_2 : (Cond.selects RX4 yX4_bind yX4_bind) ∈ uG := by
  have h := uG_sel (pv_1 (List.getElem_mem (l := lw_privs_1) (n := 2) (by decide +kernel)))
  exact h
theorem ks_1_3 : (Cond.selects RX4 yX4_hasPlace yX4_hasPlace) ∈ uG := by
  have h := uG_sel (pv_1 (List.getElem_mem (l := lw_privs_1) (n := 3) (by decide +kernel)))
  exact h
theorem ks_1_4 : (Cond.selects RX4 yX4_fold yX4_fold) ∈ uG := by
  have h := uG_sel (pv_1 (List.getElem_mem (l := lw_privs_1) (n := 4) (by decide +kernel)))
  exact h
theorem ks_1_5 : (Cond.selects RX4 yX4_isKnown yX4_isKnown) ∈ uG := by
  have h := uG_sel (pv_1 (List.getElem_mem (l := lw_privs_1) (n := 5) (by decide +kernel)))
  exact h
theorem ks_1_6 : (Cond.selects RX4 yX4_findHandedOn yX4_findHandedOn) ∈ uG := by
  have h := uG_sel (pv_1 (List.getElem_mem (l := lw_privs_1) (n := 6) (by decide +kernel)))
  exact h
theorem ks_1_7 : (Cond.selects RX4 yX4_findEscapes yX4_findEscapes) ∈ uG := by
  have h := uG_sel (pv_1 (List.getElem_mem (l := lw_privs_1) (n := 7) (by decide +kernel)))
  exact h
theorem ks_1_8 : (Cond.selects RX4 yX4_isOutliving yX4_isOutliving) ∈ uG := by
  have h := uG_sel (pv_1 (List.getElem_mem (l := lw_privs_1) (n := 8) (by decide +kernel)))
  exact h
theorem ks_1_9 : (Cond.selects RX4 yX4_findLabels yX4_findLabels) ∈ uG := by
  have h := uG_sel (pv_1 (List.getElem_mem (l := lw_privs_1) (n := 9) (by decide +kernel)))
  exact h
theorem ks_1_10 : (Cond.selects RX4 yX4_isTail yX4_isTail) ∈ uG := by
  have h := uG_sel (pv_1 (List.getElem_mem (l := lw_privs_1) (n := 10) (by decide +kernel)))
  exact h
theorem ks_1_11 : (Cond.selects RX4 yX4_hopsToLoop yX4_hopsToLoop) ∈ uG := by
  have h := uG_sel (pv_1 (List.getElem_mem (l := lw_privs_1) (n := 11) (by decide +kernel)))
  exact h
theorem ks_1_12 : (Cond.selects RX4 yX4_isInLoop yX4_isInLoop) ∈ uG := by
  have h := uG_sel (pv_1 (List.getElem_mem (l := lw_privs_1) (n := 12) (by decide +kernel)))
  exact h
theorem ks_1_13 : (Cond.selects RX4 yX4_findModes yX4_findModes) ∈ uG := by
  have h := uG_sel (pv_1 (List.getElem_mem (l := lw_privs_1) (n := 13) (by decide +kernel)))
  exact h
theorem ks_1_14 : (Cond.selects RX4 yX4_sumUp yX4_sumUp) ∈ uG := by
  have h := uG_sel (pv_1 (List.getElem_mem (l := lw_privs_1) (n := 14) (by decide +kernel)))
  exact h
theorem ks_1_15 : (Cond.selects RX2 yX2_tell yX2_tell) ∈ uG := by
  have h := uG_sel (pv_1 (List.getElem_mem (l := lw_privs_1) (n := 15) (by decide +kernel)))
  exact h
theorem ks_2_0 : (Cond.selects RX2 yX2_await yX2_await) ∈ uG := by
  have h := uG_sel (pv_2 (List.getElem_mem (l := lw_privs_2) (n := 0) (by decide +kernel)))
  exact h
theorem ks_2_1 : (Cond.selects RX2 yX2_faultOf yX2_faultOf) ∈ uG := by
  have h := uG_sel (pv_2 (List.getElem_mem (l := lw_privs_2) (n := 1) (by decide +kernel)))
  exact h
theorem ks_2_2 : (Cond.selects RX2 yX2_isAsItHasToBe yX2_isAsItHasToBe) ∈ uG := by
  have h := uG_sel (pv_2 (List.getElem_mem (l := lw_privs_2) (n := 2) (by decide +kernel)))
  exact h
theorem ks_2_3 : (Cond.selects RX2 yX2_faultOfArguments yX2_faultOfArguments) ∈ uG := by
  have h := uG_sel (pv_2 (List.getElem_mem (l := lw_privs_2) (n := 3) (by decide +kernel)))
  exact h
theorem ks_2_4 : (Cond.selects RX2 yX2_suits yX2_suits) ∈ uG := by
  have h := uG_sel (pv_2 (List.getElem_mem (l := lw_privs_2) (n := 4) (by decide +kernel)))
  exact h
theorem ks_2_6 : (Cond.selects RX8 yX8_wholeCodeLength yX8_wholeCodeLength) ∈ uG := by
  have h := uG_sel (pv_2 (List.getElem_mem (l := lw_privs_2) (n := 6) (by decide +kernel)))
  exact h
theorem ks_2_7 : (Cond.selects RX0 yX0_isPushed yX0_isPushed) ∈ uG := by
  have h := uG_sel (pv_2 (List.getElem_mem (l := lw_privs_2) (n := 7) (by decide +kernel)))
  exact h
theorem ks_2_8 : (Cond.selects RX0 yX0_lengthOfPart yX0_lengthOfPart) ∈ uG := by
  have h := uG_sel (pv_2 (List.getElem_mem (l := lw_privs_2) (n := 8) (by decide +kernel)))
  exact h
theorem ks_2_9 : (Cond.selects RX0 yX0_ownLength yX0_ownLength) ∈ uG := by
  have h := uG_sel (pv_2 (List.getElem_mem (l := lw_privs_2) (n := 9) (by decide +kernel)))
  exact h
theorem ks_2_10 : (Cond.selects RX0 yX0_isJump yX0_isJump) ∈ uG := by
  have h := uG_sel (pv_2 (List.getElem_mem (l := lw_privs_2) (n := 10) (by decide +kernel)))
  exact h
theorem ks_2_11 : (Cond.selects RX0 yX0_placeProcedures yX0_placeProcedures) ∈ uG := by
  have h := uG_sel (pv_2 (List.getElem_mem (l := lw_privs_2) (n := 11) (by decide +kernel)))
  exact h
theorem ks_2_12 : (Cond.selects RX0 yX0_clear yX0_clear) ∈ uG := by
  have h := uG_sel (pv_2 (List.getElem_mem (l := lw_privs_2) (n := 12) (by decide +kernel)))
  exact h
theorem ks_2_13 : (Cond.selects RX0 yX0_put yX0_put) ∈ uG := by
  have h := uG_sel (pv_2 (List.getElem_mem (l := lw_privs_2) (n := 13) (by decide +kernel)))
  exact h
theorem ks_2_14 : (Cond.selects RX0 yX0_placeParts yX0_placeParts) ∈ uG := by
  have h := uG_sel (pv_2 (List.getElem_mem (l := lw_privs_2) (n := 14) (by decide +kernel)))
  exact h
theorem ks_2_15 : (Cond.selects RX0 yX0_swallow yX0_swallow) ∈ uG := by
  have h := uG_sel (pv_2 (List.getElem_mem (l := lw_privs_2) (n := 15) (by decide +kernel)))
  exact h
theorem ks_3_0 : (Cond.selects RX0 yX0_place yX0_place) ∈ uG := by
  have h := uG_sel (pv_3 (List.getElem_mem (l := lw_privs_3) (n := 0) (by decide +kernel)))
  exact h
theorem ks_3_1 : (Cond.selects RX0 yX0_noteBegin yX0_noteBegin) ∈ uG := by
  have h := uG_sel (pv_3 (List.getElem_mem (l := lw_privs_3) (n := 1) (by decide +kernel)))
  exact h
theorem ks_3_2 : (Cond.selects RX0 yX0_write yX0_write) ∈ uG := by
  have h := uG_sel (pv_3 (List.getElem_mem (l := lw_privs_3) (n := 2) (by decide +kernel)))
  exact h
theorem ks_3_3 : (Cond.selects RX0 yX0_writeExpression yX0_writeExpression) ∈ uG := by
  have h := uG_sel (pv_3 (List.getElem_mem (l := lw_privs_3) (n := 3) (by decide +kernel)))
  exact h
theorem ks_3_4 : (Cond.selects RX0 yX0_putNamed yX0_putNamed) ∈ uG := by
  have h := uG_sel (pv_3 (List.getElem_mem (l := lw_privs_3) (n := 4) (by decide +kernel)))
  exact h
theorem ks_3_5 : (Cond.selects RX0 yX0_writeCall yX0_writeCall) ∈ uG := by
  have h := uG_sel (pv_3 (List.getElem_mem (l := lw_privs_3) (n := 5) (by decide +kernel)))
  exact h
theorem ks_3_6 : (Cond.selects RX0 yX0_writeStatement yX0_writeStatement) ∈ uG := by
  have h := uG_sel (pv_3 (List.getElem_mem (l := lw_privs_3) (n := 6) (by decide +kernel)))
  exact h
theorem ks_3_7 : (Cond.selects RX0 yX0_writeIf yX0_writeIf) ∈ uG := by
  have h := uG_sel (pv_3 (List.getElem_mem (l := lw_privs_3) (n := 7) (by decide +kernel)))
  exact h
theorem ks_3_8 : (Cond.selects RX0 yX0_writeLoop yX0_writeLoop) ∈ uG := by
  have h := uG_sel (pv_3 (List.getElem_mem (l := lw_privs_3) (n := 8) (by decide +kernel)))
  exact h
theorem ks_3_9 : (Cond.selects RX8 yX8_needProcedure yX8_needProcedure) ∈ uG := by
  have h := uG_sel (pv_3 (List.getElem_mem (l := lw_privs_3) (n := 9) (by decide +kernel)))
  exact h
theorem ks_3_10 : (Cond.selects RX8 yX8_codeLength yX8_codeLength) ∈ uG := by
  have h := uG_sel (pv_3 (List.getElem_mem (l := lw_privs_3) (n := 10) (by decide +kernel)))
  exact h
theorem ks_3_11 : (Cond.selects RX8 yX8_needNode yX8_needNode) ∈ uG := by
  have h := uG_sel (pv_3 (List.getElem_mem (l := lw_privs_3) (n := 11) (by decide +kernel)))
  exact h
theorem ks_3_12 : (Cond.selects RX3 yX3_clear yX3_clear) ∈ uG := by
  have h := uG_sel (pv_3 (List.getElem_mem (l := lw_privs_3) (n := 12) (by decide +kernel)))
  exact h
theorem ks_3_13 : (Cond.selects RX3 yX3_keepReturn yX3_keepReturn) ∈ uG := by
  have h := uG_sel (pv_3 (List.getElem_mem (l := lw_privs_3) (n := 13) (by decide +kernel)))
  exact h
theorem ks_3_14 : (Cond.selects RX7 yX7_has yX7_has) ∈ uG := by
  have h := uG_sel (pv_3 (List.getElem_mem (l := lw_privs_3) (n := 14) (by decide +kernel)))
  exact h
theorem ks_3_15 : (Cond.selects RX3 yX3_call yX3_call) ∈ uG := by
  have h := uG_sel (pv_3 (List.getElem_mem (l := lw_privs_3) (n := 15) (by decide +kernel)))
  exact h
theorem ks_4_0 : (Cond.selects RX3 yX3_layPlaces yX3_layPlaces) ∈ uG := by
  have h := uG_sel (pv_4 (List.getElem_mem (l := lw_privs_4) (n := 0) (by decide +kernel)))
  exact h
theorem ks_4_1 : (Cond.selects RX3 yX3_begin yX3_begin) ∈ uG := by
  have h := uG_sel (pv_4 (List.getElem_mem (l := lw_privs_4) (n := 1) (by decide +kernel)))
  exact h
theorem ks_4_2 : (Cond.selects RX3 yX3_trap yX3_trap) ∈ uG := by
  have h := uG_sel (pv_4 (List.getElem_mem (l := lw_privs_4) (n := 2) (by decide +kernel)))
  exact h
theorem ks_4_3 : (Cond.selects RX3 yX3_perform yX3_perform) ∈ uG := by
  have h := uG_sel (pv_4 (List.getElem_mem (l := lw_privs_4) (n := 3) (by decide +kernel)))
  exact h
theorem ks_4_4 : (Cond.selects RX3 yX3_push yX3_push) ∈ uG := by
  have h := uG_sel (pv_4 (List.getElem_mem (l := lw_privs_4) (n := 4) (by decide +kernel)))
  exact h
theorem ks_4_5 : (Cond.selects RX3 yX3_cellOf yX3_cellOf) ∈ uG := by
  have h := uG_sel (pv_4 (List.getElem_mem (l := lw_privs_4) (n := 5) (by decide +kernel)))
  exact h
theorem ks_4_6 : (Cond.selects RX3 yX3_frameAt yX3_frameAt) ∈ uG := by
  have h := uG_sel (pv_4 (List.getElem_mem (l := lw_privs_4) (n := 6) (by decide +kernel)))
  exact h
theorem ks_4_7 : (Cond.selects RX3 yX3_get yX3_get) ∈ uG := by
  have h := uG_sel (pv_4 (List.getElem_mem (l := lw_privs_4) (n := 7) (by decide +kernel)))
  exact h
theorem ks_4_8 : (Cond.selects RX3 yX3_pushCell yX3_pushCell) ∈ uG := by
  have h := uG_sel (pv_4 (List.getElem_mem (l := lw_privs_4) (n := 8) (by decide +kernel)))
  exact h
theorem ks_4_9 : (Cond.selects RX3 yX3_pick yX3_pick) ∈ uG := by
  have h := uG_sel (pv_4 (List.getElem_mem (l := lw_privs_4) (n := 9) (by decide +kernel)))
  exact h
theorem ks_4_10 : (Cond.selects RX3 yX3_pop yX3_pop) ∈ uG := by
  have h := uG_sel (pv_4 (List.getElem_mem (l := lw_privs_4) (n := 10) (by decide +kernel)))
  exact h
theorem ks_4_11 : (Cond.selects RX3 yX3_go yX3_go) ∈ uG := by
  have h := uG_sel (pv_4 (List.getElem_mem (l := lw_privs_4) (n := 11) (by decide +kernel)))
  exact h
theorem ks_4_12 : (Cond.selects RX3 yX3_goByProc yX3_goByProc) ∈ uG := by
  have h := uG_sel (pv_4 (List.getElem_mem (l := lw_privs_4) (n := 12) (by decide +kernel)))
  exact h
theorem ks_4_13 : (Cond.selects RX3 yX3_refer yX3_refer) ∈ uG := by
  have h := uG_sel (pv_4 (List.getElem_mem (l := lw_privs_4) (n := 13) (by decide +kernel)))
  exact h
theorem ks_4_14 : (Cond.selects RX3 yX3_later yX3_later) ∈ uG := by
  have h := uG_sel (pv_4 (List.getElem_mem (l := lw_privs_4) (n := 14) (by decide +kernel)))
  exact h
theorem ks_4_15 : (Cond.selects RX3 yX3_skip yX3_skip) ∈ uG := by
  have h := uG_sel (pv_4 (List.getElem_mem (l := lw_privs_4) (n := 15) (by decide +kernel)))
  exact h
theorem ks_5_0 : (Cond.selects RX3 yX3_goBack yX3_goBack) ∈ uG := by
  have h := uG_sel (pv_5 (List.getElem_mem (l := lw_privs_5) (n := 0) (by decide +kernel)))
  exact h
theorem ks_5_1 : (Cond.selects RX3 yX3_copy yX3_copy) ∈ uG := by
  have h := uG_sel (pv_5 (List.getElem_mem (l := lw_privs_5) (n := 1) (by decide +kernel)))
  exact h
theorem ks_5_2 : (Cond.selects RX3 yX3_put yX3_put) ∈ uG := by
  have h := uG_sel (pv_5 (List.getElem_mem (l := lw_privs_5) (n := 2) (by decide +kernel)))
  exact h
theorem ks_5_3 : (Cond.selects RX3 yX3_stow yX3_stow) ∈ uG := by
  have h := uG_sel (pv_5 (List.getElem_mem (l := lw_privs_5) (n := 3) (by decide +kernel)))
  exact h
theorem ks_5_4 : (Cond.selects RX3 yX3_open yX3_open) ∈ uG := by
  have h := uG_sel (pv_5 (List.getElem_mem (l := lw_privs_5) (n := 4) (by decide +kernel)))
  exact h
theorem ks_5_5 : (Cond.selects RX3 yX3_leave yX3_leave) ∈ uG := by
  have h := uG_sel (pv_5 (List.getElem_mem (l := lw_privs_5) (n := 5) (by decide +kernel)))
  exact h
theorem ks_5_6 : (Cond.selects RX3 yX3_isLoopOf yX3_isLoopOf) ∈ uG := by
  have h := uG_sel (pv_5 (List.getElem_mem (l := lw_privs_5) (n := 6) (by decide +kernel)))
  exact h
theorem ks_5_7 : (Cond.selects RX3 yX3_reckon yX3_reckon) ∈ uG := by
  have h := uG_sel (pv_5 (List.getElem_mem (l := lw_privs_5) (n := 7) (by decide +kernel)))
  exact h
theorem ks_5_8 : (Cond.selects RX1 yX1_declare yX1_declare) ∈ uG := by
  have h := uG_sel (pv_5 (List.getElem_mem (l := lw_privs_5) (n := 8) (by decide +kernel)))
  exact h
theorem ks_5_9 : (Cond.selects RX1 yX1_declarePlace yX1_declarePlace) ∈ uG := by
  have h := uG_sel (pv_5 (List.getElem_mem (l := lw_privs_5) (n := 9) (by decide +kernel)))
  exact h
theorem ks_5_10 : (Cond.selects RX5 yX5_fills yX5_fills) ∈ uG := by
  have h := uG_sel (pv_5 (List.getElem_mem (l := lw_privs_5) (n := 10) (by decide +kernel)))
  exact h
theorem ks_5_11 : (Cond.selects RX5 yX5_isPartFor yX5_isPartFor) ∈ uG := by
  have h := uG_sel (pv_5 (List.getElem_mem (l := lw_privs_5) (n := 11) (by decide +kernel)))
  exact h
theorem ks_5_12 : (Cond.selects RX5 yX5_claim yX5_claim) ∈ uG := by
  have h := uG_sel (pv_5 (List.getElem_mem (l := lw_privs_5) (n := 12) (by decide +kernel)))
  exact h
theorem ks_5_13 : (Cond.selects RX9 yX9_isProcedure yX9_isProcedure) ∈ uG := by
  have h := uG_sel (pv_5 (List.getElem_mem (l := lw_privs_5) (n := 13) (by decide +kernel)))
  exact h
theorem ks_5_14 : (Cond.selects RX9 yX9_no yX9_no) ∈ uG := by
  have h := uG_sel (pv_5 (List.getElem_mem (l := lw_privs_5) (n := 14) (by decide +kernel)))
  exact h
theorem ks_5_15 : (Cond.selects RX9 yX9_declare yX9_declare) ∈ uG := by
  have h := uG_sel (pv_5 (List.getElem_mem (l := lw_privs_5) (n := 15) (by decide +kernel)))
  exact h
theorem ks_6_0 : (Cond.selects RX9 yX9_addPlace yX9_addPlace) ∈ uG := by
  have h := uG_sel (pv_6 (List.getElem_mem (l := lw_privs_6) (n := 0) (by decide +kernel)))
  exact h
theorem ks_6_1 : (Cond.selects RX9 yX9_declarer yX9_declarer) ∈ uG := by
  have h := uG_sel (pv_6 (List.getElem_mem (l := lw_privs_6) (n := 1) (by decide +kernel)))
  exact h
theorem ks_6_2 : (Cond.selects RX9 yX9_hops yX9_hops) ∈ uG := by
  have h := uG_sel (pv_6 (List.getElem_mem (l := lw_privs_6) (n := 2) (by decide +kernel)))
  exact h
theorem ks_6_3 : (Cond.selects RX9 yX9_placeIs yX9_placeIs) ∈ uG := by
  have h := uG_sel (pv_6 (List.getElem_mem (l := lw_privs_6) (n := 3) (by decide +kernel)))
  exact h
theorem ks_6_4 : (Cond.selects RX9 yX9_whatIs yX9_whatIs) ∈ uG := by
  have h := uG_sel (pv_6 (List.getElem_mem (l := lw_privs_6) (n := 4) (by decide +kernel)))
  exact h
theorem ks_6_5 : (Cond.selects RX9 yX9_sizeIs yX9_sizeIs) ∈ uG := by
  have h := uG_sel (pv_6 (List.getElem_mem (l := lw_privs_6) (n := 5) (by decide +kernel)))
  exact h
theorem ks_6_6 : (Cond.selects RX9 yX9_canBe yX9_canBe) ∈ uG := by
  have h := uG_sel (pv_6 (List.getElem_mem (l := lw_privs_6) (n := 6) (by decide +kernel)))
  exact h
theorem ks_6_7 : (Cond.selects RX9 yX9_isFreeExpression yX9_isFreeExpression) ∈ uG := by
  have h := uG_sel (pv_6 (List.getElem_mem (l := lw_privs_6) (n := 7) (by decide +kernel)))
  exact h
theorem ks_6_8 : (Cond.selects RX9 yX9_isFree yX9_isFree) ∈ uG := by
  have h := uG_sel (pv_6 (List.getElem_mem (l := lw_privs_6) (n := 8) (by decide +kernel)))
  exact h
theorem ks_6_9 : (Cond.selects RX9 yX9_isNode yX9_isNode) ∈ uG := by
  have h := uG_sel (pv_6 (List.getElem_mem (l := lw_privs_6) (n := 9) (by decide +kernel)))
  exact h
theorem ks_6_10 : (Cond.selects RX9 yX9_isArgument yX9_isArgument) ∈ uG := by
  have h := uG_sel (pv_6 (List.getElem_mem (l := lw_privs_6) (n := 10) (by decide +kernel)))
  exact h
theorem ks_6_11 : (Cond.selects RX9 yX9_isFreeStatement yX9_isFreeStatement) ∈ uG := by
  have h := uG_sel (pv_6 (List.getElem_mem (l := lw_privs_6) (n := 11) (by decide +kernel)))
  exact h
theorem ks_6_12 : (Cond.selects RX9 yX9_part yX9_part) ∈ uG := by
  have h := uG_sel (pv_6 (List.getElem_mem (l := lw_privs_6) (n := 12) (by decide +kernel)))
  exact h
theorem ks_6_13 : (Cond.selects RX9 yX9_ofProcedureNow yX9_ofProcedureNow) ∈ uG := by
  have h := uG_sel (pv_6 (List.getElem_mem (l := lw_privs_6) (n := 13) (by decide +kernel)))
  exact h
theorem ks_6_14 : (Cond.selects RX9 yX9_escapes yX9_escapes) ∈ uG := by
  have h := uG_sel (pv_6 (List.getElem_mem (l := lw_privs_6) (n := 14) (by decide +kernel)))
  exact h
theorem ks_6_15 : (Cond.selects RX9 yX9_in yX9_in) ∈ uG := by
  have h := uG_sel (pv_6 (List.getElem_mem (l := lw_privs_6) (n := 15) (by decide +kernel)))
  exact h
theorem ks_7_0 : (Cond.selects RX9 yX9_isInside yX9_isInside) ∈ uG := by
  have h := uG_sel (pv_7 (List.getElem_mem (l := lw_privs_7) (n := 0) (by decide +kernel)))
  exact h
theorem ks_7_1 : (Cond.selects RX9 yX9_isReached yX9_isReached) ∈ uG := by
  have h := uG_sel (pv_7 (List.getElem_mem (l := lw_privs_7) (n := 1) (by decide +kernel)))
  exact h
theorem ks_7_2 : (Cond.selects RX9 yX9_isHandedOn yX9_isHandedOn) ∈ uG := by
  have h := uG_sel (pv_7 (List.getElem_mem (l := lw_privs_7) (n := 2) (by decide +kernel)))
  exact h
theorem ks_7_3 : (Cond.selects RX9 yX9_faults yX9_faults) ∈ uG := by
  have h := uG_sel (pv_7 (List.getElem_mem (l := lw_privs_7) (n := 3) (by decide +kernel)))
  exact h
theorem ks_7_4 : (Cond.selects RX9 yX9_lookFor yX9_lookFor) ∈ uG := by
  have h := uG_sel (pv_7 (List.getElem_mem (l := lw_privs_7) (n := 4) (by decide +kernel)))
  exact h
theorem ks_7_5 : (Cond.selects RX9 yX9_faultOf yX9_faultOf) ∈ uG := by
  have h := uG_sel (pv_7 (List.getElem_mem (l := lw_privs_7) (n := 5) (by decide +kernel)))
  exact h
theorem ks_7_6 : (Cond.selects RX9 yX9_isLoopAround yX9_isLoopAround) ∈ uG := by
  have h := uG_sel (pv_7 (List.getElem_mem (l := lw_privs_7) (n := 6) (by decide +kernel)))
  exact h
theorem ks_7_7 : (Cond.selects RX9 yX9_loopAround yX9_loopAround) ∈ uG := by
  have h := uG_sel (pv_7 (List.getElem_mem (l := lw_privs_7) (n := 7) (by decide +kernel)))
  exact h
theorem ks_7_8 : (Cond.selects RX9 yX9_loopOutside yX9_loopOutside) ∈ uG := by
  have h := uG_sel (pv_7 (List.getElem_mem (l := lw_privs_7) (n := 8) (by decide +kernel)))
  exact h
theorem ks_7_9 : (Cond.selects RX9 yX9_hasLoop yX9_hasLoop) ∈ uG := by
  have h := uG_sel (pv_7 (List.getElem_mem (l := lw_privs_7) (n := 9) (by decide +kernel)))
  exact h
theorem ks_7_10 : (Cond.selects RX9 yX9_nameFault yX9_nameFault) ∈ uG := by
  have h := uG_sel (pv_7 (List.getElem_mem (l := lw_privs_7) (n := 10) (by decide +kernel)))
  exact h
theorem ks_7_11 : (Cond.selects RX9 yX9_areValues yX9_areValues) ∈ uG := by
  have h := uG_sel (pv_7 (List.getElem_mem (l := lw_privs_7) (n := 11) (by decide +kernel)))
  exact h
theorem ks_7_12 : (Cond.selects RX9 yX9_callFault yX9_callFault) ∈ uG := by
  have h := uG_sel (pv_7 (List.getElem_mem (l := lw_privs_7) (n := 12) (by decide +kernel)))
  exact h
theorem ks_7_13 : (Cond.selects RX9 yX9_count yX9_count) ∈ uG := by
  have h := uG_sel (pv_7 (List.getElem_mem (l := lw_privs_7) (n := 13) (by decide +kernel)))
  exact h
theorem ks_7_14 : (Cond.selects RX9 yX9_modeOf yX9_modeOf) ∈ uG := by
  have h := uG_sel (pv_7 (List.getElem_mem (l := lw_privs_7) (n := 14) (by decide +kernel)))
  exact h
theorem ks_7_15 : (Cond.selects RX9 yX9_suits yX9_suits) ∈ uG := by
  have h := uG_sel (pv_7 (List.getElem_mem (l := lw_privs_7) (n := 15) (by decide +kernel)))
  exact h
theorem ks_8_0 : (Cond.selects RX9 yX9_length yX9_length) ∈ uG := by
  have h := uG_sel (pv_8 (List.getElem_mem (l := lw_privs_8) (n := 0) (by decide +kernel)))
  exact h
theorem ks_8_1 : (Cond.selects RX9 yX9_writeAll yX9_writeAll) ∈ uG := by
  have h := uG_sel (pv_8 (List.getElem_mem (l := lw_privs_8) (n := 1) (by decide +kernel)))
  exact h
theorem ks_8_2 : (Cond.selects RX9 yX9_write yX9_write) ∈ uG := by
  have h := uG_sel (pv_8 (List.getElem_mem (l := lw_privs_8) (n := 2) (by decide +kernel)))
  exact h
theorem ks_8_3 : (Cond.selects RX9 yX9_emit yX9_emit) ∈ uG := by
  have h := uG_sel (pv_8 (List.getElem_mem (l := lw_privs_8) (n := 3) (by decide +kernel)))
  exact h
theorem ks_8_4 : (Cond.selects RX9 yX9_named yX9_named) ∈ uG := by
  have h := uG_sel (pv_8 (List.getElem_mem (l := lw_privs_8) (n := 4) (by decide +kernel)))
  exact h
theorem ks_8_5 : (Cond.selects RX9 yX9_writeCall yX9_writeCall) ∈ uG := by
  have h := uG_sel (pv_8 (List.getElem_mem (l := lw_privs_8) (n := 5) (by decide +kernel)))
  exact h
theorem ks_8_6 : (Cond.selects RX9 yX9_writeArgument yX9_writeArgument) ∈ uG := by
  have h := uG_sel (pv_8 (List.getElem_mem (l := lw_privs_8) (n := 6) (by decide +kernel)))
  exact h
theorem ks_8_7 : (Cond.selects RX9 yX9_routine yX9_routine) ∈ uG := by
  have h := uG_sel (pv_8 (List.getElem_mem (l := lw_privs_8) (n := 7) (by decide +kernel)))
  exact h
theorem ks_8_8 : (Cond.selects RX9 yX9_writeTurn yX9_writeTurn) ∈ uG := by
  have h := uG_sel (pv_8 (List.getElem_mem (l := lw_privs_8) (n := 8) (by decide +kernel)))
  exact h
theorem ks_8_9 : (Cond.selects RX9 yX9_writeSimple yX9_writeSimple) ∈ uG := by
  have h := uG_sel (pv_8 (List.getElem_mem (l := lw_privs_8) (n := 9) (by decide +kernel)))
  exact h
theorem ks_8_10 : (Cond.selects RX9 yX9_isFolded yX9_isFolded) ∈ uG := by
  have h := uG_sel (pv_8 (List.getElem_mem (l := lw_privs_8) (n := 10) (by decide +kernel)))
  exact h
theorem ks_8_11 : (Cond.selects RX9 yX9_isPlain yX9_isPlain) ∈ uG := by
  have h := uG_sel (pv_8 (List.getElem_mem (l := lw_privs_8) (n := 11) (by decide +kernel)))
  exact h
theorem ks_8_12 : (Cond.selects RX9 yX9_plain yX9_plain) ∈ uG := by
  have h := uG_sel (pv_8 (List.getElem_mem (l := lw_privs_8) (n := 12) (by decide +kernel)))
  exact h
theorem ks_8_13 : (Cond.selects RX9 yX9_beginWith yX9_beginWith) ∈ uG := by
  have h := uG_sel (pv_8 (List.getElem_mem (l := lw_privs_8) (n := 13) (by decide +kernel)))
  exact h
theorem ks_8_14 : (Cond.selects RX9 yX9_isTail yX9_isTail) ∈ uG := by
  have h := uG_sel (pv_8 (List.getElem_mem (l := lw_privs_8) (n := 14) (by decide +kernel)))
  exact h
theorem ks_8_15 : (Cond.selects RX9 yX9_ofNodeNow yX9_ofNodeNow) ∈ uG := by
  have h := uG_sel (pv_8 (List.getElem_mem (l := lw_privs_8) (n := 15) (by decide +kernel)))
  exact h
theorem ks_9_0 : (Cond.selects RX9 yX9_instruction yX9_instruction) ∈ uG := by
  have h := uG_sel (pv_9 (List.getElem_mem (l := lw_privs_9) (n := 0) (by decide +kernel)))
  exact h
theorem ks_9_1 : (Cond.selects RX9 yX9_go yX9_go) ∈ uG := by
  have h := uG_sel (pv_9 (List.getElem_mem (l := lw_privs_9) (n := 1) (by decide +kernel)))
  exact h
theorem ks_9_2 : (Cond.selects RX9 yX9_newFrame yX9_newFrame) ∈ uG := by
  have h := uG_sel (pv_9 (List.getElem_mem (l := lw_privs_9) (n := 2) (by decide +kernel)))
  exact h
theorem ks_9_3 : (Cond.selects RX9 yX9_allot yX9_allot) ∈ uG := by
  have h := uG_sel (pv_9 (List.getElem_mem (l := lw_privs_9) (n := 3) (by decide +kernel)))
  exact h
theorem ks_9_4 : (Cond.selects RX9 yX9_newArray yX9_newArray) ∈ uG := by
  have h := uG_sel (pv_9 (List.getElem_mem (l := lw_privs_9) (n := 4) (by decide +kernel)))
  exact h
theorem ks_9_5 : (Cond.selects RX9 yX9_begin yX9_begin) ∈ uG := by
  have h := uG_sel (pv_9 (List.getElem_mem (l := lw_privs_9) (n := 5) (by decide +kernel)))
  exact h
theorem ks_9_6 : (Cond.selects RX9 yX9_stop yX9_stop) ∈ uG := by
  have h := uG_sel (pv_9 (List.getElem_mem (l := lw_privs_9) (n := 6) (by decide +kernel)))
  exact h
theorem ks_9_7 : (Cond.selects RX9 yX9_walk yX9_walk) ∈ uG := by
  have h := uG_sel (pv_9 (List.getElem_mem (l := lw_privs_9) (n := 7) (by decide +kernel)))
  exact h
theorem ks_9_8 : (Cond.selects RX9 yX9_finish yX9_finish) ∈ uG := by
  have h := uG_sel (pv_9 (List.getElem_mem (l := lw_privs_9) (n := 8) (by decide +kernel)))
  exact h
theorem ks_9_9 : (Cond.selects RX9 yX9_put yX9_put) ∈ uG := by
  have h := uG_sel (pv_9 (List.getElem_mem (l := lw_privs_9) (n := 9) (by decide +kernel)))
  exact h
theorem ks_9_10 : (Cond.selects RX9 yX9_use yX9_use) ∈ uG := by
  have h := uG_sel (pv_9 (List.getElem_mem (l := lw_privs_9) (n := 10) (by decide +kernel)))
  exact h
theorem ks_9_11 : (Cond.selects RX9 yX9_slot yX9_slot) ∈ uG := by
  have h := uG_sel (pv_9 (List.getElem_mem (l := lw_privs_9) (n := 11) (by decide +kernel)))
  exact h
theorem ks_9_12 : (Cond.selects RX9 yX9_frameOf yX9_frameOf) ∈ uG := by
  have h := uG_sel (pv_9 (List.getElem_mem (l := lw_privs_9) (n := 12) (by decide +kernel)))
  exact h
theorem ks_9_13 : (Cond.selects RX9 yX9_reckonNode yX9_reckonNode) ∈ uG := by
  have h := uG_sel (pv_9 (List.getElem_mem (l := lw_privs_9) (n := 13) (by decide +kernel)))
  exact h
theorem ks_9_14 : (Cond.selects RX9 yX9_take yX9_take) ∈ uG := by
  have h := uG_sel (pv_9 (List.getElem_mem (l := lw_privs_9) (n := 14) (by decide +kernel)))
  exact h
theorem ks_9_15 : (Cond.selects RX9 yX9_call yX9_call) ∈ uG := by
  have h := uG_sel (pv_9 (List.getElem_mem (l := lw_privs_9) (n := 15) (by decide +kernel)))
  exact h
theorem ks_10_0 : (Cond.selects RX9 yX9_enter yX9_enter) ∈ uG := by
  have h := uG_sel (pv_10 (List.getElem_mem (l := lw_privs_10) (n := 0) (by decide +kernel)))
  exact h
theorem ks_10_1 : (Cond.selects RX9 yX9_cutTo yX9_cutTo) ∈ uG := by
  have h := uG_sel (pv_10 (List.getElem_mem (l := lw_privs_10) (n := 1) (by decide +kernel)))
  exact h
theorem ks_10_2 : (Cond.selects RX9 yX9_argument yX9_argument) ∈ uG := by
  have h := uG_sel (pv_10 (List.getElem_mem (l := lw_privs_10) (n := 2) (by decide +kernel)))
  exact h
theorem ks_10_3 : (Cond.selects RX9 yX9_copyOf yX9_copyOf) ∈ uG := by
  have h := uG_sel (pv_10 (List.getElem_mem (l := lw_privs_10) (n := 3) (by decide +kernel)))
  exact h
theorem ks_10_4 : (Cond.selects RX9 yX9_leave yX9_leave) ∈ uG := by
  have h := uG_sel (pv_10 (List.getElem_mem (l := lw_privs_10) (n := 4) (by decide +kernel)))
  exact h
theorem ks_10_5 : (Cond.selects RX9 yX9_state yX9_state) ∈ uG := by
  have h := uG_sel (pv_10 (List.getElem_mem (l := lw_privs_10) (n := 5) (by decide +kernel)))
  exact h
theorem ks_10_6 : (Cond.selects RX9 yX9_store yX9_store) ∈ uG := by
  have h := uG_sel (pv_10 (List.getElem_mem (l := lw_privs_10) (n := 6) (by decide +kernel)))
  exact h
theorem ks_10_7 : (Cond.selects RX9 yX9_turn yX9_turn) ∈ uG := by
  have h := uG_sel (pv_10 (List.getElem_mem (l := lw_privs_10) (n := 7) (by decide +kernel)))
  exact h
theorem ks_10_8 : (Cond.selects RX9 yX9_give yX9_give) ∈ uG := by
  have h := uG_sel (pv_10 (List.getElem_mem (l := lw_privs_10) (n := 8) (by decide +kernel)))
  exact h
theorem ks_10_9 : (Cond.selects RX9 yX9_print yX9_print) ∈ uG := by
  have h := uG_sel (pv_10 (List.getElem_mem (l := lw_privs_10) (n := 9) (by decide +kernel)))
  exact h
theorem ks_10_10 : (Cond.selects RX9 yX9_manyNow yX9_manyNow) ∈ uG := by
  have h := uG_sel (pv_10 (List.getElem_mem (l := lw_privs_10) (n := 10) (by decide +kernel)))
  exact h
theorem ks_10_11 : (Cond.selects RX9 yX9_allCode yX9_allCode) ∈ uG := by
  have h := uG_sel (pv_10 (List.getElem_mem (l := lw_privs_10) (n := 11) (by decide +kernel)))
  exact h
theorem ks_10_12 : (Cond.selects RX9 yX9_hiddenNow yX9_hiddenNow) ∈ uG := by
  have h := uG_sel (pv_10 (List.getElem_mem (l := lw_privs_10) (n := 12) (by decide +kernel)))
  exact h
theorem mi_X0_forget : mI yX0_forget cX0_forget 1 none 0 := ⟨kw_3_235, kw_3_236, kw_1_7, kw_3_237, by decide +kernel, by decide +kernel, by decide +kernel⟩
theorem mi_X0_layOut : mI yX0_layOut cX0_layOut 3 none 1 := ⟨kw_4_80, kw_4_81, kw_1_7, kw_4_82, by decide +kernel, by decide +kernel, by decide +kernel⟩
theorem mi_X0_isPushed : mI yX0_isPushed cX0_isPushed 2 (some .boolean) 1 := ⟨kw_4_85, ks_2_7, kw_1_7, kw_4_86, by decide +kernel, by decide +kernel, by decide +kernel⟩
theorem mi_X0_isJump : mI yX0_isJump cX0_isJump 2 (some .boolean) 1 := ⟨kw_4_100, ks_2_10, kw_1_7, kw_4_101, by decide +kernel, by decide +kernel, by decide +kernel⟩
theorem mi_X0_lengthOfPart : mI yX0_lengthOfPart cX0_lengthOfPart 2 (some .int) 1 := ⟨kw_4_90, ks_2_8, kw_1_7, kw_4_91, by decide +kernel, by decide +kernel, by decide +kernel⟩
theorem mi_X0_ownLength : mI yX0_ownLength cX0_ownLength 2 (some .int) 1 := ⟨kw_4_96, ks_2_9, kw_1_7, kw_4_97, by decide +kernel, by decide +kernel, by decide +kernel⟩
theorem mi_X0_placeProcedures : mI yX0_placeProcedures cX0_placeProcedures 4 none 0 := ⟨kw_4_104, ks_2_11, kw_1_7, kw_4_105, by decide +kernel, by decide +kernel, by decide +kernel⟩
theorem mi_X0_clear : mI yX0_clear cX0_clear 4 none 2 := ⟨kw_4_108, ks_2_12, kw_1_7, kw_4_109, by decide +kernel, by decide +kernel, by decide +kernel⟩
theorem mi_X0_placeParts : mI yX0_placeParts cX0_placeParts 8 none 1 := ⟨kw_4_116, ks_2_14, kw_1_7, kw_4_117, by decide +kernel, by decide +kernel, by decide +kernel⟩
theorem mi_X0_place : mI yX0_place cX0_place 3 none 2 := ⟨kw_4_124, ks_3_0, kw_1_7, kw_4_125, by decide +kernel, by decide +kernel, by decide +kernel⟩
theorem mi_X0_swallow : mI yX0_swallow cX0_swallow 3 none 2 := ⟨kw_4_120, ks_2_15, kw_1_7, kw_4_121, by decide +kernel, by decide +kernel, by decide +kernel⟩
theorem mi_X0_noteBegin : mI yX0_noteBegin cX0_noteBegin 3 none 1 := ⟨kw_4_128, ks_3_1, kw_1_7, kw_4_129, by decide +kernel, by decide +kernel, by decide +kernel⟩
theorem mi_X0_put : mI yX0_put cX0_put 6 none 5 := ⟨kw_4_112, ks_2_13, kw_1_7, kw_4_113, by decide +kernel, by decide +kernel, by decide +kernel⟩
theorem mi_X0_putNamed : mI yX0_putNamed cX0_putNamed 4 none 3 := ⟨kw_4_144, ks_3_4, kw_1_7, kw_4_145, by decide +kernel, by decide +kernel, by decide +kernel⟩
theorem mi_X0_write : mI yX0_write cX0_write 4 none 1 := ⟨kw_4_132, ks_3_2, kw_1_7, kw_4_133, by decide +kernel, by decide +kernel, by decide +kernel⟩
theorem mi_X0_writeExpression : mI yX0_writeExpression cX0_writeExpression 5 none 3 := ⟨kw_4_136, ks_3_3, kw_1_7, kw_4_137, by decide +kernel, by decide +kernel, by decide +kernel⟩
theorem mi_X0_writeCall : mI yX0_writeCall cX0_writeCall 6 none 3 := ⟨kw_4_148, ks_3_5, kw_1_7, kw_4_149, by decide +kernel, by decide +kernel, by decide +kernel⟩
theorem mi_X0_writeStatement : mI yX0_writeStatement cX0_writeStatement 4 none 3 := ⟨kw_4_152, ks_3_6, kw_1_7, kw_4_153, by decide +kernel, by decide +kernel, by decide +kernel⟩
theorem mi_X0_writeIf : mI yX0_writeIf cX0_writeIf 5 none 1 := ⟨kw_4_156, ks_3_7, kw_1_7, kw_4_157, by decide +kernel, by decide +kernel, by decide +kernel⟩
theorem mi_X0_writeLoop : mI yX0_writeLoop cX0_writeLoop 4 none 2 := ⟨kw_4_160, ks_3_8, kw_1_7, kw_4_161, by decide +kernel, by decide +kernel, by decide +kernel⟩
theorem mi_X1_has : mI yX1_has cX1_has 2 (some .boolean) 1 := ⟨kw_4_171, kw_4_172, kw_1_2, kw_4_173, by decide +kernel, by decide +kernel, by decide +kernel⟩
theorem mi_X1_declares : mI yX1_declares cX1_declares 3 (some .boolean) 2 := ⟨kw_3_98, kw_3_99, kw_1_2, kw_3_100, by decide +kernel, by decide +kernel, by decide +kernel⟩
theorem mi_X1_takesParameter : mI yX1_takesParameter cX1_takesParameter 3 (some .boolean) 2 := ⟨kw_5_218, kw_5_219, kw_1_2, kw_5_220, by decide +kernel, by decide +kernel, by decide +kernel⟩
theorem mi_X1_takesVariable : mI yX1_takesVariable cX1_takesVariable 3 (some .boolean) 2 := ⟨kw_6_0, kw_6_1, kw_1_2, kw_6_2, by decide +kernel, by decide +kernel, by decide +kernel⟩
theorem mi_X1_addProcedure : mI yX1_addProcedure cX1_addProcedure 4 (some .int) 2 := ⟨kw_5_203, kw_5_204, kw_1_2, kw_5_205, by decide +kernel, by decide +kernel, by decide +kernel⟩
theorem mi_X1_addParameter : mI yX1_addParameter cX1_addParameter 4 (some .int) 3 := ⟨kw_5_222, kw_5_223, kw_1_2, kw_5_224, by decide +kernel, by decide +kernel, by decide +kernel⟩
theorem mi_X1_addVariable : mI yX1_addVariable cX1_addVariable 5 (some .int) 4 := ⟨kw_6_4, kw_6_5, kw_1_2, kw_6_6, by decide +kernel, by decide +kernel, by decide +kernel⟩
theorem mi_X1_declare : mI yX1_declare cX1_declare 6 none 4 := ⟨kw_5_208, ks_5_8, kw_1_2, kw_5_209, by decide +kernel, by decide +kernel, by decide +kernel⟩
theorem mi_X1_declarePlace : mI yX1_declarePlace cX1_declarePlace 6 (some .int) 4 := ⟨kw_5_227, ks_5_9, kw_1_2, kw_5_228, by decide +kernel, by decide +kernel, by decide +kernel⟩
theorem mi_X1_declarer : mI yX1_declarer cX1_declarer 5 (some .int) 2 := ⟨kw_3_94, kw_3_95, kw_1_2, kw_3_96, by decide +kernel, by decide +kernel, by decide +kernel⟩
theorem mi_X1_hopsTo : mI yX1_hopsTo cX1_hopsTo 5 (some .int) 2 := ⟨kw_3_102, kw_3_103, kw_1_2, kw_3_104, by decide +kernel, by decide +kernel, by decide +kernel⟩
theorem mi_X1_isInside : mI yX1_isInside cX1_isInside 5 (some .boolean) 2 := ⟨kw_3_149, kw_3_150, kw_1_2, kw_3_151, by decide +kernel, by decide +kernel, by decide +kernel⟩
theorem mi_X1_takesValuesAlone : mI yX1_takesValuesAlone cX1_takesValuesAlone 3 (some .boolean) 1 := ⟨kw_3_145, kw_3_146, kw_1_2, kw_3_147, by decide +kernel, by decide +kernel, by decide +kernel⟩
theorem mi_X2_find : mI yX2_find cX2_find 4 none 0 := ⟨kw_3_175, kw_3_176, kw_1_6, kw_3_177, by decide +kernel, by decide +kernel, by decide +kernel⟩
theorem mi_X2_await : mI yX2_await cX2_await 2 none 1 := ⟨kw_3_184, ks_2_0, kw_1_6, kw_3_185, by decide +kernel, by decide +kernel, by decide +kernel⟩
theorem mi_X2_tell : mI yX2_tell cX2_tell 4 none 3 := ⟨kw_3_180, ks_1_15, kw_1_6, kw_3_181, by decide +kernel, by decide +kernel, by decide +kernel⟩
theorem mi_X2_faultOf : mI yX2_faultOf cX2_faultOf 4 (some .int) 1 := ⟨kw_3_188, ks_2_1, kw_1_6, kw_3_189, by decide +kernel, by decide +kernel, by decide +kernel⟩
theorem mi_X2_isAsItHasToBe : mI yX2_isAsItHasToBe cX2_isAsItHasToBe 3 (some .boolean) 1 := ⟨kw_3_193, ks_2_2, kw_1_6, kw_3_194, by decide +kernel, by decide +kernel, by decide +kernel⟩
theorem ms_X2_isToBeSet : mS yX2_isToBeSet cX2_isToBeSet 1 (some .boolean) 1 := ⟨kw_3_196, kw_1_6, kw_3_197, by decide +kernel, by decide +kernel, by decide +kernel⟩
theorem ms_X2_isProc : mS yX2_isProc cX2_isProc 1 (some .boolean) 1 := ⟨kw_3_199, kw_1_6, kw_3_200, by decide +kernel, by decide +kernel, by decide +kernel⟩
theorem mi_X2_faultOfArguments : mI yX2_faultOfArguments cX2_faultOfArguments 6 (some .int) 1 := ⟨kw_3_204, ks_2_3, kw_1_6, kw_3_205, by decide +kernel, by decide +kernel, by decide +kernel⟩
theorem mi_X2_suits : mI yX2_suits cX2_suits 3 (some .boolean) 2 := ⟨kw_3_212, ks_2_4, kw_1_6, kw_3_213, by decide +kernel, by decide +kernel, by decide +kernel⟩
theorem mi_X3_execute : mI yX3_execute cX3_execute 7 none 4 := ⟨kw_5_8, kw_5_9, kw_1_8, kw_5_10, by decide +kernel, by decide +kernel, by decide +kernel⟩
theorem mi_X3_clear : mI yX3_clear cX3_clear 1 none 0 := ⟨kw_5_14, ks_3_12, kw_1_8, kw_5_15, by decide +kernel, by decide +kernel, by decide +kernel⟩
theorem mi_X3_begin : mI yX3_begin cX3_begin 5 (some .boolean) 2 := ⟨kw_5_76, ks_4_1, kw_1_8, kw_5_77, by decide +kernel, by decide +kernel, by decide +kernel⟩
end XW3
