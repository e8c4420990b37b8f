theorem gw_1_0 : Cond.initialized RL ∈ gT := gm_1 (i := 0) rfl rfl
theorem gw_1_1 : Cond.initialized RX7 ∈ gT := gm_1 (i := 1) rfl rfl
theorem gw_1_2 : Cond.initialized RX1 ∈ gT := gm_1 (i := 2) rfl rfl
theorem gw_1_3 : Cond.initialized RX4 ∈ gT := gm_1 (i := 3) rfl rfl
theorem gw_1_4 : Cond.initialized RX0 ∈ gT := gm_1 (i := 4) rfl rfl
theorem gw_1_5 : Cond.initialized RX5 ∈ gT := gm_1 (i := 5) rfl rfl
theorem gw_1_6 : Cond.initialized RX2 ∈ gT := gm_1 (i := 6) rfl rfl
theorem gw_1_7 : Cond.initialized RX8 ∈ gT := gm_1 (i := 7) rfl rfl
theorem gw_1_8 : Cond.initialized RX3 ∈ gT := gm_1 (i := 8) rfl rfl
theorem gw_1_9 : Cond.initialized RJ0 ∈ gT := gm_1 (i := 9) rfl rfl
theorem gw_1_10 : Cond.initialized RJ1 ∈ gT := gm_1 (i := 10) rfl rfl
theorem gw_1_11 : Cond.initialized RJ3 ∈ gT := gm_1 (i := 11) rfl rfl
theorem gw_1_12 : Cond.initialized RJ2 ∈ gT := gm_1 (i := 12) rfl rfl
theorem gw_1_13 : Cond.initialized RJ9 ∈ gT := gm_1 (i := 13) rfl rfl
theorem gw_1_14 : Cond.initialized RX6 ∈ gT := gm_1 (i := 14) rfl rfl
theorem gw_1_15 : Cond.classLink RL 7 RX7 ∈ gT := gm_1 (i := 15) rfl rfl
theorem gw_1_16 : Cond.instantiable RX7 9 ∈ gT := gm_1 (i := 16) rfl rfl
theorem gw_1_17 : Cond.methodLink RL 9 yX7_init ∈ gT := gm_1 (i := 17) rfl rfl
theorem gw_1_18 : Cond.instanceMethod yX7_init ∈ gT := gm_1 (i := 18) rfl rfl
theorem gw_1_19 : Cond.code yX7_init cX7_init 1 none ∈ gT := gm_1 (i := 19) rfl rfl
theorem gw_1_20 : Cond.methodLink RX7 1 objectInit ∈ gT := gm_1 (i := 20) rfl rfl
theorem gw_1_21 : Cond.instanceMethod objectInit ∈ gT := gm_1 (i := 21) rfl rfl
theorem gw_1_22 : Cond.code objectInit ⟨#[0xb1]⟩ 1 none ∈ gT := gm_1 (i := 22) rfl rfl
theorem gw_1_23 : Cond.classLink RX7 7 RX1 ∈ gT := gm_1 (i := 23) rfl rfl
theorem gw_1_24 : Cond.instantiable RX1 6 ∈ gT := gm_1 (i := 24) rfl rfl
theorem gw_1_25 : Cond.methodLink RX7 9 yX1_init ∈ gT := gm_1 (i := 25) rfl rfl
theorem gw_1_26 : Cond.instanceMethod yX1_init ∈ gT := gm_1 (i := 26) rfl rfl
theorem gw_1_27 : Cond.code yX1_init cX1_init 1 none ∈ gT := gm_1 (i := 27) rfl rfl
theorem gw_1_28 : Cond.methodLink RX1 3 objectInit ∈ gT := gm_1 (i := 28) rfl rfl
theorem gw_1_29 : Cond.methodLink RX1 22 yX1_layOut ∈ gT := gm_1 (i := 29) rfl rfl
theorem gw_1_30 : Cond.instanceMethod yX1_layOut ∈ gT := gm_1 (i := 30) rfl rfl
theorem gw_1_31 : Cond.selects RX1 yX1_layOut yX1_layOut ∈ gT := gm_1 (i := 31) rfl rfl
theorem gw_1_32 : Cond.code yX1_layOut cX1_layOut 4 none ∈ gT := gm_1 (i := 32) rfl rfl
theorem gw_1_33 : Cond.fieldLink RX1 9 "DeltaRuns$Land" "heights" "[I" ∈ gT := gm_1 (i := 33) rfl rfl
theorem gw_1_34 : Cond.fieldLink RX7 171 "DeltaRuns$Land" "heights" "[I" ∈ gT := gm_1 (i := 34) rfl rfl
theorem gw_1_35 : Cond.fieldLink RX1 26 "DeltaRuns$Land" "width" "I" ∈ gT := gm_1 (i := 35) rfl rfl
theorem gw_1_36 : Cond.fieldLink RX7 148 "DeltaRuns$Land" "width" "I" ∈ gT := gm_1 (i := 36) rfl rfl
theorem gw_1_37 : Cond.fieldLink RX1 29 "DeltaRuns$Land" "depth" "I" ∈ gT := gm_1 (i := 37) rfl rfl
theorem gw_1_38 : Cond.fieldLink RX7 145 "DeltaRuns$Land" "depth" "I" ∈ gT := gm_1 (i := 38) rfl rfl
theorem gw_1_39 : Cond.fieldLink RX5 43 "DeltaRuns$Land" "springCell" "I" ∈ gT := gm_1 (i := 39) rfl rfl
theorem gw_1_40 : Cond.fieldLink RX1 32 "DeltaRuns$Land" "springCell" "I" ∈ gT := gm_1 (i := 40) rfl rfl
theorem gw_1_41 : Cond.fieldLink RX7 96 "DeltaRuns$Land" "springCell" "I" ∈ gT := gm_1 (i := 41) rfl rfl
theorem gw_1_42 : Cond.fieldLink RX1 15 "DeltaRuns$Land" "springFlow" "I" ∈ gT := gm_1 (i := 42) rfl rfl
theorem gw_1_43 : Cond.fieldLink RX5 49 "DeltaRuns$Land" "springFlow" "I" ∈ gT := gm_1 (i := 43) rfl rfl
theorem gw_1_44 : Cond.fieldLink RX7 99 "DeltaRuns$Land" "springFlow" "I" ∈ gT := gm_1 (i := 44) rfl rfl
theorem gw_1_45 : Cond.fieldLink RX1 19 "DeltaRuns$Land" "lakeLevel" "I" ∈ gT := gm_1 (i := 45) rfl rfl
theorem gw_1_46 : Cond.fieldLink RX7 89 "DeltaRuns$Land" "lakeLevel" "I" ∈ gT := gm_1 (i := 46) rfl rfl
theorem gw_1_47 : Cond.laysFinal RX1 "DeltaRuns$Land" "heights" "[I" ∈ gT := gm_1 (i := 47) rfl rfl
theorem gw_1_49 : Cond.lays RX1 "DeltaRuns$Land" "width" "I" ∈ gT := gm_1 (i := 49) rfl rfl
theorem gw_1_51 : Cond.lays RX1 "DeltaRuns$Land" "depth" "I" ∈ gT := gm_1 (i := 51) rfl rfl
theorem gw_1_53 : Cond.lays RX1 "DeltaRuns$Land" "springCell" "I" ∈ gT := gm_1 (i := 53) rfl rfl
theorem gw_1_55 : Cond.lays RX1 "DeltaRuns$Land" "springFlow" "I" ∈ gT := gm_1 (i := 55) rfl rfl
theorem gw_1_57 : Cond.lays RX1 "DeltaRuns$Land" "lakeLevel" "I" ∈ gT := gm_1 (i := 57) rfl rfl
theorem gw_1_60 : Cond.arrayClass .int ∈ gT := gm_1 (i := 60) rfl rfl
theorem gw_1_61 : Cond.classLink RX7 16 RX4 ∈ gT := gm_1 (i := 61) rfl rfl
theorem gw_1_62 : Cond.instantiable RX4 2 ∈ gT := gm_1 (i := 62) rfl rfl
theorem gw_1_64 : Cond.instanceMethod yX4_init ∈ gT := gm_1 (i := 64) rfl rfl
theorem gw_1_65 : Cond.code yX4_init cX4_init 1 none ∈ gT := gm_1 (i := 65) rfl rfl
theorem gw_1_66 : Cond.methodLink RX4 3 objectInit ∈ gT := gm_1 (i := 66) rfl rfl
theorem gw_1_67 : Cond.fieldLink RX4 9 "DeltaRuns$Tape" "bytes" "[B" ∈ gT := gm_1 (i := 67) rfl rfl
theorem gw_1_68 : Cond.fieldLink RX3 94 "DeltaRuns$Tape" "bytes" "[B" ∈ gT := gm_1 (i := 68) rfl rfl
theorem gw_1_69 : Cond.fieldLink RX4 15 "DeltaRuns$Tape" "length" "I" ∈ gT := gm_1 (i := 69) rfl rfl
theorem gw_1_70 : Cond.fieldLink RX7 102 "DeltaRuns$Tape" "length" "I" ∈ gT := gm_1 (i := 70) rfl rfl
theorem gw_1_71 : Cond.fieldLink RX3 117 "DeltaRuns$Tape" "length" "I" ∈ gT := gm_1 (i := 71) rfl rfl
theorem gw_1_72 : Cond.laysFinal RX4 "DeltaRuns$Tape" "bytes" "[B" ∈ gT := gm_1 (i := 72) rfl rfl
theorem gw_1_74 : Cond.lays RX4 "DeltaRuns$Tape" "length" "I" ∈ gT := gm_1 (i := 74) rfl rfl
theorem gw_1_77 : Cond.arrayClass .byte ∈ gT := gm_1 (i := 77) rfl rfl
theorem gw_1_78 : Cond.classLink RX7 23 RX0 ∈ gT := gm_1 (i := 78) rfl rfl
theorem gw_1_79 : Cond.instantiable RX0 5 ∈ gT := gm_1 (i := 79) rfl rfl
theorem gw_1_81 : Cond.instanceMethod yX0_init ∈ gT := gm_1 (i := 81) rfl rfl
theorem gw_1_82 : Cond.code yX0_init cX0_init 1 none ∈ gT := gm_1 (i := 82) rfl rfl
theorem gw_1_83 : Cond.methodLink RX0 3 objectInit ∈ gT := gm_1 (i := 83) rfl rfl
theorem gw_1_84 : Cond.fieldLink RX0 9 "DeltaRuns$Entries" "years" "[I" ∈ gT := gm_1 (i := 84) rfl rfl
theorem gw_1_85 : Cond.fieldLink RX7 210 "DeltaRuns$Entries" "years" "[I" ∈ gT := gm_1 (i := 85) rfl rfl
theorem gw_1_86 : Cond.fieldLink RX0 15 "DeltaRuns$Entries" "cells" "[I" ∈ gT := gm_1 (i := 86) rfl rfl
theorem gw_1_87 : Cond.fieldLink RX7 213 "DeltaRuns$Entries" "cells" "[I" ∈ gT := gm_1 (i := 87) rfl rfl
theorem gw_1_88 : Cond.fieldLink RX0 18 "DeltaRuns$Entries" "heights" "[I" ∈ gT := gm_1 (i := 88) rfl rfl
theorem gw_1_89 : Cond.fieldLink RX7 216 "DeltaRuns$Entries" "heights" "[I" ∈ gT := gm_1 (i := 89) rfl rfl
theorem gw_1_90 : Cond.fieldLink RX0 21 "DeltaRuns$Entries" "days" "[I" ∈ gT := gm_1 (i := 90) rfl rfl
theorem gw_1_91 : Cond.fieldLink RX7 207 "DeltaRuns$Entries" "days" "[I" ∈ gT := gm_1 (i := 91) rfl rfl
theorem gw_1_92 : Cond.fieldLink RX0 24 "DeltaRuns$Entries" "total" "I" ∈ gT := gm_1 (i := 92) rfl rfl
theorem gw_1_93 : Cond.fieldLink RX7 72 "DeltaRuns$Entries" "total" "I" ∈ gT := gm_1 (i := 93) rfl rfl
theorem gw_1_94 : Cond.laysFinal RX0 "DeltaRuns$Entries" "years" "[I" ∈ gT := gm_1 (i := 94) rfl rfl
theorem gw_1_96 : Cond.laysFinal RX0 "DeltaRuns$Entries" "cells" "[I" ∈ gT := gm_1 (i := 96) rfl rfl
theorem gw_1_98 : Cond.laysFinal RX0 "DeltaRuns$Entries" "heights" "[I" ∈ gT := gm_1 (i := 98) rfl rfl
theorem gw_1_100 : Cond.laysFinal RX0 "DeltaRuns$Entries" "days" "[I" ∈ gT := gm_1 (i := 100) rfl rfl
theorem gw_1_102 : Cond.lays RX0 "DeltaRuns$Entries" "total" "I" ∈ gT := gm_1 (i := 102) rfl rfl
theorem gw_1_105 : Cond.classLink RX7 30 RX5 ∈ gT := gm_1 (i := 105) rfl rfl
theorem gw_1_106 : Cond.instantiable RX5 11 ∈ gT := gm_1 (i := 106) rfl rfl
theorem gw_1_108 : Cond.instanceMethod yX5_init ∈ gT := gm_1 (i := 108) rfl rfl
theorem gw_1_109 : Cond.code yX5_init cX5_init 1 none ∈ gT := gm_1 (i := 109) rfl rfl
theorem gw_1_110 : Cond.methodLink RX5 3 objectInit ∈ gT := gm_1 (i := 110) rfl rfl
theorem gw_1_111 : Cond.fieldLink RX5 9 "DeltaRuns$Water" "heights" "[I" ∈ gT := gm_1 (i := 111) rfl rfl
theorem gw_1_112 : Cond.fieldLink RX2 45 "DeltaRuns$Water" "heights" "[I" ∈ gT := gm_1 (i := 112) rfl rfl
theorem gw_1_113 : Cond.fieldLink RX7 194 "DeltaRuns$Water" "heights" "[I" ∈ gT := gm_1 (i := 113) rfl rfl
theorem gw_1_114 : Cond.fieldLink RX5 15 "DeltaRuns$Water" "dykes" "[Z" ∈ gT := gm_1 (i := 114) rfl rfl
theorem gw_1_115 : Cond.fieldLink RX2 58 "DeltaRuns$Water" "dykes" "[Z" ∈ gT := gm_1 (i := 115) rfl rfl
theorem gw_1_116 : Cond.fieldLink RX7 200 "DeltaRuns$Water" "dykes" "[Z" ∈ gT := gm_1 (i := 116) rfl rfl
theorem gw_1_117 : Cond.fieldLink RX5 19 "DeltaRuns$Water" "came" "[I" ∈ gT := gm_1 (i := 117) rfl rfl
theorem gw_1_118 : Cond.fieldLink RX7 141 "DeltaRuns$Water" "came" "[I" ∈ gT := gm_1 (i := 118) rfl rfl
theorem gw_1_119 : Cond.fieldLink RX5 22 "DeltaRuns$Water" "pits" "[Z" ∈ gT := gm_1 (i := 119) rfl rfl
theorem gw_1_120 : Cond.fieldLink RX5 25 "DeltaRuns$Water" "wet" "[I" ∈ gT := gm_1 (i := 120) rfl rfl
theorem gw_1_121 : Cond.fieldLink RX5 56 "DeltaRuns$Water" "wetTotal" "I" ∈ gT := gm_1 (i := 121) rfl rfl
theorem gw_1_122 : Cond.fieldLink RX5 28 "DeltaRuns$Water" "ways" "[I" ∈ gT := gm_1 (i := 122) rfl rfl
theorem gw_1_123 : Cond.fieldLink RX5 31 "DeltaRuns$Water" "drops" "[I" ∈ gT := gm_1 (i := 123) rfl rfl
theorem gw_1_124 : Cond.fieldLink RX5 34 "DeltaRuns$Water" "shares" "[I" ∈ gT := gm_1 (i := 124) rfl rfl
theorem gw_1_125 : Cond.fieldLink RX5 37 "DeltaRuns$Water" "rests" "[I" ∈ gT := gm_1 (i := 125) rfl rfl
theorem gw_1_126 : Cond.fieldLink RX5 76 "DeltaRuns$Water" "waysTotal" "I" ∈ gT := gm_1 (i := 126) rfl rfl
theorem gw_1_127 : Cond.laysFinal RX5 "DeltaRuns$Water" "heights" "[I" ∈ gT := gm_1 (i := 127) rfl rfl
theorem gw_1_129 : Cond.laysFinal RX5 "DeltaRuns$Water" "dykes" "[Z" ∈ gT := gm_1 (i := 129) rfl rfl
theorem gw_1_131 : Cond.laysFinal RX5 "DeltaRuns$Water" "came" "[I" ∈ gT := gm_1 (i := 131) rfl rfl
theorem gw_1_133 : Cond.laysFinal RX5 "DeltaRuns$Water" "pits" "[Z" ∈ gT := gm_1 (i := 133) rfl rfl
theorem gw_1_135 : Cond.laysFinal RX5 "DeltaRuns$Water" "wet" "[I" ∈ gT := gm_1 (i := 135) rfl rfl
theorem gw_1_137 : Cond.lays RX5 "DeltaRuns$Water" "wetTotal" "I" ∈ gT := gm_1 (i := 137) rfl rfl
theorem gw_1_139 : Cond.laysFinal RX5 "DeltaRuns$Water" "ways" "[I" ∈ gT := gm_1 (i := 139) rfl rfl
theorem gw_1_141 : Cond.laysFinal RX5 "DeltaRuns$Water" "drops" "[I" ∈ gT := gm_1 (i := 141) rfl rfl
theorem gw_1_143 : Cond.laysFinal RX5 "DeltaRuns$Water" "shares" "[I" ∈ gT := gm_1 (i := 143) rfl rfl
theorem gw_1_145 : Cond.laysFinal RX5 "DeltaRuns$Water" "rests" "[I" ∈ gT := gm_1 (i := 145) rfl rfl
theorem gw_1_147 : Cond.lays RX5 "DeltaRuns$Water" "waysTotal" "I" ∈ gT := gm_1 (i := 147) rfl rfl
theorem gw_1_150 : Cond.arrayClass .boolean ∈ gT := gm_1 (i := 150) rfl rfl
theorem gw_1_151 : Cond.classLink RX7 37 RX6 ∈ gT := gm_1 (i := 151) rfl rfl
theorem gw_1_153 : Cond.classLink RX7 43 RX2 ∈ gT := gm_1 (i := 153) rfl rfl
theorem gw_1_154 : Cond.instantiable RX2 6 ∈ gT := gm_1 (i := 154) rfl rfl
theorem gw_1_156 : Cond.instanceMethod yX2_init ∈ gT := gm_1 (i := 156) rfl rfl
theorem gw_1_157 : Cond.code yX2_init cX2_init 1 none ∈ gT := gm_1 (i := 157) rfl rfl
theorem gw_1_158 : Cond.methodLink RX2 3 objectInit ∈ gT := gm_1 (i := 158) rfl rfl
theorem gw_1_159 : Cond.fieldLink RX2 9 "DeltaRuns$Plan" "years" "[I" ∈ gT := gm_1 (i := 159) rfl rfl
theorem gw_1_160 : Cond.fieldLink RX3 51 "DeltaRuns$Plan" "years" "[I" ∈ gT := gm_1 (i := 160) rfl rfl
theorem gw_1_161 : Cond.fieldLink RX2 15 "DeltaRuns$Plan" "kinds" "[I" ∈ gT := gm_1 (i := 161) rfl rfl
theorem gw_1_162 : Cond.fieldLink RX3 62 "DeltaRuns$Plan" "kinds" "[I" ∈ gT := gm_1 (i := 162) rfl rfl
theorem gw_1_163 : Cond.fieldLink RX2 18 "DeltaRuns$Plan" "columns" "[I" ∈ gT := gm_1 (i := 163) rfl rfl
theorem gw_1_164 : Cond.fieldLink RX3 65 "DeltaRuns$Plan" "columns" "[I" ∈ gT := gm_1 (i := 164) rfl rfl
theorem gw_1_165 : Cond.fieldLink RX2 21 "DeltaRuns$Plan" "rows" "[I" ∈ gT := gm_1 (i := 165) rfl rfl
theorem gw_1_166 : Cond.fieldLink RX3 68 "DeltaRuns$Plan" "rows" "[I" ∈ gT := gm_1 (i := 166) rfl rfl
theorem gw_1_167 : Cond.fieldLink RX2 24 "DeltaRuns$Plan" "numbers" "[I" ∈ gT := gm_1 (i := 167) rfl rfl
theorem gw_1_168 : Cond.fieldLink RX3 75 "DeltaRuns$Plan" "numbers" "[I" ∈ gT := gm_1 (i := 168) rfl rfl
theorem gw_1_169 : Cond.fieldLink RX3 19 "DeltaRuns$Plan" "total" "I" ∈ gT := gm_1 (i := 169) rfl rfl
theorem gw_1_170 : Cond.fieldLink RX2 31 "DeltaRuns$Plan" "total" "I" ∈ gT := gm_1 (i := 170) rfl rfl
theorem gw_1_171 : Cond.fieldLink RX7 118 "DeltaRuns$Plan" "total" "I" ∈ gT := gm_1 (i := 171) rfl rfl
theorem gw_1_172 : Cond.laysFinal RX2 "DeltaRuns$Plan" "years" "[I" ∈ gT := gm_1 (i := 172) rfl rfl
theorem gw_1_174 : Cond.laysFinal RX2 "DeltaRuns$Plan" "kinds" "[I" ∈ gT := gm_1 (i := 174) rfl rfl
theorem gw_1_176 : Cond.laysFinal RX2 "DeltaRuns$Plan" "columns" "[I" ∈ gT := gm_1 (i := 176) rfl rfl
theorem gw_1_178 : Cond.laysFinal RX2 "DeltaRuns$Plan" "rows" "[I" ∈ gT := gm_1 (i := 178) rfl rfl
theorem gw_1_180 : Cond.laysFinal RX2 "DeltaRuns$Plan" "numbers" "[I" ∈ gT := gm_1 (i := 180) rfl rfl
theorem gw_1_182 : Cond.lays RX2 "DeltaRuns$Plan" "total" "I" ∈ gT := gm_1 (i := 182) rfl rfl
theorem gw_1_185 : Cond.fieldLink RX7 10 "DeltaRuns" "land" "LDeltaRuns$Land;" ∈ gT := gm_1 (i := 185) rfl rfl
theorem gw_1_186 : Cond.fieldLink RX7 19 "DeltaRuns" "tape" "LDeltaRuns$Tape;" ∈ gT := gm_1 (i := 186) rfl rfl
theorem gw_1_187 : Cond.fieldLink RX7 26 "DeltaRuns" "entries" "LDeltaRuns$Entries;" ∈ gT := gm_1 (i := 187) rfl rfl
theorem gw_1_188 : Cond.fieldLink RX7 33 "DeltaRuns" "water" "LDeltaRuns$Water;" ∈ gT := gm_1 (i := 188) rfl rfl
theorem gw_1_189 : Cond.fieldLink RX7 39 "DeltaRuns" "yearsOfRules" "[LDeltaRuns$Years;" ∈ gT := gm_1 (i := 189) rfl rfl
theorem gw_1_190 : Cond.fieldLink RX7 46 "DeltaRuns" "plan" "LDeltaRuns$Plan;" ∈ gT := gm_1 (i := 190) rfl rfl
theorem gw_1_191 : Cond.fieldLink RX7 50 "DeltaRuns" "draft" "LDeltaRuns$Plan;" ∈ gT := gm_1 (i := 191) rfl rfl
theorem gw_1_192 : Cond.fieldLink RX7 53 "DeltaRuns" "faultPlace" "I" ∈ gT := gm_1 (i := 192) rfl rfl
theorem gw_1_193 : Cond.fieldLink RX7 57 "DeltaRuns" "refusal" "I" ∈ gT := gm_1 (i := 193) rfl rfl
theorem gw_1_194 : Cond.laysFinal RX7 "DeltaRuns" "land" "LDeltaRuns$Land;" ∈ gT := gm_1 (i := 194) rfl rfl
theorem gw_1_196 : Cond.laysFinal RX7 "DeltaRuns" "tape" "LDeltaRuns$Tape;" ∈ gT := gm_1 (i := 196) rfl rfl
theorem gw_1_198 : Cond.laysFinal RX7 "DeltaRuns" "entries" "LDeltaRuns$Entries;" ∈ gT := gm_1 (i := 198) rfl rfl
theorem gw_1_200 : Cond.laysFinal RX7 "DeltaRuns" "water" "LDeltaRuns$Water;" ∈ gT := gm_1 (i := 200) rfl rfl
theorem gw_1_202 : Cond.laysFinal RX7 "DeltaRuns" "yearsOfRules" "[LDeltaRuns$Years;" ∈ gT := gm_1 (i := 202) rfl rfl
theorem gw_1_204 : Cond.lays RX7 "DeltaRuns" "plan" "LDeltaRuns$Plan;" ∈ gT := gm_1 (i := 204) rfl rfl
theorem gw_1_206 : Cond.lays RX7 "DeltaRuns" "draft" "LDeltaRuns$Plan;" ∈ gT := gm_1 (i := 206) rfl rfl
theorem gw_1_208 : Cond.lays RX7 "DeltaRuns" "faultPlace" "I" ∈ gT := gm_1 (i := 208) rfl rfl
theorem gw_1_210 : Cond.lays RX7 "DeltaRuns" "refusal" "I" ∈ gT := gm_1 (i := 210) rfl rfl
theorem gw_1_213 : Cond.methodLink RL 13 yX7_size ∈ gT := gm_1 (i := 213) rfl rfl
theorem gw_1_214 : Cond.instanceMethod yX7_size ∈ gT := gm_1 (i := 214) rfl rfl
theorem gw_1_215 : Cond.selects RX7 yX7_size yX7_size ∈ gT := gm_1 (i := 215) rfl rfl
theorem gw_1_216 : Cond.code yX7_size cX7_size 3 (some .int) ∈ gT := gm_1 (i := 216) rfl rfl
theorem gw_1_217 : Cond.methodLink RX7 60 yX7_within ∈ gT := gm_1 (i := 217) rfl rfl
theorem gw_1_218 : Cond.static yX7_within ∈ gT := gm_1 (i := 218) rfl rfl
theorem gw_1_219 : Cond.code yX7_within cX7_within 3 (some .boolean) ∈ gT := gm_1 (i := 219) rfl rfl
theorem gw_1_220 : Cond.methodLink RX7 64 yX7_refuse ∈ gT := gm_1 (i := 220) rfl rfl
theorem gw_1_222 : Cond.instanceMethod yX7_refuse ∈ gT := gm_1 (i := 222) rfl rfl
theorem gw_1_223 : Cond.code yX7_refuse cX7_refuse 2 (some .int) ∈ gT := gm_1 (i := 223) rfl rfl
theorem gw_1_224 : Cond.methodLink RX7 68 yX1_layOut ∈ gT := gm_1 (i := 224) rfl rfl
theorem gw_1_225 : Cond.methodLink RX7 75 yX7_forgetRuns ∈ gT := gm_1 (i := 225) rfl rfl
theorem gw_1_227 : Cond.instanceMethod yX7_forgetRuns ∈ gT := gm_1 (i := 227) rfl rfl
theorem gw_1_228 : Cond.code yX7_forgetRuns cX7_forgetRuns 2 none ∈ gT := gm_1 (i := 228) rfl rfl
theorem gw_1_229 : Cond.methodLink RX7 78 yX7_accept ∈ gT := gm_1 (i := 229) rfl rfl
theorem gw_1_231 : Cond.instanceMethod yX7_accept ∈ gT := gm_1 (i := 231) rfl rfl
theorem gw_1_232 : Cond.code yX7_accept cX7_accept 2 (some .int) ∈ gT := gm_1 (i := 232) rfl rfl
theorem gw_1_233 : Cond.methodLink RL 18 yX7_land ∈ gT := gm_1 (i := 233) rfl rfl
theorem gw_1_234 : Cond.instanceMethod yX7_land ∈ gT := gm_1 (i := 234) rfl rfl
theorem gw_1_235 : Cond.selects RX7 yX7_land yX7_land ∈ gT := gm_1 (i := 235) rfl rfl
theorem gw_1_236 : Cond.code yX7_land cX7_land 7 (some .int) ∈ gT := gm_1 (i := 236) rfl rfl
theorem gw_1_237 : Cond.methodLink RX7 81 yX1_has ∈ gT := gm_1 (i := 237) rfl rfl
theorem gw_1_238 : Cond.instanceMethod yX1_has ∈ gT := gm_1 (i := 238) rfl rfl
theorem gw_1_239 : Cond.selects RX1 yX1_has yX1_has ∈ gT := gm_1 (i := 239) rfl rfl
theorem gw_2_0 : Cond.code yX1_has cX1_has 3 (some .boolean) ∈ gT := gm_2 (i := 0) rfl rfl
theorem gw_2_1 : Cond.methodLink RX7 85 yX1_raise ∈ gT := gm_2 (i := 1) rfl rfl
theorem gw_2_2 : Cond.instanceMethod yX1_raise ∈ gT := gm_2 (i := 2) rfl rfl
theorem gw_2_3 : Cond.selects RX1 yX1_raise yX1_raise ∈ gT := gm_2 (i := 3) rfl rfl
theorem gw_2_4 : Cond.code yX1_raise cX1_raise 9 (some .int) ∈ gT := gm_2 (i := 4) rfl rfl
theorem gw_2_6 : Cond.static yX7_cellAt ∈ gT := gm_2 (i := 6) rfl rfl
theorem gw_2_7 : Cond.code yX7_cellAt cX7_cellAt 2 (some .int) ∈ gT := gm_2 (i := 7) rfl rfl
theorem gw_2_8 : Cond.methodLink RL 23 yX7_level ∈ gT := gm_2 (i := 8) rfl rfl
theorem gw_2_9 : Cond.instanceMethod yX7_level ∈ gT := gm_2 (i := 9) rfl rfl
theorem gw_2_10 : Cond.selects RX7 yX7_level yX7_level ∈ gT := gm_2 (i := 10) rfl rfl
theorem gw_2_11 : Cond.code yX7_level cX7_level 2 (some .int) ∈ gT := gm_2 (i := 11) rfl rfl
theorem gw_2_12 : Cond.methodLink RL 28 yX7_spring ∈ gT := gm_2 (i := 12) rfl rfl
theorem gw_2_13 : Cond.instanceMethod yX7_spring ∈ gT := gm_2 (i := 13) rfl rfl
theorem gw_2_14 : Cond.selects RX7 yX7_spring yX7_spring ∈ gT := gm_2 (i := 14) rfl rfl
theorem gw_2_15 : Cond.code yX7_spring cX7_spring 4 (some .int) ∈ gT := gm_2 (i := 15) rfl rfl
theorem gw_2_16 : Cond.methodLink RX7 92 yX7_cellAt ∈ gT := gm_2 (i := 16) rfl rfl
theorem gw_2_17 : Cond.methodLink RL 33 yX7_feed ∈ gT := gm_2 (i := 17) rfl rfl
theorem gw_2_18 : Cond.instanceMethod yX7_feed ∈ gT := gm_2 (i := 18) rfl rfl
theorem gw_2_19 : Cond.selects RX7 yX7_feed yX7_feed ∈ gT := gm_2 (i := 19) rfl rfl
theorem gw_2_20 : Cond.code yX7_feed cX7_feed 6 (some .int) ∈ gT := gm_2 (i := 20) rfl rfl
theorem gw_2_21 : Cond.methodLink RX7 105 yX4_addFour ∈ gT := gm_2 (i := 21) rfl rfl
theorem gw_2_22 : Cond.instanceMethod yX4_addFour ∈ gT := gm_2 (i := 22) rfl rfl
theorem gw_2_23 : Cond.selects RX4 yX4_addFour yX4_addFour ∈ gT := gm_2 (i := 23) rfl rfl
theorem gw_2_24 : Cond.code yX4_addFour cX4_addFour 3 none ∈ gT := gm_2 (i := 24) rfl rfl
theorem gw_2_25 : Cond.methodLink RL 37 yX7_end ∈ gT := gm_2 (i := 25) rfl rfl
theorem gw_2_26 : Cond.instanceMethod yX7_end ∈ gT := gm_2 (i := 26) rfl rfl
theorem gw_2_27 : Cond.selects RX7 yX7_end yX7_end ∈ gT := gm_2 (i := 27) rfl rfl
theorem gw_2_28 : Cond.code yX7_end cX7_end 2 (some .int) ∈ gT := gm_2 (i := 28) rfl rfl
theorem gw_2_29 : Cond.methodLink RL 41 yX7_plan ∈ gT := gm_2 (i := 29) rfl rfl
theorem gw_2_30 : Cond.instanceMethod yX7_plan ∈ gT := gm_2 (i := 30) rfl rfl
theorem gw_2_31 : Cond.selects RX7 yX7_plan yX7_plan ∈ gT := gm_2 (i := 31) rfl rfl
theorem gw_2_32 : Cond.code yX7_plan cX7_plan 3 (some .int) ∈ gT := gm_2 (i := 32) rfl rfl
theorem gw_2_33 : Cond.classLink RX7 109 RX3 ∈ gT := gm_2 (i := 33) rfl rfl
theorem gw_2_34 : Cond.instantiable RX3 5 ∈ gT := gm_2 (i := 34) rfl rfl
theorem gw_2_35 : Cond.methodLink RX7 111 yX3_init ∈ gT := gm_2 (i := 35) rfl rfl
theorem gw_2_36 : Cond.instanceMethod yX3_init ∈ gT := gm_2 (i := 36) rfl rfl
theorem gw_2_37 : Cond.code yX3_init cX3_init 3 none ∈ gT := gm_2 (i := 37) rfl rfl
theorem gw_2_38 : Cond.methodLink RX3 3 objectInit ∈ gT := gm_2 (i := 38) rfl rfl
theorem gw_2_39 : Cond.fieldLink RX3 9 "DeltaRuns$Reader" "text" "LDeltaRuns$Tape;" ∈ gT := gm_2 (i := 39) rfl rfl
theorem gw_2_40 : Cond.fieldLink RX3 15 "DeltaRuns$Reader" "acts" "LDeltaRuns$Plan;" ∈ gT := gm_2 (i := 40) rfl rfl
theorem gw_2_41 : Cond.fieldLink RX3 36 "DeltaRuns$Reader" "start" "I" ∈ gT := gm_2 (i := 41) rfl rfl
theorem gw_2_42 : Cond.fieldLink RX3 86 "DeltaRuns$Reader" "stop" "I" ∈ gT := gm_2 (i := 42) rfl rfl
theorem gw_2_43 : Cond.fieldLink RX3 55 "DeltaRuns$Reader" "number" "I" ∈ gT := gm_2 (i := 43) rfl rfl
theorem gw_2_44 : Cond.laysFinal RX3 "DeltaRuns$Reader" "text" "LDeltaRuns$Tape;" ∈ gT := gm_2 (i := 44) rfl rfl
theorem gw_2_46 : Cond.laysFinal RX3 "DeltaRuns$Reader" "acts" "LDeltaRuns$Plan;" ∈ gT := gm_2 (i := 46) rfl rfl
theorem gw_2_48 : Cond.lays RX3 "DeltaRuns$Reader" "start" "I" ∈ gT := gm_2 (i := 48) rfl rfl
theorem gw_2_50 : Cond.lays RX3 "DeltaRuns$Reader" "stop" "I" ∈ gT := gm_2 (i := 50) rfl rfl
theorem gw_2_52 : Cond.lays RX3 "DeltaRuns$Reader" "number" "I" ∈ gT := gm_2 (i := 52) rfl rfl
theorem gw_2_55 : Cond.methodLink RX7 114 yX3_readPlan ∈ gT := gm_2 (i := 55) rfl rfl
theorem gw_2_56 : Cond.instanceMethod yX3_readPlan ∈ gT := gm_2 (i := 56) rfl rfl
theorem gw_2_57 : Cond.selects RX3 yX3_readPlan yX3_readPlan ∈ gT := gm_2 (i := 57) rfl rfl
theorem gw_2_58 : Cond.code yX3_readPlan cX3_readPlan 2 (some .int) ∈ gT := gm_2 (i := 58) rfl rfl
theorem gw_2_59 : Cond.methodLink RX3 25 yX3_step ∈ gT := gm_2 (i := 59) rfl rfl
theorem gw_2_61 : Cond.instanceMethod yX3_step ∈ gT := gm_2 (i := 61) rfl rfl
theorem gw_2_62 : Cond.code yX3_step cX3_step 3 none ∈ gT := gm_2 (i := 62) rfl rfl
theorem gw_2_63 : Cond.methodLink RX3 28 yX3_atEnd ∈ gT := gm_2 (i := 63) rfl rfl
theorem gw_2_65 : Cond.instanceMethod yX3_atEnd ∈ gT := gm_2 (i := 65) rfl rfl
theorem gw_2_66 : Cond.code yX3_atEnd cX3_atEnd 1 (some .boolean) ∈ gT := gm_2 (i := 66) rfl rfl
theorem gw_2_67 : Cond.methodLink RX3 119 yX3_isLetter ∈ gT := gm_2 (i := 67) rfl rfl
theorem gw_2_68 : Cond.static yX3_isLetter ∈ gT := gm_2 (i := 68) rfl rfl
theorem gw_2_69 : Cond.code yX3_isLetter cX3_isLetter 1 (some .boolean) ∈ gT := gm_2 (i := 69) rfl rfl
theorem gw_2_70 : Cond.methodLink RX3 104 yX3_isDigit ∈ gT := gm_2 (i := 70) rfl rfl
theorem gw_2_71 : Cond.static yX3_isDigit ∈ gT := gm_2 (i := 71) rfl rfl
theorem gw_2_72 : Cond.code yX3_isDigit cX3_isDigit 1 (some .boolean) ∈ gT := gm_2 (i := 72) rfl rfl
theorem gw_2_73 : Cond.methodLink RX3 32 yX3_readAct ∈ gT := gm_2 (i := 73) rfl rfl
theorem gw_2_75 : Cond.instanceMethod yX3_readAct ∈ gT := gm_2 (i := 75) rfl rfl
theorem gw_2_76 : Cond.code yX3_readAct cX3_readAct 3 (some .boolean) ∈ gT := gm_2 (i := 76) rfl rfl
theorem gw_2_78 : Cond.methodLink RX3 41 yX3_takes ∈ gT := gm_2 (i := 78) rfl rfl
theorem gw_2_80 : Cond.instanceMethod yX3_takes ∈ gT := gm_2 (i := 80) rfl rfl
theorem gw_2_81 : Cond.code yX3_takes cX3_takes 3 (some .boolean) ∈ gT := gm_2 (i := 81) rfl rfl
theorem gw_2_82 : Cond.methodLink RX3 89 yJ0_length_8abf5 ∈ gT := gm_2 (i := 82) rfl rfl
theorem gw_2_83 : Cond.instanceMethod yJ0_length_8abf5 ∈ gT := gm_2 (i := 83) rfl rfl
theorem gw_2_84 : Cond.selects RJ0 yJ0_length_8abf5 yJ0_length_8abf5 ∈ gT := gm_2 (i := 84) rfl rfl
theorem gw_2_85 : Cond.code yJ0_length_8abf5 cJ0_length_8abf5 1 (some .int) ∈ gT := gm_2 (i := 85) rfl rfl
theorem gw_2_86 : Cond.methodLink RJ0 335 yJ0_coder_7d493 ∈ gT := gm_2 (i := 86) rfl rfl
theorem gw_2_87 : Cond.instanceMethod yJ0_coder_7d493 ∈ gT := gm_2 (i := 87) rfl rfl
theorem gw_2_88 : Cond.selects RJ0 yJ0_coder_7d493 yJ0_coder_7d493 ∈ gT := gm_2 (i := 88) rfl rfl
theorem gw_2_89 : Cond.code yJ0_coder_7d493 cJ0_coder_7d493 1 (some .byte) ∈ gT := gm_2 (i := 89) rfl rfl
theorem gw_2_90 : Cond.fieldLink RJ0 38 "java/lang/String" "COMPACT_STRINGS" "Z" ∈ gT := gm_2 (i := 90) rfl rfl
theorem gw_2_92 : Cond.methodLink RX3 100 yJ0_charAt_5068e ∈ gT := gm_2 (i := 92) rfl rfl
theorem gw_2_93 : Cond.instanceMethod yJ0_charAt_5068e ∈ gT := gm_2 (i := 93) rfl rfl
theorem gw_2_94 : Cond.selects RJ0 yJ0_charAt_5068e yJ0_charAt_5068e ∈ gT := gm_2 (i := 94) rfl rfl
theorem gw_2_95 : Cond.code yJ0_charAt_5068e cJ0_charAt_5068e 2 (some .char) ∈ gT := gm_2 (i := 95) rfl rfl
theorem gw_2_96 : Cond.methodLink RJ0 492 yJ0_isLatin1_aae02 ∈ gT := gm_2 (i := 96) rfl rfl
theorem gw_2_97 : Cond.instanceMethod yJ0_isLatin1_aae02 ∈ gT := gm_2 (i := 97) rfl rfl
theorem gw_2_98 : Cond.selects RJ0 yJ0_isLatin1_aae02 yJ0_isLatin1_aae02 ∈ gT := gm_2 (i := 98) rfl rfl
theorem gw_2_99 : Cond.code yJ0_isLatin1_aae02 cJ0_isLatin1_aae02 1 (some .boolean) ∈ gT := gm_2 (i := 99) rfl rfl
theorem gw_2_100 : Cond.methodLink RJ0 495 yJ1_charAt_3b067 ∈ gT := gm_2 (i := 100) rfl rfl
theorem gw_2_101 : Cond.static yJ1_charAt_3b067 ∈ gT := gm_2 (i := 101) rfl rfl
theorem gw_2_102 : Cond.code yJ1_charAt_3b067 cJ1_charAt_3b067 2 (some .char) ∈ gT := gm_2 (i := 102) rfl rfl
theorem gw_2_103 : Cond.methodLink RJ1 9 yJ0_checkIndex_df160 ∈ gT := gm_2 (i := 103) rfl rfl
theorem gw_2_104 : Cond.static yJ0_checkIndex_df160 ∈ gT := gm_2 (i := 104) rfl rfl
theorem gw_2_105 : Cond.code yJ0_checkIndex_df160 cJ0_checkIndex_df160 2 none ∈ gT := gm_2 (i := 105) rfl rfl
theorem gw_2_106 : Cond.fieldLink RJ0 1053 "jdk/internal/util/Preconditions" "SIOOBE_FORMATTER" "Ljava/util/function/BiFunction;" ∈ gT := gm_2 (i := 106) rfl rfl
theorem gw_2_108 : Cond.methodLink RJ0 1059 yJ3_checkIndex_8e157 ∈ gT := gm_2 (i := 108) rfl rfl
theorem gw_2_109 : Cond.static yJ3_checkIndex_8e157 ∈ gT := gm_2 (i := 109) rfl rfl
theorem gw_2_110 : Cond.code yJ3_checkIndex_8e157 cJ3_checkIndex_8e157 3 (some .int) ∈ gT := gm_2 (i := 110) rfl rfl
theorem gw_2_111 : Cond.methodLink RJ0 498 yJ2_charAt_3b067 ∈ gT := gm_2 (i := 111) rfl rfl
theorem gw_2_112 : Cond.static yJ2_charAt_3b067 ∈ gT := gm_2 (i := 112) rfl rfl
theorem gw_2_113 : Cond.code yJ2_charAt_3b067 cJ2_charAt_3b067 2 (some .char) ∈ gT := gm_2 (i := 113) rfl rfl
theorem gw_2_114 : Cond.methodLink RJ2 67 yJ2_checkIndex_2214a ∈ gT := gm_2 (i := 114) rfl rfl
theorem gw_2_115 : Cond.static yJ2_checkIndex_2214a ∈ gT := gm_2 (i := 115) rfl rfl
theorem gw_2_116 : Cond.code yJ2_checkIndex_2214a cJ2_checkIndex_2214a 2 none ∈ gT := gm_2 (i := 116) rfl rfl
theorem gw_2_117 : Cond.methodLink RJ2 48 yJ2_length_9d52b ∈ gT := gm_2 (i := 117) rfl rfl
theorem gw_2_118 : Cond.static yJ2_length_9d52b ∈ gT := gm_2 (i := 118) rfl rfl
theorem gw_2_119 : Cond.code yJ2_length_9d52b cJ2_length_9d52b 1 (some .int) ∈ gT := gm_2 (i := 119) rfl rfl
theorem gw_2_120 : Cond.methodLink RJ2 414 yJ0_checkIndex_df160 ∈ gT := gm_2 (i := 120) rfl rfl
theorem gw_2_121 : Cond.methodLink RJ2 71 yJ2_getChar_3b067 ∈ gT := gm_2 (i := 121) rfl rfl
theorem gw_2_122 : Cond.static yJ2_getChar_3b067 ∈ gT := gm_2 (i := 122) rfl rfl
theorem gw_2_123 : Cond.code yJ2_getChar_3b067 cJ2_getChar_3b067 2 (some .char) ∈ gT := gm_2 (i := 123) rfl rfl
theorem gw_2_124 : Cond.fieldLink RJ2 44 "java/lang/StringUTF16" "$assertionsDisabled" "Z" ∈ gT := gm_2 (i := 124) rfl rfl
theorem gw_2_126 : Cond.fieldLink RJ2 59 "java/lang/StringUTF16" "HI_BYTE_SHIFT" "I" ∈ gT := gm_2 (i := 126) rfl rfl
theorem gw_2_128 : Cond.fieldLink RJ2 63 "java/lang/StringUTF16" "LO_BYTE_SHIFT" "I" ∈ gT := gm_2 (i := 128) rfl rfl
theorem gw_2_130 : Cond.methodLink RX3 47 yX3_takesNumber ∈ gT := gm_2 (i := 130) rfl rfl
theorem gw_2_132 : Cond.instanceMethod yX3_takesNumber ∈ gT := gm_2 (i := 132) rfl rfl
theorem gw_2_133 : Cond.code yX3_takesNumber cX3_takesNumber 5 (some .boolean) ∈ gT := gm_2 (i := 133) rfl rfl
theorem gw_2_134 : Cond.methodLink RX3 107 yJ9_min_7cf53 ∈ gT := gm_2 (i := 134) rfl rfl
theorem gw_2_135 : Cond.static yJ9_min_7cf53 ∈ gT := gm_2 (i := 135) rfl rfl
theorem gw_2_136 : Cond.code yJ9_min_7cf53 cJ9_min_7cf53 2 (some .int) ∈ gT := gm_2 (i := 136) rfl rfl
theorem gw_2_138 : Cond.methodLink RX3 58 yX3_takeKind ∈ gT := gm_2 (i := 138) rfl rfl
theorem gw_2_140 : Cond.instanceMethod yX3_takeKind ∈ gT := gm_2 (i := 140) rfl rfl
theorem gw_2_141 : Cond.code yX3_takeKind cX3_takeKind 1 (some .int) ∈ gT := gm_2 (i := 141) rfl rfl
theorem gw_2_149 : Cond.methodLink RL 46 yX7_fault ∈ gT := gm_2 (i := 149) rfl rfl
theorem gw_2_150 : Cond.instanceMethod yX7_fault ∈ gT := gm_2 (i := 150) rfl rfl
theorem gw_2_151 : Cond.selects RX7 yX7_fault yX7_fault ∈ gT := gm_2 (i := 151) rfl rfl
theorem gw_2_152 : Cond.code yX7_fault cX7_fault 1 (some .int) ∈ gT := gm_2 (i := 152) rfl rfl
theorem gw_2_153 : Cond.methodLink RL 50 yX7_height ∈ gT := gm_2 (i := 153) rfl rfl
theorem gw_2_154 : Cond.instanceMethod yX7_height ∈ gT := gm_2 (i := 154) rfl rfl
theorem gw_2_155 : Cond.selects RX7 yX7_height yX7_height ∈ gT := gm_2 (i := 155) rfl rfl
theorem gw_2_156 : Cond.code yX7_height cX7_height 5 (some .int) ∈ gT := gm_2 (i := 156) rfl rfl
theorem gw_2_157 : Cond.methodLink RX7 119 yX7_runTo ∈ gT := gm_2 (i := 157) rfl rfl
theorem gw_2_159 : Cond.instanceMethod yX7_runTo ∈ gT := gm_2 (i := 159) rfl rfl
theorem gw_2_160 : Cond.code yX7_runTo cX7_runTo 5 (some (.object "DeltaRuns$Years")) ∈ gT := gm_2 (i := 160) rfl rfl
theorem gw_2_161 : Cond.methodLink RX7 180 yX7_startedYears ∈ gT := gm_2 (i := 161) rfl rfl
theorem gw_2_163 : Cond.instanceMethod yX7_startedYears ∈ gT := gm_2 (i := 163) rfl rfl
theorem gw_2_164 : Cond.code yX7_startedYears cX7_startedYears 3 (some (.object "DeltaRuns$Years")) ∈ gT := gm_2 (i := 164) rfl rfl
theorem gw_2_165 : Cond.instantiable RX6 2 ∈ gT := gm_2 (i := 165) rfl rfl
theorem gw_2_167 : Cond.instanceMethod yX6_init ∈ gT := gm_2 (i := 167) rfl rfl
theorem gw_2_168 : Cond.code yX6_init cX6_init 1 none ∈ gT := gm_2 (i := 168) rfl rfl
theorem gw_2_169 : Cond.methodLink RX6 5 objectInit ∈ gT := gm_2 (i := 169) rfl rfl
theorem gw_2_170 : Cond.fieldLink RX6 11 "DeltaRuns$Years" "packed" "[J" ∈ gT := gm_2 (i := 170) rfl rfl
theorem gw_2_171 : Cond.fieldLink RX6 15 "DeltaRuns$Years" "latest" "I" ∈ gT := gm_2 (i := 171) rfl rfl
theorem gw_2_172 : Cond.fieldLink RX7 177 "DeltaRuns$Years" "latest" "I" ∈ gT := gm_2 (i := 172) rfl rfl
theorem gw_2_173 : Cond.laysFinal RX6 "DeltaRuns$Years" "packed" "[J" ∈ gT := gm_2 (i := 173) rfl rfl
theorem gw_2_175 : Cond.lays RX6 "DeltaRuns$Years" "latest" "I" ∈ gT := gm_2 (i := 175) rfl rfl
theorem gw_2_178 : Cond.arrayClass .long ∈ gT := gm_2 (i := 178) rfl rfl
theorem gw_2_179 : Cond.methodLink RX7 195 yX6_keep ∈ gT := gm_2 (i := 179) rfl rfl
theorem gw_2_180 : Cond.instanceMethod yX6_keep ∈ gT := gm_2 (i := 180) rfl rfl
theorem gw_2_181 : Cond.selects RX6 yX6_keep yX6_keep ∈ gT := gm_2 (i := 181) rfl rfl
theorem gw_2_182 : Cond.code yX6_keep cX6_keep 7 none ∈ gT := gm_2 (i := 182) rfl rfl
theorem gw_2_183 : Cond.methodLink RX7 126 yX7_takeUp ∈ gT := gm_2 (i := 183) rfl rfl
theorem gw_2_185 : Cond.instanceMethod yX7_takeUp ∈ gT := gm_2 (i := 185) rfl rfl
theorem gw_2_186 : Cond.code yX7_takeUp cX7_takeUp 4 none ∈ gT := gm_2 (i := 186) rfl rfl
theorem gw_2_187 : Cond.methodLink RX7 123 yX6_heightOf ∈ gT := gm_2 (i := 187) rfl rfl
theorem gw_2_188 : Cond.instanceMethod yX6_heightOf ∈ gT := gm_2 (i := 188) rfl rfl
theorem gw_2_189 : Cond.selects RX6 yX6_heightOf yX6_heightOf ∈ gT := gm_2 (i := 189) rfl rfl
theorem gw_2_190 : Cond.code yX6_heightOf cX6_heightOf 5 (some .int) ∈ gT := gm_2 (i := 190) rfl rfl
theorem gw_2_191 : Cond.methodLink RX7 204 yX2_dykesIn ∈ gT := gm_2 (i := 191) rfl rfl
theorem gw_2_192 : Cond.instanceMethod yX2_dykesIn ∈ gT := gm_2 (i := 192) rfl rfl
theorem gw_2_193 : Cond.selects RX2 yX2_dykesIn yX2_dykesIn ∈ gT := gm_2 (i := 193) rfl rfl
theorem gw_2_194 : Cond.code yX2_dykesIn cX2_dykesIn 6 none ∈ gT := gm_2 (i := 194) rfl rfl
theorem gw_2_195 : Cond.methodLink RX2 35 yX1_has ∈ gT := gm_2 (i := 195) rfl rfl
theorem gw_2_197 : Cond.methodLink RX7 130 yX2_workIn ∈ gT := gm_2 (i := 197) rfl rfl
theorem gw_2_198 : Cond.instanceMethod yX2_workIn ∈ gT := gm_2 (i := 198) rfl rfl
theorem gw_2_199 : Cond.selects RX2 yX2_workIn yX2_workIn ∈ gT := gm_2 (i := 199) rfl rfl
theorem gw_2_200 : Cond.code yX2_workIn cX2_workIn 7 none ∈ gT := gm_2 (i := 200) rfl rfl
theorem gw_2_201 : Cond.methodLink RX2 27 yX2_dykesIn ∈ gT := gm_2 (i := 201) rfl rfl
theorem gw_2_202 : Cond.methodLink RX2 50 yJ9_max_7cf53 ∈ gT := gm_2 (i := 202) rfl rfl
theorem gw_2_203 : Cond.static yJ9_max_7cf53 ∈ gT := gm_2 (i := 203) rfl rfl
theorem gw_2_204 : Cond.code yJ9_max_7cf53 cJ9_max_7cf53 2 (some .int) ∈ gT := gm_2 (i := 204) rfl rfl
theorem gw_2_205 : Cond.methodLink RX2 55 yJ9_min_7cf53 ∈ gT := gm_2 (i := 205) rfl rfl
theorem gw_2_206 : Cond.methodLink RX7 134 yX7_sortOf ∈ gT := gm_2 (i := 206) rfl rfl
theorem gw_2_207 : Cond.static yX7_sortOf ∈ gT := gm_2 (i := 207) rfl rfl
theorem gw_2_208 : Cond.code yX7_sortOf cX7_sortOf 1 (some .int) ∈ gT := gm_2 (i := 208) rfl rfl
theorem gw_2_209 : Cond.methodLink RX7 137 yX5_run ∈ gT := gm_2 (i := 209) rfl rfl
theorem gw_2_210 : Cond.instanceMethod yX5_run ∈ gT := gm_2 (i := 210) rfl rfl
theorem gw_2_211 : Cond.selects RX5 yX5_run yX5_run ∈ gT := gm_2 (i := 211) rfl rfl
theorem gw_2_212 : Cond.code yX5_run cX5_run 4 none ∈ gT := gm_2 (i := 212) rfl rfl
theorem gw_2_213 : Cond.methodLink RX5 40 yX5_dryUp ∈ gT := gm_2 (i := 213) rfl rfl
theorem gw_2_215 : Cond.instanceMethod yX5_dryUp ∈ gT := gm_2 (i := 215) rfl rfl
theorem gw_2_216 : Cond.code yX5_dryUp cX5_dryUp 2 none ∈ gT := gm_2 (i := 216) rfl rfl
theorem gw_2_217 : Cond.methodLink RX5 52 yX5_pour ∈ gT := gm_2 (i := 217) rfl rfl
theorem gw_2_219 : Cond.instanceMethod yX5_pour ∈ gT := gm_2 (i := 219) rfl rfl
theorem gw_2_220 : Cond.code yX5_pour cX5_pour 4 none ∈ gT := gm_2 (i := 220) rfl rfl
theorem gw_2_221 : Cond.methodLink RX5 106 yX5_goesAhead ∈ gT := gm_2 (i := 221) rfl rfl
theorem gw_2_223 : Cond.instanceMethod yX5_goesAhead ∈ gT := gm_2 (i := 223) rfl rfl
theorem gw_2_224 : Cond.code yX5_goesAhead cX5_goesAhead 3 (some .boolean) ∈ gT := gm_2 (i := 224) rfl rfl
theorem gw_2_225 : Cond.methodLink RX5 59 yX5_giveOn ∈ gT := gm_2 (i := 225) rfl rfl
theorem gw_2_227 : Cond.instanceMethod yX5_giveOn ∈ gT := gm_2 (i := 227) rfl rfl
theorem gw_2_228 : Cond.code yX5_giveOn cX5_giveOn 5 none ∈ gT := gm_2 (i := 228) rfl rfl
theorem gw_2_229 : Cond.methodLink RX5 72 yX5_findWays ∈ gT := gm_2 (i := 229) rfl rfl
theorem gw_2_231 : Cond.instanceMethod yX5_findWays ∈ gT := gm_2 (i := 231) rfl rfl
theorem gw_2_232 : Cond.code yX5_findWays cX5_findWays 7 none ∈ gT := gm_2 (i := 232) rfl rfl
theorem gw_2_237 : Cond.methodLink RX5 95 yX1_has ∈ gT := gm_2 (i := 237) rfl rfl
theorem gw_2_239 : Cond.methodLink RX5 79 yX5_shareToLowest ∈ gT := gm_2 (i := 239) rfl rfl
theorem gw_3_1 : Cond.instanceMethod yX5_shareToLowest ∈ gT := gm_3 (i := 1) rfl rfl
theorem gw_3_2 : Cond.code yX5_shareToLowest cX5_shareToLowest 4 none ∈ gT := gm_3 (i := 2) rfl rfl
theorem gw_3_3 : Cond.methodLink RX5 102 yX5_firstGreatest ∈ gT := gm_3 (i := 3) rfl rfl
theorem gw_3_5 : Cond.instanceMethod yX5_firstGreatest ∈ gT := gm_3 (i := 5) rfl rfl
theorem gw_3_6 : Cond.code yX5_firstGreatest cX5_firstGreatest 4 (some .int) ∈ gT := gm_3 (i := 6) rfl rfl
theorem gw_3_7 : Cond.methodLink RX5 83 yX5_shareEvenly ∈ gT := gm_3 (i := 7) rfl rfl
theorem gw_3_9 : Cond.instanceMethod yX5_shareEvenly ∈ gT := gm_3 (i := 9) rfl rfl
theorem gw_3_10 : Cond.code yX5_shareEvenly cX5_shareEvenly 3 none ∈ gT := gm_3 (i := 10) rfl rfl
theorem gw_3_11 : Cond.methodLink RX5 86 yX5_shareByDrops ∈ gT := gm_3 (i := 11) rfl rfl
theorem gw_3_13 : Cond.instanceMethod yX5_shareByDrops ∈ gT := gm_3 (i := 13) rfl rfl
theorem gw_3_14 : Cond.code yX5_shareByDrops cX5_shareByDrops 6 none ∈ gT := gm_3 (i := 14) rfl rfl
theorem gw_3_15 : Cond.methodLink RX7 184 yX7_rateOf ∈ gT := gm_3 (i := 15) rfl rfl
theorem gw_3_16 : Cond.static yX7_rateOf ∈ gT := gm_3 (i := 16) rfl rfl
theorem gw_3_17 : Cond.code yX7_rateOf cX7_rateOf 1 (some .int) ∈ gT := gm_3 (i := 17) rfl rfl
theorem gw_3_18 : Cond.methodLink RX7 187 yX7_wearOf ∈ gT := gm_3 (i := 18) rfl rfl
theorem gw_3_19 : Cond.static yX7_wearOf ∈ gT := gm_3 (i := 19) rfl rfl
theorem gw_3_20 : Cond.code yX7_wearOf cX7_wearOf 1 (some .int) ∈ gT := gm_3 (i := 20) rfl rfl
theorem gw_3_21 : Cond.methodLink RX7 190 yX5_settle ∈ gT := gm_3 (i := 21) rfl rfl
theorem gw_3_22 : Cond.instanceMethod yX5_settle ∈ gT := gm_3 (i := 22) rfl rfl
theorem gw_3_23 : Cond.selects RX5 yX5_settle yX5_settle ∈ gT := gm_3 (i := 23) rfl rfl
theorem gw_3_24 : Cond.code yX5_settle cX5_settle 7 none ∈ gT := gm_3 (i := 24) rfl rfl
theorem gw_3_25 : Cond.methodLink RX5 63 yJ9_min_7cf53 ∈ gT := gm_3 (i := 25) rfl rfl
theorem gw_3_26 : Cond.methodLink RX5 69 yJ9_max_7cf53 ∈ gT := gm_3 (i := 26) rfl rfl
theorem gw_3_27 : Cond.methodLink RL 55 yX7_flow ∈ gT := gm_3 (i := 27) rfl rfl
theorem gw_3_28 : Cond.instanceMethod yX7_flow ∈ gT := gm_3 (i := 28) rfl rfl
theorem gw_3_29 : Cond.selects RX7 yX7_flow yX7_flow ∈ gT := gm_3 (i := 29) rfl rfl
theorem gw_3_30 : Cond.code yX7_flow cX7_flow 6 (some .int) ∈ gT := gm_3 (i := 30) rfl rfl
theorem gw_3_31 : Cond.methodLink RL 59 yX7_lake ∈ gT := gm_3 (i := 31) rfl rfl
theorem gw_3_32 : Cond.instanceMethod yX7_lake ∈ gT := gm_3 (i := 32) rfl rfl
theorem gw_3_33 : Cond.selects RX7 yX7_lake yX7_lake ∈ gT := gm_3 (i := 33) rfl rfl
theorem gw_3_34 : Cond.code yX7_lake cX7_lake 7 (some .int) ∈ gT := gm_3 (i := 34) rfl rfl
theorem gw_3_35 : Cond.methodLink RL 63 yX7_map ∈ gT := gm_3 (i := 35) rfl rfl
theorem gw_3_36 : Cond.instanceMethod yX7_map ∈ gT := gm_3 (i := 36) rfl rfl
theorem gw_3_37 : Cond.selects RX7 yX7_map yX7_map ∈ gT := gm_3 (i := 37) rfl rfl
theorem gw_3_38 : Cond.code yX7_map cX7_map 6 (some .int) ∈ gT := gm_3 (i := 38) rfl rfl
theorem gw_3_39 : Cond.methodLink RX7 151 yX7_isDay ∈ gT := gm_3 (i := 39) rfl rfl
theorem gw_3_40 : Cond.static yX7_isDay ∈ gT := gm_3 (i := 40) rfl rfl
theorem gw_3_41 : Cond.code yX7_isDay cX7_isDay 1 (some .boolean) ∈ gT := gm_3 (i := 41) rfl rfl
theorem gw_3_42 : Cond.methodLink RX7 155 yX0_add ∈ gT := gm_3 (i := 42) rfl rfl
theorem gw_3_43 : Cond.instanceMethod yX0_add ∈ gT := gm_3 (i := 43) rfl rfl
theorem gw_3_44 : Cond.selects RX0 yX0_add yX0_add ∈ gT := gm_3 (i := 44) rfl rfl
theorem gw_3_45 : Cond.code yX0_add cX0_add 5 none ∈ gT := gm_3 (i := 45) rfl rfl
theorem gw_3_46 : Cond.methodLink RL 67 yX7_stays ∈ gT := gm_3 (i := 46) rfl rfl
theorem gw_3_47 : Cond.instanceMethod yX7_stays ∈ gT := gm_3 (i := 47) rfl rfl
theorem gw_3_48 : Cond.selects RX7 yX7_stays yX7_stays ∈ gT := gm_3 (i := 48) rfl rfl
theorem gw_3_49 : Cond.code yX7_stays cX7_stays 5 (some .int) ∈ gT := gm_3 (i := 49) rfl rfl
theorem gw_3_50 : Cond.methodLink RX7 159 yX7_againstFrom ∈ gT := gm_3 (i := 50) rfl rfl
theorem gw_3_52 : Cond.instanceMethod yX7_againstFrom ∈ gT := gm_3 (i := 52) rfl rfl
theorem gw_3_53 : Cond.code yX7_againstFrom cX7_againstFrom 6 (some .int) ∈ gT := gm_3 (i := 53) rfl rfl
theorem gw_3_54 : Cond.methodLink RL 71 yX7_foretold ∈ gT := gm_3 (i := 54) rfl rfl
theorem gw_3_55 : Cond.instanceMethod yX7_foretold ∈ gT := gm_3 (i := 55) rfl rfl
theorem gw_3_56 : Cond.selects RX7 yX7_foretold yX7_foretold ∈ gT := gm_3 (i := 56) rfl rfl
theorem gw_3_57 : Cond.code yX7_foretold cX7_foretold 11 (some .int) ∈ gT := gm_3 (i := 57) rfl rfl
theorem gw_3_58 : Cond.methodLink RX7 163 yJ9_min_7cf53 ∈ gT := gm_3 (i := 58) rfl rfl
theorem gw_3_59 : Cond.methodLink RX7 168 yJ9_max_7cf53 ∈ gT := gm_3 (i := 59) rfl rfl
theorem gw_3_60 : Cond.methodLink RX7 174 yX7_trend ∈ gT := gm_3 (i := 60) rfl rfl
theorem gw_3_61 : Cond.static yX7_trend ∈ gT := gm_3 (i := 61) rfl rfl
theorem gw_3_62 : Cond.code yX7_trend cX7_trend 3 (some .int) ∈ gT := gm_3 (i := 62) rfl rfl
theorem gw_3_63 : Cond.methodLink RL 75 yX7_wasted ∈ gT := gm_3 (i := 63) rfl rfl
theorem gw_3_64 : Cond.instanceMethod yX7_wasted ∈ gT := gm_3 (i := 64) rfl rfl
theorem gw_3_65 : Cond.selects RX7 yX7_wasted yX7_wasted ∈ gT := gm_3 (i := 65) rfl rfl
theorem gw_3_66 : Cond.code yX7_wasted cX7_wasted 6 (some .int) ∈ gT := gm_3 (i := 66) rfl rfl
theorem gw_3_67 : Cond.methodLink RL 79 yX7_against ∈ gT := gm_3 (i := 67) rfl rfl
theorem gw_3_68 : Cond.instanceMethod yX7_against ∈ gT := gm_3 (i := 68) rfl rfl
theorem gw_3_69 : Cond.selects RX7 yX7_against yX7_against ∈ gT := gm_3 (i := 69) rfl rfl
theorem gw_3_70 : Cond.code yX7_against cX7_against 3 (some .int) ∈ gT := gm_3 (i := 70) rfl rfl
theorem gw_3_71 : Cond.methodLink RL 83 yX7_count ∈ gT := gm_3 (i := 71) rfl rfl
theorem gw_3_72 : Cond.instanceMethod yX7_count ∈ gT := gm_3 (i := 72) rfl rfl
theorem gw_3_73 : Cond.selects RX7 yX7_count yX7_count ∈ gT := gm_3 (i := 73) rfl rfl
theorem gw_3_74 : Cond.code yX7_count cX7_count 2 (some .int) ∈ gT := gm_3 (i := 74) rfl rfl
theorem gw_3_75 : Cond.methodLink RL 87 yX7_status ∈ gT := gm_3 (i := 75) rfl rfl
theorem gw_3_76 : Cond.instanceMethod yX7_status ∈ gT := gm_3 (i := 76) rfl rfl
theorem gw_3_77 : Cond.selects RX7 yX7_status yX7_status ∈ gT := gm_3 (i := 77) rfl rfl
theorem gw_3_78 : Cond.code yX7_status cX7_status 1 (some .int) ∈ gT := gm_3 (i := 78) rfl rfl
theorem gw_3_79 : Cond.classLink RL 10 RX8 ∈ gT := gm_3 (i := 79) rfl rfl
theorem gw_3_80 : Cond.instantiable RX8 38 ∈ gT := gm_3 (i := 80) rfl rfl
theorem gw_3_81 : Cond.methodLink RL 12 yX8_init ∈ gT := gm_3 (i := 81) rfl rfl
theorem gw_3_82 : Cond.instanceMethod yX8_init ∈ gT := gm_3 (i := 82) rfl rfl
theorem gw_3_83 : Cond.code yX8_init cX8_init 1 none ∈ gT := gm_3 (i := 83) rfl rfl
theorem gw_3_84 : Cond.methodLink RX8 1 objectInit ∈ gT := gm_3 (i := 84) rfl rfl
theorem gw_3_85 : Cond.methodLink RX8 90 yX8_flat ∈ gT := gm_3 (i := 85) rfl rfl
theorem gw_3_87 : Cond.instanceMethod yX8_flat ∈ gT := gm_3 (i := 87) rfl rfl
theorem gw_3_88 : Cond.code yX8_flat cX8_flat 2 none ∈ gT := gm_3 (i := 88) rfl rfl
theorem gw_3_89 : Cond.fieldLink RX8 93 "DeltaRunsModel" "thrown" "I" ∈ gT := gm_3 (i := 89) rfl rfl
theorem gw_3_90 : Cond.fieldLink RX8 96 "DeltaRunsModel" "status" "I" ∈ gT := gm_3 (i := 90) rfl rfl
theorem gw_3_91 : Cond.fieldLink RX8 7 "DeltaRunsModel" "wide" "I" ∈ gT := gm_3 (i := 91) rfl rfl
theorem gw_3_92 : Cond.fieldLink RX8 13 "DeltaRunsModel" "high" "I" ∈ gT := gm_3 (i := 92) rfl rfl
theorem gw_3_93 : Cond.fieldLink RX8 16 "DeltaRunsModel" "level" "I" ∈ gT := gm_3 (i := 93) rfl rfl
theorem gw_3_94 : Cond.fieldLink RX8 99 "DeltaRunsModel" "spring" "I" ∈ gT := gm_3 (i := 94) rfl rfl
theorem gw_3_95 : Cond.fieldLink RX8 19 "DeltaRunsModel" "comes" "I" ∈ gT := gm_3 (i := 95) rfl rfl
theorem gw_3_96 : Cond.fieldLink RX8 22 "DeltaRunsModel" "land" "[I" ∈ gT := gm_3 (i := 96) rfl rfl
theorem gw_3_97 : Cond.fieldLink RX8 195 "DeltaRunsModel" "acts" "I" ∈ gT := gm_3 (i := 97) rfl rfl
theorem gw_3_98 : Cond.fieldLink RX8 26 "DeltaRunsModel" "aSort" "[I" ∈ gT := gm_3 (i := 98) rfl rfl
theorem gw_3_99 : Cond.fieldLink RX8 29 "DeltaRunsModel" "aYear" "[I" ∈ gT := gm_3 (i := 99) rfl rfl
theorem gw_3_100 : Cond.fieldLink RX8 32 "DeltaRunsModel" "aX" "[I" ∈ gT := gm_3 (i := 100) rfl rfl
theorem gw_3_101 : Cond.fieldLink RX8 35 "DeltaRunsModel" "aY" "[I" ∈ gT := gm_3 (i := 101) rfl rfl
theorem gw_3_102 : Cond.fieldLink RX8 38 "DeltaRunsModel" "aBy" "[I" ∈ gT := gm_3 (i := 102) rfl rfl
theorem gw_3_103 : Cond.fieldLink RX8 177 "DeltaRunsModel" "nMany" "I" ∈ gT := gm_3 (i := 103) rfl rfl
theorem gw_3_104 : Cond.fieldLink RX8 41 "DeltaRunsModel" "nAct" "[I" ∈ gT := gm_3 (i := 104) rfl rfl
theorem gw_3_105 : Cond.fieldLink RX8 44 "DeltaRunsModel" "tape" "[I" ∈ gT := gm_3 (i := 105) rfl rfl
theorem gw_3_106 : Cond.fieldLink RX8 127 "DeltaRunsModel" "taped" "I" ∈ gT := gm_3 (i := 106) rfl rfl
theorem gw_3_107 : Cond.fieldLink RX8 137 "DeltaRunsModel" "from" "I" ∈ gT := gm_3 (i := 107) rfl rfl
theorem gw_3_108 : Cond.fieldLink RX8 134 "DeltaRunsModel" "to" "I" ∈ gT := gm_3 (i := 108) rfl rfl
theorem gw_3_109 : Cond.fieldLink RX8 151 "DeltaRunsModel" "sort" "I" ∈ gT := gm_3 (i := 109) rfl rfl
theorem gw_3_110 : Cond.fieldLink RX8 140 "DeltaRunsModel" "worth" "J" ∈ gT := gm_3 (i := 110) rfl rfl
theorem gw_3_111 : Cond.fieldLink RX8 47 "DeltaRunsModel" "fault" "I" ∈ gT := gm_3 (i := 111) rfl rfl
theorem gw_3_112 : Cond.fieldLink RX8 162 "DeltaRunsModel" "bad" "Z" ∈ gT := gm_3 (i := 112) rfl rfl
theorem gw_3_113 : Cond.fieldLink RX8 50 "DeltaRunsModel" "heights" "[I" ∈ gT := gm_3 (i := 113) rfl rfl
theorem gw_3_114 : Cond.fieldLink RX8 53 "DeltaRunsModel" "isDyked" "[Z" ∈ gT := gm_3 (i := 114) rfl rfl
theorem gw_3_115 : Cond.fieldLink RX8 57 "DeltaRunsModel" "got" "[I" ∈ gT := gm_3 (i := 115) rfl rfl
theorem gw_3_116 : Cond.fieldLink RX8 60 "DeltaRunsModel" "isPit" "[Z" ∈ gT := gm_3 (i := 116) rfl rfl
theorem gw_3_117 : Cond.fieldLink RX8 63 "DeltaRunsModel" "order" "[I" ∈ gT := gm_3 (i := 117) rfl rfl
theorem gw_3_118 : Cond.fieldLink RX8 66 "DeltaRunsModel" "sides" "[I" ∈ gT := gm_3 (i := 118) rfl rfl
theorem gw_3_119 : Cond.fieldLink RX8 69 "DeltaRunsModel" "gives" "[I" ∈ gT := gm_3 (i := 119) rfl rfl
theorem gw_3_120 : Cond.fieldLink RX8 102 "DeltaRunsModel" "entries" "I" ∈ gT := gm_3 (i := 120) rfl rfl
theorem gw_3_121 : Cond.fieldLink RX8 72 "DeltaRunsModel" "eYear" "[I" ∈ gT := gm_3 (i := 121) rfl rfl
theorem gw_3_122 : Cond.fieldLink RX8 75 "DeltaRunsModel" "eCell" "[I" ∈ gT := gm_3 (i := 122) rfl rfl
theorem gw_3_123 : Cond.fieldLink RX8 78 "DeltaRunsModel" "eHeight" "[I" ∈ gT := gm_3 (i := 123) rfl rfl
theorem gw_3_124 : Cond.fieldLink RX8 81 "DeltaRunsModel" "eKnown" "[I" ∈ gT := gm_3 (i := 124) rfl rfl
theorem gw_3_125 : Cond.fieldLink RX8 84 "DeltaRunsModel" "breaks" "[I" ∈ gT := gm_3 (i := 125) rfl rfl
theorem gw_3_126 : Cond.fieldLink RX8 87 "DeltaRunsModel" "firstBroken" "[I" ∈ gT := gm_3 (i := 126) rfl rfl
theorem gw_3_127 : Cond.lays RX8 "DeltaRunsModel" "thrown" "I" ∈ gT := gm_3 (i := 127) rfl rfl
theorem gw_3_129 : Cond.lays RX8 "DeltaRunsModel" "status" "I" ∈ gT := gm_3 (i := 129) rfl rfl
theorem gw_3_131 : Cond.lays RX8 "DeltaRunsModel" "wide" "I" ∈ gT := gm_3 (i := 131) rfl rfl
theorem gw_3_133 : Cond.lays RX8 "DeltaRunsModel" "high" "I" ∈ gT := gm_3 (i := 133) rfl rfl
theorem gw_3_135 : Cond.lays RX8 "DeltaRunsModel" "level" "I" ∈ gT := gm_3 (i := 135) rfl rfl
theorem gw_3_137 : Cond.lays RX8 "DeltaRunsModel" "spring" "I" ∈ gT := gm_3 (i := 137) rfl rfl
theorem gw_3_139 : Cond.lays RX8 "DeltaRunsModel" "comes" "I" ∈ gT := gm_3 (i := 139) rfl rfl
theorem gw_3_141 : Cond.laysFinal RX8 "DeltaRunsModel" "land" "[I" ∈ gT := gm_3 (i := 141) rfl rfl
theorem gw_3_143 : Cond.lays RX8 "DeltaRunsModel" "acts" "I" ∈ gT := gm_3 (i := 143) rfl rfl
theorem gw_3_145 : Cond.laysFinal RX8 "DeltaRunsModel" "aSort" "[I" ∈ gT := gm_3 (i := 145) rfl rfl
theorem gw_3_147 : Cond.laysFinal RX8 "DeltaRunsModel" "aYear" "[I" ∈ gT := gm_3 (i := 147) rfl rfl
theorem gw_3_149 : Cond.laysFinal RX8 "DeltaRunsModel" "aX" "[I" ∈ gT := gm_3 (i := 149) rfl rfl
theorem gw_3_151 : Cond.laysFinal RX8 "DeltaRunsModel" "aY" "[I" ∈ gT := gm_3 (i := 151) rfl rfl
theorem gw_3_153 : Cond.laysFinal RX8 "DeltaRunsModel" "aBy" "[I" ∈ gT := gm_3 (i := 153) rfl rfl
theorem gw_3_155 : Cond.lays RX8 "DeltaRunsModel" "nMany" "I" ∈ gT := gm_3 (i := 155) rfl rfl
theorem gw_3_157 : Cond.laysFinal RX8 "DeltaRunsModel" "nAct" "[I" ∈ gT := gm_3 (i := 157) rfl rfl
theorem gw_3_159 : Cond.laysFinal RX8 "DeltaRunsModel" "tape" "[I" ∈ gT := gm_3 (i := 159) rfl rfl
theorem gw_3_161 : Cond.lays RX8 "DeltaRunsModel" "taped" "I" ∈ gT := gm_3 (i := 161) rfl rfl
theorem gw_3_163 : Cond.lays RX8 "DeltaRunsModel" "from" "I" ∈ gT := gm_3 (i := 163) rfl rfl
theorem gw_3_165 : Cond.lays RX8 "DeltaRunsModel" "to" "I" ∈ gT := gm_3 (i := 165) rfl rfl
theorem gw_3_167 : Cond.lays RX8 "DeltaRunsModel" "sort" "I" ∈ gT := gm_3 (i := 167) rfl rfl
theorem gw_3_169 : Cond.lays RX8 "DeltaRunsModel" "worth" "J" ∈ gT := gm_3 (i := 169) rfl rfl
theorem gw_3_171 : Cond.lays RX8 "DeltaRunsModel" "fault" "I" ∈ gT := gm_3 (i := 171) rfl rfl
theorem gw_3_173 : Cond.lays RX8 "DeltaRunsModel" "bad" "Z" ∈ gT := gm_3 (i := 173) rfl rfl
theorem gw_3_175 : Cond.laysFinal RX8 "DeltaRunsModel" "heights" "[I" ∈ gT := gm_3 (i := 175) rfl rfl
theorem gw_3_177 : Cond.laysFinal RX8 "DeltaRunsModel" "isDyked" "[Z" ∈ gT := gm_3 (i := 177) rfl rfl
theorem gw_3_179 : Cond.laysFinal RX8 "DeltaRunsModel" "got" "[I" ∈ gT := gm_3 (i := 179) rfl rfl
theorem gw_3_181 : Cond.laysFinal RX8 "DeltaRunsModel" "isPit" "[Z" ∈ gT := gm_3 (i := 181) rfl rfl
theorem gw_3_183 : Cond.laysFinal RX8 "DeltaRunsModel" "order" "[I" ∈ gT := gm_3 (i := 183) rfl rfl
theorem gw_3_185 : Cond.laysFinal RX8 "DeltaRunsModel" "sides" "[I" ∈ gT := gm_3 (i := 185) rfl rfl
theorem gw_3_187 : Cond.laysFinal RX8 "DeltaRunsModel" "gives" "[I" ∈ gT := gm_3 (i := 187) rfl rfl
theorem gw_3_189 : Cond.lays RX8 "DeltaRunsModel" "entries" "I" ∈ gT := gm_3 (i := 189) rfl rfl
theorem gw_3_191 : Cond.laysFinal RX8 "DeltaRunsModel" "eYear" "[I" ∈ gT := gm_3 (i := 191) rfl rfl
theorem gw_3_193 : Cond.laysFinal RX8 "DeltaRunsModel" "eCell" "[I" ∈ gT := gm_3 (i := 193) rfl rfl
theorem gw_3_195 : Cond.laysFinal RX8 "DeltaRunsModel" "eHeight" "[I" ∈ gT := gm_3 (i := 195) rfl rfl
theorem gw_3_197 : Cond.laysFinal RX8 "DeltaRunsModel" "eKnown" "[I" ∈ gT := gm_3 (i := 197) rfl rfl
theorem gw_3_199 : Cond.laysFinal RX8 "DeltaRunsModel" "breaks" "[I" ∈ gT := gm_3 (i := 199) rfl rfl
theorem gw_3_201 : Cond.laysFinal RX8 "DeltaRunsModel" "firstBroken" "[I" ∈ gT := gm_3 (i := 201) rfl rfl
theorem gw_3_204 : Cond.methodLink RL 17 yX8_size ∈ gT := gm_3 (i := 204) rfl rfl
theorem gw_3_205 : Cond.instanceMethod yX8_size ∈ gT := gm_3 (i := 205) rfl rfl
theorem gw_3_206 : Cond.selects RX8 yX8_size yX8_size ∈ gT := gm_3 (i := 206) rfl rfl
theorem gw_3_207 : Cond.code yX8_size cX8_size 3 (some .int) ∈ gT := gm_3 (i := 207) rfl rfl
theorem gw_3_208 : Cond.constantLong RX8 109 (2) ∈ gT := gm_3 (i := 208) rfl rfl
theorem gw_3_209 : Cond.constantLong RX8 111 (12) ∈ gT := gm_3 (i := 209) rfl rfl
theorem gw_3_210 : Cond.methodLink RX8 105 yX8_in ∈ gT := gm_3 (i := 210) rfl rfl
theorem gw_3_211 : Cond.static yX8_in ∈ gT := gm_3 (i := 211) rfl rfl
theorem gw_3_212 : Cond.code yX8_in cX8_in 6 (some .boolean) ∈ gT := gm_3 (i := 212) rfl rfl
theorem gw_3_213 : Cond.constantLong RX8 113 (10) ∈ gT := gm_3 (i := 213) rfl rfl
theorem gw_3_214 : Cond.methodLink RX8 115 yX8_told ∈ gT := gm_3 (i := 214) rfl rfl
theorem gw_3_216 : Cond.instanceMethod yX8_told ∈ gT := gm_3 (i := 216) rfl rfl
theorem gw_3_217 : Cond.code yX8_told cX8_told 2 (some .int) ∈ gT := gm_3 (i := 217) rfl rfl
theorem gw_3_218 : Cond.methodLink RL 22 yX8_land ∈ gT := gm_3 (i := 218) rfl rfl
theorem gw_3_219 : Cond.instanceMethod yX8_land ∈ gT := gm_3 (i := 219) rfl rfl
theorem gw_3_220 : Cond.selects RX8 yX8_land yX8_land ∈ gT := gm_3 (i := 220) rfl rfl
theorem gw_3_221 : Cond.code yX8_land cX8_land 9 (some .int) ∈ gT := gm_3 (i := 221) rfl rfl
theorem gw_3_222 : Cond.constantLong RX8 119 (200) ∈ gT := gm_3 (i := 222) rfl rfl
theorem gw_3_223 : Cond.methodLink RX8 121 yX8_isCell ∈ gT := gm_3 (i := 223) rfl rfl
theorem gw_3_225 : Cond.instanceMethod yX8_isCell ∈ gT := gm_3 (i := 225) rfl rfl
theorem gw_3_226 : Cond.code yX8_isCell cX8_isCell 3 (some .boolean) ∈ gT := gm_3 (i := 226) rfl rfl
theorem gw_3_227 : Cond.methodLink RL 27 yX8_level ∈ gT := gm_3 (i := 227) rfl rfl
theorem gw_3_228 : Cond.instanceMethod yX8_level ∈ gT := gm_3 (i := 228) rfl rfl
theorem gw_3_229 : Cond.selects RX8 yX8_level yX8_level ∈ gT := gm_3 (i := 229) rfl rfl
theorem gw_3_230 : Cond.code yX8_level cX8_level 2 (some .int) ∈ gT := gm_3 (i := 230) rfl rfl
theorem gw_3_231 : Cond.methodLink RL 32 yX8_spring ∈ gT := gm_3 (i := 231) rfl rfl
theorem gw_3_232 : Cond.instanceMethod yX8_spring ∈ gT := gm_3 (i := 232) rfl rfl
theorem gw_3_233 : Cond.selects RX8 yX8_spring yX8_spring ∈ gT := gm_3 (i := 233) rfl rfl
theorem gw_3_234 : Cond.code yX8_spring cX8_spring 4 (some .int) ∈ gT := gm_3 (i := 234) rfl rfl
theorem gw_3_235 : Cond.constantLong RX8 125 (1000) ∈ gT := gm_3 (i := 235) rfl rfl
theorem gw_3_236 : Cond.methodLink RL 36 yX8_feed ∈ gT := gm_3 (i := 236) rfl rfl
theorem gw_3_237 : Cond.instanceMethod yX8_feed ∈ gT := gm_3 (i := 237) rfl rfl
theorem gw_3_238 : Cond.selects RX8 yX8_feed yX8_feed ∈ gT := gm_3 (i := 238) rfl rfl
theorem gw_3_239 : Cond.code yX8_feed cX8_feed 6 (some .int) ∈ gT := gm_3 (i := 239) rfl rfl
theorem gw_4_0 : Cond.methodLink RX8 130 yX8_four ∈ gT := gm_4 (i := 0) rfl rfl
theorem gw_4_2 : Cond.instanceMethod yX8_four ∈ gT := gm_4 (i := 2) rfl rfl
theorem gw_4_3 : Cond.code yX8_four cX8_four 3 none ∈ gT := gm_4 (i := 3) rfl rfl
theorem gw_4_4 : Cond.methodLink RL 40 yX8_end ∈ gT := gm_4 (i := 4) rfl rfl
theorem gw_4_5 : Cond.instanceMethod yX8_end ∈ gT := gm_4 (i := 5) rfl rfl
theorem gw_4_6 : Cond.selects RX8 yX8_end yX8_end ∈ gT := gm_4 (i := 6) rfl rfl
theorem gw_4_7 : Cond.code yX8_end cX8_end 2 (some .int) ∈ gT := gm_4 (i := 7) rfl rfl
theorem gw_4_8 : Cond.methodLink RL 45 yX8_plan ∈ gT := gm_4 (i := 8) rfl rfl
theorem gw_4_9 : Cond.instanceMethod yX8_plan ∈ gT := gm_4 (i := 9) rfl rfl
theorem gw_4_10 : Cond.selects RX8 yX8_plan yX8_plan ∈ gT := gm_4 (i := 10) rfl rfl
theorem gw_4_11 : Cond.code yX8_plan cX8_plan 2 (some .int) ∈ gT := gm_4 (i := 11) rfl rfl
theorem gw_4_12 : Cond.methodLink RX8 166 yX8_next ∈ gT := gm_4 (i := 12) rfl rfl
theorem gw_4_14 : Cond.instanceMethod yX8_next ∈ gT := gm_4 (i := 14) rfl rfl
theorem gw_4_15 : Cond.code yX8_next cX8_next 1 none ∈ gT := gm_4 (i := 15) rfl rfl
theorem gw_4_16 : Cond.methodLink RX8 144 yX8_isSmall ∈ gT := gm_4 (i := 16) rfl rfl
theorem gw_4_17 : Cond.static yX8_isSmall ∈ gT := gm_4 (i := 17) rfl rfl
theorem gw_4_18 : Cond.code yX8_isSmall cX8_isSmall 1 (some .boolean) ∈ gT := gm_4 (i := 18) rfl rfl
theorem gw_4_19 : Cond.methodLink RX8 148 yX8_isDigit ∈ gT := gm_4 (i := 19) rfl rfl
theorem gw_4_20 : Cond.static yX8_isDigit ∈ gT := gm_4 (i := 20) rfl rfl
theorem gw_4_21 : Cond.code yX8_isDigit cX8_isDigit 1 (some .boolean) ∈ gT := gm_4 (i := 21) rfl rfl
theorem gw_4_22 : Cond.constantLong RX8 154 (32) ∈ gT := gm_4 (i := 22) rfl rfl
theorem gw_4_23 : Cond.constantLong RX8 156 (96) ∈ gT := gm_4 (i := 23) rfl rfl
theorem gw_4_24 : Cond.constantLong RX8 158 (-1) ∈ gT := gm_4 (i := 24) rfl rfl
theorem gw_4_25 : Cond.constantLong RX8 160 (48) ∈ gT := gm_4 (i := 25) rfl rfl
theorem gw_4_26 : Cond.methodLink RX8 190 yX8_readAct ∈ gT := gm_4 (i := 26) rfl rfl
theorem gw_4_28 : Cond.instanceMethod yX8_readAct ∈ gT := gm_4 (i := 28) rfl rfl
theorem gw_4_29 : Cond.code yX8_readAct cX8_readAct 6 none ∈ gT := gm_4 (i := 29) rfl rfl
theorem gw_4_30 : Cond.methodLink RX8 173 yX8_isWord ∈ gT := gm_4 (i := 30) rfl rfl
theorem gw_4_32 : Cond.instanceMethod yX8_isWord ∈ gT := gm_4 (i := 32) rfl rfl
theorem gw_4_33 : Cond.code yX8_isWord cX8_isWord 9 (some .boolean) ∈ gT := gm_4 (i := 33) rfl rfl
theorem gw_4_34 : Cond.methodLink RX8 169 yX8_must ∈ gT := gm_4 (i := 34) rfl rfl
theorem gw_4_36 : Cond.instanceMethod yX8_must ∈ gT := gm_4 (i := 36) rfl rfl
theorem gw_4_37 : Cond.code yX8_must cX8_must 2 none ∈ gT := gm_4 (i := 37) rfl rfl
theorem gw_4_38 : Cond.constantLong RX8 180 (30) ∈ gT := gm_4 (i := 38) rfl rfl
theorem gw_4_39 : Cond.methodLink RX8 182 yX8_number ∈ gT := gm_4 (i := 39) rfl rfl
theorem gw_4_41 : Cond.instanceMethod yX8_number ∈ gT := gm_4 (i := 41) rfl rfl
theorem gw_4_42 : Cond.code yX8_number cX8_number 6 (some .int) ∈ gT := gm_4 (i := 42) rfl rfl
theorem gw_4_43 : Cond.constantLong RX8 186 (11) ∈ gT := gm_4 (i := 43) rfl rfl
theorem gw_4_44 : Cond.constantLong RX8 188 (9) ∈ gT := gm_4 (i := 44) rfl rfl
theorem gw_4_45 : Cond.constantLong RX8 193 (59) ∈ gT := gm_4 (i := 45) rfl rfl
theorem gw_4_46 : Cond.methodLink RL 49 yX8_fault ∈ gT := gm_4 (i := 46) rfl rfl
theorem gw_4_47 : Cond.instanceMethod yX8_fault ∈ gT := gm_4 (i := 47) rfl rfl
theorem gw_4_48 : Cond.selects RX8 yX8_fault yX8_fault ∈ gT := gm_4 (i := 48) rfl rfl
theorem gw_4_49 : Cond.code yX8_fault cX8_fault 1 (some .int) ∈ gT := gm_4 (i := 49) rfl rfl
theorem gw_4_50 : Cond.methodLink RL 54 yX8_height ∈ gT := gm_4 (i := 50) rfl rfl
theorem gw_4_51 : Cond.instanceMethod yX8_height ∈ gT := gm_4 (i := 51) rfl rfl
theorem gw_4_52 : Cond.selects RX8 yX8_height yX8_height ∈ gT := gm_4 (i := 52) rfl rfl
theorem gw_4_53 : Cond.code yX8_height cX8_height 5 (some .int) ∈ gT := gm_4 (i := 53) rfl rfl
theorem gw_4_54 : Cond.methodLink RX8 224 yX8_isRule ∈ gT := gm_4 (i := 54) rfl rfl
theorem gw_4_55 : Cond.static yX8_isRule ∈ gT := gm_4 (i := 55) rfl rfl
theorem gw_4_56 : Cond.code yX8_isRule cX8_isRule 1 (some .boolean) ∈ gT := gm_4 (i := 56) rfl rfl
theorem gw_4_57 : Cond.constantLong RX8 222 (35) ∈ gT := gm_4 (i := 57) rfl rfl
theorem gw_4_58 : Cond.methodLink RX8 227 yX8_isYear ∈ gT := gm_4 (i := 58) rfl rfl
theorem gw_4_59 : Cond.static yX8_isYear ∈ gT := gm_4 (i := 59) rfl rfl
theorem gw_4_60 : Cond.code yX8_isYear cX8_isYear 1 (some .boolean) ∈ gT := gm_4 (i := 60) rfl rfl
theorem gw_4_61 : Cond.methodLink RX8 230 yX8_run ∈ gT := gm_4 (i := 61) rfl rfl
theorem gw_4_63 : Cond.instanceMethod yX8_run ∈ gT := gm_4 (i := 63) rfl rfl
theorem gw_4_64 : Cond.code yX8_run cX8_run 4 none ∈ gT := gm_4 (i := 64) rfl rfl
theorem gw_4_65 : Cond.methodLink RX8 215 yX8_begin ∈ gT := gm_4 (i := 65) rfl rfl
theorem gw_4_67 : Cond.instanceMethod yX8_begin ∈ gT := gm_4 (i := 67) rfl rfl
theorem gw_4_68 : Cond.code yX8_begin cX8_begin 2 none ∈ gT := gm_4 (i := 68) rfl rfl
theorem gw_4_69 : Cond.methodLink RX8 218 yX8_year ∈ gT := gm_4 (i := 69) rfl rfl
theorem gw_4_71 : Cond.instanceMethod yX8_year ∈ gT := gm_4 (i := 71) rfl rfl
theorem gw_4_72 : Cond.code yX8_year cX8_year 7 none ∈ gT := gm_4 (i := 72) rfl rfl
theorem gw_4_73 : Cond.methodLink RX8 206 yX8_act ∈ gT := gm_4 (i := 73) rfl rfl
theorem gw_4_75 : Cond.instanceMethod yX8_act ∈ gT := gm_4 (i := 75) rfl rfl
theorem gw_4_76 : Cond.code yX8_act cX8_act 4 none ∈ gT := gm_4 (i := 76) rfl rfl
theorem gw_4_77 : Cond.methodLink RX8 209 yX8_putInOrder ∈ gT := gm_4 (i := 77) rfl rfl
theorem gw_4_79 : Cond.instanceMethod yX8_putInOrder ∈ gT := gm_4 (i := 79) rfl rfl
theorem gw_4_80 : Cond.code yX8_putInOrder cX8_putInOrder 4 none ∈ gT := gm_4 (i := 80) rfl rfl
theorem gw_4_81 : Cond.methodLink RX8 212 yX8_share ∈ gT := gm_4 (i := 81) rfl rfl
theorem gw_4_83 : Cond.instanceMethod yX8_share ∈ gT := gm_4 (i := 83) rfl rfl
theorem gw_4_84 : Cond.code yX8_share cX8_share 10 (some .boolean) ∈ gT := gm_4 (i := 84) rfl rfl
theorem gw_4_85 : Cond.methodLink RX8 198 yX8_sideOf ∈ gT := gm_4 (i := 85) rfl rfl
theorem gw_4_87 : Cond.instanceMethod yX8_sideOf ∈ gT := gm_4 (i := 87) rfl rfl
theorem gw_4_88 : Cond.code yX8_sideOf cX8_sideOf 5 (some .int) ∈ gT := gm_4 (i := 88) rfl rfl
theorem gw_4_89 : Cond.methodLink RX8 202 yX8_restsAhead ∈ gT := gm_4 (i := 89) rfl rfl
theorem gw_4_91 : Cond.instanceMethod yX8_restsAhead ∈ gT := gm_4 (i := 91) rfl rfl
theorem gw_4_92 : Cond.code yX8_restsAhead cX8_restsAhead 8 (some .int) ∈ gT := gm_4 (i := 92) rfl rfl
theorem gw_4_93 : Cond.methodLink RL 58 yX8_flow ∈ gT := gm_4 (i := 93) rfl rfl
theorem gw_4_94 : Cond.instanceMethod yX8_flow ∈ gT := gm_4 (i := 94) rfl rfl
theorem gw_4_95 : Cond.selects RX8 yX8_flow yX8_flow ∈ gT := gm_4 (i := 95) rfl rfl
theorem gw_4_96 : Cond.code yX8_flow cX8_flow 5 (some .int) ∈ gT := gm_4 (i := 96) rfl rfl
theorem gw_4_97 : Cond.methodLink RL 62 yX8_lake ∈ gT := gm_4 (i := 97) rfl rfl
theorem gw_4_98 : Cond.instanceMethod yX8_lake ∈ gT := gm_4 (i := 98) rfl rfl
theorem gw_4_99 : Cond.selects RX8 yX8_lake yX8_lake ∈ gT := gm_4 (i := 99) rfl rfl
theorem gw_4_100 : Cond.code yX8_lake cX8_lake 5 (some .int) ∈ gT := gm_4 (i := 100) rfl rfl
theorem gw_4_101 : Cond.methodLink RL 66 yX8_map ∈ gT := gm_4 (i := 101) rfl rfl
theorem gw_4_102 : Cond.instanceMethod yX8_map ∈ gT := gm_4 (i := 102) rfl rfl
theorem gw_4_103 : Cond.selects RX8 yX8_map yX8_map ∈ gT := gm_4 (i := 103) rfl rfl
theorem gw_4_104 : Cond.code yX8_map cX8_map 6 (some .int) ∈ gT := gm_4 (i := 104) rfl rfl
theorem gw_4_105 : Cond.methodLink RL 70 yX8_stays ∈ gT := gm_4 (i := 105) rfl rfl
theorem gw_4_106 : Cond.instanceMethod yX8_stays ∈ gT := gm_4 (i := 106) rfl rfl
theorem gw_4_107 : Cond.selects RX8 yX8_stays yX8_stays ∈ gT := gm_4 (i := 107) rfl rfl
theorem gw_4_108 : Cond.code yX8_stays cX8_stays 5 (some .int) ∈ gT := gm_4 (i := 108) rfl rfl
theorem gw_4_109 : Cond.methodLink RX8 236 yX8_isKnown ∈ gT := gm_4 (i := 109) rfl rfl
theorem gw_4_110 : Cond.static yX8_isKnown ∈ gT := gm_4 (i := 110) rfl rfl
theorem gw_4_111 : Cond.code yX8_isKnown cX8_isKnown 1 (some .boolean) ∈ gT := gm_4 (i := 111) rfl rfl
theorem gw_4_112 : Cond.methodLink RX8 239 yX8_compareAll ∈ gT := gm_4 (i := 112) rfl rfl
theorem gw_4_114 : Cond.instanceMethod yX8_compareAll ∈ gT := gm_4 (i := 114) rfl rfl
theorem gw_4_115 : Cond.code yX8_compareAll cX8_compareAll 3 none ∈ gT := gm_4 (i := 115) rfl rfl
theorem gw_4_116 : Cond.methodLink RX8 233 yX8_compare ∈ gT := gm_4 (i := 116) rfl rfl
theorem gw_4_118 : Cond.instanceMethod yX8_compare ∈ gT := gm_4 (i := 118) rfl rfl
theorem gw_4_119 : Cond.code yX8_compare cX8_compare 6 none ∈ gT := gm_4 (i := 119) rfl rfl
theorem gw_4_120 : Cond.methodLink RL 74 yX8_foretold ∈ gT := gm_4 (i := 120) rfl rfl
theorem gw_4_121 : Cond.instanceMethod yX8_foretold ∈ gT := gm_4 (i := 121) rfl rfl
theorem gw_4_122 : Cond.selects RX8 yX8_foretold yX8_foretold ∈ gT := gm_4 (i := 122) rfl rfl
theorem gw_4_123 : Cond.code yX8_foretold cX8_foretold 10 (some .int) ∈ gT := gm_4 (i := 123) rfl rfl
theorem gw_4_124 : Cond.methodLink RL 78 yX8_wasted ∈ gT := gm_4 (i := 124) rfl rfl
theorem gw_4_125 : Cond.instanceMethod yX8_wasted ∈ gT := gm_4 (i := 125) rfl rfl
theorem gw_4_126 : Cond.selects RX8 yX8_wasted yX8_wasted ∈ gT := gm_4 (i := 126) rfl rfl
theorem gw_4_127 : Cond.code yX8_wasted cX8_wasted 4 (some .int) ∈ gT := gm_4 (i := 127) rfl rfl
theorem gw_4_128 : Cond.methodLink RL 82 yX8_against ∈ gT := gm_4 (i := 128) rfl rfl
theorem gw_4_129 : Cond.instanceMethod yX8_against ∈ gT := gm_4 (i := 129) rfl rfl
theorem gw_4_130 : Cond.selects RX8 yX8_against yX8_against ∈ gT := gm_4 (i := 130) rfl rfl
theorem gw_4_131 : Cond.code yX8_against cX8_against 3 (some .int) ∈ gT := gm_4 (i := 131) rfl rfl
theorem gw_4_132 : Cond.methodLink RL 86 yX8_count ∈ gT := gm_4 (i := 132) rfl rfl
theorem gw_4_133 : Cond.instanceMethod yX8_count ∈ gT := gm_4 (i := 133) rfl rfl
theorem gw_4_134 : Cond.selects RX8 yX8_count yX8_count ∈ gT := gm_4 (i := 134) rfl rfl
theorem gw_4_135 : Cond.code yX8_count cX8_count 2 (some .int) ∈ gT := gm_4 (i := 135) rfl rfl
theorem gw_4_136 : Cond.methodLink RL 90 yX8_status ∈ gT := gm_4 (i := 136) rfl rfl
theorem gw_4_137 : Cond.instanceMethod yX8_status ∈ gT := gm_4 (i := 137) rfl rfl
theorem gw_4_138 : Cond.selects RX8 yX8_status yX8_status ∈ gT := gm_4 (i := 138) rfl rfl
theorem gw_4_139 : Cond.code yX8_status cX8_status 1 (some .int) ∈ gT := gm_4 (i := 139) rfl rfl
theorem gw_4_140 : Cond.fieldLink RJ0 9 "java/lang/String" "value" "[B" ∈ gT := gm_4 (i := 140) rfl rfl
theorem gw_4_141 : Cond.fieldLink RJ0 15 "java/lang/String" "coder" "B" ∈ gT := gm_4 (i := 141) rfl rfl
theorem gw_0_0 : Cond.selects RX7 yX7_refuse yX7_refuse ∈ gT := gm_0 (i := 0) rfl
theorem gw_0_1 : Cond.selects RX7 yX7_forgetRuns yX7_forgetRuns ∈ gT := gm_0 (i := 1) rfl
theorem gw_0_2 : Cond.selects RX7 yX7_accept yX7_accept ∈ gT := gm_0 (i := 2) rfl
theorem gw_0_3 : Cond.selects RX3 yX3_step yX3_step ∈ gT := gm_0 (i := 3) rfl
theorem gw_0_4 : Cond.selects RX3 yX3_atEnd yX3_atEnd ∈ gT := gm_0 (i := 4) rfl
theorem gw_0_5 : Cond.selects RX3 yX3_readAct yX3_readAct ∈ gT := gm_0 (i := 5) rfl
theorem gw_0_6 : Cond.selects RX3 yX3_takes yX3_takes ∈ gT := gm_0 (i := 6) rfl
theorem gw_0_7 : Cond.selects RX3 yX3_takesNumber yX3_takesNumber ∈ gT := gm_0 (i := 7) rfl
theorem gw_0_8 : Cond.selects RX3 yX3_takeKind yX3_takeKind ∈ gT := gm_0 (i := 8) rfl
theorem gw_0_9 : Cond.selects RX7 yX7_runTo yX7_runTo ∈ gT := gm_0 (i := 9) rfl
theorem gw_0_10 : Cond.selects RX7 yX7_startedYears yX7_startedYears ∈ gT := gm_0 (i := 10) rfl
theorem gw_0_11 : Cond.selects RX7 yX7_takeUp yX7_takeUp ∈ gT := gm_0 (i := 11) rfl
theorem gw_0_12 : Cond.selects RX5 yX5_dryUp yX5_dryUp ∈ gT := gm_0 (i := 12) rfl
theorem gw_0_13 : Cond.selects RX5 yX5_pour yX5_pour ∈ gT := gm_0 (i := 13) rfl
theorem gw_0_14 : Cond.selects RX5 yX5_goesAhead yX5_goesAhead ∈ gT := gm_0 (i := 14) rfl
theorem gw_0_15 : Cond.selects RX5 yX5_giveOn yX5_giveOn ∈ gT := gm_0 (i := 15) rfl
theorem gw_0_16 : Cond.selects RX5 yX5_findWays yX5_findWays ∈ gT := gm_0 (i := 16) rfl
theorem gw_0_17 : Cond.selects RX5 yX5_shareToLowest yX5_shareToLowest ∈ gT := gm_0 (i := 17) rfl
theorem gw_0_18 : Cond.selects RX5 yX5_firstGreatest yX5_firstGreatest ∈ gT := gm_0 (i := 18) rfl
theorem gw_0_19 : Cond.selects RX5 yX5_shareEvenly yX5_shareEvenly ∈ gT := gm_0 (i := 19) rfl
theorem gw_0_20 : Cond.selects RX5 yX5_shareByDrops yX5_shareByDrops ∈ gT := gm_0 (i := 20) rfl
theorem gw_0_21 : Cond.selects RX7 yX7_againstFrom yX7_againstFrom ∈ gT := gm_0 (i := 21) rfl
theorem gw_0_22 : Cond.selects RX8 yX8_flat yX8_flat ∈ gT := gm_0 (i := 22) rfl
theorem gw_0_23 : Cond.selects RX8 yX8_told yX8_told ∈ gT := gm_0 (i := 23) rfl
theorem gw_0_24 : Cond.selects RX8 yX8_isCell yX8_isCell ∈ gT := gm_0 (i := 24) rfl
theorem gw_0_25 : Cond.selects RX8 yX8_four yX8_four ∈ gT := gm_0 (i := 25) rfl
theorem gw_0_26 : Cond.selects RX8 yX8_next yX8_next ∈ gT := gm_0 (i := 26) rfl
theorem gw_0_27 : Cond.selects RX8 yX8_readAct yX8_readAct ∈ gT := gm_0 (i := 27) rfl
theorem gw_0_28 : Cond.selects RX8 yX8_isWord yX8_isWord ∈ gT := gm_0 (i := 28) rfl
theorem gw_0_29 : Cond.selects RX8 yX8_must yX8_must ∈ gT := gm_0 (i := 29) rfl
theorem gw_0_30 : Cond.selects RX8 yX8_number yX8_number ∈ gT := gm_0 (i := 30) rfl
theorem gw_0_31 : Cond.selects RX8 yX8_run yX8_run ∈ gT := gm_0 (i := 31) rfl
theorem gw_0_32 : Cond.selects RX8 yX8_begin yX8_begin ∈ gT := gm_0 (i := 32) rfl
theorem gw_0_33 : Cond.selects RX8 yX8_year yX8_year ∈ gT := gm_0 (i := 33) rfl
theorem gw_0_34 : Cond.selects RX8 yX8_act yX8_act ∈ gT := gm_0 (i := 34) rfl
theorem gw_0_35 : Cond.selects RX8 yX8_putInOrder yX8_putInOrder ∈ gT := gm_0 (i := 35) rfl
theorem gw_0_36 : Cond.selects RX8 yX8_share yX8_share ∈ gT := gm_0 (i := 36) rfl
theorem gw_0_37 : Cond.selects RX8 yX8_sideOf yX8_sideOf ∈ gT := gm_0 (i := 37) rfl
theorem gw_0_38 : Cond.selects RX8 yX8_restsAhead yX8_restsAhead ∈ gT := gm_0 (i := 38) rfl
theorem gw_0_39 : Cond.selects RX8 yX8_compareAll yX8_compareAll ∈ gT := gm_0 (i := 39) rfl
theorem gw_0_40 : Cond.selects RX8 yX8_compare yX8_compare ∈ gT := gm_0 (i := 40) rfl
theorem inX0 : ∀ w ∈ u_ws RX0 TX0 5, w ∈ gT := List.forall_mem_cons.mpr ⟨gw_1_94, List.forall_mem_cons.mpr ⟨gw_1_96, List.forall_mem_cons.mpr ⟨gw_1_98, List.forall_mem_cons.mpr ⟨gw_1_100, List.forall_mem_cons.mpr ⟨gw_1_102, fun _ h => absurd h List.not_mem_nil⟩⟩⟩⟩⟩
theorem inX1 : ∀ w ∈ u_ws RX1 TX1 6, w ∈ gT := List.forall_mem_cons.mpr ⟨gw_1_47, List.forall_mem_cons.mpr ⟨gw_1_49, List.forall_mem_cons.mpr ⟨gw_1_51, List.forall_mem_cons.mpr ⟨gw_1_53, List.forall_mem_cons.mpr ⟨gw_1_55, List.forall_mem_cons.mpr ⟨gw_1_57, fun _ h => absurd h List.not_mem_nil⟩⟩⟩⟩⟩⟩
theorem inX2 : ∀ w ∈ u_ws RX2 TX2 6, w ∈ gT := List.forall_mem_cons.mpr ⟨gw_1_172, List.forall_mem_cons.mpr ⟨gw_1_174, List.forall_mem_cons.mpr ⟨gw_1_176, List.forall_mem_cons.mpr ⟨gw_1_178, List.forall_mem_cons.mpr ⟨gw_1_180, List.forall_mem_cons.mpr ⟨gw_1_182, fun _ h => absurd h List.not_mem_nil⟩⟩⟩⟩⟩⟩
theorem inX3 : ∀ w ∈ u_ws RX3 TX3 5, w ∈ gT := List.forall_mem_cons.mpr ⟨gw_2_44, List.forall_mem_cons.mpr ⟨gw_2_46, List.forall_mem_cons.mpr ⟨gw_2_48, List.forall_mem_cons.mpr ⟨gw_2_50, List.forall_mem_cons.mpr ⟨gw_2_52, fun _ h => absurd h List.not_mem_nil⟩⟩⟩⟩⟩
theorem inX4 : ∀ w ∈ u_ws RX4 TX4 2, w ∈ gT := List.forall_mem_cons.mpr ⟨gw_1_72, List.forall_mem_cons.mpr ⟨gw_1_74, fun _ h => absurd h List.not_mem_nil⟩⟩
theorem inX5 : ∀ w ∈ u_ws RX5 TX5 11, w ∈ gT := List.forall_mem_cons.mpr ⟨gw_1_127, List.forall_mem_cons.mpr ⟨gw_1_129, List.forall_mem_cons.mpr ⟨gw_1_131, List.forall_mem_cons.mpr ⟨gw_1_133, List.forall_mem_cons.mpr ⟨gw_1_135, List.forall_mem_cons.mpr ⟨gw_1_137, List.forall_mem_cons.mpr ⟨gw_1_139, List.forall_mem_cons.mpr ⟨gw_1_141, List.forall_mem_cons.mpr ⟨gw_1_143, List.forall_mem_cons.mpr ⟨gw_1_145, List.forall_mem_cons.mpr ⟨gw_1_147, fun _ h => absurd h List.not_mem_nil⟩⟩⟩⟩⟩⟩⟩⟩⟩⟩⟩
theorem inX6 : ∀ w ∈ u_ws RX6 TX6 2, w ∈ gT := List.forall_mem_cons.mpr ⟨gw_2_173, List.forall_mem_cons.mpr ⟨gw_2_175, fun _ h => absurd h List.not_mem_nil⟩⟩
theorem inX7 : ∀ w ∈ u_ws RX7 TX7 9, w ∈ gT := List.forall_mem_cons.mpr ⟨gw_1_194, List.forall_mem_cons.mpr ⟨gw_1_196, List.forall_mem_cons.mpr ⟨gw_1_198, List.forall_mem_cons.mpr ⟨gw_1_200, List.forall_mem_cons.mpr ⟨gw_1_202, List.forall_mem_cons.mpr ⟨gw_1_204, List.forall_mem_cons.mpr ⟨gw_1_206, List.forall_mem_cons.mpr ⟨gw_1_208, List.forall_mem_cons.mpr ⟨gw_1_210, fun _ h => absurd h List.not_mem_nil⟩⟩⟩⟩⟩⟩⟩⟩⟩
theorem inX8 : ∀ w ∈ u_ws RX8 TX8 38, w ∈ gT := List.forall_mem_cons.mpr ⟨gw_3_127, List.forall_mem_cons.mpr ⟨gw_3_129, List.forall_mem_cons.mpr ⟨gw_3_131, List.forall_mem_cons.mpr ⟨gw_3_133, List.forall_mem_cons.mpr ⟨gw_3_135, List.forall_mem_cons.mpr ⟨gw_3_137, List.forall_mem_cons.mpr ⟨gw_3_139, List.forall_mem_cons.mpr ⟨gw_3_141, List.forall_mem_cons.mpr ⟨gw_3_143, List.forall_mem_cons.mpr ⟨gw_3_145, List.forall_mem_cons.mpr ⟨gw_3_147, List.forall_mem_cons.mpr ⟨gw_3_149, List.forall_mem_cons.mpr ⟨gw_3_151, List.forall_mem_cons.mpr ⟨gw_3_153, List.forall_mem_cons.mpr ⟨gw_3_155, List.forall_mem_cons.mpr ⟨gw_3_157, List.forall_mem_cons.mpr ⟨gw_3_159, List.forall_mem_cons.mpr ⟨gw_3_161, List.forall_mem_cons.mpr ⟨gw_3_163, List.forall_mem_cons.mpr ⟨gw_3_165, List.forall_mem_cons.mpr ⟨gw_3_167, List.forall_mem_cons.mpr ⟨gw_3_169, List.forall_mem_cons.mpr ⟨gw_3_171, List.forall_mem_cons.mpr ⟨gw_3_173, List.forall_mem_cons.mpr ⟨gw_3_175, List.forall_mem_cons.mpr ⟨gw_3_177, List.forall_mem_cons.mpr ⟨gw_3_179, List.forall_mem_cons.mpr ⟨gw_3_181, List.forall_mem_cons.mpr ⟨gw_3_183, List.forall_mem_cons.mpr ⟨gw_3_185, List.forall_mem_cons.mpr ⟨gw_3_187, List.forall_mem_cons.mpr ⟨gw_3_189, List.forall_mem_cons.mpr ⟨gw_3_191, List.forall_mem_cons.mpr ⟨gw_3_193, List.forall_mem_cons.mpr ⟨gw_3_195, List.forall_mem_cons.mpr ⟨gw_3_197, List.forall_mem_cons.mpr ⟨gw_3_199, List.forall_mem_cons.mpr ⟨gw_3_201, fun _ h => absurd h List.not_mem_nil⟩⟩⟩⟩⟩⟩⟩⟩⟩⟩⟩⟩⟩⟩⟩⟩⟩⟩⟩⟩⟩⟩⟩⟩⟩⟩⟩⟩⟩⟩⟩⟩⟩⟩⟩⟩⟩⟩
