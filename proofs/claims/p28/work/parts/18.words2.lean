theorem q_1063 : Cond.code yX9_fruit aE5 3 (some .int) ∈ W0 := xR (aGK (List.mem_of_getElem? (i := 182) rfl)) rfl
theorem q_1064 : Cond.methodLink RL 7 yX9_fruit ∈ W0 := xR (aGK (List.mem_of_getElem? (i := 179) rfl)) rfl
theorem q_1065 : Cond.instanceMethod yX9_fruit ∈ W0 := xR (aGK (List.mem_of_getElem? (i := 180) rfl)) rfl
theorem q_1066 : Cond.selects RX9 yX9_fruit yX9_fruit ∈ W0 := xR (aGK (List.mem_of_getElem? (i := 181) rfl)) rfl
theorem q_1067 : Cond.classLink RL 13 "java/util/NoSuchElementException" ∈ W0 := xR (aGK (List.mem_of_getElem? (i := 178) rfl)) rfl
theorem q_1068 : Cond.code yX9_standing aGz 3 (some .int) ∈ W0 := xR (aGl (List.mem_of_getElem? (i := 14) rfl)) rfl
theorem q_1069 : Cond.methodLink RL 15 yX9_standing ∈ W0 := xR (aGl (List.mem_of_getElem? (i := 11) rfl)) rfl
theorem q_1070 : Cond.instanceMethod yX9_standing ∈ W0 := xR (aGl (List.mem_of_getElem? (i := 12) rfl)) rfl
theorem q_1071 : Cond.selects RX9 yX9_standing yX9_standing ∈ W0 := xR (aGl (List.mem_of_getElem? (i := 13) rfl)) rfl
theorem q_1072 : Cond.code yX9_row cX9_row 2 (some .int) ∈ W0 := xR (aGl (List.mem_of_getElem? (i := 22) rfl)) rfl
theorem q_1073 : Cond.methodLink RL 18 yX9_row ∈ W0 := xR (aGl (List.mem_of_getElem? (i := 19) rfl)) rfl
theorem q_1074 : Cond.instanceMethod yX9_row ∈ W0 := xR (aGl (List.mem_of_getElem? (i := 20) rfl)) rfl
theorem q_1075 : Cond.selects RX9 yX9_row yX9_row ∈ W0 := xR (aGl (List.mem_of_getElem? (i := 21) rfl)) rfl
theorem q_1076 : Cond.code yX9_sign cX9_sign 2 (some .int) ∈ W0 := xR (aFb (List.mem_of_getElem? (i := 125) rfl)) rfl
theorem q_1077 : Cond.instanceMethod yX9_sign ∈ W0 := xR (aFb (List.mem_of_getElem? (i := 123) rfl)) rfl
theorem q_1078 : Cond.selects RX9 yX9_sign yX9_sign ∈ W0 := xR (aFb (List.mem_of_getElem? (i := 124) rfl)) rfl
theorem q_1079 : Cond.methodLink RL 26 yX9_sign ∈ W0 := xR (aFb (List.mem_of_getElem? (i := 122) rfl)) rfl
theorem q_1080 : Cond.code yX10_sign aJA 3 (some .int) ∈ W0 := xR (aGl (List.mem_of_getElem? (i := 186) rfl)) rfl
theorem q_1081 : Cond.instanceMethod yX10_sign ∈ W0 := xR (aGl (List.mem_of_getElem? (i := 184) rfl)) rfl
theorem q_1082 : Cond.selects zX yX10_sign yX10_sign ∈ W0 := xR (aGl (List.mem_of_getElem? (i := 185) rfl)) rfl
theorem q_1083 : Cond.methodLink RL 29 yX10_sign ∈ W0 := xR (aGl (List.mem_of_getElem? (i := 183) rfl)) rfl
theorem q_1084 : Cond.code yX9_end cX9_end 2 (some .boolean) ∈ W0 := xR (aFb (List.mem_of_getElem? (i := 133) rfl)) rfl
theorem q_1085 : Cond.instanceMethod yX9_end ∈ W0 := xR (aFb (List.mem_of_getElem? (i := 131) rfl)) rfl
theorem q_1086 : Cond.selects RX9 yX9_end yX9_end ∈ W0 := xR (aFb (List.mem_of_getElem? (i := 132) rfl)) rfl
theorem q_1087 : Cond.methodLink RL 30 yX9_end ∈ W0 := xR (aFb (List.mem_of_getElem? (i := 130) rfl)) rfl
theorem q_1088 : Cond.code yX10_end cX10_end 2 (some .boolean) ∈ W0 := xR (aGl (List.mem_of_getElem? (i := 190) rfl)) rfl
theorem q_1089 : Cond.instanceMethod yX10_end ∈ W0 := xR (aGl (List.mem_of_getElem? (i := 188) rfl)) rfl
theorem q_1090 : Cond.selects zX yX10_end yX10_end ∈ W0 := xR (aGl (List.mem_of_getElem? (i := 189) rfl)) rfl
theorem q_1091 : Cond.methodLink RL 34 yX10_end ∈ W0 := xR (aGl (List.mem_of_getElem? (i := 187) rfl)) rfl
theorem q_1092 : Cond.code yX9_orchard aDq 4 (some .int) ∈ W0 := xR (aFb (List.mem_of_getElem? (i := 141) rfl)) rfl
theorem q_1093 : Cond.instanceMethod yX9_orchard ∈ W0 := xR (aFb (List.mem_of_getElem? (i := 139) rfl)) rfl
theorem q_1094 : Cond.selects RX9 yX9_orchard yX9_orchard ∈ W0 := xR (aFb (List.mem_of_getElem? (i := 140) rfl)) rfl
theorem q_1095 : Cond.methodLink RL 35 yX9_orchard ∈ W0 := xR (aFb (List.mem_of_getElem? (i := 138) rfl)) rfl
theorem q_1096 : Cond.code yX10_orchard aAc 3 (some .int) ∈ W0 := xR (aGl (List.mem_of_getElem? (i := 197) rfl)) rfl
theorem q_1097 : Cond.instanceMethod yX10_orchard ∈ W0 := xR (aGl (List.mem_of_getElem? (i := 195) rfl)) rfl
theorem q_1098 : Cond.selects zX yX10_orchard yX10_orchard ∈ W0 := xR (aGl (List.mem_of_getElem? (i := 196) rfl)) rfl
theorem q_1099 : Cond.methodLink RL 39 yX10_orchard ∈ W0 := xR (aGl (List.mem_of_getElem? (i := 194) rfl)) rfl
theorem q_1100 : Cond.code yX9_rule aOy 2 (some .int) ∈ W0 := xR (aFb (List.mem_of_getElem? (i := 213) rfl)) rfl
theorem q_1101 : Cond.instanceMethod yX9_rule ∈ W0 := xR (aFb (List.mem_of_getElem? (i := 211) rfl)) rfl
theorem q_1102 : Cond.selects RX9 yX9_rule yX9_rule ∈ W0 := xR (aFb (List.mem_of_getElem? (i := 212) rfl)) rfl
theorem q_1103 : Cond.methodLink RL 40 yX9_rule ∈ W0 := xR (aFb (List.mem_of_getElem? (i := 210) rfl)) rfl
theorem q_1104 : Cond.code yX10_rule aEY 3 (some .int) ∈ W0 := xR (aGl (List.mem_of_getElem? (i := 233) rfl)) rfl
theorem q_1105 : Cond.instanceMethod yX10_rule ∈ W0 := xR (aGl (List.mem_of_getElem? (i := 231) rfl)) rfl
theorem q_1106 : Cond.selects zX yX10_rule yX10_rule ∈ W0 := xR (aGl (List.mem_of_getElem? (i := 232) rfl)) rfl
theorem q_1107 : Cond.methodLink RL 43 yX10_rule ∈ W0 := xR (aGl (List.mem_of_getElem? (i := 230) rfl)) rfl
theorem q_1108 : Cond.codeWith yL_fruit cL_fruit 5 (some .int) [(0, 10, 13, 13)] ∈ W0 := xR (aGK (List.mem_of_getElem? (i := 177) rfl)) rfl
theorem q_1109 : Cond.methodLink RL 44 yL_fruit ∈ W0 := xR (aGK (List.mem_of_getElem? (i := 175) rfl)) rfl
theorem q_1110 : Cond.static yL_fruit ∈ W0 := xR (aGK (List.mem_of_getElem? (i := 176) rfl)) rfl
theorem q_1111 : Cond.initialized RL ∈ W0 := xR (aFj (List.mem_of_getElem? (i := 0) rfl)) rfl
theorem q_1112 : Cond.code yX10_fruit aDT 3 (some .int) ∈ W0 := xR (aFp (List.mem_of_getElem? (i := 27) rfl)) rfl
theorem q_1113 : Cond.instanceMethod yX10_fruit ∈ W0 := xR (aFp (List.mem_of_getElem? (i := 25) rfl)) rfl
theorem q_1114 : Cond.selects zX yX10_fruit yX10_fruit ∈ W0 := xR (aFp (List.mem_of_getElem? (i := 26) rfl)) rfl
theorem q_1115 : Cond.methodLink RL 49 yX10_fruit ∈ W0 := xR (aFp (List.mem_of_getElem? (i := 24) rfl)) rfl
theorem q_1116 : Cond.codeWith yL_standing aUh 5 (some .int) [(0, 10, 13, 13)] ∈ W0 := xR (aGl (List.mem_of_getElem? (i := 10) rfl)) rfl
theorem q_1117 : Cond.methodLink RL 50 yL_standing ∈ W0 := xR (aGl (List.mem_of_getElem? (i := 8) rfl)) rfl
theorem q_1118 : Cond.static yL_standing ∈ W0 := xR (aGl (List.mem_of_getElem? (i := 9) rfl)) rfl
theorem q_1119 : Cond.code yX10_standing aFX 3 (some .int) ∈ W0 := xR (aFp (List.mem_of_getElem? (i := 54) rfl)) rfl
theorem q_1120 : Cond.instanceMethod yX10_standing ∈ W0 := xR (aFp (List.mem_of_getElem? (i := 52) rfl)) rfl
theorem q_1121 : Cond.selects zX yX10_standing yX10_standing ∈ W0 := xR (aFp (List.mem_of_getElem? (i := 53) rfl)) rfl
theorem q_1122 : Cond.methodLink RL 52 yX10_standing ∈ W0 := xR (aFp (List.mem_of_getElem? (i := 51) rfl)) rfl
theorem q_1123 : Cond.code yX9_set aVk 4 (some .int) ∈ W0 := xR (aGA (List.mem_of_getElem? (i := 92) rfl)) rfl
theorem q_1124 : Cond.instanceMethod yX9_set ∈ W0 := xR (aGA (List.mem_of_getElem? (i := 90) rfl)) rfl
theorem q_1125 : Cond.selects RX9 yX9_set yX9_set ∈ W0 := xR (aGA (List.mem_of_getElem? (i := 91) rfl)) rfl
theorem q_1126 : Cond.methodLink RL 53 yX9_set ∈ W0 := xR (aGA (List.mem_of_getElem? (i := 89) rfl)) rfl
theorem q_1127 : Cond.code yX10_set aJL 4 (some .int) ∈ W0 := xR (aFp (List.mem_of_getElem? (i := 66) rfl)) rfl
theorem q_1128 : Cond.instanceMethod yX10_set ∈ W0 := xR (aFp (List.mem_of_getElem? (i := 64) rfl)) rfl
theorem q_1129 : Cond.selects zX yX10_set yX10_set ∈ W0 := xR (aFp (List.mem_of_getElem? (i := 65) rfl)) rfl
theorem q_1130 : Cond.methodLink RL 56 yX10_set ∈ W0 := xR (aFp (List.mem_of_getElem? (i := 63) rfl)) rfl
theorem q_1131 : Cond.code yX9_sheet aKB 5 (some .int) ∈ W0 := xR (aGA (List.mem_of_getElem? (i := 100) rfl)) rfl
theorem q_1132 : Cond.instanceMethod yX9_sheet ∈ W0 := xR (aGA (List.mem_of_getElem? (i := 98) rfl)) rfl
theorem q_1133 : Cond.selects RX9 yX9_sheet yX9_sheet ∈ W0 := xR (aGA (List.mem_of_getElem? (i := 99) rfl)) rfl
theorem q_1134 : Cond.methodLink RL 57 yX9_sheet ∈ W0 := xR (aGA (List.mem_of_getElem? (i := 97) rfl)) rfl
theorem q_1135 : Cond.code yX10_sheet aCp 9 (some .int) ∈ W0 := xR (aFp (List.mem_of_getElem? (i := 70) rfl)) rfl
theorem q_1136 : Cond.instanceMethod yX10_sheet ∈ W0 := xR (aFp (List.mem_of_getElem? (i := 68) rfl)) rfl
theorem q_1137 : Cond.selects zX yX10_sheet yX10_sheet ∈ W0 := xR (aFp (List.mem_of_getElem? (i := 69) rfl)) rfl
theorem q_1138 : Cond.methodLink RL 61 yX10_sheet ∈ W0 := xR (aFp (List.mem_of_getElem? (i := 67) rfl)) rfl
theorem q_1139 : Cond.code yX9_move cX9_move 2 (some .int) ∈ W0 := xR (aGA (List.mem_of_getElem? (i := 110) rfl)) rfl
theorem q_1140 : Cond.instanceMethod yX9_move ∈ W0 := xR (aGA (List.mem_of_getElem? (i := 108) rfl)) rfl
theorem q_1141 : Cond.selects RX9 yX9_move yX9_move ∈ W0 := xR (aGA (List.mem_of_getElem? (i := 109) rfl)) rfl
theorem q_1142 : Cond.methodLink RL 62 yX9_move ∈ W0 := xR (aGA (List.mem_of_getElem? (i := 107) rfl)) rfl
theorem q_1143 : Cond.code yX10_move aZP 3 (some .int) ∈ W0 := xR (aFp (List.mem_of_getElem? (i := 75) rfl)) rfl
theorem q_1144 : Cond.instanceMethod yX10_move ∈ W0 := xR (aFp (List.mem_of_getElem? (i := 73) rfl)) rfl
theorem q_1145 : Cond.selects zX yX10_move yX10_move ∈ W0 := xR (aFp (List.mem_of_getElem? (i := 74) rfl)) rfl
theorem q_1146 : Cond.methodLink RL 65 yX10_move ∈ W0 := xR (aFp (List.mem_of_getElem? (i := 72) rfl)) rfl
theorem q_1147 : Cond.code yX9_foot cX9_foot 2 (some .int) ∈ W0 := xR (aGA (List.mem_of_getElem? (i := 159) rfl)) rfl
theorem q_1148 : Cond.instanceMethod yX9_foot ∈ W0 := xR (aGA (List.mem_of_getElem? (i := 157) rfl)) rfl
theorem q_1149 : Cond.selects RX9 yX9_foot yX9_foot ∈ W0 := xR (aGA (List.mem_of_getElem? (i := 158) rfl)) rfl
theorem q_1150 : Cond.methodLink RL 66 yX9_foot ∈ W0 := xR (aGA (List.mem_of_getElem? (i := 156) rfl)) rfl
theorem q_1151 : Cond.code yX10_foot aRG 3 (some .int) ∈ W0 := xR (aFp (List.mem_of_getElem? (i := 106) rfl)) rfl
theorem q_1152 : Cond.instanceMethod yX10_foot ∈ W0 := xR (aFp (List.mem_of_getElem? (i := 104) rfl)) rfl
theorem q_1153 : Cond.selects zX yX10_foot yX10_foot ∈ W0 := xR (aFp (List.mem_of_getElem? (i := 105) rfl)) rfl
theorem q_1154 : Cond.methodLink RL 69 yX10_foot ∈ W0 := xR (aFp (List.mem_of_getElem? (i := 103) rfl)) rfl
theorem q_1155 : Cond.code yX9_pick cX9_pick 3 (some .int) ∈ W0 := xR (aGA (List.mem_of_getElem? (i := 170) rfl)) rfl
theorem q_1156 : Cond.instanceMethod yX9_pick ∈ W0 := xR (aGA (List.mem_of_getElem? (i := 168) rfl)) rfl
theorem q_1157 : Cond.selects RX9 yX9_pick yX9_pick ∈ W0 := xR (aGA (List.mem_of_getElem? (i := 169) rfl)) rfl
theorem q_1158 : Cond.methodLink RL 70 yX9_pick ∈ W0 := xR (aGA (List.mem_of_getElem? (i := 167) rfl)) rfl
theorem q_1159 : Cond.code yX10_pick aXR 4 (some .int) ∈ W0 := xR (aFp (List.mem_of_getElem? (i := 110) rfl)) rfl
theorem q_1160 : Cond.instanceMethod yX10_pick ∈ W0 := xR (aFp (List.mem_of_getElem? (i := 108) rfl)) rfl
theorem q_1161 : Cond.selects zX yX10_pick yX10_pick ∈ W0 := xR (aFp (List.mem_of_getElem? (i := 109) rfl)) rfl
theorem q_1162 : Cond.methodLink RL 73 yX10_pick ∈ W0 := xR (aFp (List.mem_of_getElem? (i := 107) rfl)) rfl
theorem q_1163 : Cond.code yX9_down cX9_down 1 (some .int) ∈ W0 := xR (aEb (List.mem_of_getElem? (i := 3) rfl)) rfl
theorem q_1164 : Cond.instanceMethod yX9_down ∈ W0 := xR (aEb (List.mem_of_getElem? (i := 1) rfl)) rfl
theorem q_1165 : Cond.selects RX9 yX9_down yX9_down ∈ W0 := xR (aEb (List.mem_of_getElem? (i := 2) rfl)) rfl
theorem q_1166 : Cond.methodLink RL 74 yX9_down ∈ W0 := xR (aEb (List.mem_of_getElem? (i := 0) rfl)) rfl
theorem q_1167 : Cond.code yX10_down cX10_down 1 (some .int) ∈ W0 := xR (aFp (List.mem_of_getElem? (i := 135) rfl)) rfl
theorem q_1168 : Cond.instanceMethod yX10_down ∈ W0 := xR (aFp (List.mem_of_getElem? (i := 133) rfl)) rfl
theorem q_1169 : Cond.selects zX yX10_down yX10_down ∈ W0 := xR (aFp (List.mem_of_getElem? (i := 134) rfl)) rfl
theorem q_1170 : Cond.methodLink RL 77 yX10_down ∈ W0 := xR (aFp (List.mem_of_getElem? (i := 132) rfl)) rfl
theorem q_1171 : Cond.code yX9_shake cX9_shake 1 (some .int) ∈ W0 := xR (aEb (List.mem_of_getElem? (i := 11) rfl)) rfl
theorem q_1172 : Cond.instanceMethod yX9_shake ∈ W0 := xR (aEb (List.mem_of_getElem? (i := 9) rfl)) rfl
theorem q_1173 : Cond.selects RX9 yX9_shake yX9_shake ∈ W0 := xR (aEb (List.mem_of_getElem? (i := 10) rfl)) rfl
theorem q_1174 : Cond.methodLink RL 78 yX9_shake ∈ W0 := xR (aEb (List.mem_of_getElem? (i := 8) rfl)) rfl
theorem q_1175 : Cond.code yX10_shake aXS 1 (some .int) ∈ W0 := xR (aFp (List.mem_of_getElem? (i := 147) rfl)) rfl
theorem q_1176 : Cond.instanceMethod yX10_shake ∈ W0 := xR (aFp (List.mem_of_getElem? (i := 145) rfl)) rfl
theorem q_1177 : Cond.selects zX yX10_shake yX10_shake ∈ W0 := xR (aFp (List.mem_of_getElem? (i := 146) rfl)) rfl
theorem q_1178 : Cond.methodLink RL 81 yX10_shake ∈ W0 := xR (aFp (List.mem_of_getElem? (i := 144) rfl)) rfl
theorem q_1179 : Cond.code yX9_sleep cX9_sleep 1 (some .int) ∈ W0 := xR (aEb (List.mem_of_getElem? (i := 32) rfl)) rfl
theorem q_1180 : Cond.instanceMethod yX9_sleep ∈ W0 := xR (aEb (List.mem_of_getElem? (i := 30) rfl)) rfl
theorem q_1181 : Cond.selects RX9 yX9_sleep yX9_sleep ∈ W0 := xR (aEb (List.mem_of_getElem? (i := 31) rfl)) rfl
theorem q_1182 : Cond.methodLink RL 82 yX9_sleep ∈ W0 := xR (aEb (List.mem_of_getElem? (i := 29) rfl)) rfl
theorem q_1183 : Cond.code yX10_sleep aXT 1 (some .int) ∈ W0 := xR (aFp (List.mem_of_getElem? (i := 167) rfl)) rfl
theorem q_1184 : Cond.instanceMethod yX10_sleep ∈ W0 := xR (aFp (List.mem_of_getElem? (i := 165) rfl)) rfl
theorem q_1185 : Cond.selects zX yX10_sleep yX10_sleep ∈ W0 := xR (aFp (List.mem_of_getElem? (i := 166) rfl)) rfl
theorem q_1186 : Cond.methodLink RL 85 yX10_sleep ∈ W0 := xR (aFp (List.mem_of_getElem? (i := 164) rfl)) rfl
theorem q_1187 : Cond.code yX9_day aM4 4 (some .int) ∈ W0 := xR (aEb (List.mem_of_getElem? (i := 40) rfl)) rfl
theorem q_1188 : Cond.instanceMethod yX9_day ∈ W0 := xR (aEb (List.mem_of_getElem? (i := 38) rfl)) rfl
theorem q_1189 : Cond.selects RX9 yX9_day yX9_day ∈ W0 := xR (aEb (List.mem_of_getElem? (i := 39) rfl)) rfl
theorem q_1190 : Cond.methodLink RL 86 yX9_day ∈ W0 := xR (aEb (List.mem_of_getElem? (i := 37) rfl)) rfl
theorem q_1191 : Cond.code yX10_day aCe 4 (some .int) ∈ W0 := xR (aFp (List.mem_of_getElem? (i := 175) rfl)) rfl
theorem q_1192 : Cond.instanceMethod yX10_day ∈ W0 := xR (aFp (List.mem_of_getElem? (i := 173) rfl)) rfl
theorem q_1193 : Cond.selects zX yX10_day yX10_day ∈ W0 := xR (aFp (List.mem_of_getElem? (i := 174) rfl)) rfl
theorem q_1194 : Cond.methodLink RL 89 yX10_day ∈ W0 := xR (aFp (List.mem_of_getElem? (i := 172) rfl)) rfl
theorem q_1195 : Cond.code yX9_undo cX9_undo 1 (some .int) ∈ W0 := xR (aEb (List.mem_of_getElem? (i := 80) rfl)) rfl
theorem q_1196 : Cond.instanceMethod yX9_undo ∈ W0 := xR (aEb (List.mem_of_getElem? (i := 78) rfl)) rfl
theorem q_1197 : Cond.selects RX9 yX9_undo yX9_undo ∈ W0 := xR (aEb (List.mem_of_getElem? (i := 79) rfl)) rfl
theorem q_1198 : Cond.methodLink RL 90 yX9_undo ∈ W0 := xR (aEb (List.mem_of_getElem? (i := 77) rfl)) rfl
theorem q_1199 : Cond.code yX10_undo aIk 2 (some .int) ∈ W0 := xR (aFp (List.mem_of_getElem? (i := 191) rfl)) rfl
theorem q_1200 : Cond.instanceMethod yX10_undo ∈ W0 := xR (aFp (List.mem_of_getElem? (i := 189) rfl)) rfl
theorem q_1201 : Cond.selects zX yX10_undo yX10_undo ∈ W0 := xR (aFp (List.mem_of_getElem? (i := 190) rfl)) rfl
theorem q_1202 : Cond.methodLink RL 93 yX10_undo ∈ W0 := xR (aFp (List.mem_of_getElem? (i := 188) rfl)) rfl
theorem q_1203 : Cond.code yX9_reached aGZ 2 (some .int) ∈ W0 := xR (aEb (List.mem_of_getElem? (i := 92) rfl)) rfl
theorem q_1204 : Cond.instanceMethod yX9_reached ∈ W0 := xR (aEb (List.mem_of_getElem? (i := 90) rfl)) rfl
theorem q_1205 : Cond.selects RX9 yX9_reached yX9_reached ∈ W0 := xR (aEb (List.mem_of_getElem? (i := 91) rfl)) rfl
theorem q_1206 : Cond.methodLink RL 94 yX9_reached ∈ W0 := xR (aEb (List.mem_of_getElem? (i := 89) rfl)) rfl
theorem q_1207 : Cond.code yX10_reached aGy 2 (some .int) ∈ W0 := xR (aFp (List.mem_of_getElem? (i := 195) rfl)) rfl
theorem q_1208 : Cond.instanceMethod yX10_reached ∈ W0 := xR (aFp (List.mem_of_getElem? (i := 193) rfl)) rfl
theorem q_1209 : Cond.selects zX yX10_reached yX10_reached ∈ W0 := xR (aFp (List.mem_of_getElem? (i := 194) rfl)) rfl
theorem q_1210 : Cond.methodLink RL 97 yX10_reached ∈ W0 := xR (aFp (List.mem_of_getElem? (i := 192) rfl)) rfl
theorem q_1211 : Cond.code yX9_from aIX 6 (some .int) ∈ W0 := xR (aEb (List.mem_of_getElem? (i := 99) rfl)) rfl
theorem q_1212 : Cond.instanceMethod yX9_from ∈ W0 := xR (aEb (List.mem_of_getElem? (i := 97) rfl)) rfl
theorem q_1213 : Cond.selects RX9 yX9_from yX9_from ∈ W0 := xR (aEb (List.mem_of_getElem? (i := 98) rfl)) rfl
theorem q_1214 : Cond.methodLink RL 98 yX9_from ∈ W0 := xR (aEb (List.mem_of_getElem? (i := 96) rfl)) rfl
theorem q_1215 : Cond.code yX10_from aGX 5 (some .int) ∈ W0 := xR (aFp (List.mem_of_getElem? (i := 199) rfl)) rfl
theorem q_1216 : Cond.instanceMethod yX10_from ∈ W0 := xR (aFp (List.mem_of_getElem? (i := 197) rfl)) rfl
theorem q_1217 : Cond.selects zX yX10_from yX10_from ∈ W0 := xR (aFp (List.mem_of_getElem? (i := 198) rfl)) rfl
theorem q_1218 : Cond.methodLink RL 101 yX10_from ∈ W0 := xR (aFp (List.mem_of_getElem? (i := 196) rfl)) rfl
theorem q_1219 : Cond.code yX9_never aJQ 3 (some .int) ∈ W0 := xR (aEb (List.mem_of_getElem? (i := 106) rfl)) rfl
theorem q_1220 : Cond.instanceMethod yX9_never ∈ W0 := xR (aEb (List.mem_of_getElem? (i := 104) rfl)) rfl
theorem q_1221 : Cond.selects RX9 yX9_never yX9_never ∈ W0 := xR (aEb (List.mem_of_getElem? (i := 105) rfl)) rfl
theorem q_1222 : Cond.methodLink RL 102 yX9_never ∈ W0 := xR (aEb (List.mem_of_getElem? (i := 103) rfl)) rfl
theorem q_1223 : Cond.code yX10_never aGU 3 (some .int) ∈ W0 := xR (aFp (List.mem_of_getElem? (i := 203) rfl)) rfl
theorem q_1224 : Cond.instanceMethod yX10_never ∈ W0 := xR (aFp (List.mem_of_getElem? (i := 201) rfl)) rfl
theorem q_1225 : Cond.selects zX yX10_never yX10_never ∈ W0 := xR (aFp (List.mem_of_getElem? (i := 202) rfl)) rfl
theorem q_1226 : Cond.methodLink RL 105 yX10_never ∈ W0 := xR (aFp (List.mem_of_getElem? (i := 200) rfl)) rfl
theorem q_1227 : Cond.code yX9_seconds aGT 4 (some .int) ∈ W0 := xR (aEb (List.mem_of_getElem? (i := 112) rfl)) rfl
theorem q_1228 : Cond.instanceMethod yX9_seconds ∈ W0 := xR (aEb (List.mem_of_getElem? (i := 110) rfl)) rfl
theorem q_1229 : Cond.selects RX9 yX9_seconds yX9_seconds ∈ W0 := xR (aEb (List.mem_of_getElem? (i := 111) rfl)) rfl
theorem q_1230 : Cond.methodLink RL 106 yX9_seconds ∈ W0 := xR (aEb (List.mem_of_getElem? (i := 109) rfl)) rfl
theorem q_1231 : Cond.code yX10_seconds aFL 4 (some .int) ∈ W0 := xR (aFp (List.mem_of_getElem? (i := 215) rfl)) rfl
theorem q_1232 : Cond.instanceMethod yX10_seconds ∈ W0 := xR (aFp (List.mem_of_getElem? (i := 213) rfl)) rfl
theorem q_1233 : Cond.selects zX yX10_seconds yX10_seconds ∈ W0 := xR (aFp (List.mem_of_getElem? (i := 214) rfl)) rfl
theorem q_1234 : Cond.methodLink RL 110 yX10_seconds ∈ W0 := xR (aFp (List.mem_of_getElem? (i := 212) rfl)) rfl
theorem q_1235 : Cond.code yX9_both aJM 5 (some .int) ∈ W0 := xR (aEb (List.mem_of_getElem? (i := 117) rfl)) rfl
theorem q_1236 : Cond.instanceMethod yX9_both ∈ W0 := xR (aEb (List.mem_of_getElem? (i := 115) rfl)) rfl
theorem q_1237 : Cond.selects RX9 yX9_both yX9_both ∈ W0 := xR (aEb (List.mem_of_getElem? (i := 116) rfl)) rfl
theorem q_1238 : Cond.methodLink RL 111 yX9_both ∈ W0 := xR (aEb (List.mem_of_getElem? (i := 114) rfl)) rfl
theorem q_1239 : Cond.code yX10_both aEK 3 (some .int) ∈ W0 := xR (aFp (List.mem_of_getElem? (i := 219) rfl)) rfl
theorem q_1240 : Cond.instanceMethod yX10_both ∈ W0 := xR (aFp (List.mem_of_getElem? (i := 217) rfl)) rfl
theorem q_1241 : Cond.selects zX yX10_both yX10_both ∈ W0 := xR (aFp (List.mem_of_getElem? (i := 218) rfl)) rfl
theorem q_1242 : Cond.methodLink RL 114 yX10_both ∈ W0 := xR (aFp (List.mem_of_getElem? (i := 216) rfl)) rfl
theorem q_1243 : Cond.code yX9_nearest aE9 6 (some .int) ∈ W0 := xR (aEb (List.mem_of_getElem? (i := 145) rfl)) rfl
theorem q_1244 : Cond.instanceMethod yX9_nearest ∈ W0 := xR (aEb (List.mem_of_getElem? (i := 143) rfl)) rfl
theorem q_1245 : Cond.selects RX9 yX9_nearest yX9_nearest ∈ W0 := xR (aEb (List.mem_of_getElem? (i := 144) rfl)) rfl
theorem q_1246 : Cond.methodLink RL 115 yX9_nearest ∈ W0 := xR (aEb (List.mem_of_getElem? (i := 142) rfl)) rfl
theorem q_1247 : Cond.code yX10_nearest aDD 4 (some .int) ∈ W0 := xR (aFp (List.mem_of_getElem? (i := 239) rfl)) rfl
theorem q_1248 : Cond.instanceMethod yX10_nearest ∈ W0 := xR (aFp (List.mem_of_getElem? (i := 237) rfl)) rfl
theorem q_1249 : Cond.selects zX yX10_nearest yX10_nearest ∈ W0 := xR (aFp (List.mem_of_getElem? (i := 238) rfl)) rfl
theorem q_1250 : Cond.methodLink RL 118 yX10_nearest ∈ W0 := xR (aFp (List.mem_of_getElem? (i := 236) rfl)) rfl
theorem q_1251 : Cond.code yX9_fewest cX9_fewest 1 (some .int) ∈ W0 := xR (aEb (List.mem_of_getElem? (i := 153) rfl)) rfl
theorem q_1252 : Cond.instanceMethod yX9_fewest ∈ W0 := xR (aEb (List.mem_of_getElem? (i := 151) rfl)) rfl
theorem q_1253 : Cond.selects RX9 yX9_fewest yX9_fewest ∈ W0 := xR (aEb (List.mem_of_getElem? (i := 152) rfl)) rfl
theorem q_1254 : Cond.methodLink RL 119 yX9_fewest ∈ W0 := xR (aEb (List.mem_of_getElem? (i := 150) rfl)) rfl
theorem q_1255 : Cond.code yX10_fewest cX10_fewest 1 (some .int) ∈ W0 := xR (aGt (List.mem_of_getElem? (i := 7) rfl)) rfl
theorem q_1256 : Cond.instanceMethod yX10_fewest ∈ W0 := xR (aGt (List.mem_of_getElem? (i := 5) rfl)) rfl
theorem q_1257 : Cond.selects zX yX10_fewest yX10_fewest ∈ W0 := xR (aGt (List.mem_of_getElem? (i := 6) rfl)) rfl
theorem q_1258 : Cond.methodLink RL 122 yX10_fewest ∈ W0 := xR (aGt (List.mem_of_getElem? (i := 4) rfl)) rfl
theorem q_1259 : Cond.code yX9_needed aEM 6 (some .int) ∈ W0 := xR (aEb (List.mem_of_getElem? (i := 170) rfl)) rfl
theorem q_1260 : Cond.instanceMethod yX9_needed ∈ W0 := xR (aEb (List.mem_of_getElem? (i := 168) rfl)) rfl
theorem q_1261 : Cond.selects RX9 yX9_needed yX9_needed ∈ W0 := xR (aEb (List.mem_of_getElem? (i := 169) rfl)) rfl
theorem q_1262 : Cond.methodLink RL 123 yX9_needed ∈ W0 := xR (aEb (List.mem_of_getElem? (i := 167) rfl)) rfl
theorem q_1263 : Cond.code yX10_needed aCq 6 (some .int) ∈ W0 := xR (aGt (List.mem_of_getElem? (i := 26) rfl)) rfl
theorem q_1264 : Cond.instanceMethod yX10_needed ∈ W0 := xR (aGt (List.mem_of_getElem? (i := 24) rfl)) rfl
theorem q_1265 : Cond.selects zX yX10_needed yX10_needed ∈ W0 := xR (aGt (List.mem_of_getElem? (i := 25) rfl)) rfl
theorem q_1266 : Cond.methodLink RL 126 yX10_needed ∈ W0 := xR (aGt (List.mem_of_getElem? (i := 23) rfl)) rfl
theorem q_1267 : Cond.code yX9_birds aD3 6 (some .int) ∈ W0 := xR (aEb (List.mem_of_getElem? (i := 175) rfl)) rfl
theorem q_1268 : Cond.instanceMethod yX9_birds ∈ W0 := xR (aEb (List.mem_of_getElem? (i := 173) rfl)) rfl
theorem q_1269 : Cond.selects RX9 yX9_birds yX9_birds ∈ W0 := xR (aEb (List.mem_of_getElem? (i := 174) rfl)) rfl
theorem q_1270 : Cond.methodLink RL 127 yX9_birds ∈ W0 := xR (aEb (List.mem_of_getElem? (i := 172) rfl)) rfl
theorem q_1271 : Cond.code yX10_birds aDH 6 (some .int) ∈ W0 := xR (aGt (List.mem_of_getElem? (i := 30) rfl)) rfl
theorem q_1272 : Cond.instanceMethod yX10_birds ∈ W0 := xR (aGt (List.mem_of_getElem? (i := 28) rfl)) rfl
theorem q_1273 : Cond.selects zX yX10_birds yX10_birds ∈ W0 := xR (aGt (List.mem_of_getElem? (i := 29) rfl)) rfl
theorem q_1274 : Cond.methodLink RL 130 yX10_birds ∈ W0 := xR (aGt (List.mem_of_getElem? (i := 27) rfl)) rfl
theorem q_1275 : Cond.code yX9_next aF1 6 (some .int) ∈ W0 := xR (aEb (List.mem_of_getElem? (i := 188) rfl)) rfl
theorem q_1276 : Cond.instanceMethod yX9_next ∈ W0 := xR (aEb (List.mem_of_getElem? (i := 186) rfl)) rfl
theorem q_1277 : Cond.selects RX9 yX9_next yX9_next ∈ W0 := xR (aEb (List.mem_of_getElem? (i := 187) rfl)) rfl
theorem q_1278 : Cond.methodLink RL 131 yX9_next ∈ W0 := xR (aEb (List.mem_of_getElem? (i := 185) rfl)) rfl
theorem q_1279 : Cond.code yX10_next aDf 4 (some .int) ∈ W0 := xR (aGt (List.mem_of_getElem? (i := 38) rfl)) rfl
theorem q_1280 : Cond.instanceMethod yX10_next ∈ W0 := xR (aGt (List.mem_of_getElem? (i := 36) rfl)) rfl
theorem q_1281 : Cond.selects zX yX10_next yX10_next ∈ W0 := xR (aGt (List.mem_of_getElem? (i := 37) rfl)) rfl
theorem q_1282 : Cond.methodLink RL 134 yX10_next ∈ W0 := xR (aGt (List.mem_of_getElem? (i := 35) rfl)) rfl
theorem q_1283 : Cond.code yX9_route aDg 8 (some .int) ∈ W0 := xR (aEb (List.mem_of_getElem? (i := 197) rfl)) rfl
theorem q_1284 : Cond.instanceMethod yX9_route ∈ W0 := xR (aEb (List.mem_of_getElem? (i := 195) rfl)) rfl
theorem q_1285 : Cond.selects RX9 yX9_route yX9_route ∈ W0 := xR (aEb (List.mem_of_getElem? (i := 196) rfl)) rfl
theorem q_1286 : Cond.methodLink RL 135 yX9_route ∈ W0 := xR (aEb (List.mem_of_getElem? (i := 194) rfl)) rfl
theorem q_1287 : Cond.code yX10_route aCt 6 (some .int) ∈ W0 := xR (aGt (List.mem_of_getElem? (i := 42) rfl)) rfl
theorem q_1288 : Cond.instanceMethod yX10_route ∈ W0 := xR (aGt (List.mem_of_getElem? (i := 40) rfl)) rfl
theorem q_1289 : Cond.selects zX yX10_route yX10_route ∈ W0 := xR (aGt (List.mem_of_getElem? (i := 41) rfl)) rfl
theorem q_1290 : Cond.methodLink RL 138 yX10_route ∈ W0 := xR (aGt (List.mem_of_getElem? (i := 39) rfl)) rfl
theorem q_1291 : Cond.code yX9_work aPq 3 (some .int) ∈ W0 := xR (aEb (List.mem_of_getElem? (i := 217) rfl)) rfl
theorem q_1292 : Cond.instanceMethod yX9_work ∈ W0 := xR (aEb (List.mem_of_getElem? (i := 215) rfl)) rfl
theorem q_1293 : Cond.selects RX9 yX9_work yX9_work ∈ W0 := xR (aEb (List.mem_of_getElem? (i := 216) rfl)) rfl
theorem q_1294 : Cond.methodLink RL 139 yX9_work ∈ W0 := xR (aEb (List.mem_of_getElem? (i := 214) rfl)) rfl
theorem q_1295 : Cond.code yX10_work aJB 3 (some .int) ∈ W0 := xR (aGt (List.mem_of_getElem? (i := 63) rfl)) rfl
theorem q_1296 : Cond.instanceMethod yX10_work ∈ W0 := xR (aGt (List.mem_of_getElem? (i := 61) rfl)) rfl
theorem q_1297 : Cond.selects zX yX10_work yX10_work ∈ W0 := xR (aGt (List.mem_of_getElem? (i := 62) rfl)) rfl
theorem q_1298 : Cond.methodLink RL 142 yX10_work ∈ W0 := xR (aGt (List.mem_of_getElem? (i := 60) rfl)) rfl
theorem q_1299 : Cond.code yX9_soonest aDF 5 (some .int) ∈ W0 := xR (aGK (List.mem_of_getElem? (i := 6) rfl)) rfl
theorem q_1300 : Cond.instanceMethod yX9_soonest ∈ W0 := xR (aGK (List.mem_of_getElem? (i := 4) rfl)) rfl
theorem q_1301 : Cond.selects RX9 yX9_soonest yX9_soonest ∈ W0 := xR (aGK (List.mem_of_getElem? (i := 5) rfl)) rfl
theorem q_1302 : Cond.methodLink RL 143 yX9_soonest ∈ W0 := xR (aGK (List.mem_of_getElem? (i := 3) rfl)) rfl
theorem q_1303 : Cond.code yX10_soonest aC0 5 (some .int) ∈ W0 := xR (aGt (List.mem_of_getElem? (i := 75) rfl)) rfl
theorem q_1304 : Cond.instanceMethod yX10_soonest ∈ W0 := xR (aGt (List.mem_of_getElem? (i := 73) rfl)) rfl
theorem q_1305 : Cond.selects zX yX10_soonest yX10_soonest ∈ W0 := xR (aGt (List.mem_of_getElem? (i := 74) rfl)) rfl
theorem q_1306 : Cond.methodLink RL 146 yX10_soonest ∈ W0 := xR (aGt (List.mem_of_getElem? (i := 72) rfl)) rfl
theorem q_1307 : Cond.code yX9_pays aEU 6 (some .int) ∈ W0 := xR (aGK (List.mem_of_getElem? (i := 10) rfl)) rfl
theorem q_1308 : Cond.instanceMethod yX9_pays ∈ W0 := xR (aGK (List.mem_of_getElem? (i := 8) rfl)) rfl
theorem q_1309 : Cond.selects RX9 yX9_pays yX9_pays ∈ W0 := xR (aGK (List.mem_of_getElem? (i := 9) rfl)) rfl
theorem q_1310 : Cond.methodLink RL 147 yX9_pays ∈ W0 := xR (aGK (List.mem_of_getElem? (i := 7) rfl)) rfl
theorem q_1311 : Cond.code yX10_pays aCm 5 (some .int) ∈ W0 := xR (aGt (List.mem_of_getElem? (i := 79) rfl)) rfl
theorem q_1312 : Cond.instanceMethod yX10_pays ∈ W0 := xR (aGt (List.mem_of_getElem? (i := 77) rfl)) rfl
theorem q_1313 : Cond.selects zX yX10_pays yX10_pays ∈ W0 := xR (aGt (List.mem_of_getElem? (i := 78) rfl)) rfl
theorem q_1314 : Cond.methodLink RL 150 yX10_pays ∈ W0 := xR (aGt (List.mem_of_getElem? (i := 76) rfl)) rfl
theorem q_1315 : Cond.code yX9_trips aFN 6 (some .int) ∈ W0 := xR (aGK (List.mem_of_getElem? (i := 15) rfl)) rfl
theorem q_1316 : Cond.instanceMethod yX9_trips ∈ W0 := xR (aGK (List.mem_of_getElem? (i := 13) rfl)) rfl
theorem q_1317 : Cond.selects RX9 yX9_trips yX9_trips ∈ W0 := xR (aGK (List.mem_of_getElem? (i := 14) rfl)) rfl
theorem q_1318 : Cond.methodLink RL 151 yX9_trips ∈ W0 := xR (aGK (List.mem_of_getElem? (i := 12) rfl)) rfl
theorem q_1319 : Cond.code yX10_trips aDl 5 (some .int) ∈ W0 := xR (aGt (List.mem_of_getElem? (i := 83) rfl)) rfl
theorem q_1320 : Cond.instanceMethod yX10_trips ∈ W0 := xR (aGt (List.mem_of_getElem? (i := 81) rfl)) rfl
theorem q_1321 : Cond.selects zX yX10_trips yX10_trips ∈ W0 := xR (aGt (List.mem_of_getElem? (i := 82) rfl)) rfl
theorem q_1322 : Cond.methodLink RL 154 yX10_trips ∈ W0 := xR (aGt (List.mem_of_getElem? (i := 80) rfl)) rfl
theorem q_1323 : Cond.code yX9_helps aGR 4 (some .int) ∈ W0 := xR (aGK (List.mem_of_getElem? (i := 19) rfl)) rfl
theorem q_1324 : Cond.instanceMethod yX9_helps ∈ W0 := xR (aGK (List.mem_of_getElem? (i := 17) rfl)) rfl
theorem q_1325 : Cond.selects RX9 yX9_helps yX9_helps ∈ W0 := xR (aGK (List.mem_of_getElem? (i := 18) rfl)) rfl
theorem q_1326 : Cond.methodLink RL 155 yX9_helps ∈ W0 := xR (aGK (List.mem_of_getElem? (i := 16) rfl)) rfl
theorem q_1327 : Cond.code yX10_helps aG5 4 (some .int) ∈ W0 := xR (aGt (List.mem_of_getElem? (i := 87) rfl)) rfl
theorem q_1328 : Cond.instanceMethod yX10_helps ∈ W0 := xR (aGt (List.mem_of_getElem? (i := 85) rfl)) rfl
theorem q_1329 : Cond.selects zX yX10_helps yX10_helps ∈ W0 := xR (aGt (List.mem_of_getElem? (i := 86) rfl)) rfl
theorem q_1330 : Cond.methodLink RL 158 yX10_helps ∈ W0 := xR (aGt (List.mem_of_getElem? (i := 84) rfl)) rfl
theorem q_1331 : Cond.code yX9_hooked aDI 7 (some .int) ∈ W0 := xR (aGK (List.mem_of_getElem? (i := 24) rfl)) rfl
theorem q_1332 : Cond.instanceMethod yX9_hooked ∈ W0 := xR (aGK (List.mem_of_getElem? (i := 22) rfl)) rfl
theorem q_1333 : Cond.selects RX9 yX9_hooked yX9_hooked ∈ W0 := xR (aGK (List.mem_of_getElem? (i := 23) rfl)) rfl
theorem q_1334 : Cond.methodLink RL 159 yX9_hooked ∈ W0 := xR (aGK (List.mem_of_getElem? (i := 21) rfl)) rfl
theorem q_1335 : Cond.code yX10_hooked aCg 7 (some .int) ∈ W0 := xR (aGt (List.mem_of_getElem? (i := 91) rfl)) rfl
theorem q_1336 : Cond.instanceMethod yX10_hooked ∈ W0 := xR (aGt (List.mem_of_getElem? (i := 89) rfl)) rfl
theorem q_1337 : Cond.selects zX yX10_hooked yX10_hooked ∈ W0 := xR (aGt (List.mem_of_getElem? (i := 90) rfl)) rfl
theorem q_1338 : Cond.methodLink RL 162 yX10_hooked ∈ W0 := xR (aGt (List.mem_of_getElem? (i := 88) rfl)) rfl
theorem q_1339 : Cond.code yX9_broken aFw 4 (some .int) ∈ W0 := xR (aGK (List.mem_of_getElem? (i := 29) rfl)) rfl
theorem q_1340 : Cond.instanceMethod yX9_broken ∈ W0 := xR (aGK (List.mem_of_getElem? (i := 27) rfl)) rfl
theorem q_1341 : Cond.selects RX9 yX9_broken yX9_broken ∈ W0 := xR (aGK (List.mem_of_getElem? (i := 28) rfl)) rfl
theorem q_1342 : Cond.methodLink RL 163 yX9_broken ∈ W0 := xR (aGK (List.mem_of_getElem? (i := 26) rfl)) rfl
theorem q_1343 : Cond.code yX10_broken aFk 4 (some .int) ∈ W0 := xR (aGt (List.mem_of_getElem? (i := 95) rfl)) rfl
theorem q_1344 : Cond.instanceMethod yX10_broken ∈ W0 := xR (aGt (List.mem_of_getElem? (i := 93) rfl)) rfl
theorem q_1345 : Cond.selects zX yX10_broken yX10_broken ∈ W0 := xR (aGt (List.mem_of_getElem? (i := 94) rfl)) rfl
theorem q_1346 : Cond.methodLink RL 166 yX10_broken ∈ W0 := xR (aGt (List.mem_of_getElem? (i := 92) rfl)) rfl
theorem q_1347 : Cond.code yX9_sweep aDh 8 (some .int) ∈ W0 := xR (aGK (List.mem_of_getElem? (i := 33) rfl)) rfl
theorem q_1348 : Cond.instanceMethod yX9_sweep ∈ W0 := xR (aGK (List.mem_of_getElem? (i := 31) rfl)) rfl
theorem q_1349 : Cond.selects RX9 yX9_sweep yX9_sweep ∈ W0 := xR (aGK (List.mem_of_getElem? (i := 32) rfl)) rfl
theorem q_1350 : Cond.methodLink RL 167 yX9_sweep ∈ W0 := xR (aGK (List.mem_of_getElem? (i := 30) rfl)) rfl
theorem q_1351 : Cond.code yX10_sweep aCv 8 (some .int) ∈ W0 := xR (aGt (List.mem_of_getElem? (i := 99) rfl)) rfl
theorem q_1352 : Cond.instanceMethod yX10_sweep ∈ W0 := xR (aGt (List.mem_of_getElem? (i := 97) rfl)) rfl
theorem q_1353 : Cond.selects zX yX10_sweep yX10_sweep ∈ W0 := xR (aGt (List.mem_of_getElem? (i := 98) rfl)) rfl
theorem q_1354 : Cond.methodLink RL 170 yX10_sweep ∈ W0 := xR (aGt (List.mem_of_getElem? (i := 96) rfl)) rfl
theorem q_1355 : Cond.code yX9_dusk aGY 7 (some .int) ∈ W0 := xR (aGK (List.mem_of_getElem? (i := 37) rfl)) rfl
theorem q_1356 : Cond.instanceMethod yX9_dusk ∈ W0 := xR (aGK (List.mem_of_getElem? (i := 35) rfl)) rfl
theorem q_1357 : Cond.selects RX9 yX9_dusk yX9_dusk ∈ W0 := xR (aGK (List.mem_of_getElem? (i := 36) rfl)) rfl
theorem q_1358 : Cond.methodLink RL 171 yX9_dusk ∈ W0 := xR (aGK (List.mem_of_getElem? (i := 34) rfl)) rfl
theorem q_1359 : Cond.code yX10_dusk aBp 11 (some .int) ∈ W0 := xR (aGt (List.mem_of_getElem? (i := 103) rfl)) rfl
theorem q_1360 : Cond.instanceMethod yX10_dusk ∈ W0 := xR (aGt (List.mem_of_getElem? (i := 101) rfl)) rfl
theorem q_1361 : Cond.selects zX yX10_dusk yX10_dusk ∈ W0 := xR (aGt (List.mem_of_getElem? (i := 102) rfl)) rfl
theorem q_1362 : Cond.methodLink RL 174 yX10_dusk ∈ W0 := xR (aGt (List.mem_of_getElem? (i := 100) rfl)) rfl
theorem q_1363 : Cond.code yX9_gentle aEW 5 (some .int) ∈ W0 := xR (aGK (List.mem_of_getElem? (i := 62) rfl)) rfl
theorem q_1364 : Cond.instanceMethod yX9_gentle ∈ W0 := xR (aGK (List.mem_of_getElem? (i := 60) rfl)) rfl
theorem q_1365 : Cond.selects RX9 yX9_gentle yX9_gentle ∈ W0 := xR (aGK (List.mem_of_getElem? (i := 61) rfl)) rfl
theorem q_1366 : Cond.methodLink RL 175 yX9_gentle ∈ W0 := xR (aGK (List.mem_of_getElem? (i := 59) rfl)) rfl
theorem q_1367 : Cond.code yX10_gentle aCd 5 (some .int) ∈ W0 := xR (aGt (List.mem_of_getElem? (i := 111) rfl)) rfl
theorem q_1368 : Cond.instanceMethod yX10_gentle ∈ W0 := xR (aGt (List.mem_of_getElem? (i := 109) rfl)) rfl
theorem q_1369 : Cond.selects zX yX10_gentle yX10_gentle ∈ W0 := xR (aGt (List.mem_of_getElem? (i := 110) rfl)) rfl
theorem q_1370 : Cond.methodLink RL 178 yX10_gentle ∈ W0 := xR (aGt (List.mem_of_getElem? (i := 108) rfl)) rfl
theorem q_1371 : Cond.code yX9_harm aE8 5 (some .int) ∈ W0 := xR (aGK (List.mem_of_getElem? (i := 72) rfl)) rfl
theorem q_1372 : Cond.instanceMethod yX9_harm ∈ W0 := xR (aGK (List.mem_of_getElem? (i := 70) rfl)) rfl
theorem q_1373 : Cond.selects RX9 yX9_harm yX9_harm ∈ W0 := xR (aGK (List.mem_of_getElem? (i := 71) rfl)) rfl
theorem q_1374 : Cond.methodLink RL 179 yX9_harm ∈ W0 := xR (aGK (List.mem_of_getElem? (i := 69) rfl)) rfl
theorem q_1375 : Cond.code yX10_harm aDU 5 (some .int) ∈ W0 := xR (aGt (List.mem_of_getElem? (i := 115) rfl)) rfl
theorem q_1376 : Cond.instanceMethod yX10_harm ∈ W0 := xR (aGt (List.mem_of_getElem? (i := 113) rfl)) rfl
theorem q_1377 : Cond.selects zX yX10_harm yX10_harm ∈ W0 := xR (aGt (List.mem_of_getElem? (i := 114) rfl)) rfl
theorem q_1378 : Cond.methodLink RL 182 yX10_harm ∈ W0 := xR (aGt (List.mem_of_getElem? (i := 112) rfl)) rfl
theorem q_1379 : Cond.code yX9_share aD4 8 (some .int) ∈ W0 := xR (aGK (List.mem_of_getElem? (i := 78) rfl)) rfl
theorem q_1380 : Cond.instanceMethod yX9_share ∈ W0 := xR (aGK (List.mem_of_getElem? (i := 76) rfl)) rfl
theorem q_1381 : Cond.selects RX9 yX9_share yX9_share ∈ W0 := xR (aGK (List.mem_of_getElem? (i := 77) rfl)) rfl
theorem q_1382 : Cond.methodLink RL 183 yX9_share ∈ W0 := xR (aGK (List.mem_of_getElem? (i := 75) rfl)) rfl
theorem q_1383 : Cond.code yX10_share aBd 8 (some .int) ∈ W0 := xR (aGt (List.mem_of_getElem? (i := 119) rfl)) rfl
theorem q_1384 : Cond.instanceMethod yX10_share ∈ W0 := xR (aGt (List.mem_of_getElem? (i := 117) rfl)) rfl
theorem q_1385 : Cond.selects zX yX10_share yX10_share ∈ W0 := xR (aGt (List.mem_of_getElem? (i := 118) rfl)) rfl
theorem q_1386 : Cond.methodLink RL 186 yX10_share ∈ W0 := xR (aGt (List.mem_of_getElem? (i := 116) rfl)) rfl
theorem q_1387 : Cond.code yX9_ripens aEz 5 (some .int) ∈ W0 := xR (aGK (List.mem_of_getElem? (i := 91) rfl)) rfl
theorem q_1388 : Cond.instanceMethod yX9_ripens ∈ W0 := xR (aGK (List.mem_of_getElem? (i := 89) rfl)) rfl
theorem q_1389 : Cond.selects RX9 yX9_ripens yX9_ripens ∈ W0 := xR (aGK (List.mem_of_getElem? (i := 90) rfl)) rfl
theorem q_1390 : Cond.methodLink RL 187 yX9_ripens ∈ W0 := xR (aGK (List.mem_of_getElem? (i := 88) rfl)) rfl
theorem q_1391 : Cond.code yX10_ripens aDE 5 (some .int) ∈ W0 := xR (aGt (List.mem_of_getElem? (i := 127) rfl)) rfl
theorem q_1392 : Cond.instanceMethod yX10_ripens ∈ W0 := xR (aGt (List.mem_of_getElem? (i := 125) rfl)) rfl
theorem q_1393 : Cond.selects zX yX10_ripens yX10_ripens ∈ W0 := xR (aGt (List.mem_of_getElem? (i := 126) rfl)) rfl
theorem q_1394 : Cond.methodLink RL 190 yX10_ripens ∈ W0 := xR (aGt (List.mem_of_getElem? (i := 124) rfl)) rfl
theorem q_1395 : Cond.code yX9_ondays aIK 3 (some .int) ∈ W0 := xR (aGK (List.mem_of_getElem? (i := 99) rfl)) rfl
theorem q_1396 : Cond.instanceMethod yX9_ondays ∈ W0 := xR (aGK (List.mem_of_getElem? (i := 97) rfl)) rfl
theorem q_1397 : Cond.selects RX9 yX9_ondays yX9_ondays ∈ W0 := xR (aGK (List.mem_of_getElem? (i := 98) rfl)) rfl
theorem q_1398 : Cond.methodLink RL 191 yX9_ondays ∈ W0 := xR (aGK (List.mem_of_getElem? (i := 96) rfl)) rfl
theorem q_1399 : Cond.code yX10_ondays aKN 2 (some .int) ∈ W0 := xR (aGt (List.mem_of_getElem? (i := 135) rfl)) rfl
theorem q_1400 : Cond.instanceMethod yX10_ondays ∈ W0 := xR (aGt (List.mem_of_getElem? (i := 133) rfl)) rfl
theorem q_1401 : Cond.selects zX yX10_ondays yX10_ondays ∈ W0 := xR (aGt (List.mem_of_getElem? (i := 134) rfl)) rfl
theorem q_1402 : Cond.methodLink RL 194 yX10_ondays ∈ W0 := xR (aGt (List.mem_of_getElem? (i := 132) rfl)) rfl
theorem q_1403 : Cond.code yX9_allripe aE4 4 (some .int) ∈ W0 := xR (aGK (List.mem_of_getElem? (i := 103) rfl)) rfl
theorem q_1404 : Cond.instanceMethod yX9_allripe ∈ W0 := xR (aGK (List.mem_of_getElem? (i := 101) rfl)) rfl
theorem q_1405 : Cond.selects RX9 yX9_allripe yX9_allripe ∈ W0 := xR (aGK (List.mem_of_getElem? (i := 102) rfl)) rfl
theorem q_1406 : Cond.methodLink RL 195 yX9_allripe ∈ W0 := xR (aGK (List.mem_of_getElem? (i := 100) rfl)) rfl
theorem q_1407 : Cond.code yX10_allripe aDL 4 (some .int) ∈ W0 := xR (aGt (List.mem_of_getElem? (i := 139) rfl)) rfl
theorem q_1408 : Cond.instanceMethod yX10_allripe ∈ W0 := xR (aGt (List.mem_of_getElem? (i := 137) rfl)) rfl
theorem q_1409 : Cond.selects zX yX10_allripe yX10_allripe ∈ W0 := xR (aGt (List.mem_of_getElem? (i := 138) rfl)) rfl
theorem q_1410 : Cond.methodLink RL 198 yX10_allripe ∈ W0 := xR (aGt (List.mem_of_getElem? (i := 136) rfl)) rfl
theorem q_1411 : Cond.code yX9_marks cX9_marks 3 (some .int) ∈ W0 := xR (aGK (List.mem_of_getElem? (i := 107) rfl)) rfl
theorem q_1412 : Cond.instanceMethod yX9_marks ∈ W0 := xR (aGK (List.mem_of_getElem? (i := 105) rfl)) rfl
theorem q_1413 : Cond.selects RX9 yX9_marks yX9_marks ∈ W0 := xR (aGK (List.mem_of_getElem? (i := 106) rfl)) rfl
theorem q_1414 : Cond.methodLink RL 199 yX9_marks ∈ W0 := xR (aGK (List.mem_of_getElem? (i := 104) rfl)) rfl
theorem q_1415 : Cond.code yX10_marks aFu 5 (some .int) ∈ W0 := xR (aGt (List.mem_of_getElem? (i := 147) rfl)) rfl
theorem q_1416 : Cond.instanceMethod yX10_marks ∈ W0 := xR (aGt (List.mem_of_getElem? (i := 145) rfl)) rfl
theorem q_1417 : Cond.selects zX yX10_marks yX10_marks ∈ W0 := xR (aGt (List.mem_of_getElem? (i := 146) rfl)) rfl
theorem q_1418 : Cond.methodLink RL 202 yX10_marks ∈ W0 := xR (aGt (List.mem_of_getElem? (i := 144) rfl)) rfl
theorem q_1419 : Cond.code yX9_grass aJC 3 (some .int) ∈ W0 := xR (aGK (List.mem_of_getElem? (i := 115) rfl)) rfl
theorem q_1420 : Cond.instanceMethod yX9_grass ∈ W0 := xR (aGK (List.mem_of_getElem? (i := 113) rfl)) rfl
theorem q_1421 : Cond.selects RX9 yX9_grass yX9_grass ∈ W0 := xR (aGK (List.mem_of_getElem? (i := 114) rfl)) rfl
theorem q_1422 : Cond.methodLink RL 203 yX9_grass ∈ W0 := xR (aGK (List.mem_of_getElem? (i := 112) rfl)) rfl
theorem q_1423 : Cond.code yX10_grass aAu 9 (some .int) ∈ W0 := xR (aGt (List.mem_of_getElem? (i := 143) rfl)) rfl
theorem q_1424 : Cond.instanceMethod yX10_grass ∈ W0 := xR (aGt (List.mem_of_getElem? (i := 141) rfl)) rfl
theorem q_1425 : Cond.selects zX yX10_grass yX10_grass ∈ W0 := xR (aGt (List.mem_of_getElem? (i := 142) rfl)) rfl
theorem q_1426 : Cond.methodLink RL 206 yX10_grass ∈ W0 := xR (aGt (List.mem_of_getElem? (i := 140) rfl)) rfl
theorem q_1427 : Cond.code yX9_fits aFM 6 (some .int) ∈ W0 := xR (aGK (List.mem_of_getElem? (i := 139) rfl)) rfl
theorem q_1428 : Cond.instanceMethod yX9_fits ∈ W0 := xR (aGK (List.mem_of_getElem? (i := 137) rfl)) rfl
theorem q_1429 : Cond.selects RX9 yX9_fits yX9_fits ∈ W0 := xR (aGK (List.mem_of_getElem? (i := 138) rfl)) rfl
theorem q_1430 : Cond.methodLink RL 207 yX9_fits ∈ W0 := xR (aGK (List.mem_of_getElem? (i := 136) rfl)) rfl
theorem q_1431 : Cond.code yX10_fits aCU 7 (some .int) ∈ W0 := xR (aGt (List.mem_of_getElem? (i := 151) rfl)) rfl
theorem q_1432 : Cond.instanceMethod yX10_fits ∈ W0 := xR (aGt (List.mem_of_getElem? (i := 149) rfl)) rfl
theorem q_1433 : Cond.selects zX yX10_fits yX10_fits ∈ W0 := xR (aGt (List.mem_of_getElem? (i := 150) rfl)) rfl
theorem q_1434 : Cond.methodLink RL 210 yX10_fits ∈ W0 := xR (aGt (List.mem_of_getElem? (i := 148) rfl)) rfl
theorem q_1435 : Cond.code yX9_leaned aXY 3 (some .int) ∈ W0 := xR (aGK (List.mem_of_getElem? (i := 148) rfl)) rfl
theorem q_1436 : Cond.instanceMethod yX9_leaned ∈ W0 := xR (aGK (List.mem_of_getElem? (i := 146) rfl)) rfl
theorem q_1437 : Cond.selects RX9 yX9_leaned yX9_leaned ∈ W0 := xR (aGK (List.mem_of_getElem? (i := 147) rfl)) rfl
theorem q_1438 : Cond.methodLink RL 211 yX9_leaned ∈ W0 := xR (aGK (List.mem_of_getElem? (i := 145) rfl)) rfl
theorem q_1439 : Cond.code yX10_leaned aK9 4 (some .int) ∈ W0 := xR (aGt (List.mem_of_getElem? (i := 159) rfl)) rfl
theorem q_1440 : Cond.instanceMethod yX10_leaned ∈ W0 := xR (aGt (List.mem_of_getElem? (i := 157) rfl)) rfl
theorem q_1441 : Cond.selects zX yX10_leaned yX10_leaned ∈ W0 := xR (aGt (List.mem_of_getElem? (i := 158) rfl)) rfl
theorem q_1442 : Cond.methodLink RL 214 yX10_leaned ∈ W0 := xR (aGt (List.mem_of_getElem? (i := 156) rfl)) rfl
theorem q_1443 : Cond.code yX9_autumn aCD 13 (some .int) ∈ W0 := xR (aGK (List.mem_of_getElem? (i := 152) rfl)) rfl
theorem q_1444 : Cond.instanceMethod yX9_autumn ∈ W0 := xR (aGK (List.mem_of_getElem? (i := 150) rfl)) rfl
theorem q_1445 : Cond.selects RX9 yX9_autumn yX9_autumn ∈ W0 := xR (aGK (List.mem_of_getElem? (i := 151) rfl)) rfl
theorem q_1446 : Cond.methodLink RL 215 yX9_autumn ∈ W0 := xR (aGK (List.mem_of_getElem? (i := 149) rfl)) rfl
theorem q_1447 : Cond.code yX10_autumn aBk 12 (some .int) ∈ W0 := xR (aGt (List.mem_of_getElem? (i := 163) rfl)) rfl
theorem q_1448 : Cond.instanceMethod yX10_autumn ∈ W0 := xR (aGt (List.mem_of_getElem? (i := 161) rfl)) rfl
theorem q_1449 : Cond.selects zX yX10_autumn yX10_autumn ∈ W0 := xR (aGt (List.mem_of_getElem? (i := 162) rfl)) rfl
theorem q_1450 : Cond.methodLink RL 218 yX10_autumn ∈ W0 := xR (aGt (List.mem_of_getElem? (i := 160) rfl)) rfl
theorem q_1451 : Cond.code yX9_keep cX9_keep 2 (some .boolean) ∈ W0 := xR (aGK (List.mem_of_getElem? (i := 158) rfl)) rfl
theorem q_1452 : Cond.instanceMethod yX9_keep ∈ W0 := xR (aGK (List.mem_of_getElem? (i := 156) rfl)) rfl
theorem q_1453 : Cond.selects RX9 yX9_keep yX9_keep ∈ W0 := xR (aGK (List.mem_of_getElem? (i := 157) rfl)) rfl
theorem q_1454 : Cond.methodLink RL 219 yX9_keep ∈ W0 := xR (aGK (List.mem_of_getElem? (i := 155) rfl)) rfl
theorem q_1455 : Cond.code yX10_keep aLz 2 (some .boolean) ∈ W0 := xR (aGt (List.mem_of_getElem? (i := 172) rfl)) rfl
theorem q_1456 : Cond.instanceMethod yX10_keep ∈ W0 := xR (aGt (List.mem_of_getElem? (i := 170) rfl)) rfl
theorem q_1457 : Cond.selects zX yX10_keep yX10_keep ∈ W0 := xR (aGt (List.mem_of_getElem? (i := 171) rfl)) rfl
theorem q_1458 : Cond.methodLink RL 222 yX10_keep ∈ W0 := xR (aGt (List.mem_of_getElem? (i := 169) rfl)) rfl
theorem q_1459 : Cond.code yX9_again cX9_again 2 (some .boolean) ∈ W0 := xR (aGK (List.mem_of_getElem? (i := 166) rfl)) rfl
theorem q_1460 : Cond.instanceMethod yX9_again ∈ W0 := xR (aGK (List.mem_of_getElem? (i := 164) rfl)) rfl
theorem q_1461 : Cond.selects RX9 yX9_again yX9_again ∈ W0 := xR (aGK (List.mem_of_getElem? (i := 165) rfl)) rfl
theorem q_1462 : Cond.methodLink RL 223 yX9_again ∈ W0 := xR (aGK (List.mem_of_getElem? (i := 163) rfl)) rfl
theorem q_1463 : Cond.code yX10_again aFd 3 (some .boolean) ∈ W0 := xR (aGt (List.mem_of_getElem? (i := 176) rfl)) rfl
theorem q_1464 : Cond.instanceMethod yX10_again ∈ W0 := xR (aGt (List.mem_of_getElem? (i := 174) rfl)) rfl
theorem q_1465 : Cond.selects zX yX10_again yX10_again ∈ W0 := xR (aGt (List.mem_of_getElem? (i := 175) rfl)) rfl
theorem q_1466 : Cond.methodLink RL 226 yX10_again ∈ W0 := xR (aGt (List.mem_of_getElem? (i := 173) rfl)) rfl
theorem q_1467 : Cond.code yX9_count aEi 2 (some .int) ∈ W0 := xR (aGK (List.mem_of_getElem? (i := 174) rfl)) rfl
theorem q_1468 : Cond.instanceMethod yX9_count ∈ W0 := xR (aGK (List.mem_of_getElem? (i := 172) rfl)) rfl
theorem q_1469 : Cond.selects RX9 yX9_count yX9_count ∈ W0 := xR (aGK (List.mem_of_getElem? (i := 173) rfl)) rfl
theorem q_1470 : Cond.methodLink RL 227 yX9_count ∈ W0 := xR (aGK (List.mem_of_getElem? (i := 171) rfl)) rfl
theorem q_1471 : Cond.code yX10_count aDk 2 (some .int) ∈ W0 := xR (aGt (List.mem_of_getElem? (i := 180) rfl)) rfl
theorem q_1472 : Cond.instanceMethod yX10_count ∈ W0 := xR (aGt (List.mem_of_getElem? (i := 178) rfl)) rfl
theorem q_1473 : Cond.selects zX yX10_count yX10_count ∈ W0 := xR (aGt (List.mem_of_getElem? (i := 179) rfl)) rfl
theorem q_1474 : Cond.methodLink RL 230 yX10_count ∈ W0 := xR (aGt (List.mem_of_getElem? (i := 177) rfl)) rfl
theorem q_1475 : Cond.codeWith yL_row cL_row 4 (some .int) [(0, 9, 12, 13)] ∈ W0 := xR (aGl (List.mem_of_getElem? (i := 18) rfl)) rfl
theorem q_1476 : Cond.methodLink RL 231 yL_row ∈ W0 := xR (aGl (List.mem_of_getElem? (i := 16) rfl)) rfl
theorem q_1477 : Cond.static yL_row ∈ W0 := xR (aGl (List.mem_of_getElem? (i := 17) rfl)) rfl
theorem q_1478 : Cond.code yX10_row cX10_row 2 (some .int) ∈ W0 := xR (aGt (List.mem_of_getElem? (i := 184) rfl)) rfl
theorem q_1479 : Cond.instanceMethod yX10_row ∈ W0 := xR (aGt (List.mem_of_getElem? (i := 182) rfl)) rfl
theorem q_1480 : Cond.selects zX yX10_row yX10_row ∈ W0 := xR (aGt (List.mem_of_getElem? (i := 183) rfl)) rfl
theorem q_1481 : Cond.methodLink RL 234 yX10_row ∈ W0 := xR (aGt (List.mem_of_getElem? (i := 181) rfl)) rfl
theorem q_1482 : Cond.classLink RL 8 RX9 ∈ W0 := xR (aFj (List.mem_of_getElem? (i := 23) rfl)) rfl
theorem q_1483 : Cond.instantiable RX9 9 ∈ W0 := xR (aFj (List.mem_of_getElem? (i := 24) rfl)) rfl
theorem q_1484 : Cond.code yX9_init aID 1 none ∈ W0 := xR (aFj (List.mem_of_getElem? (i := 27) rfl)) rfl
theorem q_1485 : Cond.methodLink RL 22 yX9_init ∈ W0 := xR (aFj (List.mem_of_getElem? (i := 25) rfl)) rfl
theorem q_1486 : Cond.instanceMethod yX9_init ∈ W0 := xR (aFj (List.mem_of_getElem? (i := 26) rfl)) rfl
theorem q_1487 : Cond.classLink RL 23 zX ∈ W0 := xR (aGl (List.mem_of_getElem? (i := 23) rfl)) rfl
theorem q_1488 : Cond.instantiable zX 51 ∈ W0 := xR (aGl (List.mem_of_getElem? (i := 24) rfl)) rfl
theorem q_1489 : Cond.code yX10_init aB7 1 none ∈ W0 := xR (aGl (List.mem_of_getElem? (i := 27) rfl)) rfl
theorem q_1490 : Cond.methodLink RL 25 yX10_init ∈ W0 := xR (aGl (List.mem_of_getElem? (i := 25) rfl)) rfl
theorem q_1491 : Cond.instanceMethod yX10_init ∈ W0 := xR (aGl (List.mem_of_getElem? (i := 26) rfl)) rfl
theorem q_1492 : Cond.arrayClass .long ∈ W0 := xR (aGt (List.mem_of_getElem? (i := 185) rfl)) rfl
theorem h_X9_fruit : yX9_fruit.cls ≠ "java/lang/invoke/MethodHandle" /\ yX9_fruit.cls ≠ "java/lang/invoke/VarHandle" /\ (parseMethodDescriptor yX9_fruit.desc).map (fun d => d.parameters.length) = some 2 := ⟨nc_6.1, nc_6.2, ds_10⟩
theorem h_X9_standing : yX9_standing.cls ≠ "java/lang/invoke/MethodHandle" /\ yX9_standing.cls ≠ "java/lang/invoke/VarHandle" /\ (parseMethodDescriptor yX9_standing.desc).map (fun d => d.parameters.length) = some 2 := ⟨nc_6.1, nc_6.2, ds_10⟩
theorem h_X9_row : yX9_row.cls ≠ "java/lang/invoke/MethodHandle" /\ yX9_row.cls ≠ "java/lang/invoke/VarHandle" /\ (parseMethodDescriptor yX9_row.desc).map (fun d => d.parameters.length) = some 1 := ⟨nc_6.1, nc_6.2, ds_0⟩
theorem h_X9_sign : yX9_sign.cls ≠ "java/lang/invoke/MethodHandle" /\ yX9_sign.cls ≠ "java/lang/invoke/VarHandle" /\ (parseMethodDescriptor yX9_sign.desc).map (fun d => d.parameters.length) = some 1 := ⟨nc_6.1, nc_6.2, ds_0⟩
theorem h_X10_sign : yX10_sign.cls ≠ "java/lang/invoke/MethodHandle" /\ yX10_sign.cls ≠ "java/lang/invoke/VarHandle" /\ (parseMethodDescriptor yX10_sign.desc).map (fun d => d.parameters.length) = some 1 := ⟨aEL.1, aEL.2, ds_0⟩
theorem h_X9_end : yX9_end.cls ≠ "java/lang/invoke/MethodHandle" /\ yX9_end.cls ≠ "java/lang/invoke/VarHandle" /\ (parseMethodDescriptor yX9_end.desc).map (fun d => d.parameters.length) = some 1 := ⟨nc_6.1, nc_6.2, ds_1⟩
theorem h_X10_end : yX10_end.cls ≠ "java/lang/invoke/MethodHandle" /\ yX10_end.cls ≠ "java/lang/invoke/VarHandle" /\ (parseMethodDescriptor yX10_end.desc).map (fun d => d.parameters.length) = some 1 := ⟨aEL.1, aEL.2, ds_1⟩
theorem h_X9_orchard : yX9_orchard.cls ≠ "java/lang/invoke/MethodHandle" /\ yX9_orchard.cls ≠ "java/lang/invoke/VarHandle" /\ (parseMethodDescriptor yX9_orchard.desc).map (fun d => d.parameters.length) = some 0 := ⟨nc_6.1, nc_6.2, ds_2⟩
theorem h_X10_orchard : yX10_orchard.cls ≠ "java/lang/invoke/MethodHandle" /\ yX10_orchard.cls ≠ "java/lang/invoke/VarHandle" /\ (parseMethodDescriptor yX10_orchard.desc).map (fun d => d.parameters.length) = some 0 := ⟨aEL.1, aEL.2, ds_2⟩
theorem h_X9_rule : yX9_rule.cls ≠ "java/lang/invoke/MethodHandle" /\ yX9_rule.cls ≠ "java/lang/invoke/VarHandle" /\ (parseMethodDescriptor yX9_rule.desc).map (fun d => d.parameters.length) = some 0 := ⟨nc_6.1, nc_6.2, ds_2⟩
theorem h_X10_rule : yX10_rule.cls ≠ "java/lang/invoke/MethodHandle" /\ yX10_rule.cls ≠ "java/lang/invoke/VarHandle" /\ (parseMethodDescriptor yX10_rule.desc).map (fun d => d.parameters.length) = some 0 := ⟨aEL.1, aEL.2, ds_2⟩
theorem nc_14 : RL ≠ "java/lang/invoke/MethodHandle" /\ RL ≠ "java/lang/invoke/VarHandle" := by decide +kernel
theorem ds_28 : (parseMethodDescriptor "(LWhereTheLadder;II[J)I").map (fun d => d.parameters.length) = some 4 := by decide +kernel
theorem h_L_fruit : yL_fruit.cls ≠ "java/lang/invoke/MethodHandle" /\ yL_fruit.cls ≠ "java/lang/invoke/VarHandle" /\ (parseMethodDescriptor yL_fruit.desc).map (fun d => d.parameters.length) = some 4 := ⟨nc_14.1, nc_14.2, ds_28⟩
theorem h_X10_fruit : yX10_fruit.cls ≠ "java/lang/invoke/MethodHandle" /\ yX10_fruit.cls ≠ "java/lang/invoke/VarHandle" /\ (parseMethodDescriptor yX10_fruit.desc).map (fun d => d.parameters.length) = some 2 := ⟨aEL.1, aEL.2, ds_10⟩
theorem h_L_standing : yL_standing.cls ≠ "java/lang/invoke/MethodHandle" /\ yL_standing.cls ≠ "java/lang/invoke/VarHandle" /\ (parseMethodDescriptor yL_standing.desc).map (fun d => d.parameters.length) = some 4 := ⟨nc_14.1, nc_14.2, ds_28⟩
theorem h_X10_standing : yX10_standing.cls ≠ "java/lang/invoke/MethodHandle" /\ yX10_standing.cls ≠ "java/lang/invoke/VarHandle" /\ (parseMethodDescriptor yX10_standing.desc).map (fun d => d.parameters.length) = some 2 := ⟨aEL.1, aEL.2, ds_10⟩
theorem h_X9_set : yX9_set.cls ≠ "java/lang/invoke/MethodHandle" /\ yX9_set.cls ≠ "java/lang/invoke/VarHandle" /\ (parseMethodDescriptor yX9_set.desc).map (fun d => d.parameters.length) = some 2 := ⟨nc_6.1, nc_6.2, ds_10⟩
theorem h_X10_set : yX10_set.cls ≠ "java/lang/invoke/MethodHandle" /\ yX10_set.cls ≠ "java/lang/invoke/VarHandle" /\ (parseMethodDescriptor yX10_set.desc).map (fun d => d.parameters.length) = some 2 := ⟨aEL.1, aEL.2, ds_10⟩
theorem h_X9_sheet : yX9_sheet.cls ≠ "java/lang/invoke/MethodHandle" /\ yX9_sheet.cls ≠ "java/lang/invoke/VarHandle" /\ (parseMethodDescriptor yX9_sheet.desc).map (fun d => d.parameters.length) = some 4 := ⟨nc_6.1, nc_6.2, ds_11⟩
theorem h_X10_sheet : yX10_sheet.cls ≠ "java/lang/invoke/MethodHandle" /\ yX10_sheet.cls ≠ "java/lang/invoke/VarHandle" /\ (parseMethodDescriptor yX10_sheet.desc).map (fun d => d.parameters.length) = some 4 := ⟨aEL.1, aEL.2, ds_11⟩
theorem h_X9_move : yX9_move.cls ≠ "java/lang/invoke/MethodHandle" /\ yX9_move.cls ≠ "java/lang/invoke/VarHandle" /\ (parseMethodDescriptor yX9_move.desc).map (fun d => d.parameters.length) = some 1 := ⟨nc_6.1, nc_6.2, ds_0⟩
theorem h_X10_move : yX10_move.cls ≠ "java/lang/invoke/MethodHandle" /\ yX10_move.cls ≠ "java/lang/invoke/VarHandle" /\ (parseMethodDescriptor yX10_move.desc).map (fun d => d.parameters.length) = some 1 := ⟨aEL.1, aEL.2, ds_0⟩
theorem h_X9_foot : yX9_foot.cls ≠ "java/lang/invoke/MethodHandle" /\ yX9_foot.cls ≠ "java/lang/invoke/VarHandle" /\ (parseMethodDescriptor yX9_foot.desc).map (fun d => d.parameters.length) = some 1 := ⟨nc_6.1, nc_6.2, ds_0⟩
theorem h_X10_foot : yX10_foot.cls ≠ "java/lang/invoke/MethodHandle" /\ yX10_foot.cls ≠ "java/lang/invoke/VarHandle" /\ (parseMethodDescriptor yX10_foot.desc).map (fun d => d.parameters.length) = some 1 := ⟨aEL.1, aEL.2, ds_0⟩
theorem h_X9_pick : yX9_pick.cls ≠ "java/lang/invoke/MethodHandle" /\ yX9_pick.cls ≠ "java/lang/invoke/VarHandle" /\ (parseMethodDescriptor yX9_pick.desc).map (fun d => d.parameters.length) = some 2 := ⟨nc_6.1, nc_6.2, ds_10⟩
theorem h_X10_pick : yX10_pick.cls ≠ "java/lang/invoke/MethodHandle" /\ yX10_pick.cls ≠ "java/lang/invoke/VarHandle" /\ (parseMethodDescriptor yX10_pick.desc).map (fun d => d.parameters.length) = some 2 := ⟨aEL.1, aEL.2, ds_10⟩
theorem h_X9_down : yX9_down.cls ≠ "java/lang/invoke/MethodHandle" /\ yX9_down.cls ≠ "java/lang/invoke/VarHandle" /\ (parseMethodDescriptor yX9_down.desc).map (fun d => d.parameters.length) = some 0 := ⟨nc_6.1, nc_6.2, ds_2⟩
theorem h_X10_down : yX10_down.cls ≠ "java/lang/invoke/MethodHandle" /\ yX10_down.cls ≠ "java/lang/invoke/VarHandle" /\ (parseMethodDescriptor yX10_down.desc).map (fun d => d.parameters.length) = some 0 := ⟨aEL.1, aEL.2, ds_2⟩
theorem h_X9_shake : yX9_shake.cls ≠ "java/lang/invoke/MethodHandle" /\ yX9_shake.cls ≠ "java/lang/invoke/VarHandle" /\ (parseMethodDescriptor yX9_shake.desc).map (fun d => d.parameters.length) = some 0 := ⟨nc_6.1, nc_6.2, ds_2⟩
theorem h_X10_shake : yX10_shake.cls ≠ "java/lang/invoke/MethodHandle" /\ yX10_shake.cls ≠ "java/lang/invoke/VarHandle" /\ (parseMethodDescriptor yX10_shake.desc).map (fun d => d.parameters.length) = some 0 := ⟨aEL.1, aEL.2, ds_2⟩
theorem h_X9_sleep : yX9_sleep.cls ≠ "java/lang/invoke/MethodHandle" /\ yX9_sleep.cls ≠ "java/lang/invoke/VarHandle" /\ (parseMethodDescriptor yX9_sleep.desc).map (fun d => d.parameters.length) = some 0 := ⟨nc_6.1, nc_6.2, ds_2⟩
theorem h_X10_sleep : yX10_sleep.cls ≠ "java/lang/invoke/MethodHandle" /\ yX10_sleep.cls ≠ "java/lang/invoke/VarHandle" /\ (parseMethodDescriptor yX10_sleep.desc).map (fun d => d.parameters.length) = some 0 := ⟨aEL.1, aEL.2, ds_2⟩
theorem h_X9_day : yX9_day.cls ≠ "java/lang/invoke/MethodHandle" /\ yX9_day.cls ≠ "java/lang/invoke/VarHandle" /\ (parseMethodDescriptor yX9_day.desc).map (fun d => d.parameters.length) = some 0 := ⟨nc_6.1, nc_6.2, ds_2⟩
theorem h_X10_day : yX10_day.cls ≠ "java/lang/invoke/MethodHandle" /\ yX10_day.cls ≠ "java/lang/invoke/VarHandle" /\ (parseMethodDescriptor yX10_day.desc).map (fun d => d.parameters.length) = some 0 := ⟨aEL.1, aEL.2, ds_2⟩
theorem h_X9_undo : yX9_undo.cls ≠ "java/lang/invoke/MethodHandle" /\ yX9_undo.cls ≠ "java/lang/invoke/VarHandle" /\ (parseMethodDescriptor yX9_undo.desc).map (fun d => d.parameters.length) = some 0 := ⟨nc_6.1, nc_6.2, ds_2⟩
theorem h_X10_undo : yX10_undo.cls ≠ "java/lang/invoke/MethodHandle" /\ yX10_undo.cls ≠ "java/lang/invoke/VarHandle" /\ (parseMethodDescriptor yX10_undo.desc).map (fun d => d.parameters.length) = some 0 := ⟨aEL.1, aEL.2, ds_2⟩
theorem h_X9_reached : yX9_reached.cls ≠ "java/lang/invoke/MethodHandle" /\ yX9_reached.cls ≠ "java/lang/invoke/VarHandle" /\ (parseMethodDescriptor yX9_reached.desc).map (fun d => d.parameters.length) = some 1 := ⟨nc_6.1, nc_6.2, ds_0⟩
theorem h_X10_reached : yX10_reached.cls ≠ "java/lang/invoke/MethodHandle" /\ yX10_reached.cls ≠ "java/lang/invoke/VarHandle" /\ (parseMethodDescriptor yX10_reached.desc).map (fun d => d.parameters.length) = some 1 := ⟨aEL.1, aEL.2, ds_0⟩
theorem h_X9_from : yX9_from.cls ≠ "java/lang/invoke/MethodHandle" /\ yX9_from.cls ≠ "java/lang/invoke/VarHandle" /\ (parseMethodDescriptor yX9_from.desc).map (fun d => d.parameters.length) = some 2 := ⟨nc_6.1, nc_6.2, ds_10⟩
theorem h_X10_from : yX10_from.cls ≠ "java/lang/invoke/MethodHandle" /\ yX10_from.cls ≠ "java/lang/invoke/VarHandle" /\ (parseMethodDescriptor yX10_from.desc).map (fun d => d.parameters.length) = some 2 := ⟨aEL.1, aEL.2, ds_10⟩
theorem h_X9_never : yX9_never.cls ≠ "java/lang/invoke/MethodHandle" /\ yX9_never.cls ≠ "java/lang/invoke/VarHandle" /\ (parseMethodDescriptor yX9_never.desc).map (fun d => d.parameters.length) = some 0 := ⟨nc_6.1, nc_6.2, ds_2⟩
theorem h_X10_never : yX10_never.cls ≠ "java/lang/invoke/MethodHandle" /\ yX10_never.cls ≠ "java/lang/invoke/VarHandle" /\ (parseMethodDescriptor yX10_never.desc).map (fun d => d.parameters.length) = some 0 := ⟨aEL.1, aEL.2, ds_2⟩
theorem h_X9_seconds : yX9_seconds.cls ≠ "java/lang/invoke/MethodHandle" /\ yX9_seconds.cls ≠ "java/lang/invoke/VarHandle" /\ (parseMethodDescriptor yX9_seconds.desc).map (fun d => d.parameters.length) = some 3 := ⟨nc_6.1, nc_6.2, ds_14⟩
theorem h_X10_seconds : yX10_seconds.cls ≠ "java/lang/invoke/MethodHandle" /\ yX10_seconds.cls ≠ "java/lang/invoke/VarHandle" /\ (parseMethodDescriptor yX10_seconds.desc).map (fun d => d.parameters.length) = some 3 := ⟨aEL.1, aEL.2, ds_14⟩
theorem h_X9_both : yX9_both.cls ≠ "java/lang/invoke/MethodHandle" /\ yX9_both.cls ≠ "java/lang/invoke/VarHandle" /\ (parseMethodDescriptor yX9_both.desc).map (fun d => d.parameters.length) = some 2 := ⟨nc_6.1, nc_6.2, ds_10⟩
theorem h_X10_both : yX10_both.cls ≠ "java/lang/invoke/MethodHandle" /\ yX10_both.cls ≠ "java/lang/invoke/VarHandle" /\ (parseMethodDescriptor yX10_both.desc).map (fun d => d.parameters.length) = some 2 := ⟨aEL.1, aEL.2, ds_10⟩
theorem h_X9_nearest : yX9_nearest.cls ≠ "java/lang/invoke/MethodHandle" /\ yX9_nearest.cls ≠ "java/lang/invoke/VarHandle" /\ (parseMethodDescriptor yX9_nearest.desc).map (fun d => d.parameters.length) = some 1 := ⟨nc_6.1, nc_6.2, ds_0⟩
theorem h_X10_nearest : yX10_nearest.cls ≠ "java/lang/invoke/MethodHandle" /\ yX10_nearest.cls ≠ "java/lang/invoke/VarHandle" /\ (parseMethodDescriptor yX10_nearest.desc).map (fun d => d.parameters.length) = some 1 := ⟨aEL.1, aEL.2, ds_0⟩
theorem h_X9_fewest : yX9_fewest.cls ≠ "java/lang/invoke/MethodHandle" /\ yX9_fewest.cls ≠ "java/lang/invoke/VarHandle" /\ (parseMethodDescriptor yX9_fewest.desc).map (fun d => d.parameters.length) = some 0 := ⟨nc_6.1, nc_6.2, ds_2⟩
theorem h_X10_fewest : yX10_fewest.cls ≠ "java/lang/invoke/MethodHandle" /\ yX10_fewest.cls ≠ "java/lang/invoke/VarHandle" /\ (parseMethodDescriptor yX10_fewest.desc).map (fun d => d.parameters.length) = some 0 := ⟨aEL.1, aEL.2, ds_2⟩
theorem h_X9_needed : yX9_needed.cls ≠ "java/lang/invoke/MethodHandle" /\ yX9_needed.cls ≠ "java/lang/invoke/VarHandle" /\ (parseMethodDescriptor yX9_needed.desc).map (fun d => d.parameters.length) = some 0 := ⟨nc_6.1, nc_6.2, ds_2⟩
theorem h_X10_needed : yX10_needed.cls ≠ "java/lang/invoke/MethodHandle" /\ yX10_needed.cls ≠ "java/lang/invoke/VarHandle" /\ (parseMethodDescriptor yX10_needed.desc).map (fun d => d.parameters.length) = some 0 := ⟨aEL.1, aEL.2, ds_2⟩
theorem h_X9_birds : yX9_birds.cls ≠ "java/lang/invoke/MethodHandle" /\ yX9_birds.cls ≠ "java/lang/invoke/VarHandle" /\ (parseMethodDescriptor yX9_birds.desc).map (fun d => d.parameters.length) = some 1 := ⟨nc_6.1, nc_6.2, ds_0⟩
theorem h_X10_birds : yX10_birds.cls ≠ "java/lang/invoke/MethodHandle" /\ yX10_birds.cls ≠ "java/lang/invoke/VarHandle" /\ (parseMethodDescriptor yX10_birds.desc).map (fun d => d.parameters.length) = some 1 := ⟨aEL.1, aEL.2, ds_0⟩
theorem h_X9_next : yX9_next.cls ≠ "java/lang/invoke/MethodHandle" /\ yX9_next.cls ≠ "java/lang/invoke/VarHandle" /\ (parseMethodDescriptor yX9_next.desc).map (fun d => d.parameters.length) = some 1 := ⟨nc_6.1, nc_6.2, ds_0⟩
theorem h_X10_next : yX10_next.cls ≠ "java/lang/invoke/MethodHandle" /\ yX10_next.cls ≠ "java/lang/invoke/VarHandle" /\ (parseMethodDescriptor yX10_next.desc).map (fun d => d.parameters.length) = some 1 := ⟨aEL.1, aEL.2, ds_0⟩
theorem h_X9_route : yX9_route.cls ≠ "java/lang/invoke/MethodHandle" /\ yX9_route.cls ≠ "java/lang/invoke/VarHandle" /\ (parseMethodDescriptor yX9_route.desc).map (fun d => d.parameters.length) = some 1 := ⟨nc_6.1, nc_6.2, ds_0⟩
theorem h_X10_route : yX10_route.cls ≠ "java/lang/invoke/MethodHandle" /\ yX10_route.cls ≠ "java/lang/invoke/VarHandle" /\ (parseMethodDescriptor yX10_route.desc).map (fun d => d.parameters.length) = some 1 := ⟨aEL.1, aEL.2, ds_0⟩
theorem h_X9_work : yX9_work.cls ≠ "java/lang/invoke/MethodHandle" /\ yX9_work.cls ≠ "java/lang/invoke/VarHandle" /\ (parseMethodDescriptor yX9_work.desc).map (fun d => d.parameters.length) = some 1 := ⟨nc_6.1, nc_6.2, ds_0⟩
theorem h_X10_work : yX10_work.cls ≠ "java/lang/invoke/MethodHandle" /\ yX10_work.cls ≠ "java/lang/invoke/VarHandle" /\ (parseMethodDescriptor yX10_work.desc).map (fun d => d.parameters.length) = some 1 := ⟨aEL.1, aEL.2, ds_0⟩
theorem h_X9_soonest : yX9_soonest.cls ≠ "java/lang/invoke/MethodHandle" /\ yX9_soonest.cls ≠ "java/lang/invoke/VarHandle" /\ (parseMethodDescriptor yX9_soonest.desc).map (fun d => d.parameters.length) = some 0 := ⟨nc_6.1, nc_6.2, ds_2⟩
theorem h_X10_soonest : yX10_soonest.cls ≠ "java/lang/invoke/MethodHandle" /\ yX10_soonest.cls ≠ "java/lang/invoke/VarHandle" /\ (parseMethodDescriptor yX10_soonest.desc).map (fun d => d.parameters.length) = some 0 := ⟨aEL.1, aEL.2, ds_2⟩
theorem h_X9_pays : yX9_pays.cls ≠ "java/lang/invoke/MethodHandle" /\ yX9_pays.cls ≠ "java/lang/invoke/VarHandle" /\ (parseMethodDescriptor yX9_pays.desc).map (fun d => d.parameters.length) = some 1 := ⟨nc_6.1, nc_6.2, ds_0⟩
theorem h_X10_pays : yX10_pays.cls ≠ "java/lang/invoke/MethodHandle" /\ yX10_pays.cls ≠ "java/lang/invoke/VarHandle" /\ (parseMethodDescriptor yX10_pays.desc).map (fun d => d.parameters.length) = some 1 := ⟨aEL.1, aEL.2, ds_0⟩
theorem h_X9_trips : yX9_trips.cls ≠ "java/lang/invoke/MethodHandle" /\ yX9_trips.cls ≠ "java/lang/invoke/VarHandle" /\ (parseMethodDescriptor yX9_trips.desc).map (fun d => d.parameters.length) = some 1 := ⟨nc_6.1, nc_6.2, ds_0⟩
theorem h_X10_trips : yX10_trips.cls ≠ "java/lang/invoke/MethodHandle" /\ yX10_trips.cls ≠ "java/lang/invoke/VarHandle" /\ (parseMethodDescriptor yX10_trips.desc).map (fun d => d.parameters.length) = some 1 := ⟨aEL.1, aEL.2, ds_0⟩
theorem h_X9_helps : yX9_helps.cls ≠ "java/lang/invoke/MethodHandle" /\ yX9_helps.cls ≠ "java/lang/invoke/VarHandle" /\ (parseMethodDescriptor yX9_helps.desc).map (fun d => d.parameters.length) = some 0 := ⟨nc_6.1, nc_6.2, ds_2⟩
theorem h_X10_helps : yX10_helps.cls ≠ "java/lang/invoke/MethodHandle" /\ yX10_helps.cls ≠ "java/lang/invoke/VarHandle" /\ (parseMethodDescriptor yX10_helps.desc).map (fun d => d.parameters.length) = some 0 := ⟨aEL.1, aEL.2, ds_2⟩
theorem h_X9_hooked : yX9_hooked.cls ≠ "java/lang/invoke/MethodHandle" /\ yX9_hooked.cls ≠ "java/lang/invoke/VarHandle" /\ (parseMethodDescriptor yX9_hooked.desc).map (fun d => d.parameters.length) = some 0 := ⟨nc_6.1, nc_6.2, ds_2⟩
theorem h_X10_hooked : yX10_hooked.cls ≠ "java/lang/invoke/MethodHandle" /\ yX10_hooked.cls ≠ "java/lang/invoke/VarHandle" /\ (parseMethodDescriptor yX10_hooked.desc).map (fun d => d.parameters.length) = some 0 := ⟨aEL.1, aEL.2, ds_2⟩
theorem h_X9_broken : yX9_broken.cls ≠ "java/lang/invoke/MethodHandle" /\ yX9_broken.cls ≠ "java/lang/invoke/VarHandle" /\ (parseMethodDescriptor yX9_broken.desc).map (fun d => d.parameters.length) = some 1 := ⟨nc_6.1, nc_6.2, ds_0⟩
theorem h_X10_broken : yX10_broken.cls ≠ "java/lang/invoke/MethodHandle" /\ yX10_broken.cls ≠ "java/lang/invoke/VarHandle" /\ (parseMethodDescriptor yX10_broken.desc).map (fun d => d.parameters.length) = some 1 := ⟨aEL.1, aEL.2, ds_0⟩
theorem h_X9_sweep : yX9_sweep.cls ≠ "java/lang/invoke/MethodHandle" /\ yX9_sweep.cls ≠ "java/lang/invoke/VarHandle" /\ (parseMethodDescriptor yX9_sweep.desc).map (fun d => d.parameters.length) = some 1 := ⟨nc_6.1, nc_6.2, ds_0⟩
theorem h_X10_sweep : yX10_sweep.cls ≠ "java/lang/invoke/MethodHandle" /\ yX10_sweep.cls ≠ "java/lang/invoke/VarHandle" /\ (parseMethodDescriptor yX10_sweep.desc).map (fun d => d.parameters.length) = some 1 := ⟨aEL.1, aEL.2, ds_0⟩
theorem h_X9_dusk : yX9_dusk.cls ≠ "java/lang/invoke/MethodHandle" /\ yX9_dusk.cls ≠ "java/lang/invoke/VarHandle" /\ (parseMethodDescriptor yX9_dusk.desc).map (fun d => d.parameters.length) = some 1 := ⟨nc_6.1, nc_6.2, ds_0⟩
theorem h_X10_dusk : yX10_dusk.cls ≠ "java/lang/invoke/MethodHandle" /\ yX10_dusk.cls ≠ "java/lang/invoke/VarHandle" /\ (parseMethodDescriptor yX10_dusk.desc).map (fun d => d.parameters.length) = some 1 := ⟨aEL.1, aEL.2, ds_0⟩
theorem h_X9_gentle : yX9_gentle.cls ≠ "java/lang/invoke/MethodHandle" /\ yX9_gentle.cls ≠ "java/lang/invoke/VarHandle" /\ (parseMethodDescriptor yX9_gentle.desc).map (fun d => d.parameters.length) = some 0 := ⟨nc_6.1, nc_6.2, ds_2⟩
theorem h_X10_gentle : yX10_gentle.cls ≠ "java/lang/invoke/MethodHandle" /\ yX10_gentle.cls ≠ "java/lang/invoke/VarHandle" /\ (parseMethodDescriptor yX10_gentle.desc).map (fun d => d.parameters.length) = some 0 := ⟨aEL.1, aEL.2, ds_2⟩
theorem h_X9_harm : yX9_harm.cls ≠ "java/lang/invoke/MethodHandle" /\ yX9_harm.cls ≠ "java/lang/invoke/VarHandle" /\ (parseMethodDescriptor yX9_harm.desc).map (fun d => d.parameters.length) = some 0 := ⟨nc_6.1, nc_6.2, ds_2⟩
theorem h_X10_harm : yX10_harm.cls ≠ "java/lang/invoke/MethodHandle" /\ yX10_harm.cls ≠ "java/lang/invoke/VarHandle" /\ (parseMethodDescriptor yX10_harm.desc).map (fun d => d.parameters.length) = some 0 := ⟨aEL.1, aEL.2, ds_2⟩
theorem h_X9_share : yX9_share.cls ≠ "java/lang/invoke/MethodHandle" /\ yX9_share.cls ≠ "java/lang/invoke/VarHandle" /\ (parseMethodDescriptor yX9_share.desc).map (fun d => d.parameters.length) = some 1 := ⟨nc_6.1, nc_6.2, ds_0⟩
theorem h_X10_share : yX10_share.cls ≠ "java/lang/invoke/MethodHandle" /\ yX10_share.cls ≠ "java/lang/invoke/VarHandle" /\ (parseMethodDescriptor yX10_share.desc).map (fun d => d.parameters.length) = some 1 := ⟨aEL.1, aEL.2, ds_0⟩
theorem h_X9_ripens : yX9_ripens.cls ≠ "java/lang/invoke/MethodHandle" /\ yX9_ripens.cls ≠ "java/lang/invoke/VarHandle" /\ (parseMethodDescriptor yX9_ripens.desc).map (fun d => d.parameters.length) = some 0 := ⟨nc_6.1, nc_6.2, ds_2⟩
theorem h_X10_ripens : yX10_ripens.cls ≠ "java/lang/invoke/MethodHandle" /\ yX10_ripens.cls ≠ "java/lang/invoke/VarHandle" /\ (parseMethodDescriptor yX10_ripens.desc).map (fun d => d.parameters.length) = some 0 := ⟨aEL.1, aEL.2, ds_2⟩
theorem h_X9_ondays : yX9_ondays.cls ≠ "java/lang/invoke/MethodHandle" /\ yX9_ondays.cls ≠ "java/lang/invoke/VarHandle" /\ (parseMethodDescriptor yX9_ondays.desc).map (fun d => d.parameters.length) = some 1 := ⟨nc_6.1, nc_6.2, ds_0⟩
theorem h_X10_ondays : yX10_ondays.cls ≠ "java/lang/invoke/MethodHandle" /\ yX10_ondays.cls ≠ "java/lang/invoke/VarHandle" /\ (parseMethodDescriptor yX10_ondays.desc).map (fun d => d.parameters.length) = some 1 := ⟨aEL.1, aEL.2, ds_0⟩
theorem h_X9_allripe : yX9_allripe.cls ≠ "java/lang/invoke/MethodHandle" /\ yX9_allripe.cls ≠ "java/lang/invoke/VarHandle" /\ (parseMethodDescriptor yX9_allripe.desc).map (fun d => d.parameters.length) = some 0 := ⟨nc_6.1, nc_6.2, ds_2⟩
theorem h_X10_allripe : yX10_allripe.cls ≠ "java/lang/invoke/MethodHandle" /\ yX10_allripe.cls ≠ "java/lang/invoke/VarHandle" /\ (parseMethodDescriptor yX10_allripe.desc).map (fun d => d.parameters.length) = some 0 := ⟨aEL.1, aEL.2, ds_2⟩
theorem h_X9_marks : yX9_marks.cls ≠ "java/lang/invoke/MethodHandle" /\ yX9_marks.cls ≠ "java/lang/invoke/VarHandle" /\ (parseMethodDescriptor yX9_marks.desc).map (fun d => d.parameters.length) = some 2 := ⟨nc_6.1, nc_6.2, ds_10⟩
theorem h_X10_marks : yX10_marks.cls ≠ "java/lang/invoke/MethodHandle" /\ yX10_marks.cls ≠ "java/lang/invoke/VarHandle" /\ (parseMethodDescriptor yX10_marks.desc).map (fun d => d.parameters.length) = some 2 := ⟨aEL.1, aEL.2, ds_10⟩
theorem h_X9_grass : yX9_grass.cls ≠ "java/lang/invoke/MethodHandle" /\ yX9_grass.cls ≠ "java/lang/invoke/VarHandle" /\ (parseMethodDescriptor yX9_grass.desc).map (fun d => d.parameters.length) = some 1 := ⟨nc_6.1, nc_6.2, ds_0⟩
theorem h_X10_grass : yX10_grass.cls ≠ "java/lang/invoke/MethodHandle" /\ yX10_grass.cls ≠ "java/lang/invoke/VarHandle" /\ (parseMethodDescriptor yX10_grass.desc).map (fun d => d.parameters.length) = some 1 := ⟨aEL.1, aEL.2, ds_0⟩
theorem h_X9_fits : yX9_fits.cls ≠ "java/lang/invoke/MethodHandle" /\ yX9_fits.cls ≠ "java/lang/invoke/VarHandle" /\ (parseMethodDescriptor yX9_fits.desc).map (fun d => d.parameters.length) = some 1 := ⟨nc_6.1, nc_6.2, ds_0⟩
theorem h_X10_fits : yX10_fits.cls ≠ "java/lang/invoke/MethodHandle" /\ yX10_fits.cls ≠ "java/lang/invoke/VarHandle" /\ (parseMethodDescriptor yX10_fits.desc).map (fun d => d.parameters.length) = some 1 := ⟨aEL.1, aEL.2, ds_0⟩
theorem h_X9_leaned : yX9_leaned.cls ≠ "java/lang/invoke/MethodHandle" /\ yX9_leaned.cls ≠ "java/lang/invoke/VarHandle" /\ (parseMethodDescriptor yX9_leaned.desc).map (fun d => d.parameters.length) = some 2 := ⟨nc_6.1, nc_6.2, ds_10⟩
theorem h_X10_leaned : yX10_leaned.cls ≠ "java/lang/invoke/MethodHandle" /\ yX10_leaned.cls ≠ "java/lang/invoke/VarHandle" /\ (parseMethodDescriptor yX10_leaned.desc).map (fun d => d.parameters.length) = some 2 := ⟨aEL.1, aEL.2, ds_10⟩
theorem h_X9_autumn : yX9_autumn.cls ≠ "java/lang/invoke/MethodHandle" /\ yX9_autumn.cls ≠ "java/lang/invoke/VarHandle" /\ (parseMethodDescriptor yX9_autumn.desc).map (fun d => d.parameters.length) = some 3 := ⟨nc_6.1, nc_6.2, ds_14⟩
theorem h_X10_autumn : yX10_autumn.cls ≠ "java/lang/invoke/MethodHandle" /\ yX10_autumn.cls ≠ "java/lang/invoke/VarHandle" /\ (parseMethodDescriptor yX10_autumn.desc).map (fun d => d.parameters.length) = some 3 := ⟨aEL.1, aEL.2, ds_14⟩
theorem h_X9_keep : yX9_keep.cls ≠ "java/lang/invoke/MethodHandle" /\ yX9_keep.cls ≠ "java/lang/invoke/VarHandle" /\ (parseMethodDescriptor yX9_keep.desc).map (fun d => d.parameters.length) = some 1 := ⟨nc_6.1, nc_6.2, ds_1⟩
theorem h_X10_keep : yX10_keep.cls ≠ "java/lang/invoke/MethodHandle" /\ yX10_keep.cls ≠ "java/lang/invoke/VarHandle" /\ (parseMethodDescriptor yX10_keep.desc).map (fun d => d.parameters.length) = some 1 := ⟨aEL.1, aEL.2, ds_1⟩
theorem h_X9_again : yX9_again.cls ≠ "java/lang/invoke/MethodHandle" /\ yX9_again.cls ≠ "java/lang/invoke/VarHandle" /\ (parseMethodDescriptor yX9_again.desc).map (fun d => d.parameters.length) = some 1 := ⟨nc_6.1, nc_6.2, ds_1⟩
theorem h_X10_again : yX10_again.cls ≠ "java/lang/invoke/MethodHandle" /\ yX10_again.cls ≠ "java/lang/invoke/VarHandle" /\ (parseMethodDescriptor yX10_again.desc).map (fun d => d.parameters.length) = some 1 := ⟨aEL.1, aEL.2, ds_1⟩
theorem h_X9_count : yX9_count.cls ≠ "java/lang/invoke/MethodHandle" /\ yX9_count.cls ≠ "java/lang/invoke/VarHandle" /\ (parseMethodDescriptor yX9_count.desc).map (fun d => d.parameters.length) = some 1 := ⟨nc_6.1, nc_6.2, ds_0⟩
theorem h_X10_count : yX10_count.cls ≠ "java/lang/invoke/MethodHandle" /\ yX10_count.cls ≠ "java/lang/invoke/VarHandle" /\ (parseMethodDescriptor yX10_count.desc).map (fun d => d.parameters.length) = some 1 := ⟨aEL.1, aEL.2, ds_0⟩
theorem ds_29 : (parseMethodDescriptor "(LWhereTheLadder;I[J)I").map (fun d => d.parameters.length) = some 3 := by decide +kernel
theorem h_L_row : yL_row.cls ≠ "java/lang/invoke/MethodHandle" /\ yL_row.cls ≠ "java/lang/invoke/VarHandle" /\ (parseMethodDescriptor yL_row.desc).map (fun d => d.parameters.length) = some 3 := ⟨nc_14.1, nc_14.2, ds_29⟩
theorem h_X10_row : yX10_row.cls ≠ "java/lang/invoke/MethodHandle" /\ yX10_row.cls ≠ "java/lang/invoke/VarHandle" /\ (parseMethodDescriptor yX10_row.desc).map (fun d => d.parameters.length) = some 1 := ⟨aEL.1, aEL.2, ds_0⟩
theorem h_X9_init : yX9_init.cls ≠ "java/lang/invoke/MethodHandle" /\ yX9_init.cls ≠ "java/lang/invoke/VarHandle" /\ (parseMethodDescriptor yX9_init.desc).map (fun d => d.parameters.length) = some 0 := ⟨nc_6.1, nc_6.2, ds_3⟩
theorem h_X10_init : yX10_init.cls ≠ "java/lang/invoke/MethodHandle" /\ yX10_init.cls ≠ "java/lang/invoke/VarHandle" /\ (parseMethodDescriptor yX10_init.desc).map (fun d => d.parameters.length) = some 0 := ⟨aEL.1, aEL.2, ds_3⟩
theorem eL_fruit_0 : (decode cL_fruit 0 = .ok (.aload_n 3, 1)) /\ (decode cL_fruit 1 = .ok (.iconst 0, 1)) /\ (decode cL_fruit 2 = .ok (.aload_n 0, 1)) /\ (decode cL_fruit 3 = .ok (.iload_n 1, 1)) /\ (decode cL_fruit 4 = .ok (.iload_n 2, 1)) /\ (decode cL_fruit 5 = .ok (.invokevirtual 7, 3)) /\ (decode cL_fruit 8 = .ok (.i2l, 1)) /\ (decode cL_fruit 9 = .ok (.lastore, 1)) /\ (decode cL_fruit 10 = .ok (.goto 7, 3)) /\ (decode cL_fruit 13 = .ok (.astore 4, 2)) /\ (decode cL_fruit 15 = .ok (.iconst 1, 1)) /\ (decode cL_fruit 16 = .ok (.ireturn, 1)) /\ (decode cL_fruit 17 = .ok (.iconst 0, 1)) /\ (decode cL_fruit 18 = .ok (.ireturn, 1)) := @of_decide_eq_true _ (DA (i_45 _ _) (DA (i_3 _ _) (DA (yX _ _) (DA (aBt _ _) (DA (aCB _ _) (DA (aAF _ _ _) (DA (i_133 _ _) (DA (i_80 _ _) (DA (aBs _ _ _) (DA (i_58 _ _ _) (DA (i_4 _ _) (DA (aBM _ _) (DA (i_3 _ _) (aBM _ _)))))))))))))) (by decide +kernel)
theorem aXw : (decode aUh 0 = .ok (.aload_n 3, 1)) /\ (decode aUh 1 = .ok (.iconst 0, 1)) /\ (decode aUh 2 = .ok (.aload_n 0, 1)) /\ (decode aUh 3 = .ok (.iload_n 1, 1)) /\ (decode aUh 4 = .ok (.iload_n 2, 1)) /\ (decode aUh 5 = .ok (.invokevirtual 15, 3)) /\ (decode aUh 8 = .ok (.i2l, 1)) /\ (decode aUh 9 = .ok (.lastore, 1)) /\ (decode aUh 10 = .ok (.goto 7, 3)) /\ (decode aUh 13 = .ok (.astore 4, 2)) /\ (decode aUh 15 = .ok (.iconst 1, 1)) /\ (decode aUh 16 = .ok (.ireturn, 1)) /\ (decode aUh 17 = .ok (.iconst 0, 1)) /\ (decode aUh 18 = .ok (.ireturn, 1)) := @of_decide_eq_true _ (DA (i_45 _ _) (DA (i_3 _ _) (DA (yX _ _) (DA (aBt _ _) (DA (aCB _ _) (DA (aAF _ _ _) (DA (i_133 _ _) (DA (i_80 _ _) (DA (aBs _ _ _) (DA (i_58 _ _ _) (DA (i_4 _ _) (DA (aBM _ _) (DA (i_3 _ _) (aBM _ _)))))))))))))) (by decide +kernel)
theorem eL_row_0 : (decode cL_row 0 = .ok (.aload_n 2, 1)) /\ (decode cL_row 1 = .ok (.iconst 0, 1)) /\ (decode cL_row 2 = .ok (.aload_n 0, 1)) /\ (decode cL_row 3 = .ok (.iload_n 1, 1)) /\ (decode cL_row 4 = .ok (.invokevirtual 18, 3)) /\ (decode cL_row 7 = .ok (.i2l, 1)) /\ (decode cL_row 8 = .ok (.lastore, 1)) /\ (decode cL_row 9 = .ok (.goto 6, 3)) /\ (decode cL_row 12 = .ok (.astore_n 3, 1)) /\ (decode cL_row 13 = .ok (.iconst 1, 1)) /\ (decode cL_row 14 = .ok (.ireturn, 1)) /\ (decode cL_row 15 = .ok (.iconst 0, 1)) /\ (decode cL_row 16 = .ok (.ireturn, 1)) := @of_decide_eq_true _ (DA (i_44 _ _) (DA (i_3 _ _) (DA (yX _ _) (DA (aBt _ _) (DA (aAF _ _ _) (DA (i_133 _ _) (DA (i_80 _ _) (DA (aBs _ _ _) (DA (i_78 _ _) (DA (i_4 _ _) (DA (aBM _ _) (DA (i_3 _ _) (aBM _ _))))))))))))) (by decide +kernel)
theorem eL_law_0 : (decode yP 0 = .ok (.new 8, 3)) /\ (decode yP 3 = .ok (.dup, 1)) /\ (decode yP 4 = .ok (.invokespecial 22, 3)) /\ (decode yP 7 = .ok (.astore_n 1, 1)) /\ (decode yP 8 = .ok (.new 23, 3)) /\ (decode yP 11 = .ok (.dup, 1)) /\ (decode yP 12 = .ok (.invokespecial 25, 3)) /\ (decode yP 15 = .ok (.astore_n 2, 1)) /\ (decode yP 16 = .ok (.iconst 1, 1)) /\ (decode yP 17 = .ok (.newarray .long, 2)) /\ (decode yP 19 = .ok (.astore_n 3, 1)) /\ (decode yP 20 = .ok (.iconst 0, 1)) /\ (decode yP 21 = .ok (.istore 4, 2)) /\ (decode yP 23 = .ok (.iload 4, 2)) /\ (decode yP 25 = .ok (.aload_n 0, 1)) /\ (decode yP 26 = .ok (.arraylength, 1)) := @of_decide_eq_true _ (DA (i_187 _ _ _) (DA (i_89 _ _) (DA (i_183 _ _ _) (DA (i_76 _ _) (DA (i_187 _ _ _) (DA (i_89 _ _) (DA (i_183 _ _ _) (DA (i_77 _ _) (DA (i_4 _ _) (DA (i_188_11 _ _) (DA (i_78 _ _) (DA (i_3 _ _) (DA (aFH _ _ _) (DA (aBj _ _ _) (DA (yX _ _) (i_190 _ _)))))))))))))))) (by decide +kernel)
theorem aES : (decode yP 27 = .ok (.iconst 5, 1)) /\ (decode yP 28 = .ok (.isub, 1)) /\ (decode yP 29 = .ok (.if_icmp .gt 1493, 3)) /\ (decode yP 32 = .ok (.aload_n 0, 1)) /\ (decode yP 33 = .ok (.iload 4, 2)) /\ (decode yP 35 = .ok (.iaload, 1)) /\ (decode yP 36 = .ok (.bipush 63, 2)) /\ (decode yP 38 = .ok (.iand, 1)) /\ (decode yP 39 = .ok (.tableswitch 1477 0 50 #[217, 242, 267, 280, 293, 333, 373, 410, 471, 496, 521, 558, 571, 584, 597, 610, 623, 648, 685, 698, 747, 784, 809, 822, 835, 860, 885, 910, 935, 948, 973, 998, 1011, 1024, 1049, 1074, 1099, 1112, 1125, 1150, 1163, 1188, 1201, 1238, 1263, 1288, 1325, 1374, 1399, 1424, 1449], 217)) /\ (decode yP 256 = .ok (.aload_n 1, 1)) /\ (decode yP 257 = .ok (.aload_n 0, 1)) /\ (decode yP 258 = .ok (.iload 4, 2)) /\ (decode yP 260 = .ok (.iconst 1, 1)) /\ (decode yP 261 = .ok (.iadd, 1)) /\ (decode yP 262 = .ok (.iaload, 1)) /\ (decode yP 263 = .ok (.invokevirtual 26, 3)) := @of_decide_eq_true _ (DA (i_8 _ _) (DA (aMn _ _) (DA (i_163 _ _ _) (DA (yX _ _) (DA (aBj _ _ _) (DA (aCz _ _) (DA (aCn _ _ _) (DA (aFO _ _) (DA inferInstance (DA (i_43 _ _) (DA (yX _ _) (DA (aBj _ _ _) (DA (i_4 _ _) (DA (aDj _ _) (DA (aCz _ _) (aAF _ _ _)))))))))))))))) (by decide +kernel)
theorem eL_law_266 : (decode yP 266 = .ok (.pop, 1)) /\ (decode yP 267 = .ok (.aload_n 2, 1)) /\ (decode yP 268 = .ok (.aload_n 0, 1)) /\ (decode yP 269 = .ok (.iload 4, 2)) /\ (decode yP 271 = .ok (.iconst 1, 1)) /\ (decode yP 272 = .ok (.iadd, 1)) /\ (decode yP 273 = .ok (.iaload, 1)) /\ (decode yP 274 = .ok (.invokevirtual 29, 3)) /\ (decode yP 277 = .ok (.pop, 1)) /\ (decode yP 278 = .ok (.goto 1238, 3)) /\ (decode yP 281 = .ok (.aload_n 1, 1)) /\ (decode yP 282 = .ok (.aload_n 0, 1)) /\ (decode yP 283 = .ok (.iload 4, 2)) /\ (decode yP 285 = .ok (.iconst 1, 1)) /\ (decode yP 286 = .ok (.iadd, 1)) /\ (decode yP 287 = .ok (.iaload, 1)) := @of_decide_eq_true _ (DA (i_87 _ _) (DA (i_44 _ _) (DA (yX _ _) (DA (aBj _ _ _) (DA (i_4 _ _) (DA (aDj _ _) (DA (aCz _ _) (DA (aAF _ _ _) (DA (i_87 _ _) (DA (aBs _ _ _) (DA (i_43 _ _) (DA (yX _ _) (DA (aBj _ _ _) (DA (i_4 _ _) (DA (aDj _ _) (aCz _ _)))))))))))))))) (by decide +kernel)
theorem eL_law_288 : (decode yP 288 = .ok (.invokevirtual 30, 3)) /\ (decode yP 291 = .ok (.pop, 1)) /\ (decode yP 292 = .ok (.aload_n 2, 1)) /\ (decode yP 293 = .ok (.aload_n 0, 1)) /\ (decode yP 294 = .ok (.iload 4, 2)) /\ (decode yP 296 = .ok (.iconst 1, 1)) /\ (decode yP 297 = .ok (.iadd, 1)) /\ (decode yP 298 = .ok (.iaload, 1)) /\ (decode yP 299 = .ok (.invokevirtual 34, 3)) /\ (decode yP 302 = .ok (.pop, 1)) /\ (decode yP 303 = .ok (.goto 1213, 3)) /\ (decode yP 306 = .ok (.aload_n 1, 1)) /\ (decode yP 307 = .ok (.invokevirtual 35, 3)) /\ (decode yP 310 = .ok (.pop, 1)) /\ (decode yP 311 = .ok (.aload_n 2, 1)) /\ (decode yP 312 = .ok (.invokevirtual 39, 3)) := @of_decide_eq_true _ (DA (aAF _ _ _) (DA (i_87 _ _) (DA (i_44 _ _) (DA (yX _ _) (DA (aBj _ _ _) (DA (i_4 _ _) (DA (aDj _ _) (DA (aCz _ _) (DA (aAF _ _ _) (DA (i_87 _ _) (DA (aBs _ _ _) (DA (i_43 _ _) (DA (aAF _ _ _) (DA (i_87 _ _) (DA (i_44 _ _) (aAF _ _ _)))))))))))))))) (by decide +kernel)
theorem eL_law_315 : (decode yP 315 = .ok (.pop, 1)) /\ (decode yP 316 = .ok (.goto 1200, 3)) /\ (decode yP 319 = .ok (.aload_n 1, 1)) /\ (decode yP 320 = .ok (.invokevirtual 40, 3)) /\ (decode yP 323 = .ok (.pop, 1)) /\ (decode yP 324 = .ok (.aload_n 2, 1)) /\ (decode yP 325 = .ok (.invokevirtual 43, 3)) /\ (decode yP 328 = .ok (.pop, 1)) /\ (decode yP 329 = .ok (.goto 1187, 3)) /\ (decode yP 332 = .ok (.aload_n 1, 1)) /\ (decode yP 333 = .ok (.aload_n 0, 1)) /\ (decode yP 334 = .ok (.iload 4, 2)) /\ (decode yP 336 = .ok (.iconst 1, 1)) /\ (decode yP 337 = .ok (.iadd, 1)) /\ (decode yP 338 = .ok (.iaload, 1)) /\ (decode yP 339 = .ok (.aload_n 0, 1)) := @of_decide_eq_true _ (DA (i_87 _ _) (DA (aBs _ _ _) (DA (i_43 _ _) (DA (aAF _ _ _) (DA (i_87 _ _) (DA (i_44 _ _) (DA (aAF _ _ _) (DA (i_87 _ _) (DA (aBs _ _ _) (DA (i_43 _ _) (DA (yX _ _) (DA (aBj _ _ _) (DA (i_4 _ _) (DA (aDj _ _) (DA (aCz _ _) (yX _ _)))))))))))))))) (by decide +kernel)
theorem eL_law_340 : (decode yP 340 = .ok (.iload 4, 2)) /\ (decode yP 342 = .ok (.iconst 2, 1)) /\ (decode yP 343 = .ok (.iadd, 1)) /\ (decode yP 344 = .ok (.iaload, 1)) /\ (decode yP 345 = .ok (.aload_n 3, 1)) /\ (decode yP 346 = .ok (.invokestatic 44, 3)) /\ (decode yP 349 = .ok (.istore 5, 2)) /\ (decode yP 351 = .ok (.aload_n 2, 1)) /\ (decode yP 352 = .ok (.aload_n 0, 1)) /\ (decode yP 353 = .ok (.iload 4, 2)) /\ (decode yP 355 = .ok (.iconst 1, 1)) /\ (decode yP 356 = .ok (.iadd, 1)) /\ (decode yP 357 = .ok (.iaload, 1)) /\ (decode yP 358 = .ok (.aload_n 0, 1)) /\ (decode yP 359 = .ok (.iload 4, 2)) /\ (decode yP 361 = .ok (.iconst 2, 1)) := @of_decide_eq_true _ (DA (aBj _ _ _) (DA (i_5 _ _) (DA (aDj _ _) (DA (aCz _ _) (DA (i_45 _ _) (DA (aDe _ _ _) (DA (aFH _ _ _) (DA (i_44 _ _) (DA (yX _ _) (DA (aBj _ _ _) (DA (i_4 _ _) (DA (aDj _ _) (DA (aCz _ _) (DA (yX _ _) (DA (aBj _ _ _) (i_5 _ _)))))))))))))))) (by decide +kernel)
theorem eL_law_362 : (decode yP 362 = .ok (.iadd, 1)) /\ (decode yP 363 = .ok (.iaload, 1)) /\ (decode yP 364 = .ok (.invokevirtual 49, 3)) /\ (decode yP 367 = .ok (.istore 6, 2)) /\ (decode yP 369 = .ok (.goto 1147, 3)) /\ (decode yP 372 = .ok (.aload_n 1, 1)) /\ (decode yP 373 = .ok (.aload_n 0, 1)) /\ (decode yP 374 = .ok (.iload 4, 2)) /\ (decode yP 376 = .ok (.iconst 1, 1)) /\ (decode yP 377 = .ok (.iadd, 1)) /\ (decode yP 378 = .ok (.iaload, 1)) /\ (decode yP 379 = .ok (.aload_n 0, 1)) /\ (decode yP 380 = .ok (.iload 4, 2)) /\ (decode yP 382 = .ok (.iconst 2, 1)) /\ (decode yP 383 = .ok (.iadd, 1)) /\ (decode yP 384 = .ok (.iaload, 1)) := @of_decide_eq_true _ (DA (aDj _ _) (DA (aCz _ _) (DA (aAF _ _ _) (DA (aFH _ _ _) (DA (aBs _ _ _) (DA (i_43 _ _) (DA (yX _ _) (DA (aBj _ _ _) (DA (i_4 _ _) (DA (aDj _ _) (DA (aCz _ _) (DA (yX _ _) (DA (aBj _ _ _) (DA (i_5 _ _) (DA (aDj _ _) (aCz _ _)))))))))))))))) (by decide +kernel)
theorem eL_law_385 : (decode yP 385 = .ok (.aload_n 3, 1)) /\ (decode yP 386 = .ok (.invokestatic 50, 3)) /\ (decode yP 389 = .ok (.istore 5, 2)) /\ (decode yP 391 = .ok (.aload_n 2, 1)) /\ (decode yP 392 = .ok (.aload_n 0, 1)) /\ (decode yP 393 = .ok (.iload 4, 2)) /\ (decode yP 395 = .ok (.iconst 1, 1)) /\ (decode yP 396 = .ok (.iadd, 1)) /\ (decode yP 397 = .ok (.iaload, 1)) /\ (decode yP 398 = .ok (.aload_n 0, 1)) /\ (decode yP 399 = .ok (.iload 4, 2)) /\ (decode yP 401 = .ok (.iconst 2, 1)) /\ (decode yP 402 = .ok (.iadd, 1)) /\ (decode yP 403 = .ok (.iaload, 1)) /\ (decode yP 404 = .ok (.invokevirtual 52, 3)) /\ (decode yP 407 = .ok (.istore 6, 2)) := @of_decide_eq_true _ (DA (i_45 _ _) (DA (aDe _ _ _) (DA (aFH _ _ _) (DA (i_44 _ _) (DA (yX _ _) (DA (aBj _ _ _) (DA (i_4 _ _) (DA (aDj _ _) (DA (aCz _ _) (DA (yX _ _) (DA (aBj _ _ _) (DA (i_5 _ _) (DA (aDj _ _) (DA (aCz _ _) (DA (aAF _ _ _) (aFH _ _ _)))))))))))))))) (by decide +kernel)
theorem eL_law_409 : (decode yP 409 = .ok (.goto 1107, 3)) /\ (decode yP 412 = .ok (.aload_n 1, 1)) /\ (decode yP 413 = .ok (.aload_n 0, 1)) /\ (decode yP 414 = .ok (.iload 4, 2)) /\ (decode yP 416 = .ok (.iconst 1, 1)) /\ (decode yP 417 = .ok (.iadd, 1)) /\ (decode yP 418 = .ok (.iaload, 1)) /\ (decode yP 419 = .ok (.aload_n 0, 1)) /\ (decode yP 420 = .ok (.iload 4, 2)) /\ (decode yP 422 = .ok (.iconst 2, 1)) /\ (decode yP 423 = .ok (.iadd, 1)) /\ (decode yP 424 = .ok (.iaload, 1)) /\ (decode yP 425 = .ok (.invokevirtual 53, 3)) /\ (decode yP 428 = .ok (.pop, 1)) /\ (decode yP 429 = .ok (.aload_n 2, 1)) /\ (decode yP 430 = .ok (.aload_n 0, 1)) := @of_decide_eq_true _ (DA (aBs _ _ _) (DA (i_43 _ _) (DA (yX _ _) (DA (aBj _ _ _) (DA (i_4 _ _) (DA (aDj _ _) (DA (aCz _ _) (DA (yX _ _) (DA (aBj _ _ _) (DA (i_5 _ _) (DA (aDj _ _) (DA (aCz _ _) (DA (aAF _ _ _) (DA (i_87 _ _) (DA (i_44 _ _) (yX _ _)))))))))))))))) (by decide +kernel)
theorem eL_law_431 : (decode yP 431 = .ok (.iload 4, 2)) /\ (decode yP 433 = .ok (.iconst 1, 1)) /\ (decode yP 434 = .ok (.iadd, 1)) /\ (decode yP 435 = .ok (.iaload, 1)) /\ (decode yP 436 = .ok (.aload_n 0, 1)) /\ (decode yP 437 = .ok (.iload 4, 2)) /\ (decode yP 439 = .ok (.iconst 2, 1)) /\ (decode yP 440 = .ok (.iadd, 1)) /\ (decode yP 441 = .ok (.iaload, 1)) /\ (decode yP 442 = .ok (.invokevirtual 56, 3)) /\ (decode yP 445 = .ok (.pop, 1)) /\ (decode yP 446 = .ok (.goto 1070, 3)) /\ (decode yP 449 = .ok (.aload_n 1, 1)) /\ (decode yP 450 = .ok (.aload_n 0, 1)) /\ (decode yP 451 = .ok (.iload 4, 2)) /\ (decode yP 453 = .ok (.iconst 1, 1)) := @of_decide_eq_true _ (DA (aBj _ _ _) (DA (i_4 _ _) (DA (aDj _ _) (DA (aCz _ _) (DA (yX _ _) (DA (aBj _ _ _) (DA (i_5 _ _) (DA (aDj _ _) (DA (aCz _ _) (DA (aAF _ _ _) (DA (i_87 _ _) (DA (aBs _ _ _) (DA (i_43 _ _) (DA (yX _ _) (DA (aBj _ _ _) (i_4 _ _)))))))))))))))) (by decide +kernel)
theorem eL_law_454 : (decode yP 454 = .ok (.iadd, 1)) /\ (decode yP 455 = .ok (.iaload, 1)) /\ (decode yP 456 = .ok (.aload_n 0, 1)) /\ (decode yP 457 = .ok (.iload 4, 2)) /\ (decode yP 459 = .ok (.iconst 2, 1)) /\ (decode yP 460 = .ok (.iadd, 1)) /\ (decode yP 461 = .ok (.iaload, 1)) /\ (decode yP 462 = .ok (.aload_n 0, 1)) /\ (decode yP 463 = .ok (.iload 4, 2)) /\ (decode yP 465 = .ok (.iconst 3, 1)) /\ (decode yP 466 = .ok (.iadd, 1)) /\ (decode yP 467 = .ok (.iaload, 1)) /\ (decode yP 468 = .ok (.aload_n 0, 1)) /\ (decode yP 469 = .ok (.iload 4, 2)) /\ (decode yP 471 = .ok (.iconst 4, 1)) /\ (decode yP 472 = .ok (.iadd, 1)) := @of_decide_eq_true _ (DA (aDj _ _) (DA (aCz _ _) (DA (yX _ _) (DA (aBj _ _ _) (DA (i_5 _ _) (DA (aDj _ _) (DA (aCz _ _) (DA (yX _ _) (DA (aBj _ _ _) (DA (i_6 _ _) (DA (aDj _ _) (DA (aCz _ _) (DA (yX _ _) (DA (aBj _ _ _) (DA (i_7 _ _) (aDj _ _)))))))))))))))) (by decide +kernel)
theorem eL_law_473 : (decode yP 473 = .ok (.iaload, 1)) /\ (decode yP 474 = .ok (.invokevirtual 57, 3)) /\ (decode yP 477 = .ok (.pop, 1)) /\ (decode yP 478 = .ok (.aload_n 2, 1)) /\ (decode yP 479 = .ok (.aload_n 0, 1)) /\ (decode yP 480 = .ok (.iload 4, 2)) /\ (decode yP 482 = .ok (.iconst 1, 1)) /\ (decode yP 483 = .ok (.iadd, 1)) /\ (decode yP 484 = .ok (.iaload, 1)) /\ (decode yP 485 = .ok (.aload_n 0, 1)) /\ (decode yP 486 = .ok (.iload 4, 2)) /\ (decode yP 488 = .ok (.iconst 2, 1)) /\ (decode yP 489 = .ok (.iadd, 1)) /\ (decode yP 490 = .ok (.iaload, 1)) /\ (decode yP 491 = .ok (.aload_n 0, 1)) /\ (decode yP 492 = .ok (.iload 4, 2)) := @of_decide_eq_true _ (DA (aCz _ _) (DA (aAF _ _ _) (DA (i_87 _ _) (DA (i_44 _ _) (DA (yX _ _) (DA (aBj _ _ _) (DA (i_4 _ _) (DA (aDj _ _) (DA (aCz _ _) (DA (yX _ _) (DA (aBj _ _ _) (DA (i_5 _ _) (DA (aDj _ _) (DA (aCz _ _) (DA (yX _ _) (aBj _ _ _)))))))))))))))) (by decide +kernel)
theorem eL_law_494 : (decode yP 494 = .ok (.iconst 3, 1)) /\ (decode yP 495 = .ok (.iadd, 1)) /\ (decode yP 496 = .ok (.iaload, 1)) /\ (decode yP 497 = .ok (.aload_n 0, 1)) /\ (decode yP 498 = .ok (.iload 4, 2)) /\ (decode yP 500 = .ok (.iconst 4, 1)) /\ (decode yP 501 = .ok (.iadd, 1)) /\ (decode yP 502 = .ok (.iaload, 1)) /\ (decode yP 503 = .ok (.invokevirtual 61, 3)) /\ (decode yP 506 = .ok (.pop, 1)) /\ (decode yP 507 = .ok (.goto 1009, 3)) /\ (decode yP 510 = .ok (.aload_n 1, 1)) /\ (decode yP 511 = .ok (.aload_n 0, 1)) /\ (decode yP 512 = .ok (.iload 4, 2)) /\ (decode yP 514 = .ok (.iconst 1, 1)) /\ (decode yP 515 = .ok (.iadd, 1)) := @of_decide_eq_true _ (DA (i_6 _ _) (DA (aDj _ _) (DA (aCz _ _) (DA (yX _ _) (DA (aBj _ _ _) (DA (i_7 _ _) (DA (aDj _ _) (DA (aCz _ _) (DA (aAF _ _ _) (DA (i_87 _ _) (DA (aBs _ _ _) (DA (i_43 _ _) (DA (yX _ _) (DA (aBj _ _ _) (DA (i_4 _ _) (aDj _ _)))))))))))))))) (by decide +kernel)
theorem eL_law_516 : (decode yP 516 = .ok (.iaload, 1)) /\ (decode yP 517 = .ok (.invokevirtual 62, 3)) /\ (decode yP 520 = .ok (.pop, 1)) /\ (decode yP 521 = .ok (.aload_n 2, 1)) /\ (decode yP 522 = .ok (.aload_n 0, 1)) /\ (decode yP 523 = .ok (.iload 4, 2)) /\ (decode yP 525 = .ok (.iconst 1, 1)) /\ (decode yP 526 = .ok (.iadd, 1)) /\ (decode yP 527 = .ok (.iaload, 1)) /\ (decode yP 528 = .ok (.invokevirtual 65, 3)) /\ (decode yP 531 = .ok (.pop, 1)) /\ (decode yP 532 = .ok (.goto 984, 3)) /\ (decode yP 535 = .ok (.aload_n 1, 1)) /\ (decode yP 536 = .ok (.aload_n 0, 1)) /\ (decode yP 537 = .ok (.iload 4, 2)) /\ (decode yP 539 = .ok (.iconst 1, 1)) := @of_decide_eq_true _ (DA (aCz _ _) (DA (aAF _ _ _) (DA (i_87 _ _) (DA (i_44 _ _) (DA (yX _ _) (DA (aBj _ _ _) (DA (i_4 _ _) (DA (aDj _ _) (DA (aCz _ _) (DA (aAF _ _ _) (DA (i_87 _ _) (DA (aBs _ _ _) (DA (i_43 _ _) (DA (yX _ _) (DA (aBj _ _ _) (i_4 _ _)))))))))))))))) (by decide +kernel)
theorem eL_law_540 : (decode yP 540 = .ok (.iadd, 1)) /\ (decode yP 541 = .ok (.iaload, 1)) /\ (decode yP 542 = .ok (.invokevirtual 66, 3)) /\ (decode yP 545 = .ok (.pop, 1)) /\ (decode yP 546 = .ok (.aload_n 2, 1)) /\ (decode yP 547 = .ok (.aload_n 0, 1)) /\ (decode yP 548 = .ok (.iload 4, 2)) /\ (decode yP 550 = .ok (.iconst 1, 1)) /\ (decode yP 551 = .ok (.iadd, 1)) /\ (decode yP 552 = .ok (.iaload, 1)) /\ (decode yP 553 = .ok (.invokevirtual 69, 3)) /\ (decode yP 556 = .ok (.pop, 1)) /\ (decode yP 557 = .ok (.goto 959, 3)) /\ (decode yP 560 = .ok (.aload_n 1, 1)) /\ (decode yP 561 = .ok (.aload_n 0, 1)) /\ (decode yP 562 = .ok (.iload 4, 2)) := @of_decide_eq_true _ (DA (aDj _ _) (DA (aCz _ _) (DA (aAF _ _ _) (DA (i_87 _ _) (DA (i_44 _ _) (DA (yX _ _) (DA (aBj _ _ _) (DA (i_4 _ _) (DA (aDj _ _) (DA (aCz _ _) (DA (aAF _ _ _) (DA (i_87 _ _) (DA (aBs _ _ _) (DA (i_43 _ _) (DA (yX _ _) (aBj _ _ _)))))))))))))))) (by decide +kernel)
theorem eL_law_564 : (decode yP 564 = .ok (.iconst 1, 1)) /\ (decode yP 565 = .ok (.iadd, 1)) /\ (decode yP 566 = .ok (.iaload, 1)) /\ (decode yP 567 = .ok (.aload_n 0, 1)) /\ (decode yP 568 = .ok (.iload 4, 2)) /\ (decode yP 570 = .ok (.iconst 2, 1)) /\ (decode yP 571 = .ok (.iadd, 1)) /\ (decode yP 572 = .ok (.iaload, 1)) /\ (decode yP 573 = .ok (.invokevirtual 70, 3)) /\ (decode yP 576 = .ok (.pop, 1)) /\ (decode yP 577 = .ok (.aload_n 2, 1)) /\ (decode yP 578 = .ok (.aload_n 0, 1)) /\ (decode yP 579 = .ok (.iload 4, 2)) /\ (decode yP 581 = .ok (.iconst 1, 1)) /\ (decode yP 582 = .ok (.iadd, 1)) /\ (decode yP 583 = .ok (.iaload, 1)) := @of_decide_eq_true _ (DA (i_4 _ _) (DA (aDj _ _) (DA (aCz _ _) (DA (yX _ _) (DA (aBj _ _ _) (DA (i_5 _ _) (DA (aDj _ _) (DA (aCz _ _) (DA (aAF _ _ _) (DA (i_87 _ _) (DA (i_44 _ _) (DA (yX _ _) (DA (aBj _ _ _) (DA (i_4 _ _) (DA (aDj _ _) (aCz _ _)))))))))))))))) (by decide +kernel)
theorem eL_law_584 : (decode yP 584 = .ok (.aload_n 0, 1)) /\ (decode yP 585 = .ok (.iload 4, 2)) /\ (decode yP 587 = .ok (.iconst 2, 1)) /\ (decode yP 588 = .ok (.iadd, 1)) /\ (decode yP 589 = .ok (.iaload, 1)) /\ (decode yP 590 = .ok (.invokevirtual 73, 3)) /\ (decode yP 593 = .ok (.pop, 1)) /\ (decode yP 594 = .ok (.goto 922, 3)) /\ (decode yP 597 = .ok (.aload_n 1, 1)) /\ (decode yP 598 = .ok (.invokevirtual 74, 3)) /\ (decode yP 601 = .ok (.pop, 1)) /\ (decode yP 602 = .ok (.aload_n 2, 1)) /\ (decode yP 603 = .ok (.invokevirtual 77, 3)) /\ (decode yP 606 = .ok (.pop, 1)) /\ (decode yP 607 = .ok (.goto 909, 3)) /\ (decode yP 610 = .ok (.aload_n 1, 1)) := @of_decide_eq_true _ (DA (yX _ _) (DA (aBj _ _ _) (DA (i_5 _ _) (DA (aDj _ _) (DA (aCz _ _) (DA (aAF _ _ _) (DA (i_87 _ _) (DA (aBs _ _ _) (DA (i_43 _ _) (DA (aAF _ _ _) (DA (i_87 _ _) (DA (i_44 _ _) (DA (aAF _ _ _) (DA (i_87 _ _) (DA (aBs _ _ _) (i_43 _ _)))))))))))))))) (by decide +kernel)
theorem eL_law_611 : (decode yP 611 = .ok (.invokevirtual 78, 3)) /\ (decode yP 614 = .ok (.pop, 1)) /\ (decode yP 615 = .ok (.aload_n 2, 1)) /\ (decode yP 616 = .ok (.invokevirtual 81, 3)) /\ (decode yP 619 = .ok (.pop, 1)) /\ (decode yP 620 = .ok (.goto 896, 3)) /\ (decode yP 623 = .ok (.aload_n 1, 1)) /\ (decode yP 624 = .ok (.invokevirtual 82, 3)) /\ (decode yP 627 = .ok (.pop, 1)) /\ (decode yP 628 = .ok (.aload_n 2, 1)) /\ (decode yP 629 = .ok (.invokevirtual 85, 3)) /\ (decode yP 632 = .ok (.pop, 1)) /\ (decode yP 633 = .ok (.goto 883, 3)) /\ (decode yP 636 = .ok (.aload_n 1, 1)) /\ (decode yP 637 = .ok (.invokevirtual 86, 3)) /\ (decode yP 640 = .ok (.pop, 1)) := @of_decide_eq_true _ (DA (aAF _ _ _) (DA (i_87 _ _) (DA (i_44 _ _) (DA (aAF _ _ _) (DA (i_87 _ _) (DA (aBs _ _ _) (DA (i_43 _ _) (DA (aAF _ _ _) (DA (i_87 _ _) (DA (i_44 _ _) (DA (aAF _ _ _) (DA (i_87 _ _) (DA (aBs _ _ _) (DA (i_43 _ _) (DA (aAF _ _ _) (i_87 _ _)))))))))))))))) (by decide +kernel)
theorem eL_law_641 : (decode yP 641 = .ok (.aload_n 2, 1)) /\ (decode yP 642 = .ok (.invokevirtual 89, 3)) /\ (decode yP 645 = .ok (.pop, 1)) /\ (decode yP 646 = .ok (.goto 870, 3)) /\ (decode yP 649 = .ok (.aload_n 1, 1)) /\ (decode yP 650 = .ok (.invokevirtual 90, 3)) /\ (decode yP 653 = .ok (.pop, 1)) /\ (decode yP 654 = .ok (.aload_n 2, 1)) /\ (decode yP 655 = .ok (.invokevirtual 93, 3)) /\ (decode yP 658 = .ok (.pop, 1)) /\ (decode yP 659 = .ok (.goto 857, 3)) /\ (decode yP 662 = .ok (.aload_n 1, 1)) /\ (decode yP 663 = .ok (.aload_n 0, 1)) /\ (decode yP 664 = .ok (.iload 4, 2)) /\ (decode yP 666 = .ok (.iconst 1, 1)) /\ (decode yP 667 = .ok (.iadd, 1)) := @of_decide_eq_true _ (DA (i_44 _ _) (DA (aAF _ _ _) (DA (i_87 _ _) (DA (aBs _ _ _) (DA (i_43 _ _) (DA (aAF _ _ _) (DA (i_87 _ _) (DA (i_44 _ _) (DA (aAF _ _ _) (DA (i_87 _ _) (DA (aBs _ _ _) (DA (i_43 _ _) (DA (yX _ _) (DA (aBj _ _ _) (DA (i_4 _ _) (aDj _ _)))))))))))))))) (by decide +kernel)
theorem eL_law_668 : (decode yP 668 = .ok (.iaload, 1)) /\ (decode yP 669 = .ok (.invokevirtual 94, 3)) /\ (decode yP 672 = .ok (.pop, 1)) /\ (decode yP 673 = .ok (.aload_n 2, 1)) /\ (decode yP 674 = .ok (.aload_n 0, 1)) /\ (decode yP 675 = .ok (.iload 4, 2)) /\ (decode yP 677 = .ok (.iconst 1, 1)) /\ (decode yP 678 = .ok (.iadd, 1)) /\ (decode yP 679 = .ok (.iaload, 1)) /\ (decode yP 680 = .ok (.invokevirtual 97, 3)) /\ (decode yP 683 = .ok (.pop, 1)) /\ (decode yP 684 = .ok (.goto 832, 3)) /\ (decode yP 687 = .ok (.aload_n 1, 1)) /\ (decode yP 688 = .ok (.aload_n 0, 1)) /\ (decode yP 689 = .ok (.iload 4, 2)) /\ (decode yP 691 = .ok (.iconst 1, 1)) := @of_decide_eq_true _ (DA (aCz _ _) (DA (aAF _ _ _) (DA (i_87 _ _) (DA (i_44 _ _) (DA (yX _ _) (DA (aBj _ _ _) (DA (i_4 _ _) (DA (aDj _ _) (DA (aCz _ _) (DA (aAF _ _ _) (DA (i_87 _ _) (DA (aBs _ _ _) (DA (i_43 _ _) (DA (yX _ _) (DA (aBj _ _ _) (i_4 _ _)))))))))))))))) (by decide +kernel)
theorem eL_law_692 : (decode yP 692 = .ok (.iadd, 1)) /\ (decode yP 693 = .ok (.iaload, 1)) /\ (decode yP 694 = .ok (.aload_n 0, 1)) /\ (decode yP 695 = .ok (.iload 4, 2)) /\ (decode yP 697 = .ok (.iconst 2, 1)) /\ (decode yP 698 = .ok (.iadd, 1)) /\ (decode yP 699 = .ok (.iaload, 1)) /\ (decode yP 700 = .ok (.invokevirtual 98, 3)) /\ (decode yP 703 = .ok (.pop, 1)) /\ (decode yP 704 = .ok (.aload_n 2, 1)) /\ (decode yP 705 = .ok (.aload_n 0, 1)) /\ (decode yP 706 = .ok (.iload 4, 2)) /\ (decode yP 708 = .ok (.iconst 1, 1)) /\ (decode yP 709 = .ok (.iadd, 1)) /\ (decode yP 710 = .ok (.iaload, 1)) /\ (decode yP 711 = .ok (.aload_n 0, 1)) := @of_decide_eq_true _ (DA (aDj _ _) (DA (aCz _ _) (DA (yX _ _) (DA (aBj _ _ _) (DA (i_5 _ _) (DA (aDj _ _) (DA (aCz _ _) (DA (aAF _ _ _) (DA (i_87 _ _) (DA (i_44 _ _) (DA (yX _ _) (DA (aBj _ _ _) (DA (i_4 _ _) (DA (aDj _ _) (DA (aCz _ _) (yX _ _)))))))))))))))) (by decide +kernel)
theorem eL_law_712 : (decode yP 712 = .ok (.iload 4, 2)) /\ (decode yP 714 = .ok (.iconst 2, 1)) /\ (decode yP 715 = .ok (.iadd, 1)) /\ (decode yP 716 = .ok (.iaload, 1)) /\ (decode yP 717 = .ok (.invokevirtual 101, 3)) /\ (decode yP 720 = .ok (.pop, 1)) /\ (decode yP 721 = .ok (.goto 795, 3)) /\ (decode yP 724 = .ok (.aload_n 1, 1)) /\ (decode yP 725 = .ok (.invokevirtual 102, 3)) /\ (decode yP 728 = .ok (.pop, 1)) /\ (decode yP 729 = .ok (.aload_n 2, 1)) /\ (decode yP 730 = .ok (.invokevirtual 105, 3)) /\ (decode yP 733 = .ok (.pop, 1)) /\ (decode yP 734 = .ok (.goto 782, 3)) /\ (decode yP 737 = .ok (.aload_n 1, 1)) /\ (decode yP 738 = .ok (.aload_n 0, 1)) := @of_decide_eq_true _ (DA (aBj _ _ _) (DA (i_5 _ _) (DA (aDj _ _) (DA (aCz _ _) (DA (aAF _ _ _) (DA (i_87 _ _) (DA (aBs _ _ _) (DA (i_43 _ _) (DA (aAF _ _ _) (DA (i_87 _ _) (DA (i_44 _ _) (DA (aAF _ _ _) (DA (i_87 _ _) (DA (aBs _ _ _) (DA (i_43 _ _) (yX _ _)))))))))))))))) (by decide +kernel)
theorem eL_law_739 : (decode yP 739 = .ok (.iload 4, 2)) /\ (decode yP 741 = .ok (.iconst 1, 1)) /\ (decode yP 742 = .ok (.iadd, 1)) /\ (decode yP 743 = .ok (.iaload, 1)) /\ (decode yP 744 = .ok (.aload_n 0, 1)) /\ (decode yP 745 = .ok (.iload 4, 2)) /\ (decode yP 747 = .ok (.iconst 2, 1)) /\ (decode yP 748 = .ok (.iadd, 1)) /\ (decode yP 749 = .ok (.iaload, 1)) /\ (decode yP 750 = .ok (.aload_n 0, 1)) /\ (decode yP 751 = .ok (.iload 4, 2)) /\ (decode yP 753 = .ok (.iconst 3, 1)) /\ (decode yP 754 = .ok (.iadd, 1)) /\ (decode yP 755 = .ok (.iaload, 1)) /\ (decode yP 756 = .ok (.invokevirtual 106, 3)) /\ (decode yP 759 = .ok (.pop, 1)) := @of_decide_eq_true _ (DA (aBj _ _ _) (DA (i_4 _ _) (DA (aDj _ _) (DA (aCz _ _) (DA (yX _ _) (DA (aBj _ _ _) (DA (i_5 _ _) (DA (aDj _ _) (DA (aCz _ _) (DA (yX _ _) (DA (aBj _ _ _) (DA (i_6 _ _) (DA (aDj _ _) (DA (aCz _ _) (DA (aAF _ _ _) (i_87 _ _)))))))))))))))) (by decide +kernel)
theorem eL_law_760 : (decode yP 760 = .ok (.aload_n 2, 1)) /\ (decode yP 761 = .ok (.aload_n 0, 1)) /\ (decode yP 762 = .ok (.iload 4, 2)) /\ (decode yP 764 = .ok (.iconst 1, 1)) /\ (decode yP 765 = .ok (.iadd, 1)) /\ (decode yP 766 = .ok (.iaload, 1)) /\ (decode yP 767 = .ok (.aload_n 0, 1)) /\ (decode yP 768 = .ok (.iload 4, 2)) /\ (decode yP 770 = .ok (.iconst 2, 1)) /\ (decode yP 771 = .ok (.iadd, 1)) /\ (decode yP 772 = .ok (.iaload, 1)) /\ (decode yP 773 = .ok (.aload_n 0, 1)) /\ (decode yP 774 = .ok (.iload 4, 2)) /\ (decode yP 776 = .ok (.iconst 3, 1)) /\ (decode yP 777 = .ok (.iadd, 1)) /\ (decode yP 778 = .ok (.iaload, 1)) := @of_decide_eq_true _ (DA (i_44 _ _) (DA (yX _ _) (DA (aBj _ _ _) (DA (i_4 _ _) (DA (aDj _ _) (DA (aCz _ _) (DA (yX _ _) (DA (aBj _ _ _) (DA (i_5 _ _) (DA (aDj _ _) (DA (aCz _ _) (DA (yX _ _) (DA (aBj _ _ _) (DA (i_6 _ _) (DA (aDj _ _) (aCz _ _)))))))))))))))) (by decide +kernel)
theorem eL_law_779 : (decode yP 779 = .ok (.invokevirtual 110, 3)) /\ (decode yP 782 = .ok (.pop, 1)) /\ (decode yP 783 = .ok (.goto 733, 3)) /\ (decode yP 786 = .ok (.aload_n 1, 1)) /\ (decode yP 787 = .ok (.aload_n 0, 1)) /\ (decode yP 788 = .ok (.iload 4, 2)) /\ (decode yP 790 = .ok (.iconst 1, 1)) /\ (decode yP 791 = .ok (.iadd, 1)) /\ (decode yP 792 = .ok (.iaload, 1)) /\ (decode yP 793 = .ok (.aload_n 0, 1)) /\ (decode yP 794 = .ok (.iload 4, 2)) /\ (decode yP 796 = .ok (.iconst 2, 1)) /\ (decode yP 797 = .ok (.iadd, 1)) /\ (decode yP 798 = .ok (.iaload, 1)) /\ (decode yP 799 = .ok (.invokevirtual 111, 3)) /\ (decode yP 802 = .ok (.pop, 1)) := @of_decide_eq_true _ (DA (aAF _ _ _) (DA (i_87 _ _) (DA (aBs _ _ _) (DA (i_43 _ _) (DA (yX _ _) (DA (aBj _ _ _) (DA (i_4 _ _) (DA (aDj _ _) (DA (aCz _ _) (DA (yX _ _) (DA (aBj _ _ _) (DA (i_5 _ _) (DA (aDj _ _) (DA (aCz _ _) (DA (aAF _ _ _) (i_87 _ _)))))))))))))))) (by decide +kernel)
theorem eL_law_803 : (decode yP 803 = .ok (.aload_n 2, 1)) /\ (decode yP 804 = .ok (.aload_n 0, 1)) /\ (decode yP 805 = .ok (.iload 4, 2)) /\ (decode yP 807 = .ok (.iconst 1, 1)) /\ (decode yP 808 = .ok (.iadd, 1)) /\ (decode yP 809 = .ok (.iaload, 1)) /\ (decode yP 810 = .ok (.aload_n 0, 1)) /\ (decode yP 811 = .ok (.iload 4, 2)) /\ (decode yP 813 = .ok (.iconst 2, 1)) /\ (decode yP 814 = .ok (.iadd, 1)) /\ (decode yP 815 = .ok (.iaload, 1)) /\ (decode yP 816 = .ok (.invokevirtual 114, 3)) /\ (decode yP 819 = .ok (.pop, 1)) /\ (decode yP 820 = .ok (.goto 696, 3)) /\ (decode yP 823 = .ok (.aload_n 1, 1)) /\ (decode yP 824 = .ok (.aload_n 0, 1)) := @of_decide_eq_true _ (DA (i_44 _ _) (DA (yX _ _) (DA (aBj _ _ _) (DA (i_4 _ _) (DA (aDj _ _) (DA (aCz _ _) (DA (yX _ _) (DA (aBj _ _ _) (DA (i_5 _ _) (DA (aDj _ _) (DA (aCz _ _) (DA (aAF _ _ _) (DA (i_87 _ _) (DA (aBs _ _ _) (DA (i_43 _ _) (yX _ _)))))))))))))))) (by decide +kernel)
theorem eL_law_825 : (decode yP 825 = .ok (.iload 4, 2)) /\ (decode yP 827 = .ok (.iconst 1, 1)) /\ (decode yP 828 = .ok (.iadd, 1)) /\ (decode yP 829 = .ok (.iaload, 1)) /\ (decode yP 830 = .ok (.invokevirtual 115, 3)) /\ (decode yP 833 = .ok (.pop, 1)) /\ (decode yP 834 = .ok (.aload_n 2, 1)) /\ (decode yP 835 = .ok (.aload_n 0, 1)) /\ (decode yP 836 = .ok (.iload 4, 2)) /\ (decode yP 838 = .ok (.iconst 1, 1)) /\ (decode yP 839 = .ok (.iadd, 1)) /\ (decode yP 840 = .ok (.iaload, 1)) /\ (decode yP 841 = .ok (.invokevirtual 118, 3)) /\ (decode yP 844 = .ok (.pop, 1)) /\ (decode yP 845 = .ok (.goto 671, 3)) /\ (decode yP 848 = .ok (.aload_n 1, 1)) := @of_decide_eq_true _ (DA (aBj _ _ _) (DA (i_4 _ _) (DA (aDj _ _) (DA (aCz _ _) (DA (aAF _ _ _) (DA (i_87 _ _) (DA (i_44 _ _) (DA (yX _ _) (DA (aBj _ _ _) (DA (i_4 _ _) (DA (aDj _ _) (DA (aCz _ _) (DA (aAF _ _ _) (DA (i_87 _ _) (DA (aBs _ _ _) (i_43 _ _)))))))))))))))) (by decide +kernel)
theorem eL_law_849 : (decode yP 849 = .ok (.invokevirtual 119, 3)) /\ (decode yP 852 = .ok (.pop, 1)) /\ (decode yP 853 = .ok (.aload_n 2, 1)) /\ (decode yP 854 = .ok (.invokevirtual 122, 3)) /\ (decode yP 857 = .ok (.pop, 1)) /\ (decode yP 858 = .ok (.goto 658, 3)) /\ (decode yP 861 = .ok (.aload_n 1, 1)) /\ (decode yP 862 = .ok (.invokevirtual 123, 3)) /\ (decode yP 865 = .ok (.pop, 1)) /\ (decode yP 866 = .ok (.aload_n 2, 1)) /\ (decode yP 867 = .ok (.invokevirtual 126, 3)) /\ (decode yP 870 = .ok (.pop, 1)) /\ (decode yP 871 = .ok (.goto 645, 3)) /\ (decode yP 874 = .ok (.aload_n 1, 1)) /\ (decode yP 875 = .ok (.aload_n 0, 1)) /\ (decode yP 876 = .ok (.iload 4, 2)) := @of_decide_eq_true _ (DA (aAF _ _ _) (DA (i_87 _ _) (DA (i_44 _ _) (DA (aAF _ _ _) (DA (i_87 _ _) (DA (aBs _ _ _) (DA (i_43 _ _) (DA (aAF _ _ _) (DA (i_87 _ _) (DA (i_44 _ _) (DA (aAF _ _ _) (DA (i_87 _ _) (DA (aBs _ _ _) (DA (i_43 _ _) (DA (yX _ _) (aBj _ _ _)))))))))))))))) (by decide +kernel)
theorem eL_law_878 : (decode yP 878 = .ok (.iconst 1, 1)) /\ (decode yP 879 = .ok (.iadd, 1)) /\ (decode yP 880 = .ok (.iaload, 1)) /\ (decode yP 881 = .ok (.invokevirtual 127, 3)) /\ (decode yP 884 = .ok (.pop, 1)) /\ (decode yP 885 = .ok (.aload_n 2, 1)) /\ (decode yP 886 = .ok (.aload_n 0, 1)) /\ (decode yP 887 = .ok (.iload 4, 2)) /\ (decode yP 889 = .ok (.iconst 1, 1)) /\ (decode yP 890 = .ok (.iadd, 1)) /\ (decode yP 891 = .ok (.iaload, 1)) := @of_decide_eq_true _ (DA (i_4 _ _) (DA (aDj _ _) (DA (aCz _ _) (DA (aAF _ _ _) (DA (i_87 _ _) (DA (i_44 _ _) (DA (yX _ _) (DA (aBj _ _ _) (DA (i_4 _ _) (DA (aDj _ _) (aCz _ _))))))))))) (by decide +kernel)
theorem eL_law_892 : (decode yP 892 = .ok (.invokevirtual 130, 3)) /\ (decode yP 895 = .ok (.pop, 1)) /\ (decode yP 896 = .ok (.goto 620, 3)) /\ (decode yP 899 = .ok (.aload_n 1, 1)) /\ (decode yP 900 = .ok (.aload_n 0, 1)) /\ (decode yP 901 = .ok (.iload 4, 2)) /\ (decode yP 903 = .ok (.iconst 1, 1)) /\ (decode yP 904 = .ok (.iadd, 1)) /\ (decode yP 905 = .ok (.iaload, 1)) /\ (decode yP 906 = .ok (.invokevirtual 131, 3)) /\ (decode yP 909 = .ok (.pop, 1)) /\ (decode yP 910 = .ok (.aload_n 2, 1)) /\ (decode yP 911 = .ok (.aload_n 0, 1)) /\ (decode yP 912 = .ok (.iload 4, 2)) /\ (decode yP 914 = .ok (.iconst 1, 1)) /\ (decode yP 915 = .ok (.iadd, 1)) := @of_decide_eq_true _ (DA (aAF _ _ _) (DA (i_87 _ _) (DA (aBs _ _ _) (DA (i_43 _ _) (DA (yX _ _) (DA (aBj _ _ _) (DA (i_4 _ _) (DA (aDj _ _) (DA (aCz _ _) (DA (aAF _ _ _) (DA (i_87 _ _) (DA (i_44 _ _) (DA (yX _ _) (DA (aBj _ _ _) (DA (i_4 _ _) (aDj _ _)))))))))))))))) (by decide +kernel)
theorem eL_law_916 : (decode yP 916 = .ok (.iaload, 1)) /\ (decode yP 917 = .ok (.invokevirtual 134, 3)) /\ (decode yP 920 = .ok (.pop, 1)) /\ (decode yP 921 = .ok (.goto 595, 3)) /\ (decode yP 924 = .ok (.aload_n 1, 1)) /\ (decode yP 925 = .ok (.aload_n 0, 1)) /\ (decode yP 926 = .ok (.iload 4, 2)) /\ (decode yP 928 = .ok (.iconst 1, 1)) /\ (decode yP 929 = .ok (.iadd, 1)) /\ (decode yP 930 = .ok (.iaload, 1)) /\ (decode yP 931 = .ok (.invokevirtual 135, 3)) /\ (decode yP 934 = .ok (.aload_n 2, 1)) /\ (decode yP 935 = .ok (.aload_n 0, 1)) /\ (decode yP 936 = .ok (.iload 4, 2)) /\ (decode yP 938 = .ok (.iconst 1, 1)) /\ (decode yP 939 = .ok (.iadd, 1)) := @of_decide_eq_true _ (DA (aCz _ _) (DA (aAF _ _ _) (DA (i_87 _ _) (DA (aBs _ _ _) (DA (i_43 _ _) (DA (yX _ _) (DA (aBj _ _ _) (DA (i_4 _ _) (DA (aDj _ _) (DA (aCz _ _) (DA (aAF _ _ _) (DA (i_44 _ _) (DA (yX _ _) (DA (aBj _ _ _) (DA (i_4 _ _) (aDj _ _)))))))))))))))) (by decide +kernel)
theorem eL_law_940 : (decode yP 940 = .ok (.iaload, 1)) /\ (decode yP 941 = .ok (.invokevirtual 138, 3)) /\ (decode yP 944 = .ok (.if_icmp .eq 572, 3)) /\ (decode yP 947 = .ok (.iconst 0, 1)) /\ (decode yP 948 = .ok (.ireturn, 1)) /\ (decode yP 949 = .ok (.aload_n 1, 1)) /\ (decode yP 950 = .ok (.aload_n 0, 1)) /\ (decode yP 951 = .ok (.iload 4, 2)) /\ (decode yP 953 = .ok (.iconst 1, 1)) /\ (decode yP 954 = .ok (.iadd, 1)) /\ (decode yP 955 = .ok (.iaload, 1)) /\ (decode yP 956 = .ok (.invokevirtual 139, 3)) /\ (decode yP 959 = .ok (.pop, 1)) /\ (decode yP 960 = .ok (.aload_n 2, 1)) /\ (decode yP 961 = .ok (.aload_n 0, 1)) /\ (decode yP 962 = .ok (.iload 4, 2)) := @of_decide_eq_true _ (DA (aCz _ _) (DA (aAF _ _ _) (DA (i_159 _ _ _) (DA (i_3 _ _) (DA (aBM _ _) (DA (i_43 _ _) (DA (yX _ _) (DA (aBj _ _ _) (DA (i_4 _ _) (DA (aDj _ _) (DA (aCz _ _) (DA (aAF _ _ _) (DA (i_87 _ _) (DA (i_44 _ _) (DA (yX _ _) (aBj _ _ _)))))))))))))))) (by decide +kernel)
theorem eL_law_964 : (decode yP 964 = .ok (.iconst 1, 1)) /\ (decode yP 965 = .ok (.iadd, 1)) /\ (decode yP 966 = .ok (.iaload, 1)) /\ (decode yP 967 = .ok (.invokevirtual 142, 3)) /\ (decode yP 970 = .ok (.pop, 1)) /\ (decode yP 971 = .ok (.goto 545, 3)) /\ (decode yP 974 = .ok (.aload_n 1, 1)) /\ (decode yP 975 = .ok (.invokevirtual 143, 3)) /\ (decode yP 978 = .ok (.pop, 1)) /\ (decode yP 979 = .ok (.aload_n 2, 1)) /\ (decode yP 980 = .ok (.invokevirtual 146, 3)) /\ (decode yP 983 = .ok (.pop, 1)) /\ (decode yP 984 = .ok (.goto 532, 3)) /\ (decode yP 987 = .ok (.aload_n 1, 1)) /\ (decode yP 988 = .ok (.aload_n 0, 1)) /\ (decode yP 989 = .ok (.iload 4, 2)) := @of_decide_eq_true _ (DA (i_4 _ _) (DA (aDj _ _) (DA (aCz _ _) (DA (aAF _ _ _) (DA (i_87 _ _) (DA (aBs _ _ _) (DA (i_43 _ _) (DA (aAF _ _ _) (DA (i_87 _ _) (DA (i_44 _ _) (DA (aAF _ _ _) (DA (i_87 _ _) (DA (aBs _ _ _) (DA (i_43 _ _) (DA (yX _ _) (aBj _ _ _)))))))))))))))) (by decide +kernel)
theorem eL_law_991 : (decode yP 991 = .ok (.iconst 1, 1)) /\ (decode yP 992 = .ok (.iadd, 1)) /\ (decode yP 993 = .ok (.iaload, 1)) /\ (decode yP 994 = .ok (.invokevirtual 147, 3)) /\ (decode yP 997 = .ok (.pop, 1)) /\ (decode yP 998 = .ok (.aload_n 2, 1)) /\ (decode yP 999 = .ok (.aload_n 0, 1)) /\ (decode yP 1000 = .ok (.iload 4, 2)) /\ (decode yP 1002 = .ok (.iconst 1, 1)) /\ (decode yP 1003 = .ok (.iadd, 1)) /\ (decode yP 1004 = .ok (.iaload, 1)) /\ (decode yP 1005 = .ok (.invokevirtual 150, 3)) /\ (decode yP 1008 = .ok (.pop, 1)) /\ (decode yP 1009 = .ok (.goto 507, 3)) /\ (decode yP 1012 = .ok (.aload_n 1, 1)) /\ (decode yP 1013 = .ok (.aload_n 0, 1)) := @of_decide_eq_true _ (DA (i_4 _ _) (DA (aDj _ _) (DA (aCz _ _) (DA (aAF _ _ _) (DA (i_87 _ _) (DA (i_44 _ _) (DA (yX _ _) (DA (aBj _ _ _) (DA (i_4 _ _) (DA (aDj _ _) (DA (aCz _ _) (DA (aAF _ _ _) (DA (i_87 _ _) (DA (aBs _ _ _) (DA (i_43 _ _) (yX _ _)))))))))))))))) (by decide +kernel)
theorem aZk : (decode yP 1014 = .ok (.iload 4, 2)) /\ (decode yP 1016 = .ok (.iconst 1, 1)) /\ (decode yP 1017 = .ok (.iadd, 1)) /\ (decode yP 1018 = .ok (.iaload, 1)) /\ (decode yP 1019 = .ok (.invokevirtual 151, 3)) /\ (decode yP 1022 = .ok (.pop, 1)) /\ (decode yP 1023 = .ok (.aload_n 2, 1)) /\ (decode yP 1024 = .ok (.aload_n 0, 1)) /\ (decode yP 1025 = .ok (.iload 4, 2)) /\ (decode yP 1027 = .ok (.iconst 1, 1)) /\ (decode yP 1028 = .ok (.iadd, 1)) /\ (decode yP 1029 = .ok (.iaload, 1)) /\ (decode yP 1030 = .ok (.invokevirtual 154, 3)) /\ (decode yP 1033 = .ok (.pop, 1)) /\ (decode yP 1034 = .ok (.goto 482, 3)) /\ (decode yP 1037 = .ok (.aload_n 1, 1)) := @of_decide_eq_true _ (DA (aBj _ _ _) (DA (i_4 _ _) (DA (aDj _ _) (DA (aCz _ _) (DA (aAF _ _ _) (DA (i_87 _ _) (DA (i_44 _ _) (DA (yX _ _) (DA (aBj _ _ _) (DA (i_4 _ _) (DA (aDj _ _) (DA (aCz _ _) (DA (aAF _ _ _) (DA (i_87 _ _) (DA (aBs _ _ _) (i_43 _ _)))))))))))))))) (by decide +kernel)
theorem aZl : (decode yP 1038 = .ok (.invokevirtual 155, 3)) /\ (decode yP 1041 = .ok (.pop, 1)) /\ (decode yP 1042 = .ok (.aload_n 2, 1)) /\ (decode yP 1043 = .ok (.invokevirtual 158, 3)) /\ (decode yP 1046 = .ok (.pop, 1)) /\ (decode yP 1047 = .ok (.goto 469, 3)) /\ (decode yP 1050 = .ok (.aload_n 1, 1)) /\ (decode yP 1051 = .ok (.invokevirtual 159, 3)) /\ (decode yP 1054 = .ok (.pop, 1)) /\ (decode yP 1055 = .ok (.aload_n 2, 1)) /\ (decode yP 1056 = .ok (.invokevirtual 162, 3)) /\ (decode yP 1059 = .ok (.pop, 1)) /\ (decode yP 1060 = .ok (.goto 456, 3)) /\ (decode yP 1063 = .ok (.aload_n 1, 1)) /\ (decode yP 1064 = .ok (.aload_n 0, 1)) /\ (decode yP 1065 = .ok (.iload 4, 2)) := @of_decide_eq_true _ (DA (aAF _ _ _) (DA (i_87 _ _) (DA (i_44 _ _) (DA (aAF _ _ _) (DA (i_87 _ _) (DA (aBs _ _ _) (DA (i_43 _ _) (DA (aAF _ _ _) (DA (i_87 _ _) (DA (i_44 _ _) (DA (aAF _ _ _) (DA (i_87 _ _) (DA (aBs _ _ _) (DA (i_43 _ _) (DA (yX _ _) (aBj _ _ _)))))))))))))))) (by decide +kernel)
theorem aZm : (decode yP 1067 = .ok (.iconst 1, 1)) /\ (decode yP 1068 = .ok (.iadd, 1)) /\ (decode yP 1069 = .ok (.iaload, 1)) /\ (decode yP 1070 = .ok (.invokevirtual 163, 3)) /\ (decode yP 1073 = .ok (.pop, 1)) /\ (decode yP 1074 = .ok (.aload_n 2, 1)) /\ (decode yP 1075 = .ok (.aload_n 0, 1)) /\ (decode yP 1076 = .ok (.iload 4, 2)) /\ (decode yP 1078 = .ok (.iconst 1, 1)) /\ (decode yP 1079 = .ok (.iadd, 1)) /\ (decode yP 1080 = .ok (.iaload, 1)) /\ (decode yP 1081 = .ok (.invokevirtual 166, 3)) /\ (decode yP 1084 = .ok (.pop, 1)) /\ (decode yP 1085 = .ok (.goto 431, 3)) /\ (decode yP 1088 = .ok (.aload_n 1, 1)) /\ (decode yP 1089 = .ok (.aload_n 0, 1)) := @of_decide_eq_true _ (DA (i_4 _ _) (DA (aDj _ _) (DA (aCz _ _) (DA (aAF _ _ _) (DA (i_87 _ _) (DA (i_44 _ _) (DA (yX _ _) (DA (aBj _ _ _) (DA (i_4 _ _) (DA (aDj _ _) (DA (aCz _ _) (DA (aAF _ _ _) (DA (i_87 _ _) (DA (aBs _ _ _) (DA (i_43 _ _) (yX _ _)))))))))))))))) (by decide +kernel)
theorem aZn : (decode yP 1090 = .ok (.iload 4, 2)) /\ (decode yP 1092 = .ok (.iconst 1, 1)) /\ (decode yP 1093 = .ok (.iadd, 1)) /\ (decode yP 1094 = .ok (.iaload, 1)) /\ (decode yP 1095 = .ok (.invokevirtual 167, 3)) /\ (decode yP 1098 = .ok (.pop, 1)) /\ (decode yP 1099 = .ok (.aload_n 2, 1)) /\ (decode yP 1100 = .ok (.aload_n 0, 1)) /\ (decode yP 1101 = .ok (.iload 4, 2)) /\ (decode yP 1103 = .ok (.iconst 1, 1)) /\ (decode yP 1104 = .ok (.iadd, 1)) /\ (decode yP 1105 = .ok (.iaload, 1)) /\ (decode yP 1106 = .ok (.invokevirtual 170, 3)) /\ (decode yP 1109 = .ok (.pop, 1)) /\ (decode yP 1110 = .ok (.goto 406, 3)) /\ (decode yP 1113 = .ok (.aload_n 1, 1)) := @of_decide_eq_true _ (DA (aBj _ _ _) (DA (i_4 _ _) (DA (aDj _ _) (DA (aCz _ _) (DA (aAF _ _ _) (DA (i_87 _ _) (DA (i_44 _ _) (DA (yX _ _) (DA (aBj _ _ _) (DA (i_4 _ _) (DA (aDj _ _) (DA (aCz _ _) (DA (aAF _ _ _) (DA (i_87 _ _) (DA (aBs _ _ _) (i_43 _ _)))))))))))))))) (by decide +kernel)
theorem aZo : (decode yP 1114 = .ok (.aload_n 0, 1)) /\ (decode yP 1115 = .ok (.iload 4, 2)) /\ (decode yP 1117 = .ok (.iconst 1, 1)) /\ (decode yP 1118 = .ok (.iadd, 1)) /\ (decode yP 1119 = .ok (.iaload, 1)) /\ (decode yP 1120 = .ok (.invokevirtual 171, 3)) /\ (decode yP 1123 = .ok (.pop, 1)) /\ (decode yP 1124 = .ok (.aload_n 2, 1)) /\ (decode yP 1125 = .ok (.aload_n 0, 1)) /\ (decode yP 1126 = .ok (.iload 4, 2)) /\ (decode yP 1128 = .ok (.iconst 1, 1)) /\ (decode yP 1129 = .ok (.iadd, 1)) /\ (decode yP 1130 = .ok (.iaload, 1)) /\ (decode yP 1131 = .ok (.invokevirtual 174, 3)) /\ (decode yP 1134 = .ok (.pop, 1)) /\ (decode yP 1135 = .ok (.goto 381, 3)) := @of_decide_eq_true _ (DA (yX _ _) (DA (aBj _ _ _) (DA (i_4 _ _) (DA (aDj _ _) (DA (aCz _ _) (DA (aAF _ _ _) (DA (i_87 _ _) (DA (i_44 _ _) (DA (yX _ _) (DA (aBj _ _ _) (DA (i_4 _ _) (DA (aDj _ _) (DA (aCz _ _) (DA (aAF _ _ _) (DA (i_87 _ _) (aBs _ _ _)))))))))))))))) (by decide +kernel)
theorem aZp : (decode yP 1138 = .ok (.aload_n 1, 1)) /\ (decode yP 1139 = .ok (.invokevirtual 175, 3)) /\ (decode yP 1142 = .ok (.pop, 1)) /\ (decode yP 1143 = .ok (.aload_n 2, 1)) /\ (decode yP 1144 = .ok (.invokevirtual 178, 3)) /\ (decode yP 1147 = .ok (.pop, 1)) /\ (decode yP 1148 = .ok (.goto 368, 3)) /\ (decode yP 1151 = .ok (.aload_n 1, 1)) /\ (decode yP 1152 = .ok (.invokevirtual 179, 3)) /\ (decode yP 1155 = .ok (.pop, 1)) /\ (decode yP 1156 = .ok (.aload_n 2, 1)) /\ (decode yP 1157 = .ok (.invokevirtual 182, 3)) /\ (decode yP 1160 = .ok (.pop, 1)) /\ (decode yP 1161 = .ok (.goto 355, 3)) /\ (decode yP 1164 = .ok (.aload_n 1, 1)) /\ (decode yP 1165 = .ok (.aload_n 0, 1)) := @of_decide_eq_true _ (DA (i_43 _ _) (DA (aAF _ _ _) (DA (i_87 _ _) (DA (i_44 _ _) (DA (aAF _ _ _) (DA (i_87 _ _) (DA (aBs _ _ _) (DA (i_43 _ _) (DA (aAF _ _ _) (DA (i_87 _ _) (DA (i_44 _ _) (DA (aAF _ _ _) (DA (i_87 _ _) (DA (aBs _ _ _) (DA (i_43 _ _) (yX _ _)))))))))))))))) (by decide +kernel)
theorem aZq : (decode yP 1166 = .ok (.iload 4, 2)) /\ (decode yP 1168 = .ok (.iconst 1, 1)) /\ (decode yP 1169 = .ok (.iadd, 1)) /\ (decode yP 1170 = .ok (.iaload, 1)) /\ (decode yP 1171 = .ok (.invokevirtual 183, 3)) /\ (decode yP 1174 = .ok (.pop, 1)) /\ (decode yP 1175 = .ok (.aload_n 2, 1)) /\ (decode yP 1176 = .ok (.aload_n 0, 1)) /\ (decode yP 1177 = .ok (.iload 4, 2)) /\ (decode yP 1179 = .ok (.iconst 1, 1)) /\ (decode yP 1180 = .ok (.iadd, 1)) /\ (decode yP 1181 = .ok (.iaload, 1)) /\ (decode yP 1182 = .ok (.invokevirtual 186, 3)) /\ (decode yP 1185 = .ok (.pop, 1)) /\ (decode yP 1186 = .ok (.goto 330, 3)) /\ (decode yP 1189 = .ok (.aload_n 1, 1)) := @of_decide_eq_true _ (DA (aBj _ _ _) (DA (i_4 _ _) (DA (aDj _ _) (DA (aCz _ _) (DA (aAF _ _ _) (DA (i_87 _ _) (DA (i_44 _ _) (DA (yX _ _) (DA (aBj _ _ _) (DA (i_4 _ _) (DA (aDj _ _) (DA (aCz _ _) (DA (aAF _ _ _) (DA (i_87 _ _) (DA (aBs _ _ _) (i_43 _ _)))))))))))))))) (by decide +kernel)
theorem aZr : (decode yP 1190 = .ok (.invokevirtual 187, 3)) /\ (decode yP 1193 = .ok (.pop, 1)) /\ (decode yP 1194 = .ok (.aload_n 2, 1)) /\ (decode yP 1195 = .ok (.invokevirtual 190, 3)) /\ (decode yP 1198 = .ok (.pop, 1)) /\ (decode yP 1199 = .ok (.goto 317, 3)) /\ (decode yP 1202 = .ok (.aload_n 1, 1)) /\ (decode yP 1203 = .ok (.aload_n 0, 1)) /\ (decode yP 1204 = .ok (.iload 4, 2)) /\ (decode yP 1206 = .ok (.iconst 1, 1)) /\ (decode yP 1207 = .ok (.iadd, 1)) /\ (decode yP 1208 = .ok (.iaload, 1)) /\ (decode yP 1209 = .ok (.invokevirtual 191, 3)) /\ (decode yP 1212 = .ok (.pop, 1)) /\ (decode yP 1213 = .ok (.aload_n 2, 1)) /\ (decode yP 1214 = .ok (.aload_n 0, 1)) := @of_decide_eq_true _ (DA (aAF _ _ _) (DA (i_87 _ _) (DA (i_44 _ _) (DA (aAF _ _ _) (DA (i_87 _ _) (DA (aBs _ _ _) (DA (i_43 _ _) (DA (yX _ _) (DA (aBj _ _ _) (DA (i_4 _ _) (DA (aDj _ _) (DA (aCz _ _) (DA (aAF _ _ _) (DA (i_87 _ _) (DA (i_44 _ _) (yX _ _)))))))))))))))) (by decide +kernel)
theorem aZs : (decode yP 1215 = .ok (.iload 4, 2)) /\ (decode yP 1217 = .ok (.iconst 1, 1)) /\ (decode yP 1218 = .ok (.iadd, 1)) /\ (decode yP 1219 = .ok (.iaload, 1)) /\ (decode yP 1220 = .ok (.invokevirtual 194, 3)) /\ (decode yP 1223 = .ok (.pop, 1)) /\ (decode yP 1224 = .ok (.goto 292, 3)) /\ (decode yP 1227 = .ok (.aload_n 1, 1)) /\ (decode yP 1228 = .ok (.invokevirtual 195, 3)) /\ (decode yP 1231 = .ok (.pop, 1)) /\ (decode yP 1232 = .ok (.aload_n 2, 1)) /\ (decode yP 1233 = .ok (.invokevirtual 198, 3)) /\ (decode yP 1236 = .ok (.pop, 1)) /\ (decode yP 1237 = .ok (.goto 279, 3)) /\ (decode yP 1240 = .ok (.aload_n 1, 1)) /\ (decode yP 1241 = .ok (.aload_n 0, 1)) := @of_decide_eq_true _ (DA (aBj _ _ _) (DA (i_4 _ _) (DA (aDj _ _) (DA (aCz _ _) (DA (aAF _ _ _) (DA (i_87 _ _) (DA (aBs _ _ _) (DA (i_43 _ _) (DA (aAF _ _ _) (DA (i_87 _ _) (DA (i_44 _ _) (DA (aAF _ _ _) (DA (i_87 _ _) (DA (aBs _ _ _) (DA (i_43 _ _) (yX _ _)))))))))))))))) (by decide +kernel)
theorem aZt : (decode yP 1242 = .ok (.iload 4, 2)) /\ (decode yP 1244 = .ok (.iconst 1, 1)) /\ (decode yP 1245 = .ok (.iadd, 1)) /\ (decode yP 1246 = .ok (.iaload, 1)) /\ (decode yP 1247 = .ok (.aload_n 0, 1)) /\ (decode yP 1248 = .ok (.iload 4, 2)) /\ (decode yP 1250 = .ok (.iconst 2, 1)) /\ (decode yP 1251 = .ok (.iadd, 1)) /\ (decode yP 1252 = .ok (.iaload, 1)) /\ (decode yP 1253 = .ok (.invokevirtual 199, 3)) /\ (decode yP 1256 = .ok (.pop, 1)) /\ (decode yP 1257 = .ok (.aload_n 2, 1)) /\ (decode yP 1258 = .ok (.aload_n 0, 1)) /\ (decode yP 1259 = .ok (.iload 4, 2)) /\ (decode yP 1261 = .ok (.iconst 1, 1)) /\ (decode yP 1262 = .ok (.iadd, 1)) := @of_decide_eq_true _ (DA (aBj _ _ _) (DA (i_4 _ _) (DA (aDj _ _) (DA (aCz _ _) (DA (yX _ _) (DA (aBj _ _ _) (DA (i_5 _ _) (DA (aDj _ _) (DA (aCz _ _) (DA (aAF _ _ _) (DA (i_87 _ _) (DA (i_44 _ _) (DA (yX _ _) (DA (aBj _ _ _) (DA (i_4 _ _) (aDj _ _)))))))))))))))) (by decide +kernel)
theorem aZu : (decode yP 1263 = .ok (.iaload, 1)) /\ (decode yP 1264 = .ok (.aload_n 0, 1)) /\ (decode yP 1265 = .ok (.iload 4, 2)) /\ (decode yP 1267 = .ok (.iconst 2, 1)) /\ (decode yP 1268 = .ok (.iadd, 1)) /\ (decode yP 1269 = .ok (.iaload, 1)) /\ (decode yP 1270 = .ok (.invokevirtual 202, 3)) /\ (decode yP 1273 = .ok (.pop, 1)) /\ (decode yP 1274 = .ok (.goto 242, 3)) /\ (decode yP 1277 = .ok (.aload_n 1, 1)) /\ (decode yP 1278 = .ok (.aload_n 0, 1)) /\ (decode yP 1279 = .ok (.iload 4, 2)) /\ (decode yP 1281 = .ok (.iconst 1, 1)) /\ (decode yP 1282 = .ok (.iadd, 1)) /\ (decode yP 1283 = .ok (.iaload, 1)) /\ (decode yP 1284 = .ok (.invokevirtual 203, 3)) := @of_decide_eq_true _ (DA (aCz _ _) (DA (yX _ _) (DA (aBj _ _ _) (DA (i_5 _ _) (DA (aDj _ _) (DA (aCz _ _) (DA (aAF _ _ _) (DA (i_87 _ _) (DA (aBs _ _ _) (DA (i_43 _ _) (DA (yX _ _) (DA (aBj _ _ _) (DA (i_4 _ _) (DA (aDj _ _) (DA (aCz _ _) (aAF _ _ _)))))))))))))))) (by decide +kernel)
theorem aZv : (decode yP 1287 = .ok (.pop, 1)) /\ (decode yP 1288 = .ok (.aload_n 2, 1)) /\ (decode yP 1289 = .ok (.aload_n 0, 1)) /\ (decode yP 1290 = .ok (.iload 4, 2)) /\ (decode yP 1292 = .ok (.iconst 1, 1)) /\ (decode yP 1293 = .ok (.iadd, 1)) /\ (decode yP 1294 = .ok (.iaload, 1)) /\ (decode yP 1295 = .ok (.invokevirtual 206, 3)) /\ (decode yP 1298 = .ok (.pop, 1)) /\ (decode yP 1299 = .ok (.goto 217, 3)) /\ (decode yP 1302 = .ok (.aload_n 1, 1)) /\ (decode yP 1303 = .ok (.aload_n 0, 1)) /\ (decode yP 1304 = .ok (.iload 4, 2)) /\ (decode yP 1306 = .ok (.iconst 1, 1)) /\ (decode yP 1307 = .ok (.iadd, 1)) /\ (decode yP 1308 = .ok (.iaload, 1)) := @of_decide_eq_true _ (DA (i_87 _ _) (DA (i_44 _ _) (DA (yX _ _) (DA (aBj _ _ _) (DA (i_4 _ _) (DA (aDj _ _) (DA (aCz _ _) (DA (aAF _ _ _) (DA (i_87 _ _) (DA (aBs _ _ _) (DA (i_43 _ _) (DA (yX _ _) (DA (aBj _ _ _) (DA (i_4 _ _) (DA (aDj _ _) (aCz _ _)))))))))))))))) (by decide +kernel)
theorem aZw : (decode yP 1309 = .ok (.invokevirtual 207, 3)) /\ (decode yP 1312 = .ok (.pop, 1)) /\ (decode yP 1313 = .ok (.aload_n 2, 1)) /\ (decode yP 1314 = .ok (.aload_n 0, 1)) /\ (decode yP 1315 = .ok (.iload 4, 2)) /\ (decode yP 1317 = .ok (.iconst 1, 1)) /\ (decode yP 1318 = .ok (.iadd, 1)) /\ (decode yP 1319 = .ok (.iaload, 1)) /\ (decode yP 1320 = .ok (.invokevirtual 210, 3)) /\ (decode yP 1323 = .ok (.pop, 1)) /\ (decode yP 1324 = .ok (.goto 192, 3)) /\ (decode yP 1327 = .ok (.aload_n 1, 1)) /\ (decode yP 1328 = .ok (.aload_n 0, 1)) /\ (decode yP 1329 = .ok (.iload 4, 2)) /\ (decode yP 1331 = .ok (.iconst 1, 1)) /\ (decode yP 1332 = .ok (.iadd, 1)) := @of_decide_eq_true _ (DA (aAF _ _ _) (DA (i_87 _ _) (DA (i_44 _ _) (DA (yX _ _) (DA (aBj _ _ _) (DA (i_4 _ _) (DA (aDj _ _) (DA (aCz _ _) (DA (aAF _ _ _) (DA (i_87 _ _) (DA (aBs _ _ _) (DA (i_43 _ _) (DA (yX _ _) (DA (aBj _ _ _) (DA (i_4 _ _) (aDj _ _)))))))))))))))) (by decide +kernel)
theorem aZx : (decode yP 1333 = .ok (.iaload, 1)) /\ (decode yP 1334 = .ok (.aload_n 0, 1)) /\ (decode yP 1335 = .ok (.iload 4, 2)) /\ (decode yP 1337 = .ok (.iconst 2, 1)) /\ (decode yP 1338 = .ok (.iadd, 1)) /\ (decode yP 1339 = .ok (.iaload, 1)) /\ (decode yP 1340 = .ok (.invokevirtual 211, 3)) /\ (decode yP 1343 = .ok (.pop, 1)) /\ (decode yP 1344 = .ok (.aload_n 2, 1)) /\ (decode yP 1345 = .ok (.aload_n 0, 1)) /\ (decode yP 1346 = .ok (.iload 4, 2)) /\ (decode yP 1348 = .ok (.iconst 1, 1)) /\ (decode yP 1349 = .ok (.iadd, 1)) /\ (decode yP 1350 = .ok (.iaload, 1)) /\ (decode yP 1351 = .ok (.aload_n 0, 1)) /\ (decode yP 1352 = .ok (.iload 4, 2)) := @of_decide_eq_true _ (DA (aCz _ _) (DA (yX _ _) (DA (aBj _ _ _) (DA (i_5 _ _) (DA (aDj _ _) (DA (aCz _ _) (DA (aAF _ _ _) (DA (i_87 _ _) (DA (i_44 _ _) (DA (yX _ _) (DA (aBj _ _ _) (DA (i_4 _ _) (DA (aDj _ _) (DA (aCz _ _) (DA (yX _ _) (aBj _ _ _)))))))))))))))) (by decide +kernel)
theorem aZy : (decode yP 1354 = .ok (.iconst 2, 1)) /\ (decode yP 1355 = .ok (.iadd, 1)) /\ (decode yP 1356 = .ok (.iaload, 1)) /\ (decode yP 1357 = .ok (.invokevirtual 214, 3)) /\ (decode yP 1360 = .ok (.pop, 1)) /\ (decode yP 1361 = .ok (.goto 155, 3)) /\ (decode yP 1364 = .ok (.aload_n 1, 1)) /\ (decode yP 1365 = .ok (.aload_n 0, 1)) /\ (decode yP 1366 = .ok (.iload 4, 2)) /\ (decode yP 1368 = .ok (.iconst 1, 1)) /\ (decode yP 1369 = .ok (.iadd, 1)) /\ (decode yP 1370 = .ok (.iaload, 1)) /\ (decode yP 1371 = .ok (.aload_n 0, 1)) /\ (decode yP 1372 = .ok (.iload 4, 2)) /\ (decode yP 1374 = .ok (.iconst 2, 1)) /\ (decode yP 1375 = .ok (.iadd, 1)) := @of_decide_eq_true _ (DA (i_5 _ _) (DA (aDj _ _) (DA (aCz _ _) (DA (aAF _ _ _) (DA (i_87 _ _) (DA (aBs _ _ _) (DA (i_43 _ _) (DA (yX _ _) (DA (aBj _ _ _) (DA (i_4 _ _) (DA (aDj _ _) (DA (aCz _ _) (DA (yX _ _) (DA (aBj _ _ _) (DA (i_5 _ _) (aDj _ _)))))))))))))))) (by decide +kernel)
theorem aZz : (decode yP 1376 = .ok (.iaload, 1)) /\ (decode yP 1377 = .ok (.aload_n 0, 1)) /\ (decode yP 1378 = .ok (.iload 4, 2)) /\ (decode yP 1380 = .ok (.iconst 3, 1)) /\ (decode yP 1381 = .ok (.iadd, 1)) /\ (decode yP 1382 = .ok (.iaload, 1)) /\ (decode yP 1383 = .ok (.invokevirtual 215, 3)) /\ (decode yP 1386 = .ok (.pop, 1)) /\ (decode yP 1387 = .ok (.aload_n 2, 1)) /\ (decode yP 1388 = .ok (.aload_n 0, 1)) /\ (decode yP 1389 = .ok (.iload 4, 2)) /\ (decode yP 1391 = .ok (.iconst 1, 1)) /\ (decode yP 1392 = .ok (.iadd, 1)) /\ (decode yP 1393 = .ok (.iaload, 1)) /\ (decode yP 1394 = .ok (.aload_n 0, 1)) /\ (decode yP 1395 = .ok (.iload 4, 2)) := @of_decide_eq_true _ (DA (aCz _ _) (DA (yX _ _) (DA (aBj _ _ _) (DA (i_6 _ _) (DA (aDj _ _) (DA (aCz _ _) (DA (aAF _ _ _) (DA (i_87 _ _) (DA (i_44 _ _) (DA (yX _ _) (DA (aBj _ _ _) (DA (i_4 _ _) (DA (aDj _ _) (DA (aCz _ _) (DA (yX _ _) (aBj _ _ _)))))))))))))))) (by decide +kernel)
theorem aZ0 : (decode yP 1397 = .ok (.iconst 2, 1)) /\ (decode yP 1398 = .ok (.iadd, 1)) /\ (decode yP 1399 = .ok (.iaload, 1)) /\ (decode yP 1400 = .ok (.aload_n 0, 1)) /\ (decode yP 1401 = .ok (.iload 4, 2)) /\ (decode yP 1403 = .ok (.iconst 3, 1)) /\ (decode yP 1404 = .ok (.iadd, 1)) /\ (decode yP 1405 = .ok (.iaload, 1)) /\ (decode yP 1406 = .ok (.invokevirtual 218, 3)) /\ (decode yP 1409 = .ok (.pop, 1)) /\ (decode yP 1410 = .ok (.goto 106, 3)) /\ (decode yP 1413 = .ok (.aload_n 1, 1)) /\ (decode yP 1414 = .ok (.aload_n 0, 1)) /\ (decode yP 1415 = .ok (.iload 4, 2)) /\ (decode yP 1417 = .ok (.iconst 1, 1)) /\ (decode yP 1418 = .ok (.iadd, 1)) := @of_decide_eq_true _ (DA (i_5 _ _) (DA (aDj _ _) (DA (aCz _ _) (DA (yX _ _) (DA (aBj _ _ _) (DA (i_6 _ _) (DA (aDj _ _) (DA (aCz _ _) (DA (aAF _ _ _) (DA (i_87 _ _) (DA (aBs _ _ _) (DA (i_43 _ _) (DA (yX _ _) (DA (aBj _ _ _) (DA (i_4 _ _) (aDj _ _)))))))))))))))) (by decide +kernel)
theorem aZ3 : (decode yP 1419 = .ok (.iaload, 1)) /\ (decode yP 1420 = .ok (.invokevirtual 219, 3)) /\ (decode yP 1423 = .ok (.pop, 1)) /\ (decode yP 1424 = .ok (.aload_n 2, 1)) /\ (decode yP 1425 = .ok (.aload_n 0, 1)) /\ (decode yP 1426 = .ok (.iload 4, 2)) /\ (decode yP 1428 = .ok (.iconst 1, 1)) /\ (decode yP 1429 = .ok (.iadd, 1)) /\ (decode yP 1430 = .ok (.iaload, 1)) /\ (decode yP 1431 = .ok (.invokevirtual 222, 3)) /\ (decode yP 1434 = .ok (.pop, 1)) /\ (decode yP 1435 = .ok (.goto 81, 3)) /\ (decode yP 1438 = .ok (.aload_n 1, 1)) /\ (decode yP 1439 = .ok (.aload_n 0, 1)) /\ (decode yP 1440 = .ok (.iload 4, 2)) /\ (decode yP 1442 = .ok (.iconst 1, 1)) := @of_decide_eq_true _ (DA (aCz _ _) (DA (aAF _ _ _) (DA (i_87 _ _) (DA (i_44 _ _) (DA (yX _ _) (DA (aBj _ _ _) (DA (i_4 _ _) (DA (aDj _ _) (DA (aCz _ _) (DA (aAF _ _ _) (DA (i_87 _ _) (DA (aBs _ _ _) (DA (i_43 _ _) (DA (yX _ _) (DA (aBj _ _ _) (i_4 _ _)))))))))))))))) (by decide +kernel)
theorem aZ4 : (decode yP 1443 = .ok (.iadd, 1)) /\ (decode yP 1444 = .ok (.iaload, 1)) /\ (decode yP 1445 = .ok (.invokevirtual 223, 3)) /\ (decode yP 1448 = .ok (.pop, 1)) /\ (decode yP 1449 = .ok (.aload_n 2, 1)) /\ (decode yP 1450 = .ok (.aload_n 0, 1)) /\ (decode yP 1451 = .ok (.iload 4, 2)) /\ (decode yP 1453 = .ok (.iconst 1, 1)) /\ (decode yP 1454 = .ok (.iadd, 1)) /\ (decode yP 1455 = .ok (.iaload, 1)) /\ (decode yP 1456 = .ok (.invokevirtual 226, 3)) /\ (decode yP 1459 = .ok (.pop, 1)) /\ (decode yP 1460 = .ok (.goto 56, 3)) /\ (decode yP 1463 = .ok (.aload_n 1, 1)) /\ (decode yP 1464 = .ok (.aload_n 0, 1)) /\ (decode yP 1465 = .ok (.iload 4, 2)) := @of_decide_eq_true _ (DA (aDj _ _) (DA (aCz _ _) (DA (aAF _ _ _) (DA (i_87 _ _) (DA (i_44 _ _) (DA (yX _ _) (DA (aBj _ _ _) (DA (i_4 _ _) (DA (aDj _ _) (DA (aCz _ _) (DA (aAF _ _ _) (DA (i_87 _ _) (DA (aBs _ _ _) (DA (i_43 _ _) (DA (yX _ _) (aBj _ _ _)))))))))))))))) (by decide +kernel)
theorem aZ5 : (decode yP 1467 = .ok (.iconst 1, 1)) /\ (decode yP 1468 = .ok (.iadd, 1)) /\ (decode yP 1469 = .ok (.iaload, 1)) /\ (decode yP 1470 = .ok (.invokevirtual 227, 3)) /\ (decode yP 1473 = .ok (.pop, 1)) /\ (decode yP 1474 = .ok (.aload_n 2, 1)) /\ (decode yP 1475 = .ok (.aload_n 0, 1)) /\ (decode yP 1476 = .ok (.iload 4, 2)) /\ (decode yP 1478 = .ok (.iconst 1, 1)) /\ (decode yP 1479 = .ok (.iadd, 1)) /\ (decode yP 1480 = .ok (.iaload, 1)) /\ (decode yP 1481 = .ok (.invokevirtual 230, 3)) /\ (decode yP 1484 = .ok (.pop, 1)) /\ (decode yP 1485 = .ok (.goto 31, 3)) /\ (decode yP 1488 = .ok (.aload_n 1, 1)) /\ (decode yP 1489 = .ok (.aload_n 0, 1)) := @of_decide_eq_true _ (DA (i_4 _ _) (DA (aDj _ _) (DA (aCz _ _) (DA (aAF _ _ _) (DA (i_87 _ _) (DA (i_44 _ _) (DA (yX _ _) (DA (aBj _ _ _) (DA (i_4 _ _) (DA (aDj _ _) (DA (aCz _ _) (DA (aAF _ _ _) (DA (i_87 _ _) (DA (aBs _ _ _) (DA (i_43 _ _) (yX _ _)))))))))))))))) (by decide +kernel)
theorem aZ6 : (decode yP 1490 = .ok (.iload 4, 2)) /\ (decode yP 1492 = .ok (.iconst 1, 1)) /\ (decode yP 1493 = .ok (.iadd, 1)) /\ (decode yP 1494 = .ok (.iaload, 1)) /\ (decode yP 1495 = .ok (.aload_n 3, 1)) /\ (decode yP 1496 = .ok (.invokestatic 231, 3)) /\ (decode yP 1499 = .ok (.istore 5, 2)) /\ (decode yP 1501 = .ok (.aload_n 2, 1)) /\ (decode yP 1502 = .ok (.aload_n 0, 1)) /\ (decode yP 1503 = .ok (.iload 4, 2)) /\ (decode yP 1505 = .ok (.iconst 1, 1)) /\ (decode yP 1506 = .ok (.iadd, 1)) /\ (decode yP 1507 = .ok (.iaload, 1)) /\ (decode yP 1508 = .ok (.invokevirtual 234, 3)) /\ (decode yP 1511 = .ok (.istore 6, 2)) /\ (decode yP 1513 = .ok (.goto 3, 3)) := @of_decide_eq_true _ (DA (aBj _ _ _) (DA (i_4 _ _) (DA (aDj _ _) (DA (aCz _ _) (DA (i_45 _ _) (DA (aDe _ _ _) (DA (aFH _ _ _) (DA (i_44 _ _) (DA (yX _ _) (DA (aBj _ _ _) (DA (i_4 _ _) (DA (aDj _ _) (DA (aCz _ _) (DA (aAF _ _ _) (DA (aFH _ _ _) (aBs _ _ _)))))))))))))))) (by decide +kernel)
theorem eL_law_1516 : (decode yP 1516 = .ok (.iinc 4 5, 3)) /\ (decode yP 1519 = .ok (.goto (-1496), 3)) /\ (decode yP 1522 = .ok (.iconst 1, 1)) /\ (decode yP 1523 = .ok (.ireturn, 1)) := @of_decide_eq_true _ (DA (aE6 _ _ _ _) (DA (aBs _ _ _) (DA (i_4 _ _) (aBM _ _)))) (by decide +kernel)
-- ===== end of PART A; then your names; then what follows =====
/-! THE CLAIM OUT OF ONE WALK OF THE LAW'S BODY. Your part is whole_start (and what it stands on); all else here is the same for every law, but numbers. -/
def R_law : String := "WhereTheLadderLaw"
def lw_P (b : Addr) (xs : List Int32) (args : Array Value) (s : State) : Prop := args = #[.ref b] /\ s.IntsAt b xs /\ xs.length <= 2560 /\ (Jvm.Cond.and given_1 narrow_1).before args s = true
def lw_Q (_ : Array Value) (s : State) (o : Outcome) (t : State) : Prop := o = .returned (some (.int 1)) /\ Framed s o t [] 601024 7293034
def lw_Z (below : List Frame) (a : Array Value) (s : State) : State -> Prop := fun t => ∃ o, t.status = .running /\ Ended t below o /\ lw_Q a s o t
/-- the law's own end, with 1 on the stack, nothing written that was there before, its room as the claim has it -/
theorem lw_ret {p : Program} {l : Launch} {e : Env} {s : State} {m : MethodId} {below : List Frame} {meth : Method} {c : Code} {b : Nat} (hx : p.tables.exec = Jvm.exec) (hb : c.code = code) (hr : meth.sig.returnType = ret) (hlocks : meth.locks = false) {pc : Nat} {H : Heap} {ls : Array Slot} (hdg : decode code pc = .ok (.ireturn, 1)) : W p l e room_1 s m #[Value.ref b] below meth c H [] 601024 7293034 (lw_Z below #[Value.ref b] s) (F0 m pc ls [.int 1]) := by
  intro T hT X
  obtain ⟨fs, hret, hrun, hended, hW, hframe⟩ := X.leave (v := some (.int 1)) (hlocks := hlocks) (fun h => by rw [hr] at h; cases h)
  have hmeth' : T.vm.method? m = some meth := X.method'
  refine ⟨T.setFrames fs, ?_, .returned (some (.int 1)), hrun, hended, rfl, ⟨_, rfl⟩, hW, hframe⟩
  jvm_step X.here [X.here.top, hx, hb, hdg, hmeth', hr, ret, narrow_b1]
  (try refine ⟨rfl, ?_⟩); (try refine ⟨rfl, ?_⟩)
  first | (intro acts; rw [hret _ acts rfl rfl rfl]) | rw [hret _ _ rfl rfl rfl]
  exact Steps.refl _
/-- what holds at the law's entry: the machine, the code, the tables' words (any of lw_tbl by 'hts w (by decide +kernel)'), the script of L ints xs at the cell b, what the Statement gives of the start (any of its parts by flat_of_before) -/
def lw_At (p : Program) (s : State) (m : MethodId) (meth : Method) (c : Code) (b L : Nat) (xs : Nat -> Int32) : Prop :=
  p.tables.exec = Jvm.exec /\ c.code = code /\ meth.sig.returnType = ret /\ c.maxLocals = 7 /\ s.vm.findClass R_law = some m.cls /\ (∀ w ∈ lw_tbl, w.before #[Value.ref b] s = true) /\ va_X b L xs s s.heap /\ b < s.heap.size /\ meth.locks = false /\ (Jvm.Cond.and given_1 narrow_1).before #[Value.ref b] s = true
/-! Calls that make cells, or throw; the law's room -/
theorem n_castNSE : Cond.castable "java/util/NoSuchElementException" "java/util/NoSuchElementException" ∈ WN := List.mem_of_getElem? (i := 10) rfl
section GLAW
variable {p : Program} {l : Launch} {e : Env} {R : Room} {s : State} {m : MethodId} {args : Array Value} {below : List Frame} {meth : Method} {c : Code} {H : Heap} {locs : List Loc} {cells slots mc ms : Nat} {Q : State -> Prop} {pc : Nat} {ls : Array Slot} {rest st0 : List Value} {D : va_G} {tys : List (ClassId × FieldType)} {A : Nat -> Prop} {ws wc : va_W} {a : Array Value}
theorem g_calliC {S : Type} {post : Int32 -> S -> Prop} {w1 : S -> va_W} (hP : va_P D classes ws H) (hD : va_D A ws) (hS : va_S A s.heap H locs) (hA : ∀ q, s.heap.size <= q -> A q)
    (isC isR : List Nat) (hC : isC.map (fun i => ws[i]?) = wc.map some) (hR : isR.map (fun i => ws[i]?) = (gpk ws isR).map some) (hn : va_nd isR = true) (hdis : g_dis isR isC = true)
    (hr : va_Run p l e R s m args below meth c H locs cells slots mc ms (F0 m pc ls st0) rest (va_Qi post (fun u t => gB D tys (va_A wc H.size) (w1 u) t) (va_A wc H.size) a) (va_A wc H.size))
    (kk : ∀ (r : Int32) (u : S) (H1 : Heap) (locs1 : List Loc), post r u -> va_P D classes (gpk ws isR ++ w1 u) H1 -> va_D A (gpk ws isR ++ w1 u) -> va_S A s.heap H1 locs1 -> W p l e R s m args below meth c H1 locs1 (cells + mc) (slots + ms) Q (F0 m (pc + 3) ls (.int r :: rest))) :
    W p l e R s m args below meth c H locs cells slots Q (F0 m pc ls st0) := by
  have hF := va_free (wc := wc) hD hS hA isC hC
  refine va_calli hr hS (fun q _ h => hF q h) hF (fun r u t H1 locs1 ht hvm hw hB hz hk hS1 => ?_)
  obtain ⟨hP1, hK1, hD1⟩ := hB
  rw [ht] at hP1
  obtain ⟨hP2, hD2⟩ := va_join hP hD isC isR hC hR hn (g_dis_of hdis) hk hF hP1 hD1
  exact kk r u H1 locs1 hw hP2 hD2 hS1
theorem g_calliX {S : Type} {post : Int32 -> S -> Prop} {w1 : S -> va_W} {postx : Prop} (hP : va_P D classes ws H) (hD : va_D A ws) (hS : va_S A s.heap H locs) (hA : ∀ q, s.heap.size <= q -> A q)
    (isC isR : List Nat) (hC : isC.map (fun i => ws[i]?) = wc.map some) (hR : isR.map (fun i => ws[i]?) = (gpk ws isR).map some) (hn : va_nd isR = true) (hdis : g_dis isR isC = true)
    (hr : vx_Run p l e R s m args below meth c H locs cells slots mc ms (F0 m pc ls st0) rest (va_Qi post (fun u t => gB D tys (va_A wc H.size) (w1 u) t) (va_A wc H.size) a) (gXC D tys (va_A wc H.size) wc postx) (va_A wc H.size))
    (kx : ∀ (ce : Cell) (q9 : Addr) (H1 : Heap) (locs1 : List Loc), postx -> va_P D classes (gpk ws isR ++ wc) H1 -> va_D A (gpk ws isR ++ wc) -> va_S A s.heap H1 locs1 -> H1[q9]? = some ce -> ce.vm = .none -> s.vm.findClass NSE = some ce.cls -> vx_W p l e R s m args below meth c H1 locs1 (cells + mc) (slots + ms) Q (F0 m pc ls rest) q9)
    (kk : ∀ (r : Int32) (u : S) (H1 : Heap) (locs1 : List Loc), post r u -> va_P D classes (gpk ws isR ++ w1 u) H1 -> va_D A (gpk ws isR ++ w1 u) -> va_S A s.heap H1 locs1 -> W p l e R s m args below meth c H1 locs1 (cells + mc) (slots + ms) Q (F0 m (pc + 3) ls (.int r :: rest))) :
    W p l e R s m args below meth c H locs cells slots Q (F0 m pc ls st0) := by
  have hF := va_free (wc := wc) hD hS hA isC hC
  refine vx_calli hr hS (fun q _ h => hF q h) hF (fun q _ h => hF q h) (fun E ce q9 u t H1 locs1 ht hvm hw hB hz hk hS1 hq hv hcl => ?_) (fun r u t H1 locs1 ht hvm hw hB hz hk hS1 => ?_)
  · obtain ⟨rfl, hP1, hK1, hD1⟩ := hB
    rw [ht] at hP1
    obtain ⟨hP2, hD2⟩ := va_join hP hD isC isR hC hR hn (g_dis_of hdis) hk hF hP1 hD1
    exact kx ce q9 H1 locs1 hw hP2 hD2 hS1 hq hv hcl
  · obtain ⟨hP1, hK1, hD1⟩ := hB
    rw [ht] at hP1
    obtain ⟨hP2, hD2⟩ := va_join hP hD isC isR hC hR hn (g_dis_of hdis) hk hF hP1 hD1
    exact kk r u H1 locs1 hw hP2 hD2 hS1
variable {y : MethodName} {bytes cc : ByteArray} {maxL nL n index : Nat} {ret ret0 : Option FieldType} {rm : Room} {Qc : Array Value -> State -> Outcome -> State -> Prop} {XC : String -> State -> State -> Prop} {own C : String} {b : Addr} {As : List Value} {g : JFrame}
theorem g_runVX (C0 : gc cc ret0 nL own D tys A p s m args meth c) (hP : va_P D classes ws H) (hD : va_D A ws) (hS : va_S A s.heap H locs) (isC : List Nat) (hC : isC.map (fun i => ws[i]?) = wc.map some) (hn1 : va_nd isC = true) (q0 ci : Nat) {q : vw_C} {fs : List Value} (hc : classes[ci]? = some q) (he : ws[q0]? = some (b, .inr (ci, fs)))
    (hM : vx_Met l y (gw y bytes maxL ret) rm (va_Pc (.ref b :: As) (gPre D tys wc H.size)) Qc XC mc ms (va_A wc H.size))
    (h1 : Cond.code y bytes maxL ret ∈ W0) (h2 : Cond.methodLink own index y ∈ W0) (h3 : Cond.instanceMethod y ∈ W0) (h4 : Cond.selects q.1 y y ∈ W0) (h5 : Cond.initialized y.cls ∈ W0)
    (hd : y.cls ≠ "java/lang/invoke/MethodHandle" /\ y.cls ≠ "java/lang/invoke/VarHandle" /\ (parseMethodDescriptor y.desc).map (fun d => d.parameters.length) = some n) (hrc : rm.cells = mc) (hrs : rm.slots = ms) (hR : rm.frames + 1 <= R.frames /\ 8 + (maxL + 11) + rm.locals <= R.locals)
    (hg : g.method = m) (hn : As.length = n) (hsize : g.locals.size = nL) (hstack : g.stack = As.reverse ++ .ref b :: rest) (hW : 2 * g.monitorRoom + (rest.map fun v => v.category).sum <= 8) (hdg : decode cc g.pc = .ok (.invokevirtual index, 3)) (hf : cells + mc <= R.cells /\ slots + ms <= R.slots) :
    vx_Run p l e R s m args below meth c H locs cells slots mc ms g rest (Qc (Value.ref b :: As).toArray) XC (va_A wc H.size) := by
  obtain ⟨hx, hb, hr, hml, hown, hts, hlocks, hA, hK, hN, hZ⟩ := C0
  exact vx_runV (Ts := W0) ⟨hx, hb, hml, hown, hts⟩ hM ⟨callB_of n hts (g0_good h1) rfl hrc hrs (hts _ h5) (hts _ h2) hd hR, hts _ h3, hts _ h4⟩ ⟨gPre.blind, va_recv hK hP hc he, fun U hU hWm => ⟨rfl, by rw [hU], ⟨by rw [hU]; exact hP.sub isC (g_sub hC), va_K.moved hWm.alike hK, (hD.sub isC hn1 hC).weaken (fun _ _ _ _ => trivial)⟩, gN.warm hWm hN, by rw [hU]; exact hZ.to hWm.alike (fun _ h9 => vk_R.warm hWm h9) hS.2.1 (va_free (wc := wc) hD hS hA isC hC)⟩⟩ hg hn hsize hstack hW hdg hf
theorem g_goodW {y2 : MethodName} {b2 : ByteArray} {n2 : Nat} {r2 : Option FieldType} {hh : List (Nat × Nat × Nat × Nat)} {own2 : String} {ix : Nat} (h : Cond.codeWith y2 b2 n2 r2 hh ∈ W0) (h2 : Cond.methodLink own2 ix y2 ∈ W0) (h3 : Cond.static y2 ∈ W0) (h5 : Cond.initialized y2.cls ∈ W0) : GoodIn W0 (va_wsS own2 ix y2 (.codeWith y2 b2 n2 r2 hh :: W0)) := by
  have gd : ∀ w ∈ W0, w ∈ W0 /\ ((w.onTables && w.keeps) = true \/ ∃ ty, w = .arrayClass ty) := fun w e => ⟨e, good_of_word (List.all_eq_true.mp W0_good w e)⟩
  intro w hw
  unfold va_wsS at hw
  rcases List.mem_append.mp hw with e | e
  · rcases List.mem_cons.mp e with rfl | e
    · exact gd _ h2
    · rcases List.mem_cons.mp e with rfl | e
      · exact gd _ h3
      · rcases List.mem_cons.mp e with rfl | e
        · exact gd _ h5
        · cases e
  · rcases List.mem_cons.mp e with rfl | e
    · exact gd _ h
    · exact gd w e
theorem g_runSW {hh : List (Nat × Nat × Nat × Nat)} (C0 : gc cc ret0 nL own D tys A p s m args meth c) (hP : va_P D classes ws H) (hD : va_D A ws) (hS : va_S A s.heap H locs) (isC : List Nat) (hC : isC.map (fun i => ws[i]?) = wc.map some) (hn1 : va_nd isC = true)
    (hM : Met l y (.codeWith y bytes maxL ret hh :: W0) rm (va_Pc As (gPre D tys wc H.size)) Qc mc ms (va_A wc H.size))
    (h1 : Cond.codeWith y bytes maxL ret hh ∈ W0) (h2 : Cond.methodLink own index y ∈ W0) (h3 : Cond.static y ∈ W0) (h5 : Cond.initialized y.cls ∈ W0)
    (hd : y.cls ≠ "java/lang/invoke/MethodHandle" /\ y.cls ≠ "java/lang/invoke/VarHandle" /\ (parseMethodDescriptor y.desc).map (fun d => d.parameters.length) = some n) (hrc : rm.cells = mc) (hrs : rm.slots = ms) (hR : rm.frames + 1 <= R.frames /\ 8 + (maxL + 11) + rm.locals <= R.locals)
    (hg : g.method = m) (hn : As.length = n) (hsize : g.locals.size = nL) (hstack : g.stack = As.reverse ++ rest) (hW : 2 * g.monitorRoom + (rest.map fun v => v.category).sum <= 8) (hdg : decode cc g.pc = .ok (.invokestatic index, 3)) (hf : cells + mc <= R.cells /\ slots + ms <= R.slots) :
    va_Run p l e R s m args below meth c H locs cells slots mc ms g rest (Qc As.toArray) (va_A wc H.size) := by
  obtain ⟨hx, hb, hr, hml, hown, hts, hlocks, hA, hK, hN, hZ⟩ := C0
  exact vx_runSW (Ts := W0) (hh := hh) ⟨hx, hb, hml, hown, hts⟩ hM (vx_cwSW n hts (g_goodW h1 h2 h3 h5) rfl hrc hrs hd hR) ⟨gPre.blind, fun U hU hWm => ⟨rfl, by rw [hU], ⟨by rw [hU]; exact hP.sub isC (g_sub hC), va_K.moved hWm.alike hK, (hD.sub isC hn1 hC).weaken (fun _ _ _ _ => trivial)⟩, gN.warm hWm hN, by rw [hU]; exact hZ.to hWm.alike (fun _ h9 => vk_R.warm hWm h9) hS.2.1 (va_free (wc := wc) hD hS hA isC hC)⟩⟩ hg hn hsize hstack hW hdg hf
end GLAW
theorem g_room1 {j : Nat} (h : j <= 600) : (62 + j) + 1 <= room_1.cells := Nat.le_trans (show (62 + j) + 1 <= 700 by omega) (lbz rfl)
theorem g_room2 {j : Nat} (h : j <= 600) : (4445 + 6 * j) + 6 <= room_1.slots := Nat.le_trans (show (4445 + 6 * j) + 6 <= 10000 by omega) (lbz rfl)
theorem aEH {j : Nat} (h : j <= 600) : (62 + j) + 0 <= room_1.cells := Nat.le_trans (show (62 + j) + 0 <= 700 by omega) (lbz rfl)
theorem aEI {j : Nat} (h : j <= 600) : (4445 + 6 * j) + 0 <= room_1.slots := Nat.le_trans (show (4445 + 6 * j) + 0 <= 10000 by omega) (lbz rfl)
theorem g_room5 {j : Nat} (h : j <= 600) : (62 + (j + 1)) + 0 <= room_1.cells := Nat.le_trans (show (62 + (j + 1)) + 0 <= 700 by omega) (lbz rfl)
theorem g_room6 {j : Nat} (h : j <= 600) : (4445 + 6 * (j + 1)) + 0 <= room_1.slots := Nat.le_trans (show (4445 + 6 * (j + 1)) + 0 <= 10000 by omega) (lbz rfl)
abbrev wd_L_fruit (cI cC cZ cB cJ : ClassId) (a_x xI xH xB vI wY xX yA xY uD xO tJ jJ mY pG pD pE eO aBq : Nat) (dN bD bJ aI : Int32) (uU gF pL qF : Nat -> Int32) (jE eW eY dU fY gJ jG nU : Int32) (lo : Nat -> Int64) : va_W := [(a_x, .inr (9, [.ref xI, .ref xH, .ref xB, .ref vI, .ref wY, .ref xX, .ref yA, .ref xY, .ref uD])), (xB, .inr (0, [.ref vI, .ref wY, .ref xO])), (vI, .inr (3, [.ref tJ, .ref jJ, .ref mY, .ref pG, .ref pD, .ref pE, .ref eO, .int dN, .int bD, .int bJ, .int aI])), (tJ, .inl (cI, 16, .inl uU)), (jJ, .inl (cI, 16, .inl gF)), (mY, .inl (cI, 16, .inl pL)), (pG, .inl (cI, 16, .inl qF)), (wY, .inr (2, [.int jE, .int eW, .int eY, .int dU, .int fY, .int gJ, .int jG, .int nU])), (aBq, .inl (cJ, 1, .inr (.inl lo)))]
abbrev rm_L_fruit : Room := { frames := 7, cells := 1, slots := 6, locals := 122 }
def wp_L_fruit (post : Int32 -> (Nat -> Int64) -> Prop) (p0 p1 dN : Int32) (uU gF pL qF : Nat -> Int32) (jE eW eY dU : Int32) (lo : Nat -> Int64) : Prop := wp_X9_fruit (fun r => ∀ f : Nat -> Int64, f = vp_updL lo (0 : Int32).toNatClampNeg r.toInt64 -> post 0 f) (post 1 lo) p0 p1 dN uU gF pL qF jE eW eY dU
set_option maxHeartbeats 4000000 in
set_option maxRecDepth 100000 in
theorem c_L_fruit (l : Launch) (hl9 : l.stackTraces = false) (dC : Nat -> ClassId) (dI : Nat -> Nat -> Nat) (cI cC cZ cB cJ : ClassId) (a_x xI xH xB vI wY xX yA xY uD xO tJ jJ mY pG pD pE eO aBq sz : Nat) (p0 p1 dN bD bJ aI : Int32) (uU gF pL qF : Nat -> Int32) (jE eW eY dU fY gJ jG nU : Int32) (lo : Nat -> Int64) (post : Int32 -> (Nat -> Int64) -> Prop) (hw : wp_L_fruit post p0 p1 dN uU gF pL qF jE eW eY dU lo) : Met l yL_fruit (Cond.codeWith yL_fruit cL_fruit 5 (some .int) [(0, 10, 13, 13)] :: W0) rm_L_fruit (va_Pc [.ref a_x, .int p0, .int p1, .ref aBq] (gPre (dC, dI) (tyl cI cC cZ cB cJ) (wd_L_fruit cI cC cZ cB cJ a_x xI xH xB vI wY xX yA xY uD xO tJ jJ mY pG pD pE eO aBq dN bD bJ aI uU gF pL qF jE eW eY dU fY gJ jG nU lo) sz)) (va_Qi (fun (r : Int32) (u : Nat -> Int64) => post r u) (fun u t => gB (dC, dI) (tyl cI cC cZ cB cJ) (va_A (wd_L_fruit cI cC cZ cB cJ a_x xI xH xB vI wY xX yA xY uD xO tJ jJ mY pG pD pE eO aBq dN bD bJ aI uU gF pL qF jE eW eY dU fY gJ jG nU lo) sz) (wd_L_fruit cI cC cZ cB cJ a_x xI xH xB vI wY xX yA xY uD xO tJ jJ mY pG pD pE eO aBq dN bD bJ aI uU gF pL qF jE eW eY dU fY gJ jG nU u) t) (va_A (wd_L_fruit cI cC cZ cB cJ a_x xI xH xB vI wY xX yA xY uD xO tJ jJ mY pG pD pE eO aBq dN bD bJ aI uU gF pL qF jE eW eY dU fY gJ jG nU lo) sz)) 1 6 (va_A (wd_L_fruit cI cC cZ cB cJ a_x xI xH xB vI wY xX yA xY uD xO tJ jJ mY pG pD pE eO aBq dN bD bJ aI uU gF pL qF jE eW eY dU fY gJ jG nU lo) sz) := by
  refine va_MetW (cc := cL_fruit) (maxL := 5) (ret := some .int) (hh := [(0, 10, 13, 13)]) (by decide) rfl ?_
  intro p e s m args below meth c s₁ B hml hv
  obtain ⟨rfl, hsz, ⟨hP, hK, hD0⟩, hN, hZ⟩ := hv
  subst hsz
  have hts0 := atoms_spec (ws := (Cond.codeWith yL_fruit cL_fruit 5 (some .int) [(0, 10, 13, 13)] :: W0)) B.pre
  have hts : ∀ w ∈ W0, w.before _ s = true := fun w hw => hts0 w (List.mem_cons_of_mem _ hw)
  have htab := vx_table (x := yL_fruit) B (hts0 _ List.mem_cons_self)
  have hx := B.exec
  have hb := B.bytes
  have hr := B.returns
  have hlocks := B.notSynchronized
  have hown : s.vm.findClass RL = some m.cls := findClass_of_methodNamed B.named
  have hD := hD0.self (sz := s.heap.size)
  have hA : ∀ q, s.heap.size <= q -> (va_A (wd_L_fruit cI cC cZ cB cJ a_x xI xH xB vI wY xX yA xY uD xO tJ jJ mY pG pD pE eO aBq dN bD bJ aI uU gF pL qF jE eW eY dU fY gJ jG nU lo) s.heap.size) q := fun q h => Or.inr h
  have C0 : gc cL_fruit (some .int) 5 RL (dC, dI) (tyl cI cC cZ cB cJ) (va_A (wd_L_fruit cI cC cZ cB cJ a_x xI xH xB vI wY xX yA xY uD xO tJ jJ mY pG pD pE eO aBq dN bD bJ aI uU gF pL qF jE eW eY dU fY gJ jG nU lo) s.heap.size) p s m ([.ref a_x, .int p0, .int p1, .ref aBq] : List Value).toArray meth c := ⟨hx, hb, hr, hml, hown, hts, hlocks, hA, hK, hN, hZ⟩
  have hS : va_S (va_A (wd_L_fruit cI cC cZ cB cJ a_x xI xH xB vI wY xX yA xY uD xO tJ jJ mY pG pD pE eO aBq dN bD bJ aI uU gF pL qF jE eW eY dU fY gJ jG nU lo) s.heap.size) s.heap s.heap [] := va_S.rf
  have hl := lv_entry [.ref a_x, .int p0, .int p1, .ref aBq] (n := 5) (lbz rfl)
  rw [lg_entry_eq]
  generalize (lg_sl [.ref a_x, .int p0, .int p1, .ref aBq] ++ List.replicate (5 - (lg_sl [.ref a_x, .int p0, .int p1, .ref aBq]).length) Slot.unset).toArray = ls at hl ⊢
  have hl : lv_has ls 5 [(0, .ref a_x), (1, .int p0), (2, .int p1), (3, .ref aBq)] := hl
  have hp := hw
  unfold wp_L_fruit at hp
  refine lv_aload_n hx hb eL_fruit_0.1 rfl (lv_at hl 3 rfl) ?_
  refine lv_iconst (v := 0) hx hb eL_fruit_0.2.1 aCi ?_
  refine lv_aload_n hx hb eL_fruit_0.2.2.1 rfl (lv_at hl 0 rfl) ?_
  refine lv_iload_n hx hb eL_fruit_0.2.2.2.1 rfl (lv_at hl 1 rfl) ?_
  refine lv_iload_n hx hb eL_fruit_0.2.2.2.2.1 rfl (lv_at hl 2 rfl) ?_
  refine g_calliX (wc := (wd_X9_fruit cI cC cZ cB cJ a_x xI xH xB vI wY xX yA xY uD xO tJ jJ mY pG pD pE eO dN bD bJ aI uU gF pL qF jE eW eY dU fY gJ jG nU)) hP hD hS hA [0, 1, 2, 3, 4, 5, 6, 7] [8] rfl rfl rfl rfl (g_runVX (As := [.int p0, .int p1]) (rest := [.int 0, .ref aBq]) C0 hP hD hS [0, 1, 2, 3, 4, 5, 6, 7] rfl rfl 0 9 rfl rfl (c_X9_fruit l hl9 dC dI cI cC cZ cB cJ a_x xI xH xB vI wY xX yA xY uD xO tJ jJ mY pG pD pE eO s.heap.size p0 p1 dN bD bJ aI uU gF pL qF jE eW eY dU fY gJ jG nU _ _ hp) q_1063 q_1064 q_1065 q_1066 aIl h_X9_fruit rfl rfl ⟨lbz rfl, lbz rfl⟩ rfl rfl hl.1 rfl (lv_room (lbz rfl)) eL_fruit_0.2.2.2.2.2.1 ⟨lbz rfl, lbz rfl⟩) (fun ce q9 H locs hp hP hD hS hq hv hcl => ?_) (fun r u H locs hp hP hD hS => ?_)
  · have hPD := PDs (ws' := (wd_L_fruit cI cC cZ cB cJ a_x xI xH xB vI wY xX yA xY uD xO tJ jJ mY pG pD pE eO aBq dN bD bJ aI uU gF pL qF jE eW eY dU fY gJ jG nU lo)) hP hD [1, 2, 3, 4, 5, 6, 7, 8, 0] (by decide) rfl
    have hP := hPD.1
    have hD := hPD.2
    refine gk_catch (own := RL) (name := NSE) (E := NSE) hown ⟨0, 10, 13, 13⟩ htab (by decide) (by decide) (hts _ q_1067) (va_Nw.use rfl (hN _ n_castNSE)) hq hv hcl ?_
    refine lv_astore (lv' := [(4, .ref q9), (0, .ref a_x), (1, .int p0), (2, .int p1), (3, .ref aBq)]) hx hb eL_fruit_0.2.2.2.2.2.2.2.2.2.1 hl (by decide) rfl (fun ls hl => ?_)
    refine lv_iconst (v := 1) hx hb eL_fruit_0.2.2.2.2.2.2.2.2.2.2.1 aDx ?_
    refine W.widen (k := 1) (n := 6) (Nat.le_refl _) (Nat.le_refl _) ?_
    exact W.iret (v := 1) hx hb hr (fun t ht hW => ⟨⟨1, lo, rfl, hp, by rw [ht]; exact hP, va_K.moved hW.alike hK, hD⟩, hS.F ht⟩) hS.2.2 eL_fruit_0.2.2.2.2.2.2.2.2.2.2.2.1
  · have hPD := PDs (ws' := (wd_L_fruit cI cC cZ cB cJ a_x xI xH xB vI wY xX yA xY uD xO tJ jJ mY pG pD pE eO aBq dN bD bJ aI uU gF pL qF jE eW eY dU fY gJ jG nU lo)) hP hD [1, 2, 3, 4, 5, 6, 7, 8, 0] (by decide) rfl
    have hP := hPD.1
    have hD := hPD.2
    refine lv_i2l hx hb eL_fruit_0.2.2.2.2.2.2.1 rfl ?_
    obtain ⟨f, ef⟩ : ∃ f : Nat -> Int64, f = vp_updL lo (0 : Int32).toNatClampNeg r.toInt64 := ⟨_, rfl⟩
    have hp := hp f ef
    refine va_last hx hb hK hP hD hS 8 4 rfl rfl (g_in rfl) eL_fruit_0.2.2.2.2.2.2.2.1 (fun H locs hP hD hS => ?_)
    have hP : va_P (dC, dI) classes (wd_L_fruit cI cC cZ cB cJ a_x xI xH xB vI wY xX yA xY uD xO tJ jJ mY pG pD pE eO aBq dN bD bJ aI uU gF pL qF jE eW eY dU fY gJ jG nU f) H := by rw [ef]; exact hP
    have hD : va_D (va_A (wd_L_fruit cI cC cZ cB cJ a_x xI xH xB vI wY xX yA xY uD xO tJ jJ mY pG pD pE eO aBq dN bD bJ aI uU gF pL qF jE eW eY dU fY gJ jG nU lo) s.heap.size) (wd_L_fruit cI cC cZ cB cJ a_x xI xH xB vI wY xX yA xY uD xO tJ jJ mY pG pD pE eO aBq dN bD bJ aI uU gF pL qF jE eW eY dU fY gJ jG nU f) := by rw [ef]; exact hD
    refine lv_goto (tgt := 17) hx hb eL_fruit_0.2.2.2.2.2.2.2.2.1 (by decide) ?_
    refine lv_iconst (v := 0) hx hb eL_fruit_0.2.2.2.2.2.2.2.2.2.2.2.2.1 aCi ?_
    refine W.widen (k := 1) (n := 6) (Nat.le_refl _) (Nat.le_refl _) ?_
    exact W.iret (v := 0) hx hb hr (fun t ht hW => ⟨⟨0, f, rfl, hp, by rw [ht]; exact hP, va_K.moved hW.alike hK, hD⟩, hS.F ht⟩) hS.2.2 eL_fruit_0.2.2.2.2.2.2.2.2.2.2.2.2.2
abbrev aX8 (cI cC cZ cB cJ : ClassId) (a_x xI xH xB vI wY xX yA xY uD tJ jJ mY pG pD pE eO aBq : Nat) (dN bD bJ aI : Int32) (mX oE : Nat -> Int32) (lo : Nat -> Int64) : va_W := [(a_x, .inr (9, [.ref xI, .ref xH, .ref xB, .ref vI, .ref wY, .ref xX, .ref yA, .ref xY, .ref uD])), (vI, .inr (3, [.ref tJ, .ref jJ, .ref mY, .ref pG, .ref pD, .ref pE, .ref eO, .int dN, .int bD, .int bJ, .int aI])), (pD, .inl (cI, 8, .inl mX)), (pE, .inl (cI, 8, .inl oE)), (aBq, .inl (cJ, 1, .inr (.inl lo)))]
abbrev rm_L_standing : Room := { frames := 7, cells := 1, slots := 6, locals := 122 }
def wp_L_standing (post : Int32 -> (Nat -> Int64) -> Prop) (p0 p1 bD : Int32) (mX oE : Nat -> Int32) (lo : Nat -> Int64) : Prop := wp_X9_standing (fun r => ∀ f : Nat -> Int64, f = vp_updL lo (0 : Int32).toNatClampNeg r.toInt64 -> post 0 f) (post 1 lo) p0 p1 bD mX oE
set_option maxHeartbeats 4000000 in
set_option maxRecDepth 100000 in
theorem c_L_standing (l : Launch) (hl9 : l.stackTraces = false) (dC : Nat -> ClassId) (dI : Nat -> Nat -> Nat) (cI cC cZ cB cJ : ClassId) (a_x xI xH xB vI wY xX yA xY uD tJ jJ mY pG pD pE eO aBq sz : Nat) (p0 p1 dN bD bJ aI : Int32) (mX oE : Nat -> Int32) (lo : Nat -> Int64) (post : Int32 -> (Nat -> Int64) -> Prop) (hw : wp_L_standing post p0 p1 bD mX oE lo) : Met l yL_standing (Cond.codeWith yL_standing aUh 5 (some .int) [(0, 10, 13, 13)] :: W0) rm_L_standing (va_Pc [.ref a_x, .int p0, .int p1, .ref aBq] (gPre (dC, dI) (tyl cI cC cZ cB cJ) (aX8 cI cC cZ cB cJ a_x xI xH xB vI wY xX yA xY uD tJ jJ mY pG pD pE eO aBq dN bD bJ aI mX oE lo) sz)) (va_Qi (fun (r : Int32) (u : Nat -> Int64) => post r u) (fun u t => gB (dC, dI) (tyl cI cC cZ cB cJ) (va_A (aX8 cI cC cZ cB cJ a_x xI xH xB vI wY xX yA xY uD tJ jJ mY pG pD pE eO aBq dN bD bJ aI mX oE lo) sz) (aX8 cI cC cZ cB cJ a_x xI xH xB vI wY xX yA xY uD tJ jJ mY pG pD pE eO aBq dN bD bJ aI mX oE u) t) (va_A (aX8 cI cC cZ cB cJ a_x xI xH xB vI wY xX yA xY uD tJ jJ mY pG pD pE eO aBq dN bD bJ aI mX oE lo) sz)) 1 6 (va_A (aX8 cI cC cZ cB cJ a_x xI xH xB vI wY xX yA xY uD tJ jJ mY pG pD pE eO aBq dN bD bJ aI mX oE lo) sz) := by
  refine va_MetW (cc := aUh) (maxL := 5) (ret := some .int) (hh := [(0, 10, 13, 13)]) (by decide) rfl ?_
  intro p e s m args below meth c s₁ B hml hv
  obtain ⟨rfl, hsz, ⟨hP, hK, hD0⟩, hN, hZ⟩ := hv
  subst hsz
  have hts0 := atoms_spec (ws := (Cond.codeWith yL_standing aUh 5 (some .int) [(0, 10, 13, 13)] :: W0)) B.pre
  have hts : ∀ w ∈ W0, w.before _ s = true := fun w hw => hts0 w (List.mem_cons_of_mem _ hw)
  have htab := vx_table (x := yL_standing) B (hts0 _ List.mem_cons_self)
  have hx := B.exec
  have hb := B.bytes
  have hr := B.returns
  have hlocks := B.notSynchronized
  have hown : s.vm.findClass RL = some m.cls := findClass_of_methodNamed B.named
  have hD := hD0.self (sz := s.heap.size)
  have hA : ∀ q, s.heap.size <= q -> (va_A (aX8 cI cC cZ cB cJ a_x xI xH xB vI wY xX yA xY uD tJ jJ mY pG pD pE eO aBq dN bD bJ aI mX oE lo) s.heap.size) q := fun q h => Or.inr h
  have C0 : gc aUh (some .int) 5 RL (dC, dI) (tyl cI cC cZ cB cJ) (va_A (aX8 cI cC cZ cB cJ a_x xI xH xB vI wY xX yA xY uD tJ jJ mY pG pD pE eO aBq dN bD bJ aI mX oE lo) s.heap.size) p s m ([.ref a_x, .int p0, .int p1, .ref aBq] : List Value).toArray meth c := ⟨hx, hb, hr, hml, hown, hts, hlocks, hA, hK, hN, hZ⟩
  have hS : va_S (va_A (aX8 cI cC cZ cB cJ a_x xI xH xB vI wY xX yA xY uD tJ jJ mY pG pD pE eO aBq dN bD bJ aI mX oE lo) s.heap.size) s.heap s.heap [] := va_S.rf
  have hl := lv_entry [.ref a_x, .int p0, .int p1, .ref aBq] (n := 5) (lbz rfl)
  rw [lg_entry_eq]
  generalize (lg_sl [.ref a_x, .int p0, .int p1, .ref aBq] ++ List.replicate (5 - (lg_sl [.ref a_x, .int p0, .int p1, .ref aBq]).length) Slot.unset).toArray = ls at hl ⊢
  have hl : lv_has ls 5 [(0, .ref a_x), (1, .int p0), (2, .int p1), (3, .ref aBq)] := hl
  have hp := hw
  unfold wp_L_standing at hp
  refine lv_aload_n hx hb aXw.1 rfl (lv_at hl 3 rfl) ?_
  refine lv_iconst (v := 0) hx hb aXw.2.1 aCi ?_
  refine lv_aload_n hx hb aXw.2.2.1 rfl (lv_at hl 0 rfl) ?_
  refine lv_iload_n hx hb aXw.2.2.2.1 rfl (lv_at hl 1 rfl) ?_
  refine lv_iload_n hx hb aXw.2.2.2.2.1 rfl (lv_at hl 2 rfl) ?_
  refine g_calliX (wc := (aY6 cI cC cZ cB cJ a_x xI xH xB vI wY xX yA xY uD tJ jJ mY pG pD pE eO dN bD bJ aI mX oE)) hP hD hS hA [0, 1, 2, 3] [4] rfl rfl rfl rfl (g_runVX (As := [.int p0, .int p1]) (rest := [.int 0, .ref aBq]) C0 hP hD hS [0, 1, 2, 3] rfl rfl 0 9 rfl rfl (c_X9_standing l hl9 dC dI cI cC cZ cB cJ a_x xI xH xB vI wY xX yA xY uD tJ jJ mY pG pD pE eO s.heap.size p0 p1 dN bD bJ aI mX oE _ _ hp) q_1068 q_1069 q_1070 q_1071 aIl h_X9_standing rfl rfl ⟨lbz rfl, lbz rfl⟩ rfl rfl hl.1 rfl (lv_room (lbz rfl)) aXw.2.2.2.2.2.1 ⟨lbz rfl, lbz rfl⟩) (fun ce q9 H locs hp hP hD hS hq hv hcl => ?_) (fun r u H locs hp hP hD hS => ?_)
  · have hPD := PDs (ws' := (aX8 cI cC cZ cB cJ a_x xI xH xB vI wY xX yA xY uD tJ jJ mY pG pD pE eO aBq dN bD bJ aI mX oE lo)) hP hD [1, 2, 3, 4, 0] (by decide) rfl
    have hP := hPD.1
    have hD := hPD.2
    refine gk_catch (own := RL) (name := NSE) (E := NSE) hown ⟨0, 10, 13, 13⟩ htab (by decide) (by decide) (hts _ q_1067) (va_Nw.use rfl (hN _ n_castNSE)) hq hv hcl ?_
    refine lv_astore (lv' := [(4, .ref q9), (0, .ref a_x), (1, .int p0), (2, .int p1), (3, .ref aBq)]) hx hb aXw.2.2.2.2.2.2.2.2.2.1 hl (by decide) rfl (fun ls hl => ?_)
    refine lv_iconst (v := 1) hx hb aXw.2.2.2.2.2.2.2.2.2.2.1 aDx ?_
    refine W.widen (k := 1) (n := 6) (Nat.le_refl _) (Nat.le_refl _) ?_
    exact W.iret (v := 1) hx hb hr (fun t ht hW => ⟨⟨1, lo, rfl, hp, by rw [ht]; exact hP, va_K.moved hW.alike hK, hD⟩, hS.F ht⟩) hS.2.2 aXw.2.2.2.2.2.2.2.2.2.2.2.1
  · have hPD := PDs (ws' := (aX8 cI cC cZ cB cJ a_x xI xH xB vI wY xX yA xY uD tJ jJ mY pG pD pE eO aBq dN bD bJ aI mX oE lo)) hP hD [1, 2, 3, 4, 0] (by decide) rfl
    have hP := hPD.1
    have hD := hPD.2
    refine lv_i2l hx hb aXw.2.2.2.2.2.2.1 rfl ?_
    obtain ⟨f, ef⟩ : ∃ f : Nat -> Int64, f = vp_updL lo (0 : Int32).toNatClampNeg r.toInt64 := ⟨_, rfl⟩
    have hp := hp f ef
    refine va_last hx hb hK hP hD hS 4 4 rfl rfl (g_in rfl) aXw.2.2.2.2.2.2.2.1 (fun H locs hP hD hS => ?_)
    have hP : va_P (dC, dI) classes (aX8 cI cC cZ cB cJ a_x xI xH xB vI wY xX yA xY uD tJ jJ mY pG pD pE eO aBq dN bD bJ aI mX oE f) H := by rw [ef]; exact hP
    have hD : va_D (va_A (aX8 cI cC cZ cB cJ a_x xI xH xB vI wY xX yA xY uD tJ jJ mY pG pD pE eO aBq dN bD bJ aI mX oE lo) s.heap.size) (aX8 cI cC cZ cB cJ a_x xI xH xB vI wY xX yA xY uD tJ jJ mY pG pD pE eO aBq dN bD bJ aI mX oE f) := by rw [ef]; exact hD
    refine lv_goto (tgt := 17) hx hb aXw.2.2.2.2.2.2.2.2.1 (by decide) ?_
    refine lv_iconst (v := 0) hx hb aXw.2.2.2.2.2.2.2.2.2.2.2.2.1 aCi ?_
    refine W.widen (k := 1) (n := 6) (Nat.le_refl _) (Nat.le_refl _) ?_
    exact W.iret (v := 0) hx hb hr (fun t ht hW => ⟨⟨0, f, rfl, hp, by rw [ht]; exact hP, va_K.moved hW.alike hK, hD⟩, hS.F ht⟩) hS.2.2 aXw.2.2.2.2.2.2.2.2.2.2.2.2.2
abbrev wd_L_row (cI cC cZ cB cJ : ClassId) (a_x xI xH xB vI wY xX yA xY uD rG aBq : Nat) (qB : Int32) (jK : Nat -> Int32) (lo : Nat -> Int64) : va_W := [(a_x, .inr (9, [.ref xI, .ref xH, .ref xB, .ref vI, .ref wY, .ref xX, .ref yA, .ref xY, .ref uD])), (yA, .inr (6, [.ref rG, .int qB])), (rG, .inl (cI, 16, .inl jK)), (aBq, .inl (cJ, 1, .inr (.inl lo)))]
abbrev rm_L_row : Room := { frames := 7, cells := 1, slots := 6, locals := 121 }
def wp_L_row (post : Int32 -> (Nat -> Int64) -> Prop) (p0 qB : Int32) (jK : Nat -> Int32) (lo : Nat -> Int64) : Prop := wp_X9_row (fun r => ∀ f : Nat -> Int64, f = vp_updL lo (0 : Int32).toNatClampNeg r.toInt64 -> post 0 f) (post 1 lo) p0 qB jK
set_option maxHeartbeats 4000000 in
set_option maxRecDepth 100000 in
theorem c_L_row (l : Launch) (hl9 : l.stackTraces = false) (dC : Nat -> ClassId) (dI : Nat -> Nat -> Nat) (cI cC cZ cB cJ : ClassId) (a_x xI xH xB vI wY xX yA xY uD rG aBq sz : Nat) (p0 qB : Int32) (jK : Nat -> Int32) (lo : Nat -> Int64) (post : Int32 -> (Nat -> Int64) -> Prop) (hw : wp_L_row post p0 qB jK lo) : Met l yL_row (Cond.codeWith yL_row cL_row 4 (some .int) [(0, 9, 12, 13)] :: W0) rm_L_row (va_Pc [.ref a_x, .int p0, .ref aBq] (gPre (dC, dI) (tyl cI cC cZ cB cJ) (wd_L_row cI cC cZ cB cJ a_x xI xH xB vI wY xX yA xY uD rG aBq qB jK lo) sz)) (va_Qi (fun (r : Int32) (u : Nat -> Int64) => post r u) (fun u t => gB (dC, dI) (tyl cI cC cZ cB cJ) (va_A (wd_L_row cI cC cZ cB cJ a_x xI xH xB vI wY xX yA xY uD rG aBq qB jK lo) sz) (wd_L_row cI cC cZ cB cJ a_x xI xH xB vI wY xX yA xY uD rG aBq qB jK u) t) (va_A (wd_L_row cI cC cZ cB cJ a_x xI xH xB vI wY xX yA xY uD rG aBq qB jK lo) sz)) 1 6 (va_A (wd_L_row cI cC cZ cB cJ a_x xI xH xB vI wY xX yA xY uD rG aBq qB jK lo) sz) := by
  refine va_MetW (cc := cL_row) (maxL := 4) (ret := some .int) (hh := [(0, 9, 12, 13)]) (by decide) rfl ?_
  intro p e s m args below meth c s₁ B hml hv
  obtain ⟨rfl, hsz, ⟨hP, hK, hD0⟩, hN, hZ⟩ := hv
  subst hsz
  have hts0 := atoms_spec (ws := (Cond.codeWith yL_row cL_row 4 (some .int) [(0, 9, 12, 13)] :: W0)) B.pre
  have hts : ∀ w ∈ W0, w.before _ s = true := fun w hw => hts0 w (List.mem_cons_of_mem _ hw)
  have htab := vx_table (x := yL_row) B (hts0 _ List.mem_cons_self)
  have hx := B.exec
  have hb := B.bytes
  have hr := B.returns
  have hlocks := B.notSynchronized
  have hown : s.vm.findClass RL = some m.cls := findClass_of_methodNamed B.named
  have hD := hD0.self (sz := s.heap.size)
  have hA : ∀ q, s.heap.size <= q -> (va_A (wd_L_row cI cC cZ cB cJ a_x xI xH xB vI wY xX yA xY uD rG aBq qB jK lo) s.heap.size) q := fun q h => Or.inr h
  have C0 : gc cL_row (some .int) 4 RL (dC, dI) (tyl cI cC cZ cB cJ) (va_A (wd_L_row cI cC cZ cB cJ a_x xI xH xB vI wY xX yA xY uD rG aBq qB jK lo) s.heap.size) p s m ([.ref a_x, .int p0, .ref aBq] : List Value).toArray meth c := ⟨hx, hb, hr, hml, hown, hts, hlocks, hA, hK, hN, hZ⟩
  have hS : va_S (va_A (wd_L_row cI cC cZ cB cJ a_x xI xH xB vI wY xX yA xY uD rG aBq qB jK lo) s.heap.size) s.heap s.heap [] := va_S.rf
  have hl := lv_entry [.ref a_x, .int p0, .ref aBq] (n := 4) (lbz rfl)
  rw [lg_entry_eq]
  generalize (lg_sl [.ref a_x, .int p0, .ref aBq] ++ List.replicate (4 - (lg_sl [.ref a_x, .int p0, .ref aBq]).length) Slot.unset).toArray = ls at hl ⊢
  have hl : lv_has ls 4 [(0, .ref a_x), (1, .int p0), (2, .ref aBq)] := hl
  have hp := hw
  unfold wp_L_row at hp
  refine lv_aload_n hx hb eL_row_0.1 rfl (lv_at hl 2 rfl) ?_
  refine lv_iconst (v := 0) hx hb eL_row_0.2.1 aCi ?_
  refine lv_aload_n hx hb eL_row_0.2.2.1 rfl (lv_at hl 0 rfl) ?_
  refine lv_iload_n hx hb eL_row_0.2.2.2.1 rfl (lv_at hl 1 rfl) ?_
  refine g_calliX (wc := (wd_X9_row cI cC cZ cB cJ a_x xI xH xB vI wY xX yA xY uD rG qB jK)) hP hD hS hA [0, 1, 2] [3] rfl rfl rfl rfl (g_runVX (As := [.int p0]) (rest := [.int 0, .ref aBq]) C0 hP hD hS [0, 1, 2] rfl rfl 0 9 rfl rfl (c_X9_row l hl9 dC dI cI cC cZ cB cJ a_x xI xH xB vI wY xX yA xY uD rG s.heap.size p0 qB jK _ _ hp) q_1072 q_1073 q_1074 q_1075 aIl h_X9_row rfl rfl ⟨lbz rfl, lbz rfl⟩ rfl rfl hl.1 rfl (lv_room (lbz rfl)) eL_row_0.2.2.2.2.1 ⟨lbz rfl, lbz rfl⟩) (fun ce q9 H locs hp hP hD hS hq hv hcl => ?_) (fun r u H locs hp hP hD hS => ?_)
  · have hPD := PDs (ws' := (wd_L_row cI cC cZ cB cJ a_x xI xH xB vI wY xX yA xY uD rG aBq qB jK lo)) hP hD [1, 2, 3, 0] (by decide) rfl
    have hP := hPD.1
    have hD := hPD.2
    refine gk_catch (own := RL) (name := NSE) (E := NSE) hown ⟨0, 9, 12, 13⟩ htab (by decide) (by decide) (hts _ q_1067) (va_Nw.use rfl (hN _ n_castNSE)) hq hv hcl ?_
    refine lv_astore_n (lv' := [(3, .ref q9), (0, .ref a_x), (1, .int p0), (2, .ref aBq)]) hx hb eL_row_0.2.2.2.2.2.2.2.2.1 rfl hl (by decide) rfl (fun ls hl => ?_)
    refine lv_iconst (v := 1) hx hb eL_row_0.2.2.2.2.2.2.2.2.2.1 aDx ?_
    refine W.widen (k := 1) (n := 6) (Nat.le_refl _) (Nat.le_refl _) ?_
    exact W.iret (v := 1) hx hb hr (fun t ht hW => ⟨⟨1, lo, rfl, hp, by rw [ht]; exact hP, va_K.moved hW.alike hK, hD⟩, hS.F ht⟩) hS.2.2 eL_row_0.2.2.2.2.2.2.2.2.2.2.1
  · have hPD := PDs (ws' := (wd_L_row cI cC cZ cB cJ a_x xI xH xB vI wY xX yA xY uD rG aBq qB jK lo)) hP hD [1, 2, 3, 0] (by decide) rfl
    have hP := hPD.1
    have hD := hPD.2
    refine lv_i2l hx hb eL_row_0.2.2.2.2.2.1 rfl ?_
    obtain ⟨f, ef⟩ : ∃ f : Nat -> Int64, f = vp_updL lo (0 : Int32).toNatClampNeg r.toInt64 := ⟨_, rfl⟩
    have hp := hp f ef
    refine va_last hx hb hK hP hD hS 3 4 rfl rfl (g_in rfl) eL_row_0.2.2.2.2.2.2.1 (fun H locs hP hD hS => ?_)
    have hP : va_P (dC, dI) classes (wd_L_row cI cC cZ cB cJ a_x xI xH xB vI wY xX yA xY uD rG aBq qB jK f) H := by rw [ef]; exact hP
    have hD : va_D (va_A (wd_L_row cI cC cZ cB cJ a_x xI xH xB vI wY xX yA xY uD rG aBq qB jK lo) s.heap.size) (wd_L_row cI cC cZ cB cJ a_x xI xH xB vI wY xX yA xY uD rG aBq qB jK f) := by rw [ef]; exact hD
    refine lv_goto (tgt := 15) hx hb eL_row_0.2.2.2.2.2.2.2.1 (by decide) ?_
    refine lv_iconst (v := 0) hx hb eL_row_0.2.2.2.2.2.2.2.2.2.2.2.1 aCi ?_
    refine W.widen (k := 1) (n := 6) (Nat.le_refl _) (Nat.le_refl _) ?_
    exact W.iret (v := 0) hx hb hr (fun t ht hW => ⟨⟨0, f, rfl, hp, by rw [ht]; exact hP, va_K.moved hW.alike hK, hD⟩, hS.F ht⟩) hS.2.2 eL_row_0.2.2.2.2.2.2.2.2.2.2.2.2
