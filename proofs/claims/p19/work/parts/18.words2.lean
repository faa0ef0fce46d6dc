theorem q_1063 : Cond.code yX9_fruit cX9_fruit 3 (some .int) ∈ W0 := W0_in (tb_5 (List.mem_of_getElem? (i := 182) rfl)) rfl
theorem q_1064 : Cond.methodLink RL 7 yX9_fruit ∈ W0 := W0_in (tb_5 (List.mem_of_getElem? (i := 179) rfl)) rfl
theorem q_1065 : Cond.instanceMethod yX9_fruit ∈ W0 := W0_in (tb_5 (List.mem_of_getElem? (i := 180) rfl)) rfl
theorem q_1066 : Cond.selects RX9 yX9_fruit yX9_fruit ∈ W0 := W0_in (tb_5 (List.mem_of_getElem? (i := 181) rfl)) rfl
theorem q_1067 : Cond.classLink RL 13 "java/util/NoSuchElementException" ∈ W0 := W0_in (tb_5 (List.mem_of_getElem? (i := 178) rfl)) rfl
theorem q_1068 : Cond.code yX9_standing cX9_standing 3 (some .int) ∈ W0 := W0_in (tb_6 (List.mem_of_getElem? (i := 14) rfl)) rfl
theorem q_1069 : Cond.methodLink RL 15 yX9_standing ∈ W0 := W0_in (tb_6 (List.mem_of_getElem? (i := 11) rfl)) rfl
theorem q_1070 : Cond.instanceMethod yX9_standing ∈ W0 := W0_in (tb_6 (List.mem_of_getElem? (i := 12) rfl)) rfl
theorem q_1071 : Cond.selects RX9 yX9_standing yX9_standing ∈ W0 := W0_in (tb_6 (List.mem_of_getElem? (i := 13) rfl)) rfl
theorem q_1072 : Cond.code yX9_row cX9_row 2 (some .int) ∈ W0 := W0_in (tb_6 (List.mem_of_getElem? (i := 22) rfl)) rfl
theorem q_1073 : Cond.methodLink RL 18 yX9_row ∈ W0 := W0_in (tb_6 (List.mem_of_getElem? (i := 19) rfl)) rfl
theorem q_1074 : Cond.instanceMethod yX9_row ∈ W0 := W0_in (tb_6 (List.mem_of_getElem? (i := 20) rfl)) rfl
theorem q_1075 : Cond.selects RX9 yX9_row yX9_row ∈ W0 := W0_in (tb_6 (List.mem_of_getElem? (i := 21) rfl)) rfl
theorem q_1076 : Cond.code yX9_sign cX9_sign 2 (some .int) ∈ W0 := W0_in (tb_2 (List.mem_of_getElem? (i := 125) rfl)) rfl
theorem q_1077 : Cond.instanceMethod yX9_sign ∈ W0 := W0_in (tb_2 (List.mem_of_getElem? (i := 123) rfl)) rfl
theorem q_1078 : Cond.selects RX9 yX9_sign yX9_sign ∈ W0 := W0_in (tb_2 (List.mem_of_getElem? (i := 124) rfl)) rfl
theorem q_1079 : Cond.methodLink RL 26 yX9_sign ∈ W0 := W0_in (tb_2 (List.mem_of_getElem? (i := 122) rfl)) rfl
theorem q_1080 : Cond.code yX10_sign cX10_sign 3 (some .int) ∈ W0 := W0_in (tb_6 (List.mem_of_getElem? (i := 186) rfl)) rfl
theorem q_1081 : Cond.instanceMethod yX10_sign ∈ W0 := W0_in (tb_6 (List.mem_of_getElem? (i := 184) rfl)) rfl
theorem q_1082 : Cond.selects RX10 yX10_sign yX10_sign ∈ W0 := W0_in (tb_6 (List.mem_of_getElem? (i := 185) rfl)) rfl
theorem q_1083 : Cond.methodLink RL 29 yX10_sign ∈ W0 := W0_in (tb_6 (List.mem_of_getElem? (i := 183) rfl)) rfl
theorem q_1084 : Cond.code yX9_end cX9_end 2 (some .boolean) ∈ W0 := W0_in (tb_2 (List.mem_of_getElem? (i := 133) rfl)) rfl
theorem q_1085 : Cond.instanceMethod yX9_end ∈ W0 := W0_in (tb_2 (List.mem_of_getElem? (i := 131) rfl)) rfl
theorem q_1086 : Cond.selects RX9 yX9_end yX9_end ∈ W0 := W0_in (tb_2 (List.mem_of_getElem? (i := 132) rfl)) rfl
theorem q_1087 : Cond.methodLink RL 30 yX9_end ∈ W0 := W0_in (tb_2 (List.mem_of_getElem? (i := 130) rfl)) rfl
theorem q_1088 : Cond.code yX10_end cX10_end 2 (some .boolean) ∈ W0 := W0_in (tb_6 (List.mem_of_getElem? (i := 190) rfl)) rfl
theorem q_1089 : Cond.instanceMethod yX10_end ∈ W0 := W0_in (tb_6 (List.mem_of_getElem? (i := 188) rfl)) rfl
theorem q_1090 : Cond.selects RX10 yX10_end yX10_end ∈ W0 := W0_in (tb_6 (List.mem_of_getElem? (i := 189) rfl)) rfl
theorem q_1091 : Cond.methodLink RL 34 yX10_end ∈ W0 := W0_in (tb_6 (List.mem_of_getElem? (i := 187) rfl)) rfl
theorem q_1092 : Cond.code yX9_orchard cX9_orchard 4 (some .int) ∈ W0 := W0_in (tb_2 (List.mem_of_getElem? (i := 141) rfl)) rfl
theorem q_1093 : Cond.instanceMethod yX9_orchard ∈ W0 := W0_in (tb_2 (List.mem_of_getElem? (i := 139) rfl)) rfl
theorem q_1094 : Cond.selects RX9 yX9_orchard yX9_orchard ∈ W0 := W0_in (tb_2 (List.mem_of_getElem? (i := 140) rfl)) rfl
theorem q_1095 : Cond.methodLink RL 35 yX9_orchard ∈ W0 := W0_in (tb_2 (List.mem_of_getElem? (i := 138) rfl)) rfl
theorem q_1096 : Cond.code yX10_orchard cX10_orchard 3 (some .int) ∈ W0 := W0_in (tb_6 (List.mem_of_getElem? (i := 197) rfl)) rfl
theorem q_1097 : Cond.instanceMethod yX10_orchard ∈ W0 := W0_in (tb_6 (List.mem_of_getElem? (i := 195) rfl)) rfl
theorem q_1098 : Cond.selects RX10 yX10_orchard yX10_orchard ∈ W0 := W0_in (tb_6 (List.mem_of_getElem? (i := 196) rfl)) rfl
theorem q_1099 : Cond.methodLink RL 39 yX10_orchard ∈ W0 := W0_in (tb_6 (List.mem_of_getElem? (i := 194) rfl)) rfl
theorem q_1100 : Cond.code yX9_rule cX9_rule 2 (some .int) ∈ W0 := W0_in (tb_2 (List.mem_of_getElem? (i := 213) rfl)) rfl
theorem q_1101 : Cond.instanceMethod yX9_rule ∈ W0 := W0_in (tb_2 (List.mem_of_getElem? (i := 211) rfl)) rfl
theorem q_1102 : Cond.selects RX9 yX9_rule yX9_rule ∈ W0 := W0_in (tb_2 (List.mem_of_getElem? (i := 212) rfl)) rfl
theorem q_1103 : Cond.methodLink RL 40 yX9_rule ∈ W0 := W0_in (tb_2 (List.mem_of_getElem? (i := 210) rfl)) rfl
theorem q_1104 : Cond.code yX10_rule cX10_rule 3 (some .int) ∈ W0 := W0_in (tb_6 (List.mem_of_getElem? (i := 233) rfl)) rfl
theorem q_1105 : Cond.instanceMethod yX10_rule ∈ W0 := W0_in (tb_6 (List.mem_of_getElem? (i := 231) rfl)) rfl
theorem q_1106 : Cond.selects RX10 yX10_rule yX10_rule ∈ W0 := W0_in (tb_6 (List.mem_of_getElem? (i := 232) rfl)) rfl
theorem q_1107 : Cond.methodLink RL 43 yX10_rule ∈ W0 := W0_in (tb_6 (List.mem_of_getElem? (i := 230) rfl)) rfl
theorem q_1108 : Cond.codeWith yL_fruit cL_fruit 5 (some .int) [(0, 10, 13, 13)] ∈ W0 := W0_in (tb_5 (List.mem_of_getElem? (i := 177) rfl)) rfl
theorem q_1109 : Cond.methodLink RL 44 yL_fruit ∈ W0 := W0_in (tb_5 (List.mem_of_getElem? (i := 175) rfl)) rfl
theorem q_1110 : Cond.static yL_fruit ∈ W0 := W0_in (tb_5 (List.mem_of_getElem? (i := 176) rfl)) rfl
theorem q_1111 : Cond.initialized RL ∈ W0 := W0_in (tb_1 (List.mem_of_getElem? (i := 0) rfl)) rfl
theorem q_1112 : Cond.code yX10_fruit cX10_fruit 3 (some .int) ∈ W0 := W0_in (tb_7 (List.mem_of_getElem? (i := 27) rfl)) rfl
theorem q_1113 : Cond.instanceMethod yX10_fruit ∈ W0 := W0_in (tb_7 (List.mem_of_getElem? (i := 25) rfl)) rfl
theorem q_1114 : Cond.selects RX10 yX10_fruit yX10_fruit ∈ W0 := W0_in (tb_7 (List.mem_of_getElem? (i := 26) rfl)) rfl
theorem q_1115 : Cond.methodLink RL 49 yX10_fruit ∈ W0 := W0_in (tb_7 (List.mem_of_getElem? (i := 24) rfl)) rfl
theorem q_1116 : Cond.codeWith yL_standing cL_standing 5 (some .int) [(0, 10, 13, 13)] ∈ W0 := W0_in (tb_6 (List.mem_of_getElem? (i := 10) rfl)) rfl
theorem q_1117 : Cond.methodLink RL 50 yL_standing ∈ W0 := W0_in (tb_6 (List.mem_of_getElem? (i := 8) rfl)) rfl
theorem q_1118 : Cond.static yL_standing ∈ W0 := W0_in (tb_6 (List.mem_of_getElem? (i := 9) rfl)) rfl
theorem q_1119 : Cond.code yX10_standing cX10_standing 3 (some .int) ∈ W0 := W0_in (tb_7 (List.mem_of_getElem? (i := 54) rfl)) rfl
theorem q_1120 : Cond.instanceMethod yX10_standing ∈ W0 := W0_in (tb_7 (List.mem_of_getElem? (i := 52) rfl)) rfl
theorem q_1121 : Cond.selects RX10 yX10_standing yX10_standing ∈ W0 := W0_in (tb_7 (List.mem_of_getElem? (i := 53) rfl)) rfl
theorem q_1122 : Cond.methodLink RL 52 yX10_standing ∈ W0 := W0_in (tb_7 (List.mem_of_getElem? (i := 51) rfl)) rfl
theorem q_1123 : Cond.code yX9_set cX9_set 4 (some .int) ∈ W0 := W0_in (tb_3 (List.mem_of_getElem? (i := 92) rfl)) rfl
theorem q_1124 : Cond.instanceMethod yX9_set ∈ W0 := W0_in (tb_3 (List.mem_of_getElem? (i := 90) rfl)) rfl
theorem q_1125 : Cond.selects RX9 yX9_set yX9_set ∈ W0 := W0_in (tb_3 (List.mem_of_getElem? (i := 91) rfl)) rfl
theorem q_1126 : Cond.methodLink RL 53 yX9_set ∈ W0 := W0_in (tb_3 (List.mem_of_getElem? (i := 89) rfl)) rfl
theorem q_1127 : Cond.code yX10_set cX10_set 4 (some .int) ∈ W0 := W0_in (tb_7 (List.mem_of_getElem? (i := 66) rfl)) rfl
theorem q_1128 : Cond.instanceMethod yX10_set ∈ W0 := W0_in (tb_7 (List.mem_of_getElem? (i := 64) rfl)) rfl
theorem q_1129 : Cond.selects RX10 yX10_set yX10_set ∈ W0 := W0_in (tb_7 (List.mem_of_getElem? (i := 65) rfl)) rfl
theorem q_1130 : Cond.methodLink RL 56 yX10_set ∈ W0 := W0_in (tb_7 (List.mem_of_getElem? (i := 63) rfl)) rfl
theorem q_1131 : Cond.code yX9_sheet cX9_sheet 5 (some .int) ∈ W0 := W0_in (tb_3 (List.mem_of_getElem? (i := 100) rfl)) rfl
theorem q_1132 : Cond.instanceMethod yX9_sheet ∈ W0 := W0_in (tb_3 (List.mem_of_getElem? (i := 98) rfl)) rfl
theorem q_1133 : Cond.selects RX9 yX9_sheet yX9_sheet ∈ W0 := W0_in (tb_3 (List.mem_of_getElem? (i := 99) rfl)) rfl
theorem q_1134 : Cond.methodLink RL 57 yX9_sheet ∈ W0 := W0_in (tb_3 (List.mem_of_getElem? (i := 97) rfl)) rfl
theorem q_1135 : Cond.code yX10_sheet cX10_sheet 9 (some .int) ∈ W0 := W0_in (tb_7 (List.mem_of_getElem? (i := 70) rfl)) rfl
theorem q_1136 : Cond.instanceMethod yX10_sheet ∈ W0 := W0_in (tb_7 (List.mem_of_getElem? (i := 68) rfl)) rfl
theorem q_1137 : Cond.selects RX10 yX10_sheet yX10_sheet ∈ W0 := W0_in (tb_7 (List.mem_of_getElem? (i := 69) rfl)) rfl
theorem q_1138 : Cond.methodLink RL 61 yX10_sheet ∈ W0 := W0_in (tb_7 (List.mem_of_getElem? (i := 67) rfl)) rfl
theorem q_1139 : Cond.code yX9_move cX9_move 2 (some .int) ∈ W0 := W0_in (tb_3 (List.mem_of_getElem? (i := 110) rfl)) rfl
theorem q_1140 : Cond.instanceMethod yX9_move ∈ W0 := W0_in (tb_3 (List.mem_of_getElem? (i := 108) rfl)) rfl
theorem q_1141 : Cond.selects RX9 yX9_move yX9_move ∈ W0 := W0_in (tb_3 (List.mem_of_getElem? (i := 109) rfl)) rfl
theorem q_1142 : Cond.methodLink RL 62 yX9_move ∈ W0 := W0_in (tb_3 (List.mem_of_getElem? (i := 107) rfl)) rfl
theorem q_1143 : Cond.code yX10_move cX10_move 3 (some .int) ∈ W0 := W0_in (tb_7 (List.mem_of_getElem? (i := 75) rfl)) rfl
theorem q_1144 : Cond.instanceMethod yX10_move ∈ W0 := W0_in (tb_7 (List.mem_of_getElem? (i := 73) rfl)) rfl
theorem q_1145 : Cond.selects RX10 yX10_move yX10_move ∈ W0 := W0_in (tb_7 (List.mem_of_getElem? (i := 74) rfl)) rfl
theorem q_1146 : Cond.methodLink RL 65 yX10_move ∈ W0 := W0_in (tb_7 (List.mem_of_getElem? (i := 72) rfl)) rfl
theorem q_1147 : Cond.code yX9_foot cX9_foot 2 (some .int) ∈ W0 := W0_in (tb_3 (List.mem_of_getElem? (i := 159) rfl)) rfl
theorem q_1148 : Cond.instanceMethod yX9_foot ∈ W0 := W0_in (tb_3 (List.mem_of_getElem? (i := 157) rfl)) rfl
theorem q_1149 : Cond.selects RX9 yX9_foot yX9_foot ∈ W0 := W0_in (tb_3 (List.mem_of_getElem? (i := 158) rfl)) rfl
theorem q_1150 : Cond.methodLink RL 66 yX9_foot ∈ W0 := W0_in (tb_3 (List.mem_of_getElem? (i := 156) rfl)) rfl
theorem q_1151 : Cond.code yX10_foot cX10_foot 3 (some .int) ∈ W0 := W0_in (tb_7 (List.mem_of_getElem? (i := 106) rfl)) rfl
theorem q_1152 : Cond.instanceMethod yX10_foot ∈ W0 := W0_in (tb_7 (List.mem_of_getElem? (i := 104) rfl)) rfl
theorem q_1153 : Cond.selects RX10 yX10_foot yX10_foot ∈ W0 := W0_in (tb_7 (List.mem_of_getElem? (i := 105) rfl)) rfl
theorem q_1154 : Cond.methodLink RL 69 yX10_foot ∈ W0 := W0_in (tb_7 (List.mem_of_getElem? (i := 103) rfl)) rfl
theorem q_1155 : Cond.code yX9_pick cX9_pick 3 (some .int) ∈ W0 := W0_in (tb_3 (List.mem_of_getElem? (i := 170) rfl)) rfl
theorem q_1156 : Cond.instanceMethod yX9_pick ∈ W0 := W0_in (tb_3 (List.mem_of_getElem? (i := 168) rfl)) rfl
theorem q_1157 : Cond.selects RX9 yX9_pick yX9_pick ∈ W0 := W0_in (tb_3 (List.mem_of_getElem? (i := 169) rfl)) rfl
theorem q_1158 : Cond.methodLink RL 70 yX9_pick ∈ W0 := W0_in (tb_3 (List.mem_of_getElem? (i := 167) rfl)) rfl
theorem q_1159 : Cond.code yX10_pick cX10_pick 4 (some .int) ∈ W0 := W0_in (tb_7 (List.mem_of_getElem? (i := 110) rfl)) rfl
theorem q_1160 : Cond.instanceMethod yX10_pick ∈ W0 := W0_in (tb_7 (List.mem_of_getElem? (i := 108) rfl)) rfl
theorem q_1161 : Cond.selects RX10 yX10_pick yX10_pick ∈ W0 := W0_in (tb_7 (List.mem_of_getElem? (i := 109) rfl)) rfl
theorem q_1162 : Cond.methodLink RL 73 yX10_pick ∈ W0 := W0_in (tb_7 (List.mem_of_getElem? (i := 107) rfl)) rfl
theorem q_1163 : Cond.code yX9_down cX9_down 1 (some .int) ∈ W0 := W0_in (tb_4 (List.mem_of_getElem? (i := 3) rfl)) rfl
theorem q_1164 : Cond.instanceMethod yX9_down ∈ W0 := W0_in (tb_4 (List.mem_of_getElem? (i := 1) rfl)) rfl
theorem q_1165 : Cond.selects RX9 yX9_down yX9_down ∈ W0 := W0_in (tb_4 (List.mem_of_getElem? (i := 2) rfl)) rfl
theorem q_1166 : Cond.methodLink RL 74 yX9_down ∈ W0 := W0_in (tb_4 (List.mem_of_getElem? (i := 0) rfl)) rfl
theorem q_1167 : Cond.code yX10_down cX10_down 1 (some .int) ∈ W0 := W0_in (tb_7 (List.mem_of_getElem? (i := 135) rfl)) rfl
theorem q_1168 : Cond.instanceMethod yX10_down ∈ W0 := W0_in (tb_7 (List.mem_of_getElem? (i := 133) rfl)) rfl
theorem q_1169 : Cond.selects RX10 yX10_down yX10_down ∈ W0 := W0_in (tb_7 (List.mem_of_getElem? (i := 134) rfl)) rfl
theorem q_1170 : Cond.methodLink RL 77 yX10_down ∈ W0 := W0_in (tb_7 (List.mem_of_getElem? (i := 132) rfl)) rfl
theorem q_1171 : Cond.code yX9_shake cX9_shake 1 (some .int) ∈ W0 := W0_in (tb_4 (List.mem_of_getElem? (i := 11) rfl)) rfl
theorem q_1172 : Cond.instanceMethod yX9_shake ∈ W0 := W0_in (tb_4 (List.mem_of_getElem? (i := 9) rfl)) rfl
theorem q_1173 : Cond.selects RX9 yX9_shake yX9_shake ∈ W0 := W0_in (tb_4 (List.mem_of_getElem? (i := 10) rfl)) rfl
theorem q_1174 : Cond.methodLink RL 78 yX9_shake ∈ W0 := W0_in (tb_4 (List.mem_of_getElem? (i := 8) rfl)) rfl
theorem q_1175 : Cond.code yX10_shake cX10_shake 1 (some .int) ∈ W0 := W0_in (tb_7 (List.mem_of_getElem? (i := 147) rfl)) rfl
theorem q_1176 : Cond.instanceMethod yX10_shake ∈ W0 := W0_in (tb_7 (List.mem_of_getElem? (i := 145) rfl)) rfl
theorem q_1177 : Cond.selects RX10 yX10_shake yX10_shake ∈ W0 := W0_in (tb_7 (List.mem_of_getElem? (i := 146) rfl)) rfl
theorem q_1178 : Cond.methodLink RL 81 yX10_shake ∈ W0 := W0_in (tb_7 (List.mem_of_getElem? (i := 144) rfl)) rfl
theorem q_1179 : Cond.code yX9_sleep cX9_sleep 1 (some .int) ∈ W0 := W0_in (tb_4 (List.mem_of_getElem? (i := 32) rfl)) rfl
theorem q_1180 : Cond.instanceMethod yX9_sleep ∈ W0 := W0_in (tb_4 (List.mem_of_getElem? (i := 30) rfl)) rfl
theorem q_1181 : Cond.selects RX9 yX9_sleep yX9_sleep ∈ W0 := W0_in (tb_4 (List.mem_of_getElem? (i := 31) rfl)) rfl
theorem q_1182 : Cond.methodLink RL 82 yX9_sleep ∈ W0 := W0_in (tb_4 (List.mem_of_getElem? (i := 29) rfl)) rfl
theorem q_1183 : Cond.code yX10_sleep cX10_sleep 1 (some .int) ∈ W0 := W0_in (tb_7 (List.mem_of_getElem? (i := 167) rfl)) rfl
theorem q_1184 : Cond.instanceMethod yX10_sleep ∈ W0 := W0_in (tb_7 (List.mem_of_getElem? (i := 165) rfl)) rfl
theorem q_1185 : Cond.selects RX10 yX10_sleep yX10_sleep ∈ W0 := W0_in (tb_7 (List.mem_of_getElem? (i := 166) rfl)) rfl
theorem q_1186 : Cond.methodLink RL 85 yX10_sleep ∈ W0 := W0_in (tb_7 (List.mem_of_getElem? (i := 164) rfl)) rfl
theorem q_1187 : Cond.code yX9_day cX9_day 4 (some .int) ∈ W0 := W0_in (tb_4 (List.mem_of_getElem? (i := 40) rfl)) rfl
theorem q_1188 : Cond.instanceMethod yX9_day ∈ W0 := W0_in (tb_4 (List.mem_of_getElem? (i := 38) rfl)) rfl
theorem q_1189 : Cond.selects RX9 yX9_day yX9_day ∈ W0 := W0_in (tb_4 (List.mem_of_getElem? (i := 39) rfl)) rfl
theorem q_1190 : Cond.methodLink RL 86 yX9_day ∈ W0 := W0_in (tb_4 (List.mem_of_getElem? (i := 37) rfl)) rfl
theorem q_1191 : Cond.code yX10_day cX10_day 4 (some .int) ∈ W0 := W0_in (tb_7 (List.mem_of_getElem? (i := 175) rfl)) rfl
theorem q_1192 : Cond.instanceMethod yX10_day ∈ W0 := W0_in (tb_7 (List.mem_of_getElem? (i := 173) rfl)) rfl
theorem q_1193 : Cond.selects RX10 yX10_day yX10_day ∈ W0 := W0_in (tb_7 (List.mem_of_getElem? (i := 174) rfl)) rfl
theorem q_1194 : Cond.methodLink RL 89 yX10_day ∈ W0 := W0_in (tb_7 (List.mem_of_getElem? (i := 172) rfl)) rfl
theorem q_1195 : Cond.code yX9_undo cX9_undo 1 (some .int) ∈ W0 := W0_in (tb_4 (List.mem_of_getElem? (i := 80) rfl)) rfl
theorem q_1196 : Cond.instanceMethod yX9_undo ∈ W0 := W0_in (tb_4 (List.mem_of_getElem? (i := 78) rfl)) rfl
theorem q_1197 : Cond.selects RX9 yX9_undo yX9_undo ∈ W0 := W0_in (tb_4 (List.mem_of_getElem? (i := 79) rfl)) rfl
theorem q_1198 : Cond.methodLink RL 90 yX9_undo ∈ W0 := W0_in (tb_4 (List.mem_of_getElem? (i := 77) rfl)) rfl
theorem q_1199 : Cond.code yX10_undo cX10_undo 2 (some .int) ∈ W0 := W0_in (tb_7 (List.mem_of_getElem? (i := 191) rfl)) rfl
theorem q_1200 : Cond.instanceMethod yX10_undo ∈ W0 := W0_in (tb_7 (List.mem_of_getElem? (i := 189) rfl)) rfl
theorem q_1201 : Cond.selects RX10 yX10_undo yX10_undo ∈ W0 := W0_in (tb_7 (List.mem_of_getElem? (i := 190) rfl)) rfl
theorem q_1202 : Cond.methodLink RL 93 yX10_undo ∈ W0 := W0_in (tb_7 (List.mem_of_getElem? (i := 188) rfl)) rfl
theorem q_1203 : Cond.code yX9_reached cX9_reached 2 (some .int) ∈ W0 := W0_in (tb_4 (List.mem_of_getElem? (i := 92) rfl)) rfl
theorem q_1204 : Cond.instanceMethod yX9_reached ∈ W0 := W0_in (tb_4 (List.mem_of_getElem? (i := 90) rfl)) rfl
theorem q_1205 : Cond.selects RX9 yX9_reached yX9_reached ∈ W0 := W0_in (tb_4 (List.mem_of_getElem? (i := 91) rfl)) rfl
theorem q_1206 : Cond.methodLink RL 94 yX9_reached ∈ W0 := W0_in (tb_4 (List.mem_of_getElem? (i := 89) rfl)) rfl
theorem q_1207 : Cond.code yX10_reached cX10_reached 2 (some .int) ∈ W0 := W0_in (tb_7 (List.mem_of_getElem? (i := 195) rfl)) rfl
theorem q_1208 : Cond.instanceMethod yX10_reached ∈ W0 := W0_in (tb_7 (List.mem_of_getElem? (i := 193) rfl)) rfl
theorem q_1209 : Cond.selects RX10 yX10_reached yX10_reached ∈ W0 := W0_in (tb_7 (List.mem_of_getElem? (i := 194) rfl)) rfl
theorem q_1210 : Cond.methodLink RL 97 yX10_reached ∈ W0 := W0_in (tb_7 (List.mem_of_getElem? (i := 192) rfl)) rfl
theorem q_1211 : Cond.code yX9_from cX9_from 6 (some .int) ∈ W0 := W0_in (tb_4 (List.mem_of_getElem? (i := 99) rfl)) rfl
theorem q_1212 : Cond.instanceMethod yX9_from ∈ W0 := W0_in (tb_4 (List.mem_of_getElem? (i := 97) rfl)) rfl
theorem q_1213 : Cond.selects RX9 yX9_from yX9_from ∈ W0 := W0_in (tb_4 (List.mem_of_getElem? (i := 98) rfl)) rfl
theorem q_1214 : Cond.methodLink RL 98 yX9_from ∈ W0 := W0_in (tb_4 (List.mem_of_getElem? (i := 96) rfl)) rfl
theorem q_1215 : Cond.code yX10_from cX10_from 5 (some .int) ∈ W0 := W0_in (tb_7 (List.mem_of_getElem? (i := 199) rfl)) rfl
theorem q_1216 : Cond.instanceMethod yX10_from ∈ W0 := W0_in (tb_7 (List.mem_of_getElem? (i := 197) rfl)) rfl
theorem q_1217 : Cond.selects RX10 yX10_from yX10_from ∈ W0 := W0_in (tb_7 (List.mem_of_getElem? (i := 198) rfl)) rfl
theorem q_1218 : Cond.methodLink RL 101 yX10_from ∈ W0 := W0_in (tb_7 (List.mem_of_getElem? (i := 196) rfl)) rfl
theorem q_1219 : Cond.code yX9_never cX9_never 3 (some .int) ∈ W0 := W0_in (tb_4 (List.mem_of_getElem? (i := 106) rfl)) rfl
theorem q_1220 : Cond.instanceMethod yX9_never ∈ W0 := W0_in (tb_4 (List.mem_of_getElem? (i := 104) rfl)) rfl
theorem q_1221 : Cond.selects RX9 yX9_never yX9_never ∈ W0 := W0_in (tb_4 (List.mem_of_getElem? (i := 105) rfl)) rfl
theorem q_1222 : Cond.methodLink RL 102 yX9_never ∈ W0 := W0_in (tb_4 (List.mem_of_getElem? (i := 103) rfl)) rfl
theorem q_1223 : Cond.code yX10_never cX10_never 3 (some .int) ∈ W0 := W0_in (tb_7 (List.mem_of_getElem? (i := 203) rfl)) rfl
theorem q_1224 : Cond.instanceMethod yX10_never ∈ W0 := W0_in (tb_7 (List.mem_of_getElem? (i := 201) rfl)) rfl
theorem q_1225 : Cond.selects RX10 yX10_never yX10_never ∈ W0 := W0_in (tb_7 (List.mem_of_getElem? (i := 202) rfl)) rfl
theorem q_1226 : Cond.methodLink RL 105 yX10_never ∈ W0 := W0_in (tb_7 (List.mem_of_getElem? (i := 200) rfl)) rfl
theorem q_1227 : Cond.code yX9_seconds cX9_seconds 4 (some .int) ∈ W0 := W0_in (tb_4 (List.mem_of_getElem? (i := 112) rfl)) rfl
theorem q_1228 : Cond.instanceMethod yX9_seconds ∈ W0 := W0_in (tb_4 (List.mem_of_getElem? (i := 110) rfl)) rfl
theorem q_1229 : Cond.selects RX9 yX9_seconds yX9_seconds ∈ W0 := W0_in (tb_4 (List.mem_of_getElem? (i := 111) rfl)) rfl
theorem q_1230 : Cond.methodLink RL 106 yX9_seconds ∈ W0 := W0_in (tb_4 (List.mem_of_getElem? (i := 109) rfl)) rfl
theorem q_1231 : Cond.code yX10_seconds cX10_seconds 4 (some .int) ∈ W0 := W0_in (tb_7 (List.mem_of_getElem? (i := 215) rfl)) rfl
theorem q_1232 : Cond.instanceMethod yX10_seconds ∈ W0 := W0_in (tb_7 (List.mem_of_getElem? (i := 213) rfl)) rfl
theorem q_1233 : Cond.selects RX10 yX10_seconds yX10_seconds ∈ W0 := W0_in (tb_7 (List.mem_of_getElem? (i := 214) rfl)) rfl
theorem q_1234 : Cond.methodLink RL 110 yX10_seconds ∈ W0 := W0_in (tb_7 (List.mem_of_getElem? (i := 212) rfl)) rfl
theorem q_1235 : Cond.code yX9_both cX9_both 5 (some .int) ∈ W0 := W0_in (tb_4 (List.mem_of_getElem? (i := 117) rfl)) rfl
theorem q_1236 : Cond.instanceMethod yX9_both ∈ W0 := W0_in (tb_4 (List.mem_of_getElem? (i := 115) rfl)) rfl
theorem q_1237 : Cond.selects RX9 yX9_both yX9_both ∈ W0 := W0_in (tb_4 (List.mem_of_getElem? (i := 116) rfl)) rfl
theorem q_1238 : Cond.methodLink RL 111 yX9_both ∈ W0 := W0_in (tb_4 (List.mem_of_getElem? (i := 114) rfl)) rfl
theorem q_1239 : Cond.code yX10_both cX10_both 3 (some .int) ∈ W0 := W0_in (tb_7 (List.mem_of_getElem? (i := 219) rfl)) rfl
theorem q_1240 : Cond.instanceMethod yX10_both ∈ W0 := W0_in (tb_7 (List.mem_of_getElem? (i := 217) rfl)) rfl
theorem q_1241 : Cond.selects RX10 yX10_both yX10_both ∈ W0 := W0_in (tb_7 (List.mem_of_getElem? (i := 218) rfl)) rfl
theorem q_1242 : Cond.methodLink RL 114 yX10_both ∈ W0 := W0_in (tb_7 (List.mem_of_getElem? (i := 216) rfl)) rfl
theorem q_1243 : Cond.code yX9_nearest cX9_nearest 6 (some .int) ∈ W0 := W0_in (tb_4 (List.mem_of_getElem? (i := 145) rfl)) rfl
theorem q_1244 : Cond.instanceMethod yX9_nearest ∈ W0 := W0_in (tb_4 (List.mem_of_getElem? (i := 143) rfl)) rfl
theorem q_1245 : Cond.selects RX9 yX9_nearest yX9_nearest ∈ W0 := W0_in (tb_4 (List.mem_of_getElem? (i := 144) rfl)) rfl
theorem q_1246 : Cond.methodLink RL 115 yX9_nearest ∈ W0 := W0_in (tb_4 (List.mem_of_getElem? (i := 142) rfl)) rfl
theorem q_1247 : Cond.code yX10_nearest cX10_nearest 4 (some .int) ∈ W0 := W0_in (tb_7 (List.mem_of_getElem? (i := 239) rfl)) rfl
theorem q_1248 : Cond.instanceMethod yX10_nearest ∈ W0 := W0_in (tb_7 (List.mem_of_getElem? (i := 237) rfl)) rfl
theorem q_1249 : Cond.selects RX10 yX10_nearest yX10_nearest ∈ W0 := W0_in (tb_7 (List.mem_of_getElem? (i := 238) rfl)) rfl
theorem q_1250 : Cond.methodLink RL 118 yX10_nearest ∈ W0 := W0_in (tb_7 (List.mem_of_getElem? (i := 236) rfl)) rfl
theorem q_1251 : Cond.code yX9_fewest cX9_fewest 1 (some .int) ∈ W0 := W0_in (tb_4 (List.mem_of_getElem? (i := 153) rfl)) rfl
theorem q_1252 : Cond.instanceMethod yX9_fewest ∈ W0 := W0_in (tb_4 (List.mem_of_getElem? (i := 151) rfl)) rfl
theorem q_1253 : Cond.selects RX9 yX9_fewest yX9_fewest ∈ W0 := W0_in (tb_4 (List.mem_of_getElem? (i := 152) rfl)) rfl
theorem q_1254 : Cond.methodLink RL 119 yX9_fewest ∈ W0 := W0_in (tb_4 (List.mem_of_getElem? (i := 150) rfl)) rfl
theorem q_1255 : Cond.code yX10_fewest cX10_fewest 1 (some .int) ∈ W0 := W0_in (tb_8 (List.mem_of_getElem? (i := 7) rfl)) rfl
theorem q_1256 : Cond.instanceMethod yX10_fewest ∈ W0 := W0_in (tb_8 (List.mem_of_getElem? (i := 5) rfl)) rfl
theorem q_1257 : Cond.selects RX10 yX10_fewest yX10_fewest ∈ W0 := W0_in (tb_8 (List.mem_of_getElem? (i := 6) rfl)) rfl
theorem q_1258 : Cond.methodLink RL 122 yX10_fewest ∈ W0 := W0_in (tb_8 (List.mem_of_getElem? (i := 4) rfl)) rfl
theorem q_1259 : Cond.code yX9_needed cX9_needed 6 (some .int) ∈ W0 := W0_in (tb_4 (List.mem_of_getElem? (i := 170) rfl)) rfl
theorem q_1260 : Cond.instanceMethod yX9_needed ∈ W0 := W0_in (tb_4 (List.mem_of_getElem? (i := 168) rfl)) rfl
theorem q_1261 : Cond.selects RX9 yX9_needed yX9_needed ∈ W0 := W0_in (tb_4 (List.mem_of_getElem? (i := 169) rfl)) rfl
theorem q_1262 : Cond.methodLink RL 123 yX9_needed ∈ W0 := W0_in (tb_4 (List.mem_of_getElem? (i := 167) rfl)) rfl
theorem q_1263 : Cond.code yX10_needed cX10_needed 6 (some .int) ∈ W0 := W0_in (tb_8 (List.mem_of_getElem? (i := 26) rfl)) rfl
theorem q_1264 : Cond.instanceMethod yX10_needed ∈ W0 := W0_in (tb_8 (List.mem_of_getElem? (i := 24) rfl)) rfl
theorem q_1265 : Cond.selects RX10 yX10_needed yX10_needed ∈ W0 := W0_in (tb_8 (List.mem_of_getElem? (i := 25) rfl)) rfl
theorem q_1266 : Cond.methodLink RL 126 yX10_needed ∈ W0 := W0_in (tb_8 (List.mem_of_getElem? (i := 23) rfl)) rfl
theorem q_1267 : Cond.code yX9_birds cX9_birds 6 (some .int) ∈ W0 := W0_in (tb_4 (List.mem_of_getElem? (i := 175) rfl)) rfl
theorem q_1268 : Cond.instanceMethod yX9_birds ∈ W0 := W0_in (tb_4 (List.mem_of_getElem? (i := 173) rfl)) rfl
theorem q_1269 : Cond.selects RX9 yX9_birds yX9_birds ∈ W0 := W0_in (tb_4 (List.mem_of_getElem? (i := 174) rfl)) rfl
theorem q_1270 : Cond.methodLink RL 127 yX9_birds ∈ W0 := W0_in (tb_4 (List.mem_of_getElem? (i := 172) rfl)) rfl
theorem q_1271 : Cond.code yX10_birds cX10_birds 6 (some .int) ∈ W0 := W0_in (tb_8 (List.mem_of_getElem? (i := 30) rfl)) rfl
theorem q_1272 : Cond.instanceMethod yX10_birds ∈ W0 := W0_in (tb_8 (List.mem_of_getElem? (i := 28) rfl)) rfl
theorem q_1273 : Cond.selects RX10 yX10_birds yX10_birds ∈ W0 := W0_in (tb_8 (List.mem_of_getElem? (i := 29) rfl)) rfl
theorem q_1274 : Cond.methodLink RL 130 yX10_birds ∈ W0 := W0_in (tb_8 (List.mem_of_getElem? (i := 27) rfl)) rfl
theorem q_1275 : Cond.code yX9_next cX9_next 6 (some .int) ∈ W0 := W0_in (tb_4 (List.mem_of_getElem? (i := 188) rfl)) rfl
theorem q_1276 : Cond.instanceMethod yX9_next ∈ W0 := W0_in (tb_4 (List.mem_of_getElem? (i := 186) rfl)) rfl
theorem q_1277 : Cond.selects RX9 yX9_next yX9_next ∈ W0 := W0_in (tb_4 (List.mem_of_getElem? (i := 187) rfl)) rfl
theorem q_1278 : Cond.methodLink RL 131 yX9_next ∈ W0 := W0_in (tb_4 (List.mem_of_getElem? (i := 185) rfl)) rfl
theorem q_1279 : Cond.code yX10_next cX10_next 4 (some .int) ∈ W0 := W0_in (tb_8 (List.mem_of_getElem? (i := 38) rfl)) rfl
theorem q_1280 : Cond.instanceMethod yX10_next ∈ W0 := W0_in (tb_8 (List.mem_of_getElem? (i := 36) rfl)) rfl
theorem q_1281 : Cond.selects RX10 yX10_next yX10_next ∈ W0 := W0_in (tb_8 (List.mem_of_getElem? (i := 37) rfl)) rfl
theorem q_1282 : Cond.methodLink RL 134 yX10_next ∈ W0 := W0_in (tb_8 (List.mem_of_getElem? (i := 35) rfl)) rfl
theorem q_1283 : Cond.code yX9_route cX9_route 8 (some .int) ∈ W0 := W0_in (tb_4 (List.mem_of_getElem? (i := 197) rfl)) rfl
theorem q_1284 : Cond.instanceMethod yX9_route ∈ W0 := W0_in (tb_4 (List.mem_of_getElem? (i := 195) rfl)) rfl
theorem q_1285 : Cond.selects RX9 yX9_route yX9_route ∈ W0 := W0_in (tb_4 (List.mem_of_getElem? (i := 196) rfl)) rfl
theorem q_1286 : Cond.methodLink RL 135 yX9_route ∈ W0 := W0_in (tb_4 (List.mem_of_getElem? (i := 194) rfl)) rfl
theorem q_1287 : Cond.code yX10_route cX10_route 6 (some .int) ∈ W0 := W0_in (tb_8 (List.mem_of_getElem? (i := 42) rfl)) rfl
theorem q_1288 : Cond.instanceMethod yX10_route ∈ W0 := W0_in (tb_8 (List.mem_of_getElem? (i := 40) rfl)) rfl
theorem q_1289 : Cond.selects RX10 yX10_route yX10_route ∈ W0 := W0_in (tb_8 (List.mem_of_getElem? (i := 41) rfl)) rfl
theorem q_1290 : Cond.methodLink RL 138 yX10_route ∈ W0 := W0_in (tb_8 (List.mem_of_getElem? (i := 39) rfl)) rfl
theorem q_1291 : Cond.code yX9_work cX9_work 3 (some .int) ∈ W0 := W0_in (tb_4 (List.mem_of_getElem? (i := 217) rfl)) rfl
theorem q_1292 : Cond.instanceMethod yX9_work ∈ W0 := W0_in (tb_4 (List.mem_of_getElem? (i := 215) rfl)) rfl
theorem q_1293 : Cond.selects RX9 yX9_work yX9_work ∈ W0 := W0_in (tb_4 (List.mem_of_getElem? (i := 216) rfl)) rfl
theorem q_1294 : Cond.methodLink RL 139 yX9_work ∈ W0 := W0_in (tb_4 (List.mem_of_getElem? (i := 214) rfl)) rfl
theorem q_1295 : Cond.code yX10_work cX10_work 3 (some .int) ∈ W0 := W0_in (tb_8 (List.mem_of_getElem? (i := 63) rfl)) rfl
theorem q_1296 : Cond.instanceMethod yX10_work ∈ W0 := W0_in (tb_8 (List.mem_of_getElem? (i := 61) rfl)) rfl
theorem q_1297 : Cond.selects RX10 yX10_work yX10_work ∈ W0 := W0_in (tb_8 (List.mem_of_getElem? (i := 62) rfl)) rfl
theorem q_1298 : Cond.methodLink RL 142 yX10_work ∈ W0 := W0_in (tb_8 (List.mem_of_getElem? (i := 60) rfl)) rfl
theorem q_1299 : Cond.code yX9_soonest cX9_soonest 5 (some .int) ∈ W0 := W0_in (tb_5 (List.mem_of_getElem? (i := 6) rfl)) rfl
theorem q_1300 : Cond.instanceMethod yX9_soonest ∈ W0 := W0_in (tb_5 (List.mem_of_getElem? (i := 4) rfl)) rfl
theorem q_1301 : Cond.selects RX9 yX9_soonest yX9_soonest ∈ W0 := W0_in (tb_5 (List.mem_of_getElem? (i := 5) rfl)) rfl
theorem q_1302 : Cond.methodLink RL 143 yX9_soonest ∈ W0 := W0_in (tb_5 (List.mem_of_getElem? (i := 3) rfl)) rfl
theorem q_1303 : Cond.code yX10_soonest cX10_soonest 5 (some .int) ∈ W0 := W0_in (tb_8 (List.mem_of_getElem? (i := 75) rfl)) rfl
theorem q_1304 : Cond.instanceMethod yX10_soonest ∈ W0 := W0_in (tb_8 (List.mem_of_getElem? (i := 73) rfl)) rfl
theorem q_1305 : Cond.selects RX10 yX10_soonest yX10_soonest ∈ W0 := W0_in (tb_8 (List.mem_of_getElem? (i := 74) rfl)) rfl
theorem q_1306 : Cond.methodLink RL 146 yX10_soonest ∈ W0 := W0_in (tb_8 (List.mem_of_getElem? (i := 72) rfl)) rfl
theorem q_1307 : Cond.code yX9_pays cX9_pays 6 (some .int) ∈ W0 := W0_in (tb_5 (List.mem_of_getElem? (i := 10) rfl)) rfl
theorem q_1308 : Cond.instanceMethod yX9_pays ∈ W0 := W0_in (tb_5 (List.mem_of_getElem? (i := 8) rfl)) rfl
theorem q_1309 : Cond.selects RX9 yX9_pays yX9_pays ∈ W0 := W0_in (tb_5 (List.mem_of_getElem? (i := 9) rfl)) rfl
theorem q_1310 : Cond.methodLink RL 147 yX9_pays ∈ W0 := W0_in (tb_5 (List.mem_of_getElem? (i := 7) rfl)) rfl
theorem q_1311 : Cond.code yX10_pays cX10_pays 5 (some .int) ∈ W0 := W0_in (tb_8 (List.mem_of_getElem? (i := 79) rfl)) rfl
theorem q_1312 : Cond.instanceMethod yX10_pays ∈ W0 := W0_in (tb_8 (List.mem_of_getElem? (i := 77) rfl)) rfl
theorem q_1313 : Cond.selects RX10 yX10_pays yX10_pays ∈ W0 := W0_in (tb_8 (List.mem_of_getElem? (i := 78) rfl)) rfl
theorem q_1314 : Cond.methodLink RL 150 yX10_pays ∈ W0 := W0_in (tb_8 (List.mem_of_getElem? (i := 76) rfl)) rfl
theorem q_1315 : Cond.code yX9_trips cX9_trips 6 (some .int) ∈ W0 := W0_in (tb_5 (List.mem_of_getElem? (i := 15) rfl)) rfl
theorem q_1316 : Cond.instanceMethod yX9_trips ∈ W0 := W0_in (tb_5 (List.mem_of_getElem? (i := 13) rfl)) rfl
theorem q_1317 : Cond.selects RX9 yX9_trips yX9_trips ∈ W0 := W0_in (tb_5 (List.mem_of_getElem? (i := 14) rfl)) rfl
theorem q_1318 : Cond.methodLink RL 151 yX9_trips ∈ W0 := W0_in (tb_5 (List.mem_of_getElem? (i := 12) rfl)) rfl
theorem q_1319 : Cond.code yX10_trips cX10_trips 5 (some .int) ∈ W0 := W0_in (tb_8 (List.mem_of_getElem? (i := 83) rfl)) rfl
theorem q_1320 : Cond.instanceMethod yX10_trips ∈ W0 := W0_in (tb_8 (List.mem_of_getElem? (i := 81) rfl)) rfl
theorem q_1321 : Cond.selects RX10 yX10_trips yX10_trips ∈ W0 := W0_in (tb_8 (List.mem_of_getElem? (i := 82) rfl)) rfl
theorem q_1322 : Cond.methodLink RL 154 yX10_trips ∈ W0 := W0_in (tb_8 (List.mem_of_getElem? (i := 80) rfl)) rfl
theorem q_1323 : Cond.code yX9_helps cX9_helps 4 (some .int) ∈ W0 := W0_in (tb_5 (List.mem_of_getElem? (i := 19) rfl)) rfl
theorem q_1324 : Cond.instanceMethod yX9_helps ∈ W0 := W0_in (tb_5 (List.mem_of_getElem? (i := 17) rfl)) rfl
theorem q_1325 : Cond.selects RX9 yX9_helps yX9_helps ∈ W0 := W0_in (tb_5 (List.mem_of_getElem? (i := 18) rfl)) rfl
theorem q_1326 : Cond.methodLink RL 155 yX9_helps ∈ W0 := W0_in (tb_5 (List.mem_of_getElem? (i := 16) rfl)) rfl
theorem q_1327 : Cond.code yX10_helps cX10_helps 4 (some .int) ∈ W0 := W0_in (tb_8 (List.mem_of_getElem? (i := 87) rfl)) rfl
theorem q_1328 : Cond.instanceMethod yX10_helps ∈ W0 := W0_in (tb_8 (List.mem_of_getElem? (i := 85) rfl)) rfl
theorem q_1329 : Cond.selects RX10 yX10_helps yX10_helps ∈ W0 := W0_in (tb_8 (List.mem_of_getElem? (i := 86) rfl)) rfl
theorem q_1330 : Cond.methodLink RL 158 yX10_helps ∈ W0 := W0_in (tb_8 (List.mem_of_getElem? (i := 84) rfl)) rfl
theorem q_1331 : Cond.code yX9_hooked cX9_hooked 7 (some .int) ∈ W0 := W0_in (tb_5 (List.mem_of_getElem? (i := 24) rfl)) rfl
theorem q_1332 : Cond.instanceMethod yX9_hooked ∈ W0 := W0_in (tb_5 (List.mem_of_getElem? (i := 22) rfl)) rfl
theorem q_1333 : Cond.selects RX9 yX9_hooked yX9_hooked ∈ W0 := W0_in (tb_5 (List.mem_of_getElem? (i := 23) rfl)) rfl
theorem q_1334 : Cond.methodLink RL 159 yX9_hooked ∈ W0 := W0_in (tb_5 (List.mem_of_getElem? (i := 21) rfl)) rfl
theorem q_1335 : Cond.code yX10_hooked cX10_hooked 7 (some .int) ∈ W0 := W0_in (tb_8 (List.mem_of_getElem? (i := 91) rfl)) rfl
theorem q_1336 : Cond.instanceMethod yX10_hooked ∈ W0 := W0_in (tb_8 (List.mem_of_getElem? (i := 89) rfl)) rfl
theorem q_1337 : Cond.selects RX10 yX10_hooked yX10_hooked ∈ W0 := W0_in (tb_8 (List.mem_of_getElem? (i := 90) rfl)) rfl
theorem q_1338 : Cond.methodLink RL 162 yX10_hooked ∈ W0 := W0_in (tb_8 (List.mem_of_getElem? (i := 88) rfl)) rfl
theorem q_1339 : Cond.code yX9_broken cX9_broken 4 (some .int) ∈ W0 := W0_in (tb_5 (List.mem_of_getElem? (i := 29) rfl)) rfl
theorem q_1340 : Cond.instanceMethod yX9_broken ∈ W0 := W0_in (tb_5 (List.mem_of_getElem? (i := 27) rfl)) rfl
theorem q_1341 : Cond.selects RX9 yX9_broken yX9_broken ∈ W0 := W0_in (tb_5 (List.mem_of_getElem? (i := 28) rfl)) rfl
theorem q_1342 : Cond.methodLink RL 163 yX9_broken ∈ W0 := W0_in (tb_5 (List.mem_of_getElem? (i := 26) rfl)) rfl
theorem q_1343 : Cond.code yX10_broken cX10_broken 4 (some .int) ∈ W0 := W0_in (tb_8 (List.mem_of_getElem? (i := 95) rfl)) rfl
theorem q_1344 : Cond.instanceMethod yX10_broken ∈ W0 := W0_in (tb_8 (List.mem_of_getElem? (i := 93) rfl)) rfl
theorem q_1345 : Cond.selects RX10 yX10_broken yX10_broken ∈ W0 := W0_in (tb_8 (List.mem_of_getElem? (i := 94) rfl)) rfl
theorem q_1346 : Cond.methodLink RL 166 yX10_broken ∈ W0 := W0_in (tb_8 (List.mem_of_getElem? (i := 92) rfl)) rfl
theorem q_1347 : Cond.code yX9_sweep cX9_sweep 8 (some .int) ∈ W0 := W0_in (tb_5 (List.mem_of_getElem? (i := 33) rfl)) rfl
theorem q_1348 : Cond.instanceMethod yX9_sweep ∈ W0 := W0_in (tb_5 (List.mem_of_getElem? (i := 31) rfl)) rfl
theorem q_1349 : Cond.selects RX9 yX9_sweep yX9_sweep ∈ W0 := W0_in (tb_5 (List.mem_of_getElem? (i := 32) rfl)) rfl
theorem q_1350 : Cond.methodLink RL 167 yX9_sweep ∈ W0 := W0_in (tb_5 (List.mem_of_getElem? (i := 30) rfl)) rfl
theorem q_1351 : Cond.code yX10_sweep cX10_sweep 8 (some .int) ∈ W0 := W0_in (tb_8 (List.mem_of_getElem? (i := 99) rfl)) rfl
theorem q_1352 : Cond.instanceMethod yX10_sweep ∈ W0 := W0_in (tb_8 (List.mem_of_getElem? (i := 97) rfl)) rfl
theorem q_1353 : Cond.selects RX10 yX10_sweep yX10_sweep ∈ W0 := W0_in (tb_8 (List.mem_of_getElem? (i := 98) rfl)) rfl
theorem q_1354 : Cond.methodLink RL 170 yX10_sweep ∈ W0 := W0_in (tb_8 (List.mem_of_getElem? (i := 96) rfl)) rfl
theorem q_1355 : Cond.code yX9_dusk cX9_dusk 7 (some .int) ∈ W0 := W0_in (tb_5 (List.mem_of_getElem? (i := 37) rfl)) rfl
theorem q_1356 : Cond.instanceMethod yX9_dusk ∈ W0 := W0_in (tb_5 (List.mem_of_getElem? (i := 35) rfl)) rfl
theorem q_1357 : Cond.selects RX9 yX9_dusk yX9_dusk ∈ W0 := W0_in (tb_5 (List.mem_of_getElem? (i := 36) rfl)) rfl
theorem q_1358 : Cond.methodLink RL 171 yX9_dusk ∈ W0 := W0_in (tb_5 (List.mem_of_getElem? (i := 34) rfl)) rfl
theorem q_1359 : Cond.code yX10_dusk cX10_dusk 11 (some .int) ∈ W0 := W0_in (tb_8 (List.mem_of_getElem? (i := 103) rfl)) rfl
theorem q_1360 : Cond.instanceMethod yX10_dusk ∈ W0 := W0_in (tb_8 (List.mem_of_getElem? (i := 101) rfl)) rfl
theorem q_1361 : Cond.selects RX10 yX10_dusk yX10_dusk ∈ W0 := W0_in (tb_8 (List.mem_of_getElem? (i := 102) rfl)) rfl
theorem q_1362 : Cond.methodLink RL 174 yX10_dusk ∈ W0 := W0_in (tb_8 (List.mem_of_getElem? (i := 100) rfl)) rfl
theorem q_1363 : Cond.code yX9_gentle cX9_gentle 5 (some .int) ∈ W0 := W0_in (tb_5 (List.mem_of_getElem? (i := 62) rfl)) rfl
theorem q_1364 : Cond.instanceMethod yX9_gentle ∈ W0 := W0_in (tb_5 (List.mem_of_getElem? (i := 60) rfl)) rfl
theorem q_1365 : Cond.selects RX9 yX9_gentle yX9_gentle ∈ W0 := W0_in (tb_5 (List.mem_of_getElem? (i := 61) rfl)) rfl
theorem q_1366 : Cond.methodLink RL 175 yX9_gentle ∈ W0 := W0_in (tb_5 (List.mem_of_getElem? (i := 59) rfl)) rfl
theorem q_1367 : Cond.code yX10_gentle cX10_gentle 5 (some .int) ∈ W0 := W0_in (tb_8 (List.mem_of_getElem? (i := 111) rfl)) rfl
theorem q_1368 : Cond.instanceMethod yX10_gentle ∈ W0 := W0_in (tb_8 (List.mem_of_getElem? (i := 109) rfl)) rfl
theorem q_1369 : Cond.selects RX10 yX10_gentle yX10_gentle ∈ W0 := W0_in (tb_8 (List.mem_of_getElem? (i := 110) rfl)) rfl
theorem q_1370 : Cond.methodLink RL 178 yX10_gentle ∈ W0 := W0_in (tb_8 (List.mem_of_getElem? (i := 108) rfl)) rfl
theorem q_1371 : Cond.code yX9_harm cX9_harm 5 (some .int) ∈ W0 := W0_in (tb_5 (List.mem_of_getElem? (i := 72) rfl)) rfl
theorem q_1372 : Cond.instanceMethod yX9_harm ∈ W0 := W0_in (tb_5 (List.mem_of_getElem? (i := 70) rfl)) rfl
theorem q_1373 : Cond.selects RX9 yX9_harm yX9_harm ∈ W0 := W0_in (tb_5 (List.mem_of_getElem? (i := 71) rfl)) rfl
theorem q_1374 : Cond.methodLink RL 179 yX9_harm ∈ W0 := W0_in (tb_5 (List.mem_of_getElem? (i := 69) rfl)) rfl
theorem q_1375 : Cond.code yX10_harm cX10_harm 5 (some .int) ∈ W0 := W0_in (tb_8 (List.mem_of_getElem? (i := 115) rfl)) rfl
theorem q_1376 : Cond.instanceMethod yX10_harm ∈ W0 := W0_in (tb_8 (List.mem_of_getElem? (i := 113) rfl)) rfl
theorem q_1377 : Cond.selects RX10 yX10_harm yX10_harm ∈ W0 := W0_in (tb_8 (List.mem_of_getElem? (i := 114) rfl)) rfl
theorem q_1378 : Cond.methodLink RL 182 yX10_harm ∈ W0 := W0_in (tb_8 (List.mem_of_getElem? (i := 112) rfl)) rfl
theorem q_1379 : Cond.code yX9_share cX9_share 8 (some .int) ∈ W0 := W0_in (tb_5 (List.mem_of_getElem? (i := 78) rfl)) rfl
theorem q_1380 : Cond.instanceMethod yX9_share ∈ W0 := W0_in (tb_5 (List.mem_of_getElem? (i := 76) rfl)) rfl
theorem q_1381 : Cond.selects RX9 yX9_share yX9_share ∈ W0 := W0_in (tb_5 (List.mem_of_getElem? (i := 77) rfl)) rfl
theorem q_1382 : Cond.methodLink RL 183 yX9_share ∈ W0 := W0_in (tb_5 (List.mem_of_getElem? (i := 75) rfl)) rfl
theorem q_1383 : Cond.code yX10_share cX10_share 8 (some .int) ∈ W0 := W0_in (tb_8 (List.mem_of_getElem? (i := 119) rfl)) rfl
theorem q_1384 : Cond.instanceMethod yX10_share ∈ W0 := W0_in (tb_8 (List.mem_of_getElem? (i := 117) rfl)) rfl
theorem q_1385 : Cond.selects RX10 yX10_share yX10_share ∈ W0 := W0_in (tb_8 (List.mem_of_getElem? (i := 118) rfl)) rfl
theorem q_1386 : Cond.methodLink RL 186 yX10_share ∈ W0 := W0_in (tb_8 (List.mem_of_getElem? (i := 116) rfl)) rfl
theorem q_1387 : Cond.code yX9_ripens cX9_ripens 5 (some .int) ∈ W0 := W0_in (tb_5 (List.mem_of_getElem? (i := 91) rfl)) rfl
theorem q_1388 : Cond.instanceMethod yX9_ripens ∈ W0 := W0_in (tb_5 (List.mem_of_getElem? (i := 89) rfl)) rfl
theorem q_1389 : Cond.selects RX9 yX9_ripens yX9_ripens ∈ W0 := W0_in (tb_5 (List.mem_of_getElem? (i := 90) rfl)) rfl
theorem q_1390 : Cond.methodLink RL 187 yX9_ripens ∈ W0 := W0_in (tb_5 (List.mem_of_getElem? (i := 88) rfl)) rfl
theorem q_1391 : Cond.code yX10_ripens cX10_ripens 5 (some .int) ∈ W0 := W0_in (tb_8 (List.mem_of_getElem? (i := 127) rfl)) rfl
theorem q_1392 : Cond.instanceMethod yX10_ripens ∈ W0 := W0_in (tb_8 (List.mem_of_getElem? (i := 125) rfl)) rfl
theorem q_1393 : Cond.selects RX10 yX10_ripens yX10_ripens ∈ W0 := W0_in (tb_8 (List.mem_of_getElem? (i := 126) rfl)) rfl
theorem q_1394 : Cond.methodLink RL 190 yX10_ripens ∈ W0 := W0_in (tb_8 (List.mem_of_getElem? (i := 124) rfl)) rfl
theorem q_1395 : Cond.code yX9_ondays cX9_ondays 3 (some .int) ∈ W0 := W0_in (tb_5 (List.mem_of_getElem? (i := 99) rfl)) rfl
theorem q_1396 : Cond.instanceMethod yX9_ondays ∈ W0 := W0_in (tb_5 (List.mem_of_getElem? (i := 97) rfl)) rfl
theorem q_1397 : Cond.selects RX9 yX9_ondays yX9_ondays ∈ W0 := W0_in (tb_5 (List.mem_of_getElem? (i := 98) rfl)) rfl
theorem q_1398 : Cond.methodLink RL 191 yX9_ondays ∈ W0 := W0_in (tb_5 (List.mem_of_getElem? (i := 96) rfl)) rfl
theorem q_1399 : Cond.code yX10_ondays cX10_ondays 2 (some .int) ∈ W0 := W0_in (tb_8 (List.mem_of_getElem? (i := 135) rfl)) rfl
theorem q_1400 : Cond.instanceMethod yX10_ondays ∈ W0 := W0_in (tb_8 (List.mem_of_getElem? (i := 133) rfl)) rfl
theorem q_1401 : Cond.selects RX10 yX10_ondays yX10_ondays ∈ W0 := W0_in (tb_8 (List.mem_of_getElem? (i := 134) rfl)) rfl
theorem q_1402 : Cond.methodLink RL 194 yX10_ondays ∈ W0 := W0_in (tb_8 (List.mem_of_getElem? (i := 132) rfl)) rfl
theorem q_1403 : Cond.code yX9_allripe cX9_allripe 4 (some .int) ∈ W0 := W0_in (tb_5 (List.mem_of_getElem? (i := 103) rfl)) rfl
theorem q_1404 : Cond.instanceMethod yX9_allripe ∈ W0 := W0_in (tb_5 (List.mem_of_getElem? (i := 101) rfl)) rfl
theorem q_1405 : Cond.selects RX9 yX9_allripe yX9_allripe ∈ W0 := W0_in (tb_5 (List.mem_of_getElem? (i := 102) rfl)) rfl
theorem q_1406 : Cond.methodLink RL 195 yX9_allripe ∈ W0 := W0_in (tb_5 (List.mem_of_getElem? (i := 100) rfl)) rfl
theorem q_1407 : Cond.code yX10_allripe cX10_allripe 4 (some .int) ∈ W0 := W0_in (tb_8 (List.mem_of_getElem? (i := 139) rfl)) rfl
theorem q_1408 : Cond.instanceMethod yX10_allripe ∈ W0 := W0_in (tb_8 (List.mem_of_getElem? (i := 137) rfl)) rfl
theorem q_1409 : Cond.selects RX10 yX10_allripe yX10_allripe ∈ W0 := W0_in (tb_8 (List.mem_of_getElem? (i := 138) rfl)) rfl
theorem q_1410 : Cond.methodLink RL 198 yX10_allripe ∈ W0 := W0_in (tb_8 (List.mem_of_getElem? (i := 136) rfl)) rfl
theorem q_1411 : Cond.code yX9_marks cX9_marks 3 (some .int) ∈ W0 := W0_in (tb_5 (List.mem_of_getElem? (i := 107) rfl)) rfl
theorem q_1412 : Cond.instanceMethod yX9_marks ∈ W0 := W0_in (tb_5 (List.mem_of_getElem? (i := 105) rfl)) rfl
theorem q_1413 : Cond.selects RX9 yX9_marks yX9_marks ∈ W0 := W0_in (tb_5 (List.mem_of_getElem? (i := 106) rfl)) rfl
theorem q_1414 : Cond.methodLink RL 199 yX9_marks ∈ W0 := W0_in (tb_5 (List.mem_of_getElem? (i := 104) rfl)) rfl
theorem q_1415 : Cond.code yX10_marks cX10_marks 5 (some .int) ∈ W0 := W0_in (tb_8 (List.mem_of_getElem? (i := 147) rfl)) rfl
theorem q_1416 : Cond.instanceMethod yX10_marks ∈ W0 := W0_in (tb_8 (List.mem_of_getElem? (i := 145) rfl)) rfl
theorem q_1417 : Cond.selects RX10 yX10_marks yX10_marks ∈ W0 := W0_in (tb_8 (List.mem_of_getElem? (i := 146) rfl)) rfl
theorem q_1418 : Cond.methodLink RL 202 yX10_marks ∈ W0 := W0_in (tb_8 (List.mem_of_getElem? (i := 144) rfl)) rfl
theorem q_1419 : Cond.code yX9_grass cX9_grass 3 (some .int) ∈ W0 := W0_in (tb_5 (List.mem_of_getElem? (i := 115) rfl)) rfl
theorem q_1420 : Cond.instanceMethod yX9_grass ∈ W0 := W0_in (tb_5 (List.mem_of_getElem? (i := 113) rfl)) rfl
theorem q_1421 : Cond.selects RX9 yX9_grass yX9_grass ∈ W0 := W0_in (tb_5 (List.mem_of_getElem? (i := 114) rfl)) rfl
theorem q_1422 : Cond.methodLink RL 203 yX9_grass ∈ W0 := W0_in (tb_5 (List.mem_of_getElem? (i := 112) rfl)) rfl
theorem q_1423 : Cond.code yX10_grass cX10_grass 9 (some .int) ∈ W0 := W0_in (tb_8 (List.mem_of_getElem? (i := 143) rfl)) rfl
theorem q_1424 : Cond.instanceMethod yX10_grass ∈ W0 := W0_in (tb_8 (List.mem_of_getElem? (i := 141) rfl)) rfl
theorem q_1425 : Cond.selects RX10 yX10_grass yX10_grass ∈ W0 := W0_in (tb_8 (List.mem_of_getElem? (i := 142) rfl)) rfl
theorem q_1426 : Cond.methodLink RL 206 yX10_grass ∈ W0 := W0_in (tb_8 (List.mem_of_getElem? (i := 140) rfl)) rfl
theorem q_1427 : Cond.code yX9_fits cX9_fits 6 (some .int) ∈ W0 := W0_in (tb_5 (List.mem_of_getElem? (i := 139) rfl)) rfl
theorem q_1428 : Cond.instanceMethod yX9_fits ∈ W0 := W0_in (tb_5 (List.mem_of_getElem? (i := 137) rfl)) rfl
theorem q_1429 : Cond.selects RX9 yX9_fits yX9_fits ∈ W0 := W0_in (tb_5 (List.mem_of_getElem? (i := 138) rfl)) rfl
theorem q_1430 : Cond.methodLink RL 207 yX9_fits ∈ W0 := W0_in (tb_5 (List.mem_of_getElem? (i := 136) rfl)) rfl
theorem q_1431 : Cond.code yX10_fits cX10_fits 7 (some .int) ∈ W0 := W0_in (tb_8 (List.mem_of_getElem? (i := 151) rfl)) rfl
theorem q_1432 : Cond.instanceMethod yX10_fits ∈ W0 := W0_in (tb_8 (List.mem_of_getElem? (i := 149) rfl)) rfl
theorem q_1433 : Cond.selects RX10 yX10_fits yX10_fits ∈ W0 := W0_in (tb_8 (List.mem_of_getElem? (i := 150) rfl)) rfl
theorem q_1434 : Cond.methodLink RL 210 yX10_fits ∈ W0 := W0_in (tb_8 (List.mem_of_getElem? (i := 148) rfl)) rfl
theorem q_1435 : Cond.code yX9_leaned cX9_leaned 3 (some .int) ∈ W0 := W0_in (tb_5 (List.mem_of_getElem? (i := 148) rfl)) rfl
theorem q_1436 : Cond.instanceMethod yX9_leaned ∈ W0 := W0_in (tb_5 (List.mem_of_getElem? (i := 146) rfl)) rfl
theorem q_1437 : Cond.selects RX9 yX9_leaned yX9_leaned ∈ W0 := W0_in (tb_5 (List.mem_of_getElem? (i := 147) rfl)) rfl
theorem q_1438 : Cond.methodLink RL 211 yX9_leaned ∈ W0 := W0_in (tb_5 (List.mem_of_getElem? (i := 145) rfl)) rfl
theorem q_1439 : Cond.code yX10_leaned cX10_leaned 4 (some .int) ∈ W0 := W0_in (tb_8 (List.mem_of_getElem? (i := 159) rfl)) rfl
theorem q_1440 : Cond.instanceMethod yX10_leaned ∈ W0 := W0_in (tb_8 (List.mem_of_getElem? (i := 157) rfl)) rfl
theorem q_1441 : Cond.selects RX10 yX10_leaned yX10_leaned ∈ W0 := W0_in (tb_8 (List.mem_of_getElem? (i := 158) rfl)) rfl
theorem q_1442 : Cond.methodLink RL 214 yX10_leaned ∈ W0 := W0_in (tb_8 (List.mem_of_getElem? (i := 156) rfl)) rfl
theorem q_1443 : Cond.code yX9_autumn cX9_autumn 13 (some .int) ∈ W0 := W0_in (tb_5 (List.mem_of_getElem? (i := 152) rfl)) rfl
theorem q_1444 : Cond.instanceMethod yX9_autumn ∈ W0 := W0_in (tb_5 (List.mem_of_getElem? (i := 150) rfl)) rfl
theorem q_1445 : Cond.selects RX9 yX9_autumn yX9_autumn ∈ W0 := W0_in (tb_5 (List.mem_of_getElem? (i := 151) rfl)) rfl
theorem q_1446 : Cond.methodLink RL 215 yX9_autumn ∈ W0 := W0_in (tb_5 (List.mem_of_getElem? (i := 149) rfl)) rfl
theorem q_1447 : Cond.code yX10_autumn cX10_autumn 12 (some .int) ∈ W0 := W0_in (tb_8 (List.mem_of_getElem? (i := 163) rfl)) rfl
theorem q_1448 : Cond.instanceMethod yX10_autumn ∈ W0 := W0_in (tb_8 (List.mem_of_getElem? (i := 161) rfl)) rfl
theorem q_1449 : Cond.selects RX10 yX10_autumn yX10_autumn ∈ W0 := W0_in (tb_8 (List.mem_of_getElem? (i := 162) rfl)) rfl
theorem q_1450 : Cond.methodLink RL 218 yX10_autumn ∈ W0 := W0_in (tb_8 (List.mem_of_getElem? (i := 160) rfl)) rfl
theorem q_1451 : Cond.code yX9_keep cX9_keep 2 (some .boolean) ∈ W0 := W0_in (tb_5 (List.mem_of_getElem? (i := 158) rfl)) rfl
theorem q_1452 : Cond.instanceMethod yX9_keep ∈ W0 := W0_in (tb_5 (List.mem_of_getElem? (i := 156) rfl)) rfl
theorem q_1453 : Cond.selects RX9 yX9_keep yX9_keep ∈ W0 := W0_in (tb_5 (List.mem_of_getElem? (i := 157) rfl)) rfl
theorem q_1454 : Cond.methodLink RL 219 yX9_keep ∈ W0 := W0_in (tb_5 (List.mem_of_getElem? (i := 155) rfl)) rfl
theorem q_1455 : Cond.code yX10_keep cX10_keep 2 (some .boolean) ∈ W0 := W0_in (tb_8 (List.mem_of_getElem? (i := 172) rfl)) rfl
theorem q_1456 : Cond.instanceMethod yX10_keep ∈ W0 := W0_in (tb_8 (List.mem_of_getElem? (i := 170) rfl)) rfl
theorem q_1457 : Cond.selects RX10 yX10_keep yX10_keep ∈ W0 := W0_in (tb_8 (List.mem_of_getElem? (i := 171) rfl)) rfl
theorem q_1458 : Cond.methodLink RL 222 yX10_keep ∈ W0 := W0_in (tb_8 (List.mem_of_getElem? (i := 169) rfl)) rfl
theorem q_1459 : Cond.code yX9_again cX9_again 2 (some .boolean) ∈ W0 := W0_in (tb_5 (List.mem_of_getElem? (i := 166) rfl)) rfl
theorem q_1460 : Cond.instanceMethod yX9_again ∈ W0 := W0_in (tb_5 (List.mem_of_getElem? (i := 164) rfl)) rfl
theorem q_1461 : Cond.selects RX9 yX9_again yX9_again ∈ W0 := W0_in (tb_5 (List.mem_of_getElem? (i := 165) rfl)) rfl
theorem q_1462 : Cond.methodLink RL 223 yX9_again ∈ W0 := W0_in (tb_5 (List.mem_of_getElem? (i := 163) rfl)) rfl
theorem q_1463 : Cond.code yX10_again cX10_again 3 (some .boolean) ∈ W0 := W0_in (tb_8 (List.mem_of_getElem? (i := 176) rfl)) rfl
theorem q_1464 : Cond.instanceMethod yX10_again ∈ W0 := W0_in (tb_8 (List.mem_of_getElem? (i := 174) rfl)) rfl
theorem q_1465 : Cond.selects RX10 yX10_again yX10_again ∈ W0 := W0_in (tb_8 (List.mem_of_getElem? (i := 175) rfl)) rfl
theorem q_1466 : Cond.methodLink RL 226 yX10_again ∈ W0 := W0_in (tb_8 (List.mem_of_getElem? (i := 173) rfl)) rfl
theorem q_1467 : Cond.code yX9_count cX9_count 2 (some .int) ∈ W0 := W0_in (tb_5 (List.mem_of_getElem? (i := 174) rfl)) rfl
theorem q_1468 : Cond.instanceMethod yX9_count ∈ W0 := W0_in (tb_5 (List.mem_of_getElem? (i := 172) rfl)) rfl
theorem q_1469 : Cond.selects RX9 yX9_count yX9_count ∈ W0 := W0_in (tb_5 (List.mem_of_getElem? (i := 173) rfl)) rfl
theorem q_1470 : Cond.methodLink RL 227 yX9_count ∈ W0 := W0_in (tb_5 (List.mem_of_getElem? (i := 171) rfl)) rfl
theorem q_1471 : Cond.code yX10_count cX10_count 2 (some .int) ∈ W0 := W0_in (tb_8 (List.mem_of_getElem? (i := 180) rfl)) rfl
theorem q_1472 : Cond.instanceMethod yX10_count ∈ W0 := W0_in (tb_8 (List.mem_of_getElem? (i := 178) rfl)) rfl
theorem q_1473 : Cond.selects RX10 yX10_count yX10_count ∈ W0 := W0_in (tb_8 (List.mem_of_getElem? (i := 179) rfl)) rfl
theorem q_1474 : Cond.methodLink RL 230 yX10_count ∈ W0 := W0_in (tb_8 (List.mem_of_getElem? (i := 177) rfl)) rfl
theorem q_1475 : Cond.codeWith yL_row cL_row 4 (some .int) [(0, 9, 12, 13)] ∈ W0 := W0_in (tb_6 (List.mem_of_getElem? (i := 18) rfl)) rfl
theorem q_1476 : Cond.methodLink RL 231 yL_row ∈ W0 := W0_in (tb_6 (List.mem_of_getElem? (i := 16) rfl)) rfl
theorem q_1477 : Cond.static yL_row ∈ W0 := W0_in (tb_6 (List.mem_of_getElem? (i := 17) rfl)) rfl
theorem q_1478 : Cond.code yX10_row cX10_row 2 (some .int) ∈ W0 := W0_in (tb_8 (List.mem_of_getElem? (i := 184) rfl)) rfl
theorem q_1479 : Cond.instanceMethod yX10_row ∈ W0 := W0_in (tb_8 (List.mem_of_getElem? (i := 182) rfl)) rfl
theorem q_1480 : Cond.selects RX10 yX10_row yX10_row ∈ W0 := W0_in (tb_8 (List.mem_of_getElem? (i := 183) rfl)) rfl
theorem q_1481 : Cond.methodLink RL 234 yX10_row ∈ W0 := W0_in (tb_8 (List.mem_of_getElem? (i := 181) rfl)) rfl
theorem q_1482 : Cond.classLink RL 8 RX9 ∈ W0 := W0_in (tb_1 (List.mem_of_getElem? (i := 23) rfl)) rfl
theorem q_1483 : Cond.instantiable RX9 9 ∈ W0 := W0_in (tb_1 (List.mem_of_getElem? (i := 24) rfl)) rfl
theorem q_1484 : Cond.code yX9_init cX9_init 1 none ∈ W0 := W0_in (tb_1 (List.mem_of_getElem? (i := 27) rfl)) rfl
theorem q_1485 : Cond.methodLink RL 22 yX9_init ∈ W0 := W0_in (tb_1 (List.mem_of_getElem? (i := 25) rfl)) rfl
theorem q_1486 : Cond.instanceMethod yX9_init ∈ W0 := W0_in (tb_1 (List.mem_of_getElem? (i := 26) rfl)) rfl
theorem q_1487 : Cond.classLink RL 23 RX10 ∈ W0 := W0_in (tb_6 (List.mem_of_getElem? (i := 23) rfl)) rfl
theorem q_1488 : Cond.instantiable RX10 51 ∈ W0 := W0_in (tb_6 (List.mem_of_getElem? (i := 24) rfl)) rfl
theorem q_1489 : Cond.code yX10_init cX10_init 1 none ∈ W0 := W0_in (tb_6 (List.mem_of_getElem? (i := 27) rfl)) rfl
theorem q_1490 : Cond.methodLink RL 25 yX10_init ∈ W0 := W0_in (tb_6 (List.mem_of_getElem? (i := 25) rfl)) rfl
theorem q_1491 : Cond.instanceMethod yX10_init ∈ W0 := W0_in (tb_6 (List.mem_of_getElem? (i := 26) rfl)) rfl
theorem q_1492 : Cond.arrayClass .long ∈ W0 := W0_in (tb_8 (List.mem_of_getElem? (i := 185) rfl)) rfl
theorem h_X9_fruit : yX9_fruit.cls ≠ "java/lang/invoke/MethodHandle" ∧ yX9_fruit.cls ≠ "java/lang/invoke/VarHandle" ∧ (parseMethodDescriptor yX9_fruit.desc).map (fun d => d.parameters.length) = some 2 := ⟨nc_6.1, nc_6.2, ds_10⟩
theorem h_X9_standing : yX9_standing.cls ≠ "java/lang/invoke/MethodHandle" ∧ yX9_standing.cls ≠ "java/lang/invoke/VarHandle" ∧ (parseMethodDescriptor yX9_standing.desc).map (fun d => d.parameters.length) = some 2 := ⟨nc_6.1, nc_6.2, ds_10⟩
theorem h_X9_row : yX9_row.cls ≠ "java/lang/invoke/MethodHandle" ∧ yX9_row.cls ≠ "java/lang/invoke/VarHandle" ∧ (parseMethodDescriptor yX9_row.desc).map (fun d => d.parameters.length) = some 1 := ⟨nc_6.1, nc_6.2, ds_0⟩
theorem h_X9_sign : yX9_sign.cls ≠ "java/lang/invoke/MethodHandle" ∧ yX9_sign.cls ≠ "java/lang/invoke/VarHandle" ∧ (parseMethodDescriptor yX9_sign.desc).map (fun d => d.parameters.length) = some 1 := ⟨nc_6.1, nc_6.2, ds_0⟩
theorem h_X10_sign : yX10_sign.cls ≠ "java/lang/invoke/MethodHandle" ∧ yX10_sign.cls ≠ "java/lang/invoke/VarHandle" ∧ (parseMethodDescriptor yX10_sign.desc).map (fun d => d.parameters.length) = some 1 := ⟨nc_11.1, nc_11.2, ds_0⟩
theorem h_X9_end : yX9_end.cls ≠ "java/lang/invoke/MethodHandle" ∧ yX9_end.cls ≠ "java/lang/invoke/VarHandle" ∧ (parseMethodDescriptor yX9_end.desc).map (fun d => d.parameters.length) = some 1 := ⟨nc_6.1, nc_6.2, ds_1⟩
theorem h_X10_end : yX10_end.cls ≠ "java/lang/invoke/MethodHandle" ∧ yX10_end.cls ≠ "java/lang/invoke/VarHandle" ∧ (parseMethodDescriptor yX10_end.desc).map (fun d => d.parameters.length) = some 1 := ⟨nc_11.1, nc_11.2, ds_1⟩
theorem h_X9_orchard : yX9_orchard.cls ≠ "java/lang/invoke/MethodHandle" ∧ yX9_orchard.cls ≠ "java/lang/invoke/VarHandle" ∧ (parseMethodDescriptor yX9_orchard.desc).map (fun d => d.parameters.length) = some 0 := ⟨nc_6.1, nc_6.2, ds_2⟩
theorem h_X10_orchard : yX10_orchard.cls ≠ "java/lang/invoke/MethodHandle" ∧ yX10_orchard.cls ≠ "java/lang/invoke/VarHandle" ∧ (parseMethodDescriptor yX10_orchard.desc).map (fun d => d.parameters.length) = some 0 := ⟨nc_11.1, nc_11.2, ds_2⟩
theorem h_X9_rule : yX9_rule.cls ≠ "java/lang/invoke/MethodHandle" ∧ yX9_rule.cls ≠ "java/lang/invoke/VarHandle" ∧ (parseMethodDescriptor yX9_rule.desc).map (fun d => d.parameters.length) = some 0 := ⟨nc_6.1, nc_6.2, ds_2⟩
theorem h_X10_rule : yX10_rule.cls ≠ "java/lang/invoke/MethodHandle" ∧ yX10_rule.cls ≠ "java/lang/invoke/VarHandle" ∧ (parseMethodDescriptor yX10_rule.desc).map (fun d => d.parameters.length) = some 0 := ⟨nc_11.1, nc_11.2, ds_2⟩
theorem nc_14 : RL ≠ "java/lang/invoke/MethodHandle" ∧ RL ≠ "java/lang/invoke/VarHandle" := by decide +kernel
theorem ds_28 : (parseMethodDescriptor "(LWhereTheLadder;II[J)I").map (fun d => d.parameters.length) = some 4 := by decide +kernel
theorem h_L_fruit : yL_fruit.cls ≠ "java/lang/invoke/MethodHandle" ∧ yL_fruit.cls ≠ "java/lang/invoke/VarHandle" ∧ (parseMethodDescriptor yL_fruit.desc).map (fun d => d.parameters.length) = some 4 := ⟨nc_14.1, nc_14.2, ds_28⟩
theorem h_X10_fruit : yX10_fruit.cls ≠ "java/lang/invoke/MethodHandle" ∧ yX10_fruit.cls ≠ "java/lang/invoke/VarHandle" ∧ (parseMethodDescriptor yX10_fruit.desc).map (fun d => d.parameters.length) = some 2 := ⟨nc_11.1, nc_11.2, ds_10⟩
theorem h_L_standing : yL_standing.cls ≠ "java/lang/invoke/MethodHandle" ∧ yL_standing.cls ≠ "java/lang/invoke/VarHandle" ∧ (parseMethodDescriptor yL_standing.desc).map (fun d => d.parameters.length) = some 4 := ⟨nc_14.1, nc_14.2, ds_28⟩
theorem h_X10_standing : yX10_standing.cls ≠ "java/lang/invoke/MethodHandle" ∧ yX10_standing.cls ≠ "java/lang/invoke/VarHandle" ∧ (parseMethodDescriptor yX10_standing.desc).map (fun d => d.parameters.length) = some 2 := ⟨nc_11.1, nc_11.2, ds_10⟩
theorem h_X9_set : yX9_set.cls ≠ "java/lang/invoke/MethodHandle" ∧ yX9_set.cls ≠ "java/lang/invoke/VarHandle" ∧ (parseMethodDescriptor yX9_set.desc).map (fun d => d.parameters.length) = some 2 := ⟨nc_6.1, nc_6.2, ds_10⟩
theorem h_X10_set : yX10_set.cls ≠ "java/lang/invoke/MethodHandle" ∧ yX10_set.cls ≠ "java/lang/invoke/VarHandle" ∧ (parseMethodDescriptor yX10_set.desc).map (fun d => d.parameters.length) = some 2 := ⟨nc_11.1, nc_11.2, ds_10⟩
theorem h_X9_sheet : yX9_sheet.cls ≠ "java/lang/invoke/MethodHandle" ∧ yX9_sheet.cls ≠ "java/lang/invoke/VarHandle" ∧ (parseMethodDescriptor yX9_sheet.desc).map (fun d => d.parameters.length) = some 4 := ⟨nc_6.1, nc_6.2, ds_11⟩
theorem h_X10_sheet : yX10_sheet.cls ≠ "java/lang/invoke/MethodHandle" ∧ yX10_sheet.cls ≠ "java/lang/invoke/VarHandle" ∧ (parseMethodDescriptor yX10_sheet.desc).map (fun d => d.parameters.length) = some 4 := ⟨nc_11.1, nc_11.2, ds_11⟩
theorem h_X9_move : yX9_move.cls ≠ "java/lang/invoke/MethodHandle" ∧ yX9_move.cls ≠ "java/lang/invoke/VarHandle" ∧ (parseMethodDescriptor yX9_move.desc).map (fun d => d.parameters.length) = some 1 := ⟨nc_6.1, nc_6.2, ds_0⟩
theorem h_X10_move : yX10_move.cls ≠ "java/lang/invoke/MethodHandle" ∧ yX10_move.cls ≠ "java/lang/invoke/VarHandle" ∧ (parseMethodDescriptor yX10_move.desc).map (fun d => d.parameters.length) = some 1 := ⟨nc_11.1, nc_11.2, ds_0⟩
theorem h_X9_foot : yX9_foot.cls ≠ "java/lang/invoke/MethodHandle" ∧ yX9_foot.cls ≠ "java/lang/invoke/VarHandle" ∧ (parseMethodDescriptor yX9_foot.desc).map (fun d => d.parameters.length) = some 1 := ⟨nc_6.1, nc_6.2, ds_0⟩
theorem h_X10_foot : yX10_foot.cls ≠ "java/lang/invoke/MethodHandle" ∧ yX10_foot.cls ≠ "java/lang/invoke/VarHandle" ∧ (parseMethodDescriptor yX10_foot.desc).map (fun d => d.parameters.length) = some 1 := ⟨nc_11.1, nc_11.2, ds_0⟩
theorem h_X9_pick : yX9_pick.cls ≠ "java/lang/invoke/MethodHandle" ∧ yX9_pick.cls ≠ "java/lang/invoke/VarHandle" ∧ (parseMethodDescriptor yX9_pick.desc).map (fun d => d.parameters.length) = some 2 := ⟨nc_6.1, nc_6.2, ds_10⟩
theorem h_X10_pick : yX10_pick.cls ≠ "java/lang/invoke/MethodHandle" ∧ yX10_pick.cls ≠ "java/lang/invoke/VarHandle" ∧ (parseMethodDescriptor yX10_pick.desc).map (fun d => d.parameters.length) = some 2 := ⟨nc_11.1, nc_11.2, ds_10⟩
theorem h_X9_down : yX9_down.cls ≠ "java/lang/invoke/MethodHandle" ∧ yX9_down.cls ≠ "java/lang/invoke/VarHandle" ∧ (parseMethodDescriptor yX9_down.desc).map (fun d => d.parameters.length) = some 0 := ⟨nc_6.1, nc_6.2, ds_2⟩
theorem h_X10_down : yX10_down.cls ≠ "java/lang/invoke/MethodHandle" ∧ yX10_down.cls ≠ "java/lang/invoke/VarHandle" ∧ (parseMethodDescriptor yX10_down.desc).map (fun d => d.parameters.length) = some 0 := ⟨nc_11.1, nc_11.2, ds_2⟩
theorem h_X9_shake : yX9_shake.cls ≠ "java/lang/invoke/MethodHandle" ∧ yX9_shake.cls ≠ "java/lang/invoke/VarHandle" ∧ (parseMethodDescriptor yX9_shake.desc).map (fun d => d.parameters.length) = some 0 := ⟨nc_6.1, nc_6.2, ds_2⟩
theorem h_X10_shake : yX10_shake.cls ≠ "java/lang/invoke/MethodHandle" ∧ yX10_shake.cls ≠ "java/lang/invoke/VarHandle" ∧ (parseMethodDescriptor yX10_shake.desc).map (fun d => d.parameters.length) = some 0 := ⟨nc_11.1, nc_11.2, ds_2⟩
theorem h_X9_sleep : yX9_sleep.cls ≠ "java/lang/invoke/MethodHandle" ∧ yX9_sleep.cls ≠ "java/lang/invoke/VarHandle" ∧ (parseMethodDescriptor yX9_sleep.desc).map (fun d => d.parameters.length) = some 0 := ⟨nc_6.1, nc_6.2, ds_2⟩
theorem h_X10_sleep : yX10_sleep.cls ≠ "java/lang/invoke/MethodHandle" ∧ yX10_sleep.cls ≠ "java/lang/invoke/VarHandle" ∧ (parseMethodDescriptor yX10_sleep.desc).map (fun d => d.parameters.length) = some 0 := ⟨nc_11.1, nc_11.2, ds_2⟩
theorem h_X9_day : yX9_day.cls ≠ "java/lang/invoke/MethodHandle" ∧ yX9_day.cls ≠ "java/lang/invoke/VarHandle" ∧ (parseMethodDescriptor yX9_day.desc).map (fun d => d.parameters.length) = some 0 := ⟨nc_6.1, nc_6.2, ds_2⟩
theorem h_X10_day : yX10_day.cls ≠ "java/lang/invoke/MethodHandle" ∧ yX10_day.cls ≠ "java/lang/invoke/VarHandle" ∧ (parseMethodDescriptor yX10_day.desc).map (fun d => d.parameters.length) = some 0 := ⟨nc_11.1, nc_11.2, ds_2⟩
theorem h_X9_undo : yX9_undo.cls ≠ "java/lang/invoke/MethodHandle" ∧ yX9_undo.cls ≠ "java/lang/invoke/VarHandle" ∧ (parseMethodDescriptor yX9_undo.desc).map (fun d => d.parameters.length) = some 0 := ⟨nc_6.1, nc_6.2, ds_2⟩
theorem h_X10_undo : yX10_undo.cls ≠ "java/lang/invoke/MethodHandle" ∧ yX10_undo.cls ≠ "java/lang/invoke/VarHandle" ∧ (parseMethodDescriptor yX10_undo.desc).map (fun d => d.parameters.length) = some 0 := ⟨nc_11.1, nc_11.2, ds_2⟩
theorem h_X9_reached : yX9_reached.cls ≠ "java/lang/invoke/MethodHandle" ∧ yX9_reached.cls ≠ "java/lang/invoke/VarHandle" ∧ (parseMethodDescriptor yX9_reached.desc).map (fun d => d.parameters.length) = some 1 := ⟨nc_6.1, nc_6.2, ds_0⟩
theorem h_X10_reached : yX10_reached.cls ≠ "java/lang/invoke/MethodHandle" ∧ yX10_reached.cls ≠ "java/lang/invoke/VarHandle" ∧ (parseMethodDescriptor yX10_reached.desc).map (fun d => d.parameters.length) = some 1 := ⟨nc_11.1, nc_11.2, ds_0⟩
theorem h_X9_from : yX9_from.cls ≠ "java/lang/invoke/MethodHandle" ∧ yX9_from.cls ≠ "java/lang/invoke/VarHandle" ∧ (parseMethodDescriptor yX9_from.desc).map (fun d => d.parameters.length) = some 2 := ⟨nc_6.1, nc_6.2, ds_10⟩
theorem h_X10_from : yX10_from.cls ≠ "java/lang/invoke/MethodHandle" ∧ yX10_from.cls ≠ "java/lang/invoke/VarHandle" ∧ (parseMethodDescriptor yX10_from.desc).map (fun d => d.parameters.length) = some 2 := ⟨nc_11.1, nc_11.2, ds_10⟩
theorem h_X9_never : yX9_never.cls ≠ "java/lang/invoke/MethodHandle" ∧ yX9_never.cls ≠ "java/lang/invoke/VarHandle" ∧ (parseMethodDescriptor yX9_never.desc).map (fun d => d.parameters.length) = some 0 := ⟨nc_6.1, nc_6.2, ds_2⟩
theorem h_X10_never : yX10_never.cls ≠ "java/lang/invoke/MethodHandle" ∧ yX10_never.cls ≠ "java/lang/invoke/VarHandle" ∧ (parseMethodDescriptor yX10_never.desc).map (fun d => d.parameters.length) = some 0 := ⟨nc_11.1, nc_11.2, ds_2⟩
theorem h_X9_seconds : yX9_seconds.cls ≠ "java/lang/invoke/MethodHandle" ∧ yX9_seconds.cls ≠ "java/lang/invoke/VarHandle" ∧ (parseMethodDescriptor yX9_seconds.desc).map (fun d => d.parameters.length) = some 3 := ⟨nc_6.1, nc_6.2, ds_14⟩
theorem h_X10_seconds : yX10_seconds.cls ≠ "java/lang/invoke/MethodHandle" ∧ yX10_seconds.cls ≠ "java/lang/invoke/VarHandle" ∧ (parseMethodDescriptor yX10_seconds.desc).map (fun d => d.parameters.length) = some 3 := ⟨nc_11.1, nc_11.2, ds_14⟩
theorem h_X9_both : yX9_both.cls ≠ "java/lang/invoke/MethodHandle" ∧ yX9_both.cls ≠ "java/lang/invoke/VarHandle" ∧ (parseMethodDescriptor yX9_both.desc).map (fun d => d.parameters.length) = some 2 := ⟨nc_6.1, nc_6.2, ds_10⟩
theorem h_X10_both : yX10_both.cls ≠ "java/lang/invoke/MethodHandle" ∧ yX10_both.cls ≠ "java/lang/invoke/VarHandle" ∧ (parseMethodDescriptor yX10_both.desc).map (fun d => d.parameters.length) = some 2 := ⟨nc_11.1, nc_11.2, ds_10⟩
theorem h_X9_nearest : yX9_nearest.cls ≠ "java/lang/invoke/MethodHandle" ∧ yX9_nearest.cls ≠ "java/lang/invoke/VarHandle" ∧ (parseMethodDescriptor yX9_nearest.desc).map (fun d => d.parameters.length) = some 1 := ⟨nc_6.1, nc_6.2, ds_0⟩
theorem h_X10_nearest : yX10_nearest.cls ≠ "java/lang/invoke/MethodHandle" ∧ yX10_nearest.cls ≠ "java/lang/invoke/VarHandle" ∧ (parseMethodDescriptor yX10_nearest.desc).map (fun d => d.parameters.length) = some 1 := ⟨nc_11.1, nc_11.2, ds_0⟩
theorem h_X9_fewest : yX9_fewest.cls ≠ "java/lang/invoke/MethodHandle" ∧ yX9_fewest.cls ≠ "java/lang/invoke/VarHandle" ∧ (parseMethodDescriptor yX9_fewest.desc).map (fun d => d.parameters.length) = some 0 := ⟨nc_6.1, nc_6.2, ds_2⟩
theorem h_X10_fewest : yX10_fewest.cls ≠ "java/lang/invoke/MethodHandle" ∧ yX10_fewest.cls ≠ "java/lang/invoke/VarHandle" ∧ (parseMethodDescriptor yX10_fewest.desc).map (fun d => d.parameters.length) = some 0 := ⟨nc_11.1, nc_11.2, ds_2⟩
theorem h_X9_needed : yX9_needed.cls ≠ "java/lang/invoke/MethodHandle" ∧ yX9_needed.cls ≠ "java/lang/invoke/VarHandle" ∧ (parseMethodDescriptor yX9_needed.desc).map (fun d => d.parameters.length) = some 0 := ⟨nc_6.1, nc_6.2, ds_2⟩
theorem h_X10_needed : yX10_needed.cls ≠ "java/lang/invoke/MethodHandle" ∧ yX10_needed.cls ≠ "java/lang/invoke/VarHandle" ∧ (parseMethodDescriptor yX10_needed.desc).map (fun d => d.parameters.length) = some 0 := ⟨nc_11.1, nc_11.2, ds_2⟩
theorem h_X9_birds : yX9_birds.cls ≠ "java/lang/invoke/MethodHandle" ∧ yX9_birds.cls ≠ "java/lang/invoke/VarHandle" ∧ (parseMethodDescriptor yX9_birds.desc).map (fun d => d.parameters.length) = some 1 := ⟨nc_6.1, nc_6.2, ds_0⟩
theorem h_X10_birds : yX10_birds.cls ≠ "java/lang/invoke/MethodHandle" ∧ yX10_birds.cls ≠ "java/lang/invoke/VarHandle" ∧ (parseMethodDescriptor yX10_birds.desc).map (fun d => d.parameters.length) = some 1 := ⟨nc_11.1, nc_11.2, ds_0⟩
theorem h_X9_next : yX9_next.cls ≠ "java/lang/invoke/MethodHandle" ∧ yX9_next.cls ≠ "java/lang/invoke/VarHandle" ∧ (parseMethodDescriptor yX9_next.desc).map (fun d => d.parameters.length) = some 1 := ⟨nc_6.1, nc_6.2, ds_0⟩
theorem h_X10_next : yX10_next.cls ≠ "java/lang/invoke/MethodHandle" ∧ yX10_next.cls ≠ "java/lang/invoke/VarHandle" ∧ (parseMethodDescriptor yX10_next.desc).map (fun d => d.parameters.length) = some 1 := ⟨nc_11.1, nc_11.2, ds_0⟩
theorem h_X9_route : yX9_route.cls ≠ "java/lang/invoke/MethodHandle" ∧ yX9_route.cls ≠ "java/lang/invoke/VarHandle" ∧ (parseMethodDescriptor yX9_route.desc).map (fun d => d.parameters.length) = some 1 := ⟨nc_6.1, nc_6.2, ds_0⟩
theorem h_X10_route : yX10_route.cls ≠ "java/lang/invoke/MethodHandle" ∧ yX10_route.cls ≠ "java/lang/invoke/VarHandle" ∧ (parseMethodDescriptor yX10_route.desc).map (fun d => d.parameters.length) = some 1 := ⟨nc_11.1, nc_11.2, ds_0⟩
theorem h_X9_work : yX9_work.cls ≠ "java/lang/invoke/MethodHandle" ∧ yX9_work.cls ≠ "java/lang/invoke/VarHandle" ∧ (parseMethodDescriptor yX9_work.desc).map (fun d => d.parameters.length) = some 1 := ⟨nc_6.1, nc_6.2, ds_0⟩
theorem h_X10_work : yX10_work.cls ≠ "java/lang/invoke/MethodHandle" ∧ yX10_work.cls ≠ "java/lang/invoke/VarHandle" ∧ (parseMethodDescriptor yX10_work.desc).map (fun d => d.parameters.length) = some 1 := ⟨nc_11.1, nc_11.2, ds_0⟩
theorem h_X9_soonest : yX9_soonest.cls ≠ "java/lang/invoke/MethodHandle" ∧ yX9_soonest.cls ≠ "java/lang/invoke/VarHandle" ∧ (parseMethodDescriptor yX9_soonest.desc).map (fun d => d.parameters.length) = some 0 := ⟨nc_6.1, nc_6.2, ds_2⟩
theorem h_X10_soonest : yX10_soonest.cls ≠ "java/lang/invoke/MethodHandle" ∧ yX10_soonest.cls ≠ "java/lang/invoke/VarHandle" ∧ (parseMethodDescriptor yX10_soonest.desc).map (fun d => d.parameters.length) = some 0 := ⟨nc_11.1, nc_11.2, ds_2⟩
theorem h_X9_pays : yX9_pays.cls ≠ "java/lang/invoke/MethodHandle" ∧ yX9_pays.cls ≠ "java/lang/invoke/VarHandle" ∧ (parseMethodDescriptor yX9_pays.desc).map (fun d => d.parameters.length) = some 1 := ⟨nc_6.1, nc_6.2, ds_0⟩
theorem h_X10_pays : yX10_pays.cls ≠ "java/lang/invoke/MethodHandle" ∧ yX10_pays.cls ≠ "java/lang/invoke/VarHandle" ∧ (parseMethodDescriptor yX10_pays.desc).map (fun d => d.parameters.length) = some 1 := ⟨nc_11.1, nc_11.2, ds_0⟩
theorem h_X9_trips : yX9_trips.cls ≠ "java/lang/invoke/MethodHandle" ∧ yX9_trips.cls ≠ "java/lang/invoke/VarHandle" ∧ (parseMethodDescriptor yX9_trips.desc).map (fun d => d.parameters.length) = some 1 := ⟨nc_6.1, nc_6.2, ds_0⟩
theorem h_X10_trips : yX10_trips.cls ≠ "java/lang/invoke/MethodHandle" ∧ yX10_trips.cls ≠ "java/lang/invoke/VarHandle" ∧ (parseMethodDescriptor yX10_trips.desc).map (fun d => d.parameters.length) = some 1 := ⟨nc_11.1, nc_11.2, ds_0⟩
theorem h_X9_helps : yX9_helps.cls ≠ "java/lang/invoke/MethodHandle" ∧ yX9_helps.cls ≠ "java/lang/invoke/VarHandle" ∧ (parseMethodDescriptor yX9_helps.desc).map (fun d => d.parameters.length) = some 0 := ⟨nc_6.1, nc_6.2, ds_2⟩
theorem h_X10_helps : yX10_helps.cls ≠ "java/lang/invoke/MethodHandle" ∧ yX10_helps.cls ≠ "java/lang/invoke/VarHandle" ∧ (parseMethodDescriptor yX10_helps.desc).map (fun d => d.parameters.length) = some 0 := ⟨nc_11.1, nc_11.2, ds_2⟩
theorem h_X9_hooked : yX9_hooked.cls ≠ "java/lang/invoke/MethodHandle" ∧ yX9_hooked.cls ≠ "java/lang/invoke/VarHandle" ∧ (parseMethodDescriptor yX9_hooked.desc).map (fun d => d.parameters.length) = some 0 := ⟨nc_6.1, nc_6.2, ds_2⟩
theorem h_X10_hooked : yX10_hooked.cls ≠ "java/lang/invoke/MethodHandle" ∧ yX10_hooked.cls ≠ "java/lang/invoke/VarHandle" ∧ (parseMethodDescriptor yX10_hooked.desc).map (fun d => d.parameters.length) = some 0 := ⟨nc_11.1, nc_11.2, ds_2⟩
theorem h_X9_broken : yX9_broken.cls ≠ "java/lang/invoke/MethodHandle" ∧ yX9_broken.cls ≠ "java/lang/invoke/VarHandle" ∧ (parseMethodDescriptor yX9_broken.desc).map (fun d => d.parameters.length) = some 1 := ⟨nc_6.1, nc_6.2, ds_0⟩
theorem h_X10_broken : yX10_broken.cls ≠ "java/lang/invoke/MethodHandle" ∧ yX10_broken.cls ≠ "java/lang/invoke/VarHandle" ∧ (parseMethodDescriptor yX10_broken.desc).map (fun d => d.parameters.length) = some 1 := ⟨nc_11.1, nc_11.2, ds_0⟩
theorem h_X9_sweep : yX9_sweep.cls ≠ "java/lang/invoke/MethodHandle" ∧ yX9_sweep.cls ≠ "java/lang/invoke/VarHandle" ∧ (parseMethodDescriptor yX9_sweep.desc).map (fun d => d.parameters.length) = some 1 := ⟨nc_6.1, nc_6.2, ds_0⟩
theorem h_X10_sweep : yX10_sweep.cls ≠ "java/lang/invoke/MethodHandle" ∧ yX10_sweep.cls ≠ "java/lang/invoke/VarHandle" ∧ (parseMethodDescriptor yX10_sweep.desc).map (fun d => d.parameters.length) = some 1 := ⟨nc_11.1, nc_11.2, ds_0⟩
theorem h_X9_dusk : yX9_dusk.cls ≠ "java/lang/invoke/MethodHandle" ∧ yX9_dusk.cls ≠ "java/lang/invoke/VarHandle" ∧ (parseMethodDescriptor yX9_dusk.desc).map (fun d => d.parameters.length) = some 1 := ⟨nc_6.1, nc_6.2, ds_0⟩
theorem h_X10_dusk : yX10_dusk.cls ≠ "java/lang/invoke/MethodHandle" ∧ yX10_dusk.cls ≠ "java/lang/invoke/VarHandle" ∧ (parseMethodDescriptor yX10_dusk.desc).map (fun d => d.parameters.length) = some 1 := ⟨nc_11.1, nc_11.2, ds_0⟩
theorem h_X9_gentle : yX9_gentle.cls ≠ "java/lang/invoke/MethodHandle" ∧ yX9_gentle.cls ≠ "java/lang/invoke/VarHandle" ∧ (parseMethodDescriptor yX9_gentle.desc).map (fun d => d.parameters.length) = some 0 := ⟨nc_6.1, nc_6.2, ds_2⟩
theorem h_X10_gentle : yX10_gentle.cls ≠ "java/lang/invoke/MethodHandle" ∧ yX10_gentle.cls ≠ "java/lang/invoke/VarHandle" ∧ (parseMethodDescriptor yX10_gentle.desc).map (fun d => d.parameters.length) = some 0 := ⟨nc_11.1, nc_11.2, ds_2⟩
theorem h_X9_harm : yX9_harm.cls ≠ "java/lang/invoke/MethodHandle" ∧ yX9_harm.cls ≠ "java/lang/invoke/VarHandle" ∧ (parseMethodDescriptor yX9_harm.desc).map (fun d => d.parameters.length) = some 0 := ⟨nc_6.1, nc_6.2, ds_2⟩
theorem h_X10_harm : yX10_harm.cls ≠ "java/lang/invoke/MethodHandle" ∧ yX10_harm.cls ≠ "java/lang/invoke/VarHandle" ∧ (parseMethodDescriptor yX10_harm.desc).map (fun d => d.parameters.length) = some 0 := ⟨nc_11.1, nc_11.2, ds_2⟩
theorem h_X9_share : yX9_share.cls ≠ "java/lang/invoke/MethodHandle" ∧ yX9_share.cls ≠ "java/lang/invoke/VarHandle" ∧ (parseMethodDescriptor yX9_share.desc).map (fun d => d.parameters.length) = some 1 := ⟨nc_6.1, nc_6.2, ds_0⟩
theorem h_X10_share : yX10_share.cls ≠ "java/lang/invoke/MethodHandle" ∧ yX10_share.cls ≠ "java/lang/invoke/VarHandle" ∧ (parseMethodDescriptor yX10_share.desc).map (fun d => d.parameters.length) = some 1 := ⟨nc_11.1, nc_11.2, ds_0⟩
theorem h_X9_ripens : yX9_ripens.cls ≠ "java/lang/invoke/MethodHandle" ∧ yX9_ripens.cls ≠ "java/lang/invoke/VarHandle" ∧ (parseMethodDescriptor yX9_ripens.desc).map (fun d => d.parameters.length) = some 0 := ⟨nc_6.1, nc_6.2, ds_2⟩
theorem h_X10_ripens : yX10_ripens.cls ≠ "java/lang/invoke/MethodHandle" ∧ yX10_ripens.cls ≠ "java/lang/invoke/VarHandle" ∧ (parseMethodDescriptor yX10_ripens.desc).map (fun d => d.parameters.length) = some 0 := ⟨nc_11.1, nc_11.2, ds_2⟩
theorem h_X9_ondays : yX9_ondays.cls ≠ "java/lang/invoke/MethodHandle" ∧ yX9_ondays.cls ≠ "java/lang/invoke/VarHandle" ∧ (parseMethodDescriptor yX9_ondays.desc).map (fun d => d.parameters.length) = some 1 := ⟨nc_6.1, nc_6.2, ds_0⟩
theorem h_X10_ondays : yX10_ondays.cls ≠ "java/lang/invoke/MethodHandle" ∧ yX10_ondays.cls ≠ "java/lang/invoke/VarHandle" ∧ (parseMethodDescriptor yX10_ondays.desc).map (fun d => d.parameters.length) = some 1 := ⟨nc_11.1, nc_11.2, ds_0⟩
theorem h_X9_allripe : yX9_allripe.cls ≠ "java/lang/invoke/MethodHandle" ∧ yX9_allripe.cls ≠ "java/lang/invoke/VarHandle" ∧ (parseMethodDescriptor yX9_allripe.desc).map (fun d => d.parameters.length) = some 0 := ⟨nc_6.1, nc_6.2, ds_2⟩
theorem h_X10_allripe : yX10_allripe.cls ≠ "java/lang/invoke/MethodHandle" ∧ yX10_allripe.cls ≠ "java/lang/invoke/VarHandle" ∧ (parseMethodDescriptor yX10_allripe.desc).map (fun d => d.parameters.length) = some 0 := ⟨nc_11.1, nc_11.2, ds_2⟩
theorem h_X9_marks : yX9_marks.cls ≠ "java/lang/invoke/MethodHandle" ∧ yX9_marks.cls ≠ "java/lang/invoke/VarHandle" ∧ (parseMethodDescriptor yX9_marks.desc).map (fun d => d.parameters.length) = some 2 := ⟨nc_6.1, nc_6.2, ds_10⟩
theorem h_X10_marks : yX10_marks.cls ≠ "java/lang/invoke/MethodHandle" ∧ yX10_marks.cls ≠ "java/lang/invoke/VarHandle" ∧ (parseMethodDescriptor yX10_marks.desc).map (fun d => d.parameters.length) = some 2 := ⟨nc_11.1, nc_11.2, ds_10⟩
theorem h_X9_grass : yX9_grass.cls ≠ "java/lang/invoke/MethodHandle" ∧ yX9_grass.cls ≠ "java/lang/invoke/VarHandle" ∧ (parseMethodDescriptor yX9_grass.desc).map (fun d => d.parameters.length) = some 1 := ⟨nc_6.1, nc_6.2, ds_0⟩
theorem h_X10_grass : yX10_grass.cls ≠ "java/lang/invoke/MethodHandle" ∧ yX10_grass.cls ≠ "java/lang/invoke/VarHandle" ∧ (parseMethodDescriptor yX10_grass.desc).map (fun d => d.parameters.length) = some 1 := ⟨nc_11.1, nc_11.2, ds_0⟩
theorem h_X9_fits : yX9_fits.cls ≠ "java/lang/invoke/MethodHandle" ∧ yX9_fits.cls ≠ "java/lang/invoke/VarHandle" ∧ (parseMethodDescriptor yX9_fits.desc).map (fun d => d.parameters.length) = some 1 := ⟨nc_6.1, nc_6.2, ds_0⟩
theorem h_X10_fits : yX10_fits.cls ≠ "java/lang/invoke/MethodHandle" ∧ yX10_fits.cls ≠ "java/lang/invoke/VarHandle" ∧ (parseMethodDescriptor yX10_fits.desc).map (fun d => d.parameters.length) = some 1 := ⟨nc_11.1, nc_11.2, ds_0⟩
theorem h_X9_leaned : yX9_leaned.cls ≠ "java/lang/invoke/MethodHandle" ∧ yX9_leaned.cls ≠ "java/lang/invoke/VarHandle" ∧ (parseMethodDescriptor yX9_leaned.desc).map (fun d => d.parameters.length) = some 2 := ⟨nc_6.1, nc_6.2, ds_10⟩
theorem h_X10_leaned : yX10_leaned.cls ≠ "java/lang/invoke/MethodHandle" ∧ yX10_leaned.cls ≠ "java/lang/invoke/VarHandle" ∧ (parseMethodDescriptor yX10_leaned.desc).map (fun d => d.parameters.length) = some 2 := ⟨nc_11.1, nc_11.2, ds_10⟩
theorem h_X9_autumn : yX9_autumn.cls ≠ "java/lang/invoke/MethodHandle" ∧ yX9_autumn.cls ≠ "java/lang/invoke/VarHandle" ∧ (parseMethodDescriptor yX9_autumn.desc).map (fun d => d.parameters.length) = some 3 := ⟨nc_6.1, nc_6.2, ds_14⟩
theorem h_X10_autumn : yX10_autumn.cls ≠ "java/lang/invoke/MethodHandle" ∧ yX10_autumn.cls ≠ "java/lang/invoke/VarHandle" ∧ (parseMethodDescriptor yX10_autumn.desc).map (fun d => d.parameters.length) = some 3 := ⟨nc_11.1, nc_11.2, ds_14⟩
theorem h_X9_keep : yX9_keep.cls ≠ "java/lang/invoke/MethodHandle" ∧ yX9_keep.cls ≠ "java/lang/invoke/VarHandle" ∧ (parseMethodDescriptor yX9_keep.desc).map (fun d => d.parameters.length) = some 1 := ⟨nc_6.1, nc_6.2, ds_1⟩
theorem h_X10_keep : yX10_keep.cls ≠ "java/lang/invoke/MethodHandle" ∧ yX10_keep.cls ≠ "java/lang/invoke/VarHandle" ∧ (parseMethodDescriptor yX10_keep.desc).map (fun d => d.parameters.length) = some 1 := ⟨nc_11.1, nc_11.2, ds_1⟩
theorem h_X9_again : yX9_again.cls ≠ "java/lang/invoke/MethodHandle" ∧ yX9_again.cls ≠ "java/lang/invoke/VarHandle" ∧ (parseMethodDescriptor yX9_again.desc).map (fun d => d.parameters.length) = some 1 := ⟨nc_6.1, nc_6.2, ds_1⟩
theorem h_X10_again : yX10_again.cls ≠ "java/lang/invoke/MethodHandle" ∧ yX10_again.cls ≠ "java/lang/invoke/VarHandle" ∧ (parseMethodDescriptor yX10_again.desc).map (fun d => d.parameters.length) = some 1 := ⟨nc_11.1, nc_11.2, ds_1⟩
theorem h_X9_count : yX9_count.cls ≠ "java/lang/invoke/MethodHandle" ∧ yX9_count.cls ≠ "java/lang/invoke/VarHandle" ∧ (parseMethodDescriptor yX9_count.desc).map (fun d => d.parameters.length) = some 1 := ⟨nc_6.1, nc_6.2, ds_0⟩
theorem h_X10_count : yX10_count.cls ≠ "java/lang/invoke/MethodHandle" ∧ yX10_count.cls ≠ "java/lang/invoke/VarHandle" ∧ (parseMethodDescriptor yX10_count.desc).map (fun d => d.parameters.length) = some 1 := ⟨nc_11.1, nc_11.2, ds_0⟩
theorem ds_29 : (parseMethodDescriptor "(LWhereTheLadder;I[J)I").map (fun d => d.parameters.length) = some 3 := by decide +kernel
theorem h_L_row : yL_row.cls ≠ "java/lang/invoke/MethodHandle" ∧ yL_row.cls ≠ "java/lang/invoke/VarHandle" ∧ (parseMethodDescriptor yL_row.desc).map (fun d => d.parameters.length) = some 3 := ⟨nc_14.1, nc_14.2, ds_29⟩
theorem h_X10_row : yX10_row.cls ≠ "java/lang/invoke/MethodHandle" ∧ yX10_row.cls ≠ "java/lang/invoke/VarHandle" ∧ (parseMethodDescriptor yX10_row.desc).map (fun d => d.parameters.length) = some 1 := ⟨nc_11.1, nc_11.2, ds_0⟩
theorem h_X9_init : yX9_init.cls ≠ "java/lang/invoke/MethodHandle" ∧ yX9_init.cls ≠ "java/lang/invoke/VarHandle" ∧ (parseMethodDescriptor yX9_init.desc).map (fun d => d.parameters.length) = some 0 := ⟨nc_6.1, nc_6.2, ds_3⟩
theorem h_X10_init : yX10_init.cls ≠ "java/lang/invoke/MethodHandle" ∧ yX10_init.cls ≠ "java/lang/invoke/VarHandle" ∧ (parseMethodDescriptor yX10_init.desc).map (fun d => d.parameters.length) = some 0 := ⟨nc_11.1, nc_11.2, ds_3⟩
theorem eL_fruit_0 : (decode cL_fruit 0 = .ok (.aload_n 3, 1)) ∧ (decode cL_fruit 1 = .ok (.iconst 0, 1)) ∧ (decode cL_fruit 2 = .ok (.aload_n 0, 1)) ∧ (decode cL_fruit 3 = .ok (.iload_n 1, 1)) ∧ (decode cL_fruit 4 = .ok (.iload_n 2, 1)) ∧ (decode cL_fruit 5 = .ok (.invokevirtual 7, 3)) ∧ (decode cL_fruit 8 = .ok (.i2l, 1)) ∧ (decode cL_fruit 9 = .ok (.lastore, 1)) ∧ (decode cL_fruit 10 = .ok (.goto 7, 3)) ∧ (decode cL_fruit 13 = .ok (.astore 4, 2)) ∧ (decode cL_fruit 15 = .ok (.iconst 1, 1)) ∧ (decode cL_fruit 16 = .ok (.ireturn, 1)) ∧ (decode cL_fruit 17 = .ok (.iconst 0, 1)) ∧ (decode cL_fruit 18 = .ok (.ireturn, 1)) := @of_decide_eq_true _ (DA (i_45 _ _) (DA (i_3 _ _) (DA (i_42 _ _) (DA (i_27 _ _) (DA (i_28 _ _) (DA (i_182 _ _ _) (DA (i_133 _ _) (DA (i_80 _ _) (DA (i_167 _ _ _) (DA (i_58 _ _ _) (DA (i_4 _ _) (DA (i_172 _ _) (DA (i_3 _ _) (i_172 _ _)))))))))))))) (by decide +kernel)
theorem eL_standing_0 : (decode cL_standing 0 = .ok (.aload_n 3, 1)) ∧ (decode cL_standing 1 = .ok (.iconst 0, 1)) ∧ (decode cL_standing 2 = .ok (.aload_n 0, 1)) ∧ (decode cL_standing 3 = .ok (.iload_n 1, 1)) ∧ (decode cL_standing 4 = .ok (.iload_n 2, 1)) ∧ (decode cL_standing 5 = .ok (.invokevirtual 15, 3)) ∧ (decode cL_standing 8 = .ok (.i2l, 1)) ∧ (decode cL_standing 9 = .ok (.lastore, 1)) ∧ (decode cL_standing 10 = .ok (.goto 7, 3)) ∧ (decode cL_standing 13 = .ok (.astore 4, 2)) ∧ (decode cL_standing 15 = .ok (.iconst 1, 1)) ∧ (decode cL_standing 16 = .ok (.ireturn, 1)) ∧ (decode cL_standing 17 = .ok (.iconst 0, 1)) ∧ (decode cL_standing 18 = .ok (.ireturn, 1)) := @of_decide_eq_true _ (DA (i_45 _ _) (DA (i_3 _ _) (DA (i_42 _ _) (DA (i_27 _ _) (DA (i_28 _ _) (DA (i_182 _ _ _) (DA (i_133 _ _) (DA (i_80 _ _) (DA (i_167 _ _ _) (DA (i_58 _ _ _) (DA (i_4 _ _) (DA (i_172 _ _) (DA (i_3 _ _) (i_172 _ _)))))))))))))) (by decide +kernel)
theorem eL_row_0 : (decode cL_row 0 = .ok (.aload_n 2, 1)) ∧ (decode cL_row 1 = .ok (.iconst 0, 1)) ∧ (decode cL_row 2 = .ok (.aload_n 0, 1)) ∧ (decode cL_row 3 = .ok (.iload_n 1, 1)) ∧ (decode cL_row 4 = .ok (.invokevirtual 18, 3)) ∧ (decode cL_row 7 = .ok (.i2l, 1)) ∧ (decode cL_row 8 = .ok (.lastore, 1)) ∧ (decode cL_row 9 = .ok (.goto 6, 3)) ∧ (decode cL_row 12 = .ok (.astore_n 3, 1)) ∧ (decode cL_row 13 = .ok (.iconst 1, 1)) ∧ (decode cL_row 14 = .ok (.ireturn, 1)) ∧ (decode cL_row 15 = .ok (.iconst 0, 1)) ∧ (decode cL_row 16 = .ok (.ireturn, 1)) := @of_decide_eq_true _ (DA (i_44 _ _) (DA (i_3 _ _) (DA (i_42 _ _) (DA (i_27 _ _) (DA (i_182 _ _ _) (DA (i_133 _ _) (DA (i_80 _ _) (DA (i_167 _ _ _) (DA (i_78 _ _) (DA (i_4 _ _) (DA (i_172 _ _) (DA (i_3 _ _) (i_172 _ _))))))))))))) (by decide +kernel)
theorem eL_law_0 : (decode cL_law 0 = .ok (.new 8, 3)) ∧ (decode cL_law 3 = .ok (.dup, 1)) ∧ (decode cL_law 4 = .ok (.invokespecial 22, 3)) ∧ (decode cL_law 7 = .ok (.astore_n 1, 1)) ∧ (decode cL_law 8 = .ok (.new 23, 3)) ∧ (decode cL_law 11 = .ok (.dup, 1)) ∧ (decode cL_law 12 = .ok (.invokespecial 25, 3)) ∧ (decode cL_law 15 = .ok (.astore_n 2, 1)) ∧ (decode cL_law 16 = .ok (.iconst 1, 1)) ∧ (decode cL_law 17 = .ok (.newarray .long, 2)) ∧ (decode cL_law 19 = .ok (.astore_n 3, 1)) ∧ (decode cL_law 20 = .ok (.iconst 0, 1)) ∧ (decode cL_law 21 = .ok (.istore 4, 2)) ∧ (decode cL_law 23 = .ok (.iload 4, 2)) ∧ (decode cL_law 25 = .ok (.aload_n 0, 1)) ∧ (decode cL_law 26 = .ok (.arraylength, 1)) := @of_decide_eq_true _ (DA (i_187 _ _ _) (DA (i_89 _ _) (DA (i_183 _ _ _) (DA (i_76 _ _) (DA (i_187 _ _ _) (DA (i_89 _ _) (DA (i_183 _ _ _) (DA (i_77 _ _) (DA (i_4 _ _) (DA (i_188_11 _ _) (DA (i_78 _ _) (DA (i_3 _ _) (DA (i_54 _ _ _) (DA (i_21 _ _ _) (DA (i_42 _ _) (i_190 _ _)))))))))))))))) (by decide +kernel)
theorem eL_law_27 : (decode cL_law 27 = .ok (.iconst 5, 1)) ∧ (decode cL_law 28 = .ok (.isub, 1)) ∧ (decode cL_law 29 = .ok (.if_icmp .gt 1493, 3)) ∧ (decode cL_law 32 = .ok (.aload_n 0, 1)) ∧ (decode cL_law 33 = .ok (.iload 4, 2)) ∧ (decode cL_law 35 = .ok (.iaload, 1)) ∧ (decode cL_law 36 = .ok (.bipush 63, 2)) ∧ (decode cL_law 38 = .ok (.iand, 1)) ∧ (decode cL_law 39 = .ok (.tableswitch 1477 0 50 #[217, 242, 267, 280, 293, 333, 373, 410, 471, 496, 521, 558, 571, 584, 597, 610, 623, 648, 685, 698, 747, 784, 809, 822, 835, 860, 885, 910, 935, 948, 973, 998, 1011, 1024, 1049, 1074, 1099, 1112, 1125, 1150, 1163, 1188, 1201, 1238, 1263, 1288, 1325, 1374, 1399, 1424, 1449], 217)) ∧ (decode cL_law 256 = .ok (.aload_n 1, 1)) ∧ (decode cL_law 257 = .ok (.aload_n 0, 1)) ∧ (decode cL_law 258 = .ok (.iload 4, 2)) ∧ (decode cL_law 260 = .ok (.iconst 1, 1)) ∧ (decode cL_law 261 = .ok (.iadd, 1)) ∧ (decode cL_law 262 = .ok (.iaload, 1)) ∧ (decode cL_law 263 = .ok (.invokevirtual 26, 3)) := @of_decide_eq_true _ (DA (i_8 _ _) (DA (i_100 _ _) (DA (i_163 _ _ _) (DA (i_42 _ _) (DA (i_21 _ _ _) (DA (i_46 _ _) (DA (i_16 _ _ _) (DA (i_126 _ _) (DA inferInstance (DA (i_43 _ _) (DA (i_42 _ _) (DA (i_21 _ _ _) (DA (i_4 _ _) (DA (i_96 _ _) (DA (i_46 _ _) (i_182 _ _ _)))))))))))))))) (by decide +kernel)
theorem eL_law_266 : (decode cL_law 266 = .ok (.pop, 1)) ∧ (decode cL_law 267 = .ok (.aload_n 2, 1)) ∧ (decode cL_law 268 = .ok (.aload_n 0, 1)) ∧ (decode cL_law 269 = .ok (.iload 4, 2)) ∧ (decode cL_law 271 = .ok (.iconst 1, 1)) ∧ (decode cL_law 272 = .ok (.iadd, 1)) ∧ (decode cL_law 273 = .ok (.iaload, 1)) ∧ (decode cL_law 274 = .ok (.invokevirtual 29, 3)) ∧ (decode cL_law 277 = .ok (.pop, 1)) ∧ (decode cL_law 278 = .ok (.goto 1238, 3)) ∧ (decode cL_law 281 = .ok (.aload_n 1, 1)) ∧ (decode cL_law 282 = .ok (.aload_n 0, 1)) ∧ (decode cL_law 283 = .ok (.iload 4, 2)) ∧ (decode cL_law 285 = .ok (.iconst 1, 1)) ∧ (decode cL_law 286 = .ok (.iadd, 1)) ∧ (decode cL_law 287 = .ok (.iaload, 1)) := @of_decide_eq_true _ (DA (i_87 _ _) (DA (i_44 _ _) (DA (i_42 _ _) (DA (i_21 _ _ _) (DA (i_4 _ _) (DA (i_96 _ _) (DA (i_46 _ _) (DA (i_182 _ _ _) (DA (i_87 _ _) (DA (i_167 _ _ _) (DA (i_43 _ _) (DA (i_42 _ _) (DA (i_21 _ _ _) (DA (i_4 _ _) (DA (i_96 _ _) (i_46 _ _)))))))))))))))) (by decide +kernel)
theorem eL_law_288 : (decode cL_law 288 = .ok (.invokevirtual 30, 3)) ∧ (decode cL_law 291 = .ok (.pop, 1)) ∧ (decode cL_law 292 = .ok (.aload_n 2, 1)) ∧ (decode cL_law 293 = .ok (.aload_n 0, 1)) ∧ (decode cL_law 294 = .ok (.iload 4, 2)) ∧ (decode cL_law 296 = .ok (.iconst 1, 1)) ∧ (decode cL_law 297 = .ok (.iadd, 1)) ∧ (decode cL_law 298 = .ok (.iaload, 1)) ∧ (decode cL_law 299 = .ok (.invokevirtual 34, 3)) ∧ (decode cL_law 302 = .ok (.pop, 1)) ∧ (decode cL_law 303 = .ok (.goto 1213, 3)) ∧ (decode cL_law 306 = .ok (.aload_n 1, 1)) ∧ (decode cL_law 307 = .ok (.invokevirtual 35, 3)) ∧ (decode cL_law 310 = .ok (.pop, 1)) ∧ (decode cL_law 311 = .ok (.aload_n 2, 1)) ∧ (decode cL_law 312 = .ok (.invokevirtual 39, 3)) := @of_decide_eq_true _ (DA (i_182 _ _ _) (DA (i_87 _ _) (DA (i_44 _ _) (DA (i_42 _ _) (DA (i_21 _ _ _) (DA (i_4 _ _) (DA (i_96 _ _) (DA (i_46 _ _) (DA (i_182 _ _ _) (DA (i_87 _ _) (DA (i_167 _ _ _) (DA (i_43 _ _) (DA (i_182 _ _ _) (DA (i_87 _ _) (DA (i_44 _ _) (i_182 _ _ _)))))))))))))))) (by decide +kernel)
theorem eL_law_315 : (decode cL_law 315 = .ok (.pop, 1)) ∧ (decode cL_law 316 = .ok (.goto 1200, 3)) ∧ (decode cL_law 319 = .ok (.aload_n 1, 1)) ∧ (decode cL_law 320 = .ok (.invokevirtual 40, 3)) ∧ (decode cL_law 323 = .ok (.pop, 1)) ∧ (decode cL_law 324 = .ok (.aload_n 2, 1)) ∧ (decode cL_law 325 = .ok (.invokevirtual 43, 3)) ∧ (decode cL_law 328 = .ok (.pop, 1)) ∧ (decode cL_law 329 = .ok (.goto 1187, 3)) ∧ (decode cL_law 332 = .ok (.aload_n 1, 1)) ∧ (decode cL_law 333 = .ok (.aload_n 0, 1)) ∧ (decode cL_law 334 = .ok (.iload 4, 2)) ∧ (decode cL_law 336 = .ok (.iconst 1, 1)) ∧ (decode cL_law 337 = .ok (.iadd, 1)) ∧ (decode cL_law 338 = .ok (.iaload, 1)) ∧ (decode cL_law 339 = .ok (.aload_n 0, 1)) := @of_decide_eq_true _ (DA (i_87 _ _) (DA (i_167 _ _ _) (DA (i_43 _ _) (DA (i_182 _ _ _) (DA (i_87 _ _) (DA (i_44 _ _) (DA (i_182 _ _ _) (DA (i_87 _ _) (DA (i_167 _ _ _) (DA (i_43 _ _) (DA (i_42 _ _) (DA (i_21 _ _ _) (DA (i_4 _ _) (DA (i_96 _ _) (DA (i_46 _ _) (i_42 _ _)))))))))))))))) (by decide +kernel)
theorem eL_law_340 : (decode cL_law 340 = .ok (.iload 4, 2)) ∧ (decode cL_law 342 = .ok (.iconst 2, 1)) ∧ (decode cL_law 343 = .ok (.iadd, 1)) ∧ (decode cL_law 344 = .ok (.iaload, 1)) ∧ (decode cL_law 345 = .ok (.aload_n 3, 1)) ∧ (decode cL_law 346 = .ok (.invokestatic 44, 3)) ∧ (decode cL_law 349 = .ok (.istore 5, 2)) ∧ (decode cL_law 351 = .ok (.aload_n 2, 1)) ∧ (decode cL_law 352 = .ok (.aload_n 0, 1)) ∧ (decode cL_law 353 = .ok (.iload 4, 2)) ∧ (decode cL_law 355 = .ok (.iconst 1, 1)) ∧ (decode cL_law 356 = .ok (.iadd, 1)) ∧ (decode cL_law 357 = .ok (.iaload, 1)) ∧ (decode cL_law 358 = .ok (.aload_n 0, 1)) ∧ (decode cL_law 359 = .ok (.iload 4, 2)) ∧ (decode cL_law 361 = .ok (.iconst 2, 1)) := @of_decide_eq_true _ (DA (i_21 _ _ _) (DA (i_5 _ _) (DA (i_96 _ _) (DA (i_46 _ _) (DA (i_45 _ _) (DA (i_184 _ _ _) (DA (i_54 _ _ _) (DA (i_44 _ _) (DA (i_42 _ _) (DA (i_21 _ _ _) (DA (i_4 _ _) (DA (i_96 _ _) (DA (i_46 _ _) (DA (i_42 _ _) (DA (i_21 _ _ _) (i_5 _ _)))))))))))))))) (by decide +kernel)
theorem eL_law_362 : (decode cL_law 362 = .ok (.iadd, 1)) ∧ (decode cL_law 363 = .ok (.iaload, 1)) ∧ (decode cL_law 364 = .ok (.invokevirtual 49, 3)) ∧ (decode cL_law 367 = .ok (.istore 6, 2)) ∧ (decode cL_law 369 = .ok (.goto 1147, 3)) ∧ (decode cL_law 372 = .ok (.aload_n 1, 1)) ∧ (decode cL_law 373 = .ok (.aload_n 0, 1)) ∧ (decode cL_law 374 = .ok (.iload 4, 2)) ∧ (decode cL_law 376 = .ok (.iconst 1, 1)) ∧ (decode cL_law 377 = .ok (.iadd, 1)) ∧ (decode cL_law 378 = .ok (.iaload, 1)) ∧ (decode cL_law 379 = .ok (.aload_n 0, 1)) ∧ (decode cL_law 380 = .ok (.iload 4, 2)) ∧ (decode cL_law 382 = .ok (.iconst 2, 1)) ∧ (decode cL_law 383 = .ok (.iadd, 1)) ∧ (decode cL_law 384 = .ok (.iaload, 1)) := @of_decide_eq_true _ (DA (i_96 _ _) (DA (i_46 _ _) (DA (i_182 _ _ _) (DA (i_54 _ _ _) (DA (i_167 _ _ _) (DA (i_43 _ _) (DA (i_42 _ _) (DA (i_21 _ _ _) (DA (i_4 _ _) (DA (i_96 _ _) (DA (i_46 _ _) (DA (i_42 _ _) (DA (i_21 _ _ _) (DA (i_5 _ _) (DA (i_96 _ _) (i_46 _ _)))))))))))))))) (by decide +kernel)
theorem eL_law_385 : (decode cL_law 385 = .ok (.aload_n 3, 1)) ∧ (decode cL_law 386 = .ok (.invokestatic 50, 3)) ∧ (decode cL_law 389 = .ok (.istore 5, 2)) ∧ (decode cL_law 391 = .ok (.aload_n 2, 1)) ∧ (decode cL_law 392 = .ok (.aload_n 0, 1)) ∧ (decode cL_law 393 = .ok (.iload 4, 2)) ∧ (decode cL_law 395 = .ok (.iconst 1, 1)) ∧ (decode cL_law 396 = .ok (.iadd, 1)) ∧ (decode cL_law 397 = .ok (.iaload, 1)) ∧ (decode cL_law 398 = .ok (.aload_n 0, 1)) ∧ (decode cL_law 399 = .ok (.iload 4, 2)) ∧ (decode cL_law 401 = .ok (.iconst 2, 1)) ∧ (decode cL_law 402 = .ok (.iadd, 1)) ∧ (decode cL_law 403 = .ok (.iaload, 1)) ∧ (decode cL_law 404 = .ok (.invokevirtual 52, 3)) ∧ (decode cL_law 407 = .ok (.istore 6, 2)) := @of_decide_eq_true _ (DA (i_45 _ _) (DA (i_184 _ _ _) (DA (i_54 _ _ _) (DA (i_44 _ _) (DA (i_42 _ _) (DA (i_21 _ _ _) (DA (i_4 _ _) (DA (i_96 _ _) (DA (i_46 _ _) (DA (i_42 _ _) (DA (i_21 _ _ _) (DA (i_5 _ _) (DA (i_96 _ _) (DA (i_46 _ _) (DA (i_182 _ _ _) (i_54 _ _ _)))))))))))))))) (by decide +kernel)
theorem eL_law_409 : (decode cL_law 409 = .ok (.goto 1107, 3)) ∧ (decode cL_law 412 = .ok (.aload_n 1, 1)) ∧ (decode cL_law 413 = .ok (.aload_n 0, 1)) ∧ (decode cL_law 414 = .ok (.iload 4, 2)) ∧ (decode cL_law 416 = .ok (.iconst 1, 1)) ∧ (decode cL_law 417 = .ok (.iadd, 1)) ∧ (decode cL_law 418 = .ok (.iaload, 1)) ∧ (decode cL_law 419 = .ok (.aload_n 0, 1)) ∧ (decode cL_law 420 = .ok (.iload 4, 2)) ∧ (decode cL_law 422 = .ok (.iconst 2, 1)) ∧ (decode cL_law 423 = .ok (.iadd, 1)) ∧ (decode cL_law 424 = .ok (.iaload, 1)) ∧ (decode cL_law 425 = .ok (.invokevirtual 53, 3)) ∧ (decode cL_law 428 = .ok (.pop, 1)) ∧ (decode cL_law 429 = .ok (.aload_n 2, 1)) ∧ (decode cL_law 430 = .ok (.aload_n 0, 1)) := @of_decide_eq_true _ (DA (i_167 _ _ _) (DA (i_43 _ _) (DA (i_42 _ _) (DA (i_21 _ _ _) (DA (i_4 _ _) (DA (i_96 _ _) (DA (i_46 _ _) (DA (i_42 _ _) (DA (i_21 _ _ _) (DA (i_5 _ _) (DA (i_96 _ _) (DA (i_46 _ _) (DA (i_182 _ _ _) (DA (i_87 _ _) (DA (i_44 _ _) (i_42 _ _)))))))))))))))) (by decide +kernel)
theorem eL_law_431 : (decode cL_law 431 = .ok (.iload 4, 2)) ∧ (decode cL_law 433 = .ok (.iconst 1, 1)) ∧ (decode cL_law 434 = .ok (.iadd, 1)) ∧ (decode cL_law 435 = .ok (.iaload, 1)) ∧ (decode cL_law 436 = .ok (.aload_n 0, 1)) ∧ (decode cL_law 437 = .ok (.iload 4, 2)) ∧ (decode cL_law 439 = .ok (.iconst 2, 1)) ∧ (decode cL_law 440 = .ok (.iadd, 1)) ∧ (decode cL_law 441 = .ok (.iaload, 1)) ∧ (decode cL_law 442 = .ok (.invokevirtual 56, 3)) ∧ (decode cL_law 445 = .ok (.pop, 1)) ∧ (decode cL_law 446 = .ok (.goto 1070, 3)) ∧ (decode cL_law 449 = .ok (.aload_n 1, 1)) ∧ (decode cL_law 450 = .ok (.aload_n 0, 1)) ∧ (decode cL_law 451 = .ok (.iload 4, 2)) ∧ (decode cL_law 453 = .ok (.iconst 1, 1)) := @of_decide_eq_true _ (DA (i_21 _ _ _) (DA (i_4 _ _) (DA (i_96 _ _) (DA (i_46 _ _) (DA (i_42 _ _) (DA (i_21 _ _ _) (DA (i_5 _ _) (DA (i_96 _ _) (DA (i_46 _ _) (DA (i_182 _ _ _) (DA (i_87 _ _) (DA (i_167 _ _ _) (DA (i_43 _ _) (DA (i_42 _ _) (DA (i_21 _ _ _) (i_4 _ _)))))))))))))))) (by decide +kernel)
theorem eL_law_454 : (decode cL_law 454 = .ok (.iadd, 1)) ∧ (decode cL_law 455 = .ok (.iaload, 1)) ∧ (decode cL_law 456 = .ok (.aload_n 0, 1)) ∧ (decode cL_law 457 = .ok (.iload 4, 2)) ∧ (decode cL_law 459 = .ok (.iconst 2, 1)) ∧ (decode cL_law 460 = .ok (.iadd, 1)) ∧ (decode cL_law 461 = .ok (.iaload, 1)) ∧ (decode cL_law 462 = .ok (.aload_n 0, 1)) ∧ (decode cL_law 463 = .ok (.iload 4, 2)) ∧ (decode cL_law 465 = .ok (.iconst 3, 1)) ∧ (decode cL_law 466 = .ok (.iadd, 1)) ∧ (decode cL_law 467 = .ok (.iaload, 1)) ∧ (decode cL_law 468 = .ok (.aload_n 0, 1)) ∧ (decode cL_law 469 = .ok (.iload 4, 2)) ∧ (decode cL_law 471 = .ok (.iconst 4, 1)) ∧ (decode cL_law 472 = .ok (.iadd, 1)) := @of_decide_eq_true _ (DA (i_96 _ _) (DA (i_46 _ _) (DA (i_42 _ _) (DA (i_21 _ _ _) (DA (i_5 _ _) (DA (i_96 _ _) (DA (i_46 _ _) (DA (i_42 _ _) (DA (i_21 _ _ _) (DA (i_6 _ _) (DA (i_96 _ _) (DA (i_46 _ _) (DA (i_42 _ _) (DA (i_21 _ _ _) (DA (i_7 _ _) (i_96 _ _)))))))))))))))) (by decide +kernel)
theorem eL_law_473 : (decode cL_law 473 = .ok (.iaload, 1)) ∧ (decode cL_law 474 = .ok (.invokevirtual 57, 3)) ∧ (decode cL_law 477 = .ok (.pop, 1)) ∧ (decode cL_law 478 = .ok (.aload_n 2, 1)) ∧ (decode cL_law 479 = .ok (.aload_n 0, 1)) ∧ (decode cL_law 480 = .ok (.iload 4, 2)) ∧ (decode cL_law 482 = .ok (.iconst 1, 1)) ∧ (decode cL_law 483 = .ok (.iadd, 1)) ∧ (decode cL_law 484 = .ok (.iaload, 1)) ∧ (decode cL_law 485 = .ok (.aload_n 0, 1)) ∧ (decode cL_law 486 = .ok (.iload 4, 2)) ∧ (decode cL_law 488 = .ok (.iconst 2, 1)) ∧ (decode cL_law 489 = .ok (.iadd, 1)) ∧ (decode cL_law 490 = .ok (.iaload, 1)) ∧ (decode cL_law 491 = .ok (.aload_n 0, 1)) ∧ (decode cL_law 492 = .ok (.iload 4, 2)) := @of_decide_eq_true _ (DA (i_46 _ _) (DA (i_182 _ _ _) (DA (i_87 _ _) (DA (i_44 _ _) (DA (i_42 _ _) (DA (i_21 _ _ _) (DA (i_4 _ _) (DA (i_96 _ _) (DA (i_46 _ _) (DA (i_42 _ _) (DA (i_21 _ _ _) (DA (i_5 _ _) (DA (i_96 _ _) (DA (i_46 _ _) (DA (i_42 _ _) (i_21 _ _ _)))))))))))))))) (by decide +kernel)
theorem eL_law_494 : (decode cL_law 494 = .ok (.iconst 3, 1)) ∧ (decode cL_law 495 = .ok (.iadd, 1)) ∧ (decode cL_law 496 = .ok (.iaload, 1)) ∧ (decode cL_law 497 = .ok (.aload_n 0, 1)) ∧ (decode cL_law 498 = .ok (.iload 4, 2)) ∧ (decode cL_law 500 = .ok (.iconst 4, 1)) ∧ (decode cL_law 501 = .ok (.iadd, 1)) ∧ (decode cL_law 502 = .ok (.iaload, 1)) ∧ (decode cL_law 503 = .ok (.invokevirtual 61, 3)) ∧ (decode cL_law 506 = .ok (.pop, 1)) ∧ (decode cL_law 507 = .ok (.goto 1009, 3)) ∧ (decode cL_law 510 = .ok (.aload_n 1, 1)) ∧ (decode cL_law 511 = .ok (.aload_n 0, 1)) ∧ (decode cL_law 512 = .ok (.iload 4, 2)) ∧ (decode cL_law 514 = .ok (.iconst 1, 1)) ∧ (decode cL_law 515 = .ok (.iadd, 1)) := @of_decide_eq_true _ (DA (i_6 _ _) (DA (i_96 _ _) (DA (i_46 _ _) (DA (i_42 _ _) (DA (i_21 _ _ _) (DA (i_7 _ _) (DA (i_96 _ _) (DA (i_46 _ _) (DA (i_182 _ _ _) (DA (i_87 _ _) (DA (i_167 _ _ _) (DA (i_43 _ _) (DA (i_42 _ _) (DA (i_21 _ _ _) (DA (i_4 _ _) (i_96 _ _)))))))))))))))) (by decide +kernel)
theorem eL_law_516 : (decode cL_law 516 = .ok (.iaload, 1)) ∧ (decode cL_law 517 = .ok (.invokevirtual 62, 3)) ∧ (decode cL_law 520 = .ok (.pop, 1)) ∧ (decode cL_law 521 = .ok (.aload_n 2, 1)) ∧ (decode cL_law 522 = .ok (.aload_n 0, 1)) ∧ (decode cL_law 523 = .ok (.iload 4, 2)) ∧ (decode cL_law 525 = .ok (.iconst 1, 1)) ∧ (decode cL_law 526 = .ok (.iadd, 1)) ∧ (decode cL_law 527 = .ok (.iaload, 1)) ∧ (decode cL_law 528 = .ok (.invokevirtual 65, 3)) ∧ (decode cL_law 531 = .ok (.pop, 1)) ∧ (decode cL_law 532 = .ok (.goto 984, 3)) ∧ (decode cL_law 535 = .ok (.aload_n 1, 1)) ∧ (decode cL_law 536 = .ok (.aload_n 0, 1)) ∧ (decode cL_law 537 = .ok (.iload 4, 2)) ∧ (decode cL_law 539 = .ok (.iconst 1, 1)) := @of_decide_eq_true _ (DA (i_46 _ _) (DA (i_182 _ _ _) (DA (i_87 _ _) (DA (i_44 _ _) (DA (i_42 _ _) (DA (i_21 _ _ _) (DA (i_4 _ _) (DA (i_96 _ _) (DA (i_46 _ _) (DA (i_182 _ _ _) (DA (i_87 _ _) (DA (i_167 _ _ _) (DA (i_43 _ _) (DA (i_42 _ _) (DA (i_21 _ _ _) (i_4 _ _)))))))))))))))) (by decide +kernel)
theorem eL_law_540 : (decode cL_law 540 = .ok (.iadd, 1)) ∧ (decode cL_law 541 = .ok (.iaload, 1)) ∧ (decode cL_law 542 = .ok (.invokevirtual 66, 3)) ∧ (decode cL_law 545 = .ok (.pop, 1)) ∧ (decode cL_law 546 = .ok (.aload_n 2, 1)) ∧ (decode cL_law 547 = .ok (.aload_n 0, 1)) ∧ (decode cL_law 548 = .ok (.iload 4, 2)) ∧ (decode cL_law 550 = .ok (.iconst 1, 1)) ∧ (decode cL_law 551 = .ok (.iadd, 1)) ∧ (decode cL_law 552 = .ok (.iaload, 1)) ∧ (decode cL_law 553 = .ok (.invokevirtual 69, 3)) ∧ (decode cL_law 556 = .ok (.pop, 1)) ∧ (decode cL_law 557 = .ok (.goto 959, 3)) ∧ (decode cL_law 560 = .ok (.aload_n 1, 1)) ∧ (decode cL_law 561 = .ok (.aload_n 0, 1)) ∧ (decode cL_law 562 = .ok (.iload 4, 2)) := @of_decide_eq_true _ (DA (i_96 _ _) (DA (i_46 _ _) (DA (i_182 _ _ _) (DA (i_87 _ _) (DA (i_44 _ _) (DA (i_42 _ _) (DA (i_21 _ _ _) (DA (i_4 _ _) (DA (i_96 _ _) (DA (i_46 _ _) (DA (i_182 _ _ _) (DA (i_87 _ _) (DA (i_167 _ _ _) (DA (i_43 _ _) (DA (i_42 _ _) (i_21 _ _ _)))))))))))))))) (by decide +kernel)
theorem eL_law_564 : (decode cL_law 564 = .ok (.iconst 1, 1)) ∧ (decode cL_law 565 = .ok (.iadd, 1)) ∧ (decode cL_law 566 = .ok (.iaload, 1)) ∧ (decode cL_law 567 = .ok (.aload_n 0, 1)) ∧ (decode cL_law 568 = .ok (.iload 4, 2)) ∧ (decode cL_law 570 = .ok (.iconst 2, 1)) ∧ (decode cL_law 571 = .ok (.iadd, 1)) ∧ (decode cL_law 572 = .ok (.iaload, 1)) ∧ (decode cL_law 573 = .ok (.invokevirtual 70, 3)) ∧ (decode cL_law 576 = .ok (.pop, 1)) ∧ (decode cL_law 577 = .ok (.aload_n 2, 1)) ∧ (decode cL_law 578 = .ok (.aload_n 0, 1)) ∧ (decode cL_law 579 = .ok (.iload 4, 2)) ∧ (decode cL_law 581 = .ok (.iconst 1, 1)) ∧ (decode cL_law 582 = .ok (.iadd, 1)) ∧ (decode cL_law 583 = .ok (.iaload, 1)) := @of_decide_eq_true _ (DA (i_4 _ _) (DA (i_96 _ _) (DA (i_46 _ _) (DA (i_42 _ _) (DA (i_21 _ _ _) (DA (i_5 _ _) (DA (i_96 _ _) (DA (i_46 _ _) (DA (i_182 _ _ _) (DA (i_87 _ _) (DA (i_44 _ _) (DA (i_42 _ _) (DA (i_21 _ _ _) (DA (i_4 _ _) (DA (i_96 _ _) (i_46 _ _)))))))))))))))) (by decide +kernel)
theorem eL_law_584 : (decode cL_law 584 = .ok (.aload_n 0, 1)) ∧ (decode cL_law 585 = .ok (.iload 4, 2)) ∧ (decode cL_law 587 = .ok (.iconst 2, 1)) ∧ (decode cL_law 588 = .ok (.iadd, 1)) ∧ (decode cL_law 589 = .ok (.iaload, 1)) ∧ (decode cL_law 590 = .ok (.invokevirtual 73, 3)) ∧ (decode cL_law 593 = .ok (.pop, 1)) ∧ (decode cL_law 594 = .ok (.goto 922, 3)) ∧ (decode cL_law 597 = .ok (.aload_n 1, 1)) ∧ (decode cL_law 598 = .ok (.invokevirtual 74, 3)) ∧ (decode cL_law 601 = .ok (.pop, 1)) ∧ (decode cL_law 602 = .ok (.aload_n 2, 1)) ∧ (decode cL_law 603 = .ok (.invokevirtual 77, 3)) ∧ (decode cL_law 606 = .ok (.pop, 1)) ∧ (decode cL_law 607 = .ok (.goto 909, 3)) ∧ (decode cL_law 610 = .ok (.aload_n 1, 1)) := @of_decide_eq_true _ (DA (i_42 _ _) (DA (i_21 _ _ _) (DA (i_5 _ _) (DA (i_96 _ _) (DA (i_46 _ _) (DA (i_182 _ _ _) (DA (i_87 _ _) (DA (i_167 _ _ _) (DA (i_43 _ _) (DA (i_182 _ _ _) (DA (i_87 _ _) (DA (i_44 _ _) (DA (i_182 _ _ _) (DA (i_87 _ _) (DA (i_167 _ _ _) (i_43 _ _)))))))))))))))) (by decide +kernel)
theorem eL_law_611 : (decode cL_law 611 = .ok (.invokevirtual 78, 3)) ∧ (decode cL_law 614 = .ok (.pop, 1)) ∧ (decode cL_law 615 = .ok (.aload_n 2, 1)) ∧ (decode cL_law 616 = .ok (.invokevirtual 81, 3)) ∧ (decode cL_law 619 = .ok (.pop, 1)) ∧ (decode cL_law 620 = .ok (.goto 896, 3)) ∧ (decode cL_law 623 = .ok (.aload_n 1, 1)) ∧ (decode cL_law 624 = .ok (.invokevirtual 82, 3)) ∧ (decode cL_law 627 = .ok (.pop, 1)) ∧ (decode cL_law 628 = .ok (.aload_n 2, 1)) ∧ (decode cL_law 629 = .ok (.invokevirtual 85, 3)) ∧ (decode cL_law 632 = .ok (.pop, 1)) ∧ (decode cL_law 633 = .ok (.goto 883, 3)) ∧ (decode cL_law 636 = .ok (.aload_n 1, 1)) ∧ (decode cL_law 637 = .ok (.invokevirtual 86, 3)) ∧ (decode cL_law 640 = .ok (.pop, 1)) := @of_decide_eq_true _ (DA (i_182 _ _ _) (DA (i_87 _ _) (DA (i_44 _ _) (DA (i_182 _ _ _) (DA (i_87 _ _) (DA (i_167 _ _ _) (DA (i_43 _ _) (DA (i_182 _ _ _) (DA (i_87 _ _) (DA (i_44 _ _) (DA (i_182 _ _ _) (DA (i_87 _ _) (DA (i_167 _ _ _) (DA (i_43 _ _) (DA (i_182 _ _ _) (i_87 _ _)))))))))))))))) (by decide +kernel)
theorem eL_law_641 : (decode cL_law 641 = .ok (.aload_n 2, 1)) ∧ (decode cL_law 642 = .ok (.invokevirtual 89, 3)) ∧ (decode cL_law 645 = .ok (.pop, 1)) ∧ (decode cL_law 646 = .ok (.goto 870, 3)) ∧ (decode cL_law 649 = .ok (.aload_n 1, 1)) ∧ (decode cL_law 650 = .ok (.invokevirtual 90, 3)) ∧ (decode cL_law 653 = .ok (.pop, 1)) ∧ (decode cL_law 654 = .ok (.aload_n 2, 1)) ∧ (decode cL_law 655 = .ok (.invokevirtual 93, 3)) ∧ (decode cL_law 658 = .ok (.pop, 1)) ∧ (decode cL_law 659 = .ok (.goto 857, 3)) ∧ (decode cL_law 662 = .ok (.aload_n 1, 1)) ∧ (decode cL_law 663 = .ok (.aload_n 0, 1)) ∧ (decode cL_law 664 = .ok (.iload 4, 2)) ∧ (decode cL_law 666 = .ok (.iconst 1, 1)) ∧ (decode cL_law 667 = .ok (.iadd, 1)) := @of_decide_eq_true _ (DA (i_44 _ _) (DA (i_182 _ _ _) (DA (i_87 _ _) (DA (i_167 _ _ _) (DA (i_43 _ _) (DA (i_182 _ _ _) (DA (i_87 _ _) (DA (i_44 _ _) (DA (i_182 _ _ _) (DA (i_87 _ _) (DA (i_167 _ _ _) (DA (i_43 _ _) (DA (i_42 _ _) (DA (i_21 _ _ _) (DA (i_4 _ _) (i_96 _ _)))))))))))))))) (by decide +kernel)
theorem eL_law_668 : (decode cL_law 668 = .ok (.iaload, 1)) ∧ (decode cL_law 669 = .ok (.invokevirtual 94, 3)) ∧ (decode cL_law 672 = .ok (.pop, 1)) ∧ (decode cL_law 673 = .ok (.aload_n 2, 1)) ∧ (decode cL_law 674 = .ok (.aload_n 0, 1)) ∧ (decode cL_law 675 = .ok (.iload 4, 2)) ∧ (decode cL_law 677 = .ok (.iconst 1, 1)) ∧ (decode cL_law 678 = .ok (.iadd, 1)) ∧ (decode cL_law 679 = .ok (.iaload, 1)) ∧ (decode cL_law 680 = .ok (.invokevirtual 97, 3)) ∧ (decode cL_law 683 = .ok (.pop, 1)) ∧ (decode cL_law 684 = .ok (.goto 832, 3)) ∧ (decode cL_law 687 = .ok (.aload_n 1, 1)) ∧ (decode cL_law 688 = .ok (.aload_n 0, 1)) ∧ (decode cL_law 689 = .ok (.iload 4, 2)) ∧ (decode cL_law 691 = .ok (.iconst 1, 1)) := @of_decide_eq_true _ (DA (i_46 _ _) (DA (i_182 _ _ _) (DA (i_87 _ _) (DA (i_44 _ _) (DA (i_42 _ _) (DA (i_21 _ _ _) (DA (i_4 _ _) (DA (i_96 _ _) (DA (i_46 _ _) (DA (i_182 _ _ _) (DA (i_87 _ _) (DA (i_167 _ _ _) (DA (i_43 _ _) (DA (i_42 _ _) (DA (i_21 _ _ _) (i_4 _ _)))))))))))))))) (by decide +kernel)
theorem eL_law_692 : (decode cL_law 692 = .ok (.iadd, 1)) ∧ (decode cL_law 693 = .ok (.iaload, 1)) ∧ (decode cL_law 694 = .ok (.aload_n 0, 1)) ∧ (decode cL_law 695 = .ok (.iload 4, 2)) ∧ (decode cL_law 697 = .ok (.iconst 2, 1)) ∧ (decode cL_law 698 = .ok (.iadd, 1)) ∧ (decode cL_law 699 = .ok (.iaload, 1)) ∧ (decode cL_law 700 = .ok (.invokevirtual 98, 3)) ∧ (decode cL_law 703 = .ok (.aload_n 2, 1)) ∧ (decode cL_law 704 = .ok (.aload_n 0, 1)) ∧ (decode cL_law 705 = .ok (.iload 4, 2)) ∧ (decode cL_law 707 = .ok (.iconst 1, 1)) ∧ (decode cL_law 708 = .ok (.iadd, 1)) ∧ (decode cL_law 709 = .ok (.iaload, 1)) ∧ (decode cL_law 710 = .ok (.aload_n 0, 1)) ∧ (decode cL_law 711 = .ok (.iload 4, 2)) := @of_decide_eq_true _ (DA (i_96 _ _) (DA (i_46 _ _) (DA (i_42 _ _) (DA (i_21 _ _ _) (DA (i_5 _ _) (DA (i_96 _ _) (DA (i_46 _ _) (DA (i_182 _ _ _) (DA (i_44 _ _) (DA (i_42 _ _) (DA (i_21 _ _ _) (DA (i_4 _ _) (DA (i_96 _ _) (DA (i_46 _ _) (DA (i_42 _ _) (i_21 _ _ _)))))))))))))))) (by decide +kernel)
theorem eL_law_713 : (decode cL_law 713 = .ok (.iconst 2, 1)) ∧ (decode cL_law 714 = .ok (.iadd, 1)) ∧ (decode cL_law 715 = .ok (.iaload, 1)) ∧ (decode cL_law 716 = .ok (.invokevirtual 101, 3)) ∧ (decode cL_law 719 = .ok (.if_icmp .eq 797, 3)) ∧ (decode cL_law 722 = .ok (.iconst 0, 1)) ∧ (decode cL_law 723 = .ok (.ireturn, 1)) ∧ (decode cL_law 724 = .ok (.aload_n 1, 1)) ∧ (decode cL_law 725 = .ok (.invokevirtual 102, 3)) ∧ (decode cL_law 728 = .ok (.pop, 1)) ∧ (decode cL_law 729 = .ok (.aload_n 2, 1)) ∧ (decode cL_law 730 = .ok (.invokevirtual 105, 3)) ∧ (decode cL_law 733 = .ok (.pop, 1)) ∧ (decode cL_law 734 = .ok (.goto 782, 3)) ∧ (decode cL_law 737 = .ok (.aload_n 1, 1)) ∧ (decode cL_law 738 = .ok (.aload_n 0, 1)) := @of_decide_eq_true _ (DA (i_5 _ _) (DA (i_96 _ _) (DA (i_46 _ _) (DA (i_182 _ _ _) (DA (i_159 _ _ _) (DA (i_3 _ _) (DA (i_172 _ _) (DA (i_43 _ _) (DA (i_182 _ _ _) (DA (i_87 _ _) (DA (i_44 _ _) (DA (i_182 _ _ _) (DA (i_87 _ _) (DA (i_167 _ _ _) (DA (i_43 _ _) (i_42 _ _)))))))))))))))) (by decide +kernel)
theorem eL_law_739 : (decode cL_law 739 = .ok (.iload 4, 2)) ∧ (decode cL_law 741 = .ok (.iconst 1, 1)) ∧ (decode cL_law 742 = .ok (.iadd, 1)) ∧ (decode cL_law 743 = .ok (.iaload, 1)) ∧ (decode cL_law 744 = .ok (.aload_n 0, 1)) ∧ (decode cL_law 745 = .ok (.iload 4, 2)) ∧ (decode cL_law 747 = .ok (.iconst 2, 1)) ∧ (decode cL_law 748 = .ok (.iadd, 1)) ∧ (decode cL_law 749 = .ok (.iaload, 1)) ∧ (decode cL_law 750 = .ok (.aload_n 0, 1)) ∧ (decode cL_law 751 = .ok (.iload 4, 2)) ∧ (decode cL_law 753 = .ok (.iconst 3, 1)) ∧ (decode cL_law 754 = .ok (.iadd, 1)) ∧ (decode cL_law 755 = .ok (.iaload, 1)) ∧ (decode cL_law 756 = .ok (.invokevirtual 106, 3)) ∧ (decode cL_law 759 = .ok (.pop, 1)) := @of_decide_eq_true _ (DA (i_21 _ _ _) (DA (i_4 _ _) (DA (i_96 _ _) (DA (i_46 _ _) (DA (i_42 _ _) (DA (i_21 _ _ _) (DA (i_5 _ _) (DA (i_96 _ _) (DA (i_46 _ _) (DA (i_42 _ _) (DA (i_21 _ _ _) (DA (i_6 _ _) (DA (i_96 _ _) (DA (i_46 _ _) (DA (i_182 _ _ _) (i_87 _ _)))))))))))))))) (by decide +kernel)
theorem eL_law_760 : (decode cL_law 760 = .ok (.aload_n 2, 1)) ∧ (decode cL_law 761 = .ok (.aload_n 0, 1)) ∧ (decode cL_law 762 = .ok (.iload 4, 2)) ∧ (decode cL_law 764 = .ok (.iconst 1, 1)) ∧ (decode cL_law 765 = .ok (.iadd, 1)) ∧ (decode cL_law 766 = .ok (.iaload, 1)) ∧ (decode cL_law 767 = .ok (.aload_n 0, 1)) ∧ (decode cL_law 768 = .ok (.iload 4, 2)) ∧ (decode cL_law 770 = .ok (.iconst 2, 1)) ∧ (decode cL_law 771 = .ok (.iadd, 1)) ∧ (decode cL_law 772 = .ok (.iaload, 1)) ∧ (decode cL_law 773 = .ok (.aload_n 0, 1)) ∧ (decode cL_law 774 = .ok (.iload 4, 2)) ∧ (decode cL_law 776 = .ok (.iconst 3, 1)) ∧ (decode cL_law 777 = .ok (.iadd, 1)) ∧ (decode cL_law 778 = .ok (.iaload, 1)) := @of_decide_eq_true _ (DA (i_44 _ _) (DA (i_42 _ _) (DA (i_21 _ _ _) (DA (i_4 _ _) (DA (i_96 _ _) (DA (i_46 _ _) (DA (i_42 _ _) (DA (i_21 _ _ _) (DA (i_5 _ _) (DA (i_96 _ _) (DA (i_46 _ _) (DA (i_42 _ _) (DA (i_21 _ _ _) (DA (i_6 _ _) (DA (i_96 _ _) (i_46 _ _)))))))))))))))) (by decide +kernel)
theorem eL_law_779 : (decode cL_law 779 = .ok (.invokevirtual 110, 3)) ∧ (decode cL_law 782 = .ok (.pop, 1)) ∧ (decode cL_law 783 = .ok (.goto 733, 3)) ∧ (decode cL_law 786 = .ok (.aload_n 1, 1)) ∧ (decode cL_law 787 = .ok (.aload_n 0, 1)) ∧ (decode cL_law 788 = .ok (.iload 4, 2)) ∧ (decode cL_law 790 = .ok (.iconst 1, 1)) ∧ (decode cL_law 791 = .ok (.iadd, 1)) ∧ (decode cL_law 792 = .ok (.iaload, 1)) ∧ (decode cL_law 793 = .ok (.aload_n 0, 1)) ∧ (decode cL_law 794 = .ok (.iload 4, 2)) ∧ (decode cL_law 796 = .ok (.iconst 2, 1)) ∧ (decode cL_law 797 = .ok (.iadd, 1)) ∧ (decode cL_law 798 = .ok (.iaload, 1)) ∧ (decode cL_law 799 = .ok (.invokevirtual 111, 3)) ∧ (decode cL_law 802 = .ok (.pop, 1)) := @of_decide_eq_true _ (DA (i_182 _ _ _) (DA (i_87 _ _) (DA (i_167 _ _ _) (DA (i_43 _ _) (DA (i_42 _ _) (DA (i_21 _ _ _) (DA (i_4 _ _) (DA (i_96 _ _) (DA (i_46 _ _) (DA (i_42 _ _) (DA (i_21 _ _ _) (DA (i_5 _ _) (DA (i_96 _ _) (DA (i_46 _ _) (DA (i_182 _ _ _) (i_87 _ _)))))))))))))))) (by decide +kernel)
theorem eL_law_803 : (decode cL_law 803 = .ok (.aload_n 2, 1)) ∧ (decode cL_law 804 = .ok (.aload_n 0, 1)) ∧ (decode cL_law 805 = .ok (.iload 4, 2)) ∧ (decode cL_law 807 = .ok (.iconst 1, 1)) ∧ (decode cL_law 808 = .ok (.iadd, 1)) ∧ (decode cL_law 809 = .ok (.iaload, 1)) ∧ (decode cL_law 810 = .ok (.aload_n 0, 1)) ∧ (decode cL_law 811 = .ok (.iload 4, 2)) ∧ (decode cL_law 813 = .ok (.iconst 2, 1)) ∧ (decode cL_law 814 = .ok (.iadd, 1)) ∧ (decode cL_law 815 = .ok (.iaload, 1)) ∧ (decode cL_law 816 = .ok (.invokevirtual 114, 3)) ∧ (decode cL_law 819 = .ok (.pop, 1)) ∧ (decode cL_law 820 = .ok (.goto 696, 3)) ∧ (decode cL_law 823 = .ok (.aload_n 1, 1)) ∧ (decode cL_law 824 = .ok (.aload_n 0, 1)) := @of_decide_eq_true _ (DA (i_44 _ _) (DA (i_42 _ _) (DA (i_21 _ _ _) (DA (i_4 _ _) (DA (i_96 _ _) (DA (i_46 _ _) (DA (i_42 _ _) (DA (i_21 _ _ _) (DA (i_5 _ _) (DA (i_96 _ _) (DA (i_46 _ _) (DA (i_182 _ _ _) (DA (i_87 _ _) (DA (i_167 _ _ _) (DA (i_43 _ _) (i_42 _ _)))))))))))))))) (by decide +kernel)
theorem eL_law_825 : (decode cL_law 825 = .ok (.iload 4, 2)) ∧ (decode cL_law 827 = .ok (.iconst 1, 1)) ∧ (decode cL_law 828 = .ok (.iadd, 1)) ∧ (decode cL_law 829 = .ok (.iaload, 1)) ∧ (decode cL_law 830 = .ok (.invokevirtual 115, 3)) ∧ (decode cL_law 833 = .ok (.pop, 1)) ∧ (decode cL_law 834 = .ok (.aload_n 2, 1)) ∧ (decode cL_law 835 = .ok (.aload_n 0, 1)) ∧ (decode cL_law 836 = .ok (.iload 4, 2)) ∧ (decode cL_law 838 = .ok (.iconst 1, 1)) ∧ (decode cL_law 839 = .ok (.iadd, 1)) ∧ (decode cL_law 840 = .ok (.iaload, 1)) ∧ (decode cL_law 841 = .ok (.invokevirtual 118, 3)) ∧ (decode cL_law 844 = .ok (.pop, 1)) ∧ (decode cL_law 845 = .ok (.goto 671, 3)) ∧ (decode cL_law 848 = .ok (.aload_n 1, 1)) := @of_decide_eq_true _ (DA (i_21 _ _ _) (DA (i_4 _ _) (DA (i_96 _ _) (DA (i_46 _ _) (DA (i_182 _ _ _) (DA (i_87 _ _) (DA (i_44 _ _) (DA (i_42 _ _) (DA (i_21 _ _ _) (DA (i_4 _ _) (DA (i_96 _ _) (DA (i_46 _ _) (DA (i_182 _ _ _) (DA (i_87 _ _) (DA (i_167 _ _ _) (i_43 _ _)))))))))))))))) (by decide +kernel)
theorem eL_law_849 : (decode cL_law 849 = .ok (.invokevirtual 119, 3)) ∧ (decode cL_law 852 = .ok (.pop, 1)) ∧ (decode cL_law 853 = .ok (.aload_n 2, 1)) ∧ (decode cL_law 854 = .ok (.invokevirtual 122, 3)) ∧ (decode cL_law 857 = .ok (.pop, 1)) ∧ (decode cL_law 858 = .ok (.goto 658, 3)) ∧ (decode cL_law 861 = .ok (.aload_n 1, 1)) ∧ (decode cL_law 862 = .ok (.invokevirtual 123, 3)) ∧ (decode cL_law 865 = .ok (.pop, 1)) ∧ (decode cL_law 866 = .ok (.aload_n 2, 1)) ∧ (decode cL_law 867 = .ok (.invokevirtual 126, 3)) ∧ (decode cL_law 870 = .ok (.pop, 1)) ∧ (decode cL_law 871 = .ok (.goto 645, 3)) ∧ (decode cL_law 874 = .ok (.aload_n 1, 1)) ∧ (decode cL_law 875 = .ok (.aload_n 0, 1)) ∧ (decode cL_law 876 = .ok (.iload 4, 2)) := @of_decide_eq_true _ (DA (i_182 _ _ _) (DA (i_87 _ _) (DA (i_44 _ _) (DA (i_182 _ _ _) (DA (i_87 _ _) (DA (i_167 _ _ _) (DA (i_43 _ _) (DA (i_182 _ _ _) (DA (i_87 _ _) (DA (i_44 _ _) (DA (i_182 _ _ _) (DA (i_87 _ _) (DA (i_167 _ _ _) (DA (i_43 _ _) (DA (i_42 _ _) (i_21 _ _ _)))))))))))))))) (by decide +kernel)
theorem eL_law_878 : (decode cL_law 878 = .ok (.iconst 1, 1)) ∧ (decode cL_law 879 = .ok (.iadd, 1)) ∧ (decode cL_law 880 = .ok (.iaload, 1)) ∧ (decode cL_law 881 = .ok (.invokevirtual 127, 3)) ∧ (decode cL_law 884 = .ok (.pop, 1)) ∧ (decode cL_law 885 = .ok (.aload_n 2, 1)) ∧ (decode cL_law 886 = .ok (.aload_n 0, 1)) ∧ (decode cL_law 887 = .ok (.iload 4, 2)) ∧ (decode cL_law 889 = .ok (.iconst 1, 1)) ∧ (decode cL_law 890 = .ok (.iadd, 1)) ∧ (decode cL_law 891 = .ok (.iaload, 1)) := @of_decide_eq_true _ (DA (i_4 _ _) (DA (i_96 _ _) (DA (i_46 _ _) (DA (i_182 _ _ _) (DA (i_87 _ _) (DA (i_44 _ _) (DA (i_42 _ _) (DA (i_21 _ _ _) (DA (i_4 _ _) (DA (i_96 _ _) (i_46 _ _))))))))))) (by decide +kernel)
theorem eL_law_892 : (decode cL_law 892 = .ok (.invokevirtual 130, 3)) ∧ (decode cL_law 895 = .ok (.pop, 1)) ∧ (decode cL_law 896 = .ok (.goto 620, 3)) ∧ (decode cL_law 899 = .ok (.aload_n 1, 1)) ∧ (decode cL_law 900 = .ok (.aload_n 0, 1)) ∧ (decode cL_law 901 = .ok (.iload 4, 2)) ∧ (decode cL_law 903 = .ok (.iconst 1, 1)) ∧ (decode cL_law 904 = .ok (.iadd, 1)) ∧ (decode cL_law 905 = .ok (.iaload, 1)) ∧ (decode cL_law 906 = .ok (.invokevirtual 131, 3)) ∧ (decode cL_law 909 = .ok (.pop, 1)) ∧ (decode cL_law 910 = .ok (.aload_n 2, 1)) ∧ (decode cL_law 911 = .ok (.aload_n 0, 1)) ∧ (decode cL_law 912 = .ok (.iload 4, 2)) ∧ (decode cL_law 914 = .ok (.iconst 1, 1)) ∧ (decode cL_law 915 = .ok (.iadd, 1)) := @of_decide_eq_true _ (DA (i_182 _ _ _) (DA (i_87 _ _) (DA (i_167 _ _ _) (DA (i_43 _ _) (DA (i_42 _ _) (DA (i_21 _ _ _) (DA (i_4 _ _) (DA (i_96 _ _) (DA (i_46 _ _) (DA (i_182 _ _ _) (DA (i_87 _ _) (DA (i_44 _ _) (DA (i_42 _ _) (DA (i_21 _ _ _) (DA (i_4 _ _) (i_96 _ _)))))))))))))))) (by decide +kernel)
theorem eL_law_916 : (decode cL_law 916 = .ok (.iaload, 1)) ∧ (decode cL_law 917 = .ok (.invokevirtual 134, 3)) ∧ (decode cL_law 920 = .ok (.pop, 1)) ∧ (decode cL_law 921 = .ok (.goto 595, 3)) ∧ (decode cL_law 924 = .ok (.aload_n 1, 1)) ∧ (decode cL_law 925 = .ok (.aload_n 0, 1)) ∧ (decode cL_law 926 = .ok (.iload 4, 2)) ∧ (decode cL_law 928 = .ok (.iconst 1, 1)) ∧ (decode cL_law 929 = .ok (.iadd, 1)) ∧ (decode cL_law 930 = .ok (.iaload, 1)) ∧ (decode cL_law 931 = .ok (.invokevirtual 135, 3)) ∧ (decode cL_law 934 = .ok (.pop, 1)) ∧ (decode cL_law 935 = .ok (.aload_n 2, 1)) ∧ (decode cL_law 936 = .ok (.aload_n 0, 1)) ∧ (decode cL_law 937 = .ok (.iload 4, 2)) ∧ (decode cL_law 939 = .ok (.iconst 1, 1)) := @of_decide_eq_true _ (DA (i_46 _ _) (DA (i_182 _ _ _) (DA (i_87 _ _) (DA (i_167 _ _ _) (DA (i_43 _ _) (DA (i_42 _ _) (DA (i_21 _ _ _) (DA (i_4 _ _) (DA (i_96 _ _) (DA (i_46 _ _) (DA (i_182 _ _ _) (DA (i_87 _ _) (DA (i_44 _ _) (DA (i_42 _ _) (DA (i_21 _ _ _) (i_4 _ _)))))))))))))))) (by decide +kernel)
theorem eL_law_940 : (decode cL_law 940 = .ok (.iadd, 1)) ∧ (decode cL_law 941 = .ok (.iaload, 1)) ∧ (decode cL_law 942 = .ok (.invokevirtual 138, 3)) ∧ (decode cL_law 945 = .ok (.pop, 1)) ∧ (decode cL_law 946 = .ok (.goto 570, 3)) ∧ (decode cL_law 949 = .ok (.aload_n 1, 1)) ∧ (decode cL_law 950 = .ok (.aload_n 0, 1)) ∧ (decode cL_law 951 = .ok (.iload 4, 2)) ∧ (decode cL_law 953 = .ok (.iconst 1, 1)) ∧ (decode cL_law 954 = .ok (.iadd, 1)) ∧ (decode cL_law 955 = .ok (.iaload, 1)) ∧ (decode cL_law 956 = .ok (.invokevirtual 139, 3)) ∧ (decode cL_law 959 = .ok (.pop, 1)) ∧ (decode cL_law 960 = .ok (.aload_n 2, 1)) ∧ (decode cL_law 961 = .ok (.aload_n 0, 1)) ∧ (decode cL_law 962 = .ok (.iload 4, 2)) := @of_decide_eq_true _ (DA (i_96 _ _) (DA (i_46 _ _) (DA (i_182 _ _ _) (DA (i_87 _ _) (DA (i_167 _ _ _) (DA (i_43 _ _) (DA (i_42 _ _) (DA (i_21 _ _ _) (DA (i_4 _ _) (DA (i_96 _ _) (DA (i_46 _ _) (DA (i_182 _ _ _) (DA (i_87 _ _) (DA (i_44 _ _) (DA (i_42 _ _) (i_21 _ _ _)))))))))))))))) (by decide +kernel)
theorem eL_law_964 : (decode cL_law 964 = .ok (.iconst 1, 1)) ∧ (decode cL_law 965 = .ok (.iadd, 1)) ∧ (decode cL_law 966 = .ok (.iaload, 1)) ∧ (decode cL_law 967 = .ok (.invokevirtual 142, 3)) ∧ (decode cL_law 970 = .ok (.pop, 1)) ∧ (decode cL_law 971 = .ok (.goto 545, 3)) ∧ (decode cL_law 974 = .ok (.aload_n 1, 1)) ∧ (decode cL_law 975 = .ok (.invokevirtual 143, 3)) ∧ (decode cL_law 978 = .ok (.pop, 1)) ∧ (decode cL_law 979 = .ok (.aload_n 2, 1)) ∧ (decode cL_law 980 = .ok (.invokevirtual 146, 3)) ∧ (decode cL_law 983 = .ok (.pop, 1)) ∧ (decode cL_law 984 = .ok (.goto 532, 3)) ∧ (decode cL_law 987 = .ok (.aload_n 1, 1)) ∧ (decode cL_law 988 = .ok (.aload_n 0, 1)) ∧ (decode cL_law 989 = .ok (.iload 4, 2)) := @of_decide_eq_true _ (DA (i_4 _ _) (DA (i_96 _ _) (DA (i_46 _ _) (DA (i_182 _ _ _) (DA (i_87 _ _) (DA (i_167 _ _ _) (DA (i_43 _ _) (DA (i_182 _ _ _) (DA (i_87 _ _) (DA (i_44 _ _) (DA (i_182 _ _ _) (DA (i_87 _ _) (DA (i_167 _ _ _) (DA (i_43 _ _) (DA (i_42 _ _) (i_21 _ _ _)))))))))))))))) (by decide +kernel)
theorem eL_law_991 : (decode cL_law 991 = .ok (.iconst 1, 1)) ∧ (decode cL_law 992 = .ok (.iadd, 1)) ∧ (decode cL_law 993 = .ok (.iaload, 1)) ∧ (decode cL_law 994 = .ok (.invokevirtual 147, 3)) ∧ (decode cL_law 997 = .ok (.pop, 1)) ∧ (decode cL_law 998 = .ok (.aload_n 2, 1)) ∧ (decode cL_law 999 = .ok (.aload_n 0, 1)) ∧ (decode cL_law 1000 = .ok (.iload 4, 2)) ∧ (decode cL_law 1002 = .ok (.iconst 1, 1)) ∧ (decode cL_law 1003 = .ok (.iadd, 1)) ∧ (decode cL_law 1004 = .ok (.iaload, 1)) ∧ (decode cL_law 1005 = .ok (.invokevirtual 150, 3)) ∧ (decode cL_law 1008 = .ok (.pop, 1)) ∧ (decode cL_law 1009 = .ok (.goto 507, 3)) ∧ (decode cL_law 1012 = .ok (.aload_n 1, 1)) ∧ (decode cL_law 1013 = .ok (.aload_n 0, 1)) := @of_decide_eq_true _ (DA (i_4 _ _) (DA (i_96 _ _) (DA (i_46 _ _) (DA (i_182 _ _ _) (DA (i_87 _ _) (DA (i_44 _ _) (DA (i_42 _ _) (DA (i_21 _ _ _) (DA (i_4 _ _) (DA (i_96 _ _) (DA (i_46 _ _) (DA (i_182 _ _ _) (DA (i_87 _ _) (DA (i_167 _ _ _) (DA (i_43 _ _) (i_42 _ _)))))))))))))))) (by decide +kernel)
theorem eL_law_1014 : (decode cL_law 1014 = .ok (.iload 4, 2)) ∧ (decode cL_law 1016 = .ok (.iconst 1, 1)) ∧ (decode cL_law 1017 = .ok (.iadd, 1)) ∧ (decode cL_law 1018 = .ok (.iaload, 1)) ∧ (decode cL_law 1019 = .ok (.invokevirtual 151, 3)) ∧ (decode cL_law 1022 = .ok (.pop, 1)) ∧ (decode cL_law 1023 = .ok (.aload_n 2, 1)) ∧ (decode cL_law 1024 = .ok (.aload_n 0, 1)) ∧ (decode cL_law 1025 = .ok (.iload 4, 2)) ∧ (decode cL_law 1027 = .ok (.iconst 1, 1)) ∧ (decode cL_law 1028 = .ok (.iadd, 1)) ∧ (decode cL_law 1029 = .ok (.iaload, 1)) ∧ (decode cL_law 1030 = .ok (.invokevirtual 154, 3)) ∧ (decode cL_law 1033 = .ok (.pop, 1)) ∧ (decode cL_law 1034 = .ok (.goto 482, 3)) ∧ (decode cL_law 1037 = .ok (.aload_n 1, 1)) := @of_decide_eq_true _ (DA (i_21 _ _ _) (DA (i_4 _ _) (DA (i_96 _ _) (DA (i_46 _ _) (DA (i_182 _ _ _) (DA (i_87 _ _) (DA (i_44 _ _) (DA (i_42 _ _) (DA (i_21 _ _ _) (DA (i_4 _ _) (DA (i_96 _ _) (DA (i_46 _ _) (DA (i_182 _ _ _) (DA (i_87 _ _) (DA (i_167 _ _ _) (i_43 _ _)))))))))))))))) (by decide +kernel)
theorem eL_law_1038 : (decode cL_law 1038 = .ok (.invokevirtual 155, 3)) ∧ (decode cL_law 1041 = .ok (.pop, 1)) ∧ (decode cL_law 1042 = .ok (.aload_n 2, 1)) ∧ (decode cL_law 1043 = .ok (.invokevirtual 158, 3)) ∧ (decode cL_law 1046 = .ok (.pop, 1)) ∧ (decode cL_law 1047 = .ok (.goto 469, 3)) ∧ (decode cL_law 1050 = .ok (.aload_n 1, 1)) ∧ (decode cL_law 1051 = .ok (.invokevirtual 159, 3)) ∧ (decode cL_law 1054 = .ok (.pop, 1)) ∧ (decode cL_law 1055 = .ok (.aload_n 2, 1)) ∧ (decode cL_law 1056 = .ok (.invokevirtual 162, 3)) ∧ (decode cL_law 1059 = .ok (.pop, 1)) ∧ (decode cL_law 1060 = .ok (.goto 456, 3)) ∧ (decode cL_law 1063 = .ok (.aload_n 1, 1)) ∧ (decode cL_law 1064 = .ok (.aload_n 0, 1)) ∧ (decode cL_law 1065 = .ok (.iload 4, 2)) := @of_decide_eq_true _ (DA (i_182 _ _ _) (DA (i_87 _ _) (DA (i_44 _ _) (DA (i_182 _ _ _) (DA (i_87 _ _) (DA (i_167 _ _ _) (DA (i_43 _ _) (DA (i_182 _ _ _) (DA (i_87 _ _) (DA (i_44 _ _) (DA (i_182 _ _ _) (DA (i_87 _ _) (DA (i_167 _ _ _) (DA (i_43 _ _) (DA (i_42 _ _) (i_21 _ _ _)))))))))))))))) (by decide +kernel)
theorem eL_law_1067 : (decode cL_law 1067 = .ok (.iconst 1, 1)) ∧ (decode cL_law 1068 = .ok (.iadd, 1)) ∧ (decode cL_law 1069 = .ok (.iaload, 1)) ∧ (decode cL_law 1070 = .ok (.invokevirtual 163, 3)) ∧ (decode cL_law 1073 = .ok (.pop, 1)) ∧ (decode cL_law 1074 = .ok (.aload_n 2, 1)) ∧ (decode cL_law 1075 = .ok (.aload_n 0, 1)) ∧ (decode cL_law 1076 = .ok (.iload 4, 2)) ∧ (decode cL_law 1078 = .ok (.iconst 1, 1)) ∧ (decode cL_law 1079 = .ok (.iadd, 1)) ∧ (decode cL_law 1080 = .ok (.iaload, 1)) ∧ (decode cL_law 1081 = .ok (.invokevirtual 166, 3)) ∧ (decode cL_law 1084 = .ok (.pop, 1)) ∧ (decode cL_law 1085 = .ok (.goto 431, 3)) ∧ (decode cL_law 1088 = .ok (.aload_n 1, 1)) ∧ (decode cL_law 1089 = .ok (.aload_n 0, 1)) := @of_decide_eq_true _ (DA (i_4 _ _) (DA (i_96 _ _) (DA (i_46 _ _) (DA (i_182 _ _ _) (DA (i_87 _ _) (DA (i_44 _ _) (DA (i_42 _ _) (DA (i_21 _ _ _) (DA (i_4 _ _) (DA (i_96 _ _) (DA (i_46 _ _) (DA (i_182 _ _ _) (DA (i_87 _ _) (DA (i_167 _ _ _) (DA (i_43 _ _) (i_42 _ _)))))))))))))))) (by decide +kernel)
theorem eL_law_1090 : (decode cL_law 1090 = .ok (.iload 4, 2)) ∧ (decode cL_law 1092 = .ok (.iconst 1, 1)) ∧ (decode cL_law 1093 = .ok (.iadd, 1)) ∧ (decode cL_law 1094 = .ok (.iaload, 1)) ∧ (decode cL_law 1095 = .ok (.invokevirtual 167, 3)) ∧ (decode cL_law 1098 = .ok (.pop, 1)) ∧ (decode cL_law 1099 = .ok (.aload_n 2, 1)) ∧ (decode cL_law 1100 = .ok (.aload_n 0, 1)) ∧ (decode cL_law 1101 = .ok (.iload 4, 2)) ∧ (decode cL_law 1103 = .ok (.iconst 1, 1)) ∧ (decode cL_law 1104 = .ok (.iadd, 1)) ∧ (decode cL_law 1105 = .ok (.iaload, 1)) ∧ (decode cL_law 1106 = .ok (.invokevirtual 170, 3)) ∧ (decode cL_law 1109 = .ok (.pop, 1)) ∧ (decode cL_law 1110 = .ok (.goto 406, 3)) ∧ (decode cL_law 1113 = .ok (.aload_n 1, 1)) := @of_decide_eq_true _ (DA (i_21 _ _ _) (DA (i_4 _ _) (DA (i_96 _ _) (DA (i_46 _ _) (DA (i_182 _ _ _) (DA (i_87 _ _) (DA (i_44 _ _) (DA (i_42 _ _) (DA (i_21 _ _ _) (DA (i_4 _ _) (DA (i_96 _ _) (DA (i_46 _ _) (DA (i_182 _ _ _) (DA (i_87 _ _) (DA (i_167 _ _ _) (i_43 _ _)))))))))))))))) (by decide +kernel)
theorem eL_law_1114 : (decode cL_law 1114 = .ok (.aload_n 0, 1)) ∧ (decode cL_law 1115 = .ok (.iload 4, 2)) ∧ (decode cL_law 1117 = .ok (.iconst 1, 1)) ∧ (decode cL_law 1118 = .ok (.iadd, 1)) ∧ (decode cL_law 1119 = .ok (.iaload, 1)) ∧ (decode cL_law 1120 = .ok (.invokevirtual 171, 3)) ∧ (decode cL_law 1123 = .ok (.pop, 1)) ∧ (decode cL_law 1124 = .ok (.aload_n 2, 1)) ∧ (decode cL_law 1125 = .ok (.aload_n 0, 1)) ∧ (decode cL_law 1126 = .ok (.iload 4, 2)) ∧ (decode cL_law 1128 = .ok (.iconst 1, 1)) ∧ (decode cL_law 1129 = .ok (.iadd, 1)) ∧ (decode cL_law 1130 = .ok (.iaload, 1)) ∧ (decode cL_law 1131 = .ok (.invokevirtual 174, 3)) ∧ (decode cL_law 1134 = .ok (.pop, 1)) ∧ (decode cL_law 1135 = .ok (.goto 381, 3)) := @of_decide_eq_true _ (DA (i_42 _ _) (DA (i_21 _ _ _) (DA (i_4 _ _) (DA (i_96 _ _) (DA (i_46 _ _) (DA (i_182 _ _ _) (DA (i_87 _ _) (DA (i_44 _ _) (DA (i_42 _ _) (DA (i_21 _ _ _) (DA (i_4 _ _) (DA (i_96 _ _) (DA (i_46 _ _) (DA (i_182 _ _ _) (DA (i_87 _ _) (i_167 _ _ _)))))))))))))))) (by decide +kernel)
theorem eL_law_1138 : (decode cL_law 1138 = .ok (.aload_n 1, 1)) ∧ (decode cL_law 1139 = .ok (.invokevirtual 175, 3)) ∧ (decode cL_law 1142 = .ok (.pop, 1)) ∧ (decode cL_law 1143 = .ok (.aload_n 2, 1)) ∧ (decode cL_law 1144 = .ok (.invokevirtual 178, 3)) ∧ (decode cL_law 1147 = .ok (.pop, 1)) ∧ (decode cL_law 1148 = .ok (.goto 368, 3)) ∧ (decode cL_law 1151 = .ok (.aload_n 1, 1)) ∧ (decode cL_law 1152 = .ok (.invokevirtual 179, 3)) ∧ (decode cL_law 1155 = .ok (.pop, 1)) ∧ (decode cL_law 1156 = .ok (.aload_n 2, 1)) ∧ (decode cL_law 1157 = .ok (.invokevirtual 182, 3)) ∧ (decode cL_law 1160 = .ok (.pop, 1)) ∧ (decode cL_law 1161 = .ok (.goto 355, 3)) ∧ (decode cL_law 1164 = .ok (.aload_n 1, 1)) ∧ (decode cL_law 1165 = .ok (.aload_n 0, 1)) := @of_decide_eq_true _ (DA (i_43 _ _) (DA (i_182 _ _ _) (DA (i_87 _ _) (DA (i_44 _ _) (DA (i_182 _ _ _) (DA (i_87 _ _) (DA (i_167 _ _ _) (DA (i_43 _ _) (DA (i_182 _ _ _) (DA (i_87 _ _) (DA (i_44 _ _) (DA (i_182 _ _ _) (DA (i_87 _ _) (DA (i_167 _ _ _) (DA (i_43 _ _) (i_42 _ _)))))))))))))))) (by decide +kernel)
theorem eL_law_1166 : (decode cL_law 1166 = .ok (.iload 4, 2)) ∧ (decode cL_law 1168 = .ok (.iconst 1, 1)) ∧ (decode cL_law 1169 = .ok (.iadd, 1)) ∧ (decode cL_law 1170 = .ok (.iaload, 1)) ∧ (decode cL_law 1171 = .ok (.invokevirtual 183, 3)) ∧ (decode cL_law 1174 = .ok (.pop, 1)) ∧ (decode cL_law 1175 = .ok (.aload_n 2, 1)) ∧ (decode cL_law 1176 = .ok (.aload_n 0, 1)) ∧ (decode cL_law 1177 = .ok (.iload 4, 2)) ∧ (decode cL_law 1179 = .ok (.iconst 1, 1)) ∧ (decode cL_law 1180 = .ok (.iadd, 1)) ∧ (decode cL_law 1181 = .ok (.iaload, 1)) ∧ (decode cL_law 1182 = .ok (.invokevirtual 186, 3)) ∧ (decode cL_law 1185 = .ok (.pop, 1)) ∧ (decode cL_law 1186 = .ok (.goto 330, 3)) ∧ (decode cL_law 1189 = .ok (.aload_n 1, 1)) := @of_decide_eq_true _ (DA (i_21 _ _ _) (DA (i_4 _ _) (DA (i_96 _ _) (DA (i_46 _ _) (DA (i_182 _ _ _) (DA (i_87 _ _) (DA (i_44 _ _) (DA (i_42 _ _) (DA (i_21 _ _ _) (DA (i_4 _ _) (DA (i_96 _ _) (DA (i_46 _ _) (DA (i_182 _ _ _) (DA (i_87 _ _) (DA (i_167 _ _ _) (i_43 _ _)))))))))))))))) (by decide +kernel)
theorem eL_law_1190 : (decode cL_law 1190 = .ok (.invokevirtual 187, 3)) ∧ (decode cL_law 1193 = .ok (.pop, 1)) ∧ (decode cL_law 1194 = .ok (.aload_n 2, 1)) ∧ (decode cL_law 1195 = .ok (.invokevirtual 190, 3)) ∧ (decode cL_law 1198 = .ok (.pop, 1)) ∧ (decode cL_law 1199 = .ok (.goto 317, 3)) ∧ (decode cL_law 1202 = .ok (.aload_n 1, 1)) ∧ (decode cL_law 1203 = .ok (.aload_n 0, 1)) ∧ (decode cL_law 1204 = .ok (.iload 4, 2)) ∧ (decode cL_law 1206 = .ok (.iconst 1, 1)) ∧ (decode cL_law 1207 = .ok (.iadd, 1)) ∧ (decode cL_law 1208 = .ok (.iaload, 1)) ∧ (decode cL_law 1209 = .ok (.invokevirtual 191, 3)) ∧ (decode cL_law 1212 = .ok (.pop, 1)) ∧ (decode cL_law 1213 = .ok (.aload_n 2, 1)) ∧ (decode cL_law 1214 = .ok (.aload_n 0, 1)) := @of_decide_eq_true _ (DA (i_182 _ _ _) (DA (i_87 _ _) (DA (i_44 _ _) (DA (i_182 _ _ _) (DA (i_87 _ _) (DA (i_167 _ _ _) (DA (i_43 _ _) (DA (i_42 _ _) (DA (i_21 _ _ _) (DA (i_4 _ _) (DA (i_96 _ _) (DA (i_46 _ _) (DA (i_182 _ _ _) (DA (i_87 _ _) (DA (i_44 _ _) (i_42 _ _)))))))))))))))) (by decide +kernel)
theorem eL_law_1215 : (decode cL_law 1215 = .ok (.iload 4, 2)) ∧ (decode cL_law 1217 = .ok (.iconst 1, 1)) ∧ (decode cL_law 1218 = .ok (.iadd, 1)) ∧ (decode cL_law 1219 = .ok (.iaload, 1)) ∧ (decode cL_law 1220 = .ok (.invokevirtual 194, 3)) ∧ (decode cL_law 1223 = .ok (.pop, 1)) ∧ (decode cL_law 1224 = .ok (.goto 292, 3)) ∧ (decode cL_law 1227 = .ok (.aload_n 1, 1)) ∧ (decode cL_law 1228 = .ok (.invokevirtual 195, 3)) ∧ (decode cL_law 1231 = .ok (.pop, 1)) ∧ (decode cL_law 1232 = .ok (.aload_n 2, 1)) ∧ (decode cL_law 1233 = .ok (.invokevirtual 198, 3)) ∧ (decode cL_law 1236 = .ok (.pop, 1)) ∧ (decode cL_law 1237 = .ok (.goto 279, 3)) ∧ (decode cL_law 1240 = .ok (.aload_n 1, 1)) ∧ (decode cL_law 1241 = .ok (.aload_n 0, 1)) := @of_decide_eq_true _ (DA (i_21 _ _ _) (DA (i_4 _ _) (DA (i_96 _ _) (DA (i_46 _ _) (DA (i_182 _ _ _) (DA (i_87 _ _) (DA (i_167 _ _ _) (DA (i_43 _ _) (DA (i_182 _ _ _) (DA (i_87 _ _) (DA (i_44 _ _) (DA (i_182 _ _ _) (DA (i_87 _ _) (DA (i_167 _ _ _) (DA (i_43 _ _) (i_42 _ _)))))))))))))))) (by decide +kernel)
theorem eL_law_1242 : (decode cL_law 1242 = .ok (.iload 4, 2)) ∧ (decode cL_law 1244 = .ok (.iconst 1, 1)) ∧ (decode cL_law 1245 = .ok (.iadd, 1)) ∧ (decode cL_law 1246 = .ok (.iaload, 1)) ∧ (decode cL_law 1247 = .ok (.aload_n 0, 1)) ∧ (decode cL_law 1248 = .ok (.iload 4, 2)) ∧ (decode cL_law 1250 = .ok (.iconst 2, 1)) ∧ (decode cL_law 1251 = .ok (.iadd, 1)) ∧ (decode cL_law 1252 = .ok (.iaload, 1)) ∧ (decode cL_law 1253 = .ok (.invokevirtual 199, 3)) ∧ (decode cL_law 1256 = .ok (.pop, 1)) ∧ (decode cL_law 1257 = .ok (.aload_n 2, 1)) ∧ (decode cL_law 1258 = .ok (.aload_n 0, 1)) ∧ (decode cL_law 1259 = .ok (.iload 4, 2)) ∧ (decode cL_law 1261 = .ok (.iconst 1, 1)) ∧ (decode cL_law 1262 = .ok (.iadd, 1)) := @of_decide_eq_true _ (DA (i_21 _ _ _) (DA (i_4 _ _) (DA (i_96 _ _) (DA (i_46 _ _) (DA (i_42 _ _) (DA (i_21 _ _ _) (DA (i_5 _ _) (DA (i_96 _ _) (DA (i_46 _ _) (DA (i_182 _ _ _) (DA (i_87 _ _) (DA (i_44 _ _) (DA (i_42 _ _) (DA (i_21 _ _ _) (DA (i_4 _ _) (i_96 _ _)))))))))))))))) (by decide +kernel)
theorem eL_law_1263 : (decode cL_law 1263 = .ok (.iaload, 1)) ∧ (decode cL_law 1264 = .ok (.aload_n 0, 1)) ∧ (decode cL_law 1265 = .ok (.iload 4, 2)) ∧ (decode cL_law 1267 = .ok (.iconst 2, 1)) ∧ (decode cL_law 1268 = .ok (.iadd, 1)) ∧ (decode cL_law 1269 = .ok (.iaload, 1)) ∧ (decode cL_law 1270 = .ok (.invokevirtual 202, 3)) ∧ (decode cL_law 1273 = .ok (.pop, 1)) ∧ (decode cL_law 1274 = .ok (.goto 242, 3)) ∧ (decode cL_law 1277 = .ok (.aload_n 1, 1)) ∧ (decode cL_law 1278 = .ok (.aload_n 0, 1)) ∧ (decode cL_law 1279 = .ok (.iload 4, 2)) ∧ (decode cL_law 1281 = .ok (.iconst 1, 1)) ∧ (decode cL_law 1282 = .ok (.iadd, 1)) ∧ (decode cL_law 1283 = .ok (.iaload, 1)) ∧ (decode cL_law 1284 = .ok (.invokevirtual 203, 3)) := @of_decide_eq_true _ (DA (i_46 _ _) (DA (i_42 _ _) (DA (i_21 _ _ _) (DA (i_5 _ _) (DA (i_96 _ _) (DA (i_46 _ _) (DA (i_182 _ _ _) (DA (i_87 _ _) (DA (i_167 _ _ _) (DA (i_43 _ _) (DA (i_42 _ _) (DA (i_21 _ _ _) (DA (i_4 _ _) (DA (i_96 _ _) (DA (i_46 _ _) (i_182 _ _ _)))))))))))))))) (by decide +kernel)
theorem eL_law_1287 : (decode cL_law 1287 = .ok (.pop, 1)) ∧ (decode cL_law 1288 = .ok (.aload_n 2, 1)) ∧ (decode cL_law 1289 = .ok (.aload_n 0, 1)) ∧ (decode cL_law 1290 = .ok (.iload 4, 2)) ∧ (decode cL_law 1292 = .ok (.iconst 1, 1)) ∧ (decode cL_law 1293 = .ok (.iadd, 1)) ∧ (decode cL_law 1294 = .ok (.iaload, 1)) ∧ (decode cL_law 1295 = .ok (.invokevirtual 206, 3)) ∧ (decode cL_law 1298 = .ok (.pop, 1)) ∧ (decode cL_law 1299 = .ok (.goto 217, 3)) ∧ (decode cL_law 1302 = .ok (.aload_n 1, 1)) ∧ (decode cL_law 1303 = .ok (.aload_n 0, 1)) ∧ (decode cL_law 1304 = .ok (.iload 4, 2)) ∧ (decode cL_law 1306 = .ok (.iconst 1, 1)) ∧ (decode cL_law 1307 = .ok (.iadd, 1)) ∧ (decode cL_law 1308 = .ok (.iaload, 1)) := @of_decide_eq_true _ (DA (i_87 _ _) (DA (i_44 _ _) (DA (i_42 _ _) (DA (i_21 _ _ _) (DA (i_4 _ _) (DA (i_96 _ _) (DA (i_46 _ _) (DA (i_182 _ _ _) (DA (i_87 _ _) (DA (i_167 _ _ _) (DA (i_43 _ _) (DA (i_42 _ _) (DA (i_21 _ _ _) (DA (i_4 _ _) (DA (i_96 _ _) (i_46 _ _)))))))))))))))) (by decide +kernel)
theorem eL_law_1309 : (decode cL_law 1309 = .ok (.invokevirtual 207, 3)) ∧ (decode cL_law 1312 = .ok (.pop, 1)) ∧ (decode cL_law 1313 = .ok (.aload_n 2, 1)) ∧ (decode cL_law 1314 = .ok (.aload_n 0, 1)) ∧ (decode cL_law 1315 = .ok (.iload 4, 2)) ∧ (decode cL_law 1317 = .ok (.iconst 1, 1)) ∧ (decode cL_law 1318 = .ok (.iadd, 1)) ∧ (decode cL_law 1319 = .ok (.iaload, 1)) ∧ (decode cL_law 1320 = .ok (.invokevirtual 210, 3)) ∧ (decode cL_law 1323 = .ok (.pop, 1)) ∧ (decode cL_law 1324 = .ok (.goto 192, 3)) ∧ (decode cL_law 1327 = .ok (.aload_n 1, 1)) ∧ (decode cL_law 1328 = .ok (.aload_n 0, 1)) ∧ (decode cL_law 1329 = .ok (.iload 4, 2)) ∧ (decode cL_law 1331 = .ok (.iconst 1, 1)) ∧ (decode cL_law 1332 = .ok (.iadd, 1)) := @of_decide_eq_true _ (DA (i_182 _ _ _) (DA (i_87 _ _) (DA (i_44 _ _) (DA (i_42 _ _) (DA (i_21 _ _ _) (DA (i_4 _ _) (DA (i_96 _ _) (DA (i_46 _ _) (DA (i_182 _ _ _) (DA (i_87 _ _) (DA (i_167 _ _ _) (DA (i_43 _ _) (DA (i_42 _ _) (DA (i_21 _ _ _) (DA (i_4 _ _) (i_96 _ _)))))))))))))))) (by decide +kernel)
theorem eL_law_1333 : (decode cL_law 1333 = .ok (.iaload, 1)) ∧ (decode cL_law 1334 = .ok (.aload_n 0, 1)) ∧ (decode cL_law 1335 = .ok (.iload 4, 2)) ∧ (decode cL_law 1337 = .ok (.iconst 2, 1)) ∧ (decode cL_law 1338 = .ok (.iadd, 1)) ∧ (decode cL_law 1339 = .ok (.iaload, 1)) ∧ (decode cL_law 1340 = .ok (.invokevirtual 211, 3)) ∧ (decode cL_law 1343 = .ok (.pop, 1)) ∧ (decode cL_law 1344 = .ok (.aload_n 2, 1)) ∧ (decode cL_law 1345 = .ok (.aload_n 0, 1)) ∧ (decode cL_law 1346 = .ok (.iload 4, 2)) ∧ (decode cL_law 1348 = .ok (.iconst 1, 1)) ∧ (decode cL_law 1349 = .ok (.iadd, 1)) ∧ (decode cL_law 1350 = .ok (.iaload, 1)) ∧ (decode cL_law 1351 = .ok (.aload_n 0, 1)) ∧ (decode cL_law 1352 = .ok (.iload 4, 2)) := @of_decide_eq_true _ (DA (i_46 _ _) (DA (i_42 _ _) (DA (i_21 _ _ _) (DA (i_5 _ _) (DA (i_96 _ _) (DA (i_46 _ _) (DA (i_182 _ _ _) (DA (i_87 _ _) (DA (i_44 _ _) (DA (i_42 _ _) (DA (i_21 _ _ _) (DA (i_4 _ _) (DA (i_96 _ _) (DA (i_46 _ _) (DA (i_42 _ _) (i_21 _ _ _)))))))))))))))) (by decide +kernel)
theorem eL_law_1354 : (decode cL_law 1354 = .ok (.iconst 2, 1)) ∧ (decode cL_law 1355 = .ok (.iadd, 1)) ∧ (decode cL_law 1356 = .ok (.iaload, 1)) ∧ (decode cL_law 1357 = .ok (.invokevirtual 214, 3)) ∧ (decode cL_law 1360 = .ok (.pop, 1)) ∧ (decode cL_law 1361 = .ok (.goto 155, 3)) ∧ (decode cL_law 1364 = .ok (.aload_n 1, 1)) ∧ (decode cL_law 1365 = .ok (.aload_n 0, 1)) ∧ (decode cL_law 1366 = .ok (.iload 4, 2)) ∧ (decode cL_law 1368 = .ok (.iconst 1, 1)) ∧ (decode cL_law 1369 = .ok (.iadd, 1)) ∧ (decode cL_law 1370 = .ok (.iaload, 1)) ∧ (decode cL_law 1371 = .ok (.aload_n 0, 1)) ∧ (decode cL_law 1372 = .ok (.iload 4, 2)) ∧ (decode cL_law 1374 = .ok (.iconst 2, 1)) ∧ (decode cL_law 1375 = .ok (.iadd, 1)) := @of_decide_eq_true _ (DA (i_5 _ _) (DA (i_96 _ _) (DA (i_46 _ _) (DA (i_182 _ _ _) (DA (i_87 _ _) (DA (i_167 _ _ _) (DA (i_43 _ _) (DA (i_42 _ _) (DA (i_21 _ _ _) (DA (i_4 _ _) (DA (i_96 _ _) (DA (i_46 _ _) (DA (i_42 _ _) (DA (i_21 _ _ _) (DA (i_5 _ _) (i_96 _ _)))))))))))))))) (by decide +kernel)
theorem eL_law_1376 : (decode cL_law 1376 = .ok (.iaload, 1)) ∧ (decode cL_law 1377 = .ok (.aload_n 0, 1)) ∧ (decode cL_law 1378 = .ok (.iload 4, 2)) ∧ (decode cL_law 1380 = .ok (.iconst 3, 1)) ∧ (decode cL_law 1381 = .ok (.iadd, 1)) ∧ (decode cL_law 1382 = .ok (.iaload, 1)) ∧ (decode cL_law 1383 = .ok (.invokevirtual 215, 3)) ∧ (decode cL_law 1386 = .ok (.pop, 1)) ∧ (decode cL_law 1387 = .ok (.aload_n 2, 1)) ∧ (decode cL_law 1388 = .ok (.aload_n 0, 1)) ∧ (decode cL_law 1389 = .ok (.iload 4, 2)) ∧ (decode cL_law 1391 = .ok (.iconst 1, 1)) ∧ (decode cL_law 1392 = .ok (.iadd, 1)) ∧ (decode cL_law 1393 = .ok (.iaload, 1)) ∧ (decode cL_law 1394 = .ok (.aload_n 0, 1)) ∧ (decode cL_law 1395 = .ok (.iload 4, 2)) := @of_decide_eq_true _ (DA (i_46 _ _) (DA (i_42 _ _) (DA (i_21 _ _ _) (DA (i_6 _ _) (DA (i_96 _ _) (DA (i_46 _ _) (DA (i_182 _ _ _) (DA (i_87 _ _) (DA (i_44 _ _) (DA (i_42 _ _) (DA (i_21 _ _ _) (DA (i_4 _ _) (DA (i_96 _ _) (DA (i_46 _ _) (DA (i_42 _ _) (i_21 _ _ _)))))))))))))))) (by decide +kernel)
theorem eL_law_1397 : (decode cL_law 1397 = .ok (.iconst 2, 1)) ∧ (decode cL_law 1398 = .ok (.iadd, 1)) ∧ (decode cL_law 1399 = .ok (.iaload, 1)) ∧ (decode cL_law 1400 = .ok (.aload_n 0, 1)) ∧ (decode cL_law 1401 = .ok (.iload 4, 2)) ∧ (decode cL_law 1403 = .ok (.iconst 3, 1)) ∧ (decode cL_law 1404 = .ok (.iadd, 1)) ∧ (decode cL_law 1405 = .ok (.iaload, 1)) ∧ (decode cL_law 1406 = .ok (.invokevirtual 218, 3)) ∧ (decode cL_law 1409 = .ok (.pop, 1)) ∧ (decode cL_law 1410 = .ok (.goto 106, 3)) ∧ (decode cL_law 1413 = .ok (.aload_n 1, 1)) ∧ (decode cL_law 1414 = .ok (.aload_n 0, 1)) ∧ (decode cL_law 1415 = .ok (.iload 4, 2)) ∧ (decode cL_law 1417 = .ok (.iconst 1, 1)) ∧ (decode cL_law 1418 = .ok (.iadd, 1)) := @of_decide_eq_true _ (DA (i_5 _ _) (DA (i_96 _ _) (DA (i_46 _ _) (DA (i_42 _ _) (DA (i_21 _ _ _) (DA (i_6 _ _) (DA (i_96 _ _) (DA (i_46 _ _) (DA (i_182 _ _ _) (DA (i_87 _ _) (DA (i_167 _ _ _) (DA (i_43 _ _) (DA (i_42 _ _) (DA (i_21 _ _ _) (DA (i_4 _ _) (i_96 _ _)))))))))))))))) (by decide +kernel)
theorem eL_law_1419 : (decode cL_law 1419 = .ok (.iaload, 1)) ∧ (decode cL_law 1420 = .ok (.invokevirtual 219, 3)) ∧ (decode cL_law 1423 = .ok (.pop, 1)) ∧ (decode cL_law 1424 = .ok (.aload_n 2, 1)) ∧ (decode cL_law 1425 = .ok (.aload_n 0, 1)) ∧ (decode cL_law 1426 = .ok (.iload 4, 2)) ∧ (decode cL_law 1428 = .ok (.iconst 1, 1)) ∧ (decode cL_law 1429 = .ok (.iadd, 1)) ∧ (decode cL_law 1430 = .ok (.iaload, 1)) ∧ (decode cL_law 1431 = .ok (.invokevirtual 222, 3)) ∧ (decode cL_law 1434 = .ok (.pop, 1)) ∧ (decode cL_law 1435 = .ok (.goto 81, 3)) ∧ (decode cL_law 1438 = .ok (.aload_n 1, 1)) ∧ (decode cL_law 1439 = .ok (.aload_n 0, 1)) ∧ (decode cL_law 1440 = .ok (.iload 4, 2)) ∧ (decode cL_law 1442 = .ok (.iconst 1, 1)) := @of_decide_eq_true _ (DA (i_46 _ _) (DA (i_182 _ _ _) (DA (i_87 _ _) (DA (i_44 _ _) (DA (i_42 _ _) (DA (i_21 _ _ _) (DA (i_4 _ _) (DA (i_96 _ _) (DA (i_46 _ _) (DA (i_182 _ _ _) (DA (i_87 _ _) (DA (i_167 _ _ _) (DA (i_43 _ _) (DA (i_42 _ _) (DA (i_21 _ _ _) (i_4 _ _)))))))))))))))) (by decide +kernel)
theorem eL_law_1443 : (decode cL_law 1443 = .ok (.iadd, 1)) ∧ (decode cL_law 1444 = .ok (.iaload, 1)) ∧ (decode cL_law 1445 = .ok (.invokevirtual 223, 3)) ∧ (decode cL_law 1448 = .ok (.pop, 1)) ∧ (decode cL_law 1449 = .ok (.aload_n 2, 1)) ∧ (decode cL_law 1450 = .ok (.aload_n 0, 1)) ∧ (decode cL_law 1451 = .ok (.iload 4, 2)) ∧ (decode cL_law 1453 = .ok (.iconst 1, 1)) ∧ (decode cL_law 1454 = .ok (.iadd, 1)) ∧ (decode cL_law 1455 = .ok (.iaload, 1)) ∧ (decode cL_law 1456 = .ok (.invokevirtual 226, 3)) ∧ (decode cL_law 1459 = .ok (.pop, 1)) ∧ (decode cL_law 1460 = .ok (.goto 56, 3)) ∧ (decode cL_law 1463 = .ok (.aload_n 1, 1)) ∧ (decode cL_law 1464 = .ok (.aload_n 0, 1)) ∧ (decode cL_law 1465 = .ok (.iload 4, 2)) := @of_decide_eq_true _ (DA (i_96 _ _) (DA (i_46 _ _) (DA (i_182 _ _ _) (DA (i_87 _ _) (DA (i_44 _ _) (DA (i_42 _ _) (DA (i_21 _ _ _) (DA (i_4 _ _) (DA (i_96 _ _) (DA (i_46 _ _) (DA (i_182 _ _ _) (DA (i_87 _ _) (DA (i_167 _ _ _) (DA (i_43 _ _) (DA (i_42 _ _) (i_21 _ _ _)))))))))))))))) (by decide +kernel)
theorem eL_law_1467 : (decode cL_law 1467 = .ok (.iconst 1, 1)) ∧ (decode cL_law 1468 = .ok (.iadd, 1)) ∧ (decode cL_law 1469 = .ok (.iaload, 1)) ∧ (decode cL_law 1470 = .ok (.invokevirtual 227, 3)) ∧ (decode cL_law 1473 = .ok (.pop, 1)) ∧ (decode cL_law 1474 = .ok (.aload_n 2, 1)) ∧ (decode cL_law 1475 = .ok (.aload_n 0, 1)) ∧ (decode cL_law 1476 = .ok (.iload 4, 2)) ∧ (decode cL_law 1478 = .ok (.iconst 1, 1)) ∧ (decode cL_law 1479 = .ok (.iadd, 1)) ∧ (decode cL_law 1480 = .ok (.iaload, 1)) ∧ (decode cL_law 1481 = .ok (.invokevirtual 230, 3)) ∧ (decode cL_law 1484 = .ok (.pop, 1)) ∧ (decode cL_law 1485 = .ok (.goto 31, 3)) ∧ (decode cL_law 1488 = .ok (.aload_n 1, 1)) ∧ (decode cL_law 1489 = .ok (.aload_n 0, 1)) := @of_decide_eq_true _ (DA (i_4 _ _) (DA (i_96 _ _) (DA (i_46 _ _) (DA (i_182 _ _ _) (DA (i_87 _ _) (DA (i_44 _ _) (DA (i_42 _ _) (DA (i_21 _ _ _) (DA (i_4 _ _) (DA (i_96 _ _) (DA (i_46 _ _) (DA (i_182 _ _ _) (DA (i_87 _ _) (DA (i_167 _ _ _) (DA (i_43 _ _) (i_42 _ _)))))))))))))))) (by decide +kernel)
theorem eL_law_1490 : (decode cL_law 1490 = .ok (.iload 4, 2)) ∧ (decode cL_law 1492 = .ok (.iconst 1, 1)) ∧ (decode cL_law 1493 = .ok (.iadd, 1)) ∧ (decode cL_law 1494 = .ok (.iaload, 1)) ∧ (decode cL_law 1495 = .ok (.aload_n 3, 1)) ∧ (decode cL_law 1496 = .ok (.invokestatic 231, 3)) ∧ (decode cL_law 1499 = .ok (.istore 5, 2)) ∧ (decode cL_law 1501 = .ok (.aload_n 2, 1)) ∧ (decode cL_law 1502 = .ok (.aload_n 0, 1)) ∧ (decode cL_law 1503 = .ok (.iload 4, 2)) ∧ (decode cL_law 1505 = .ok (.iconst 1, 1)) ∧ (decode cL_law 1506 = .ok (.iadd, 1)) ∧ (decode cL_law 1507 = .ok (.iaload, 1)) ∧ (decode cL_law 1508 = .ok (.invokevirtual 234, 3)) ∧ (decode cL_law 1511 = .ok (.istore 6, 2)) ∧ (decode cL_law 1513 = .ok (.goto 3, 3)) := @of_decide_eq_true _ (DA (i_21 _ _ _) (DA (i_4 _ _) (DA (i_96 _ _) (DA (i_46 _ _) (DA (i_45 _ _) (DA (i_184 _ _ _) (DA (i_54 _ _ _) (DA (i_44 _ _) (DA (i_42 _ _) (DA (i_21 _ _ _) (DA (i_4 _ _) (DA (i_96 _ _) (DA (i_46 _ _) (DA (i_182 _ _ _) (DA (i_54 _ _ _) (i_167 _ _ _)))))))))))))))) (by decide +kernel)
theorem eL_law_1516 : (decode cL_law 1516 = .ok (.iinc 4 5, 3)) ∧ (decode cL_law 1519 = .ok (.goto (-1496), 3)) ∧ (decode cL_law 1522 = .ok (.iconst 1, 1)) ∧ (decode cL_law 1523 = .ok (.ireturn, 1)) := @of_decide_eq_true _ (DA (i_132 _ _ _ _) (DA (i_167 _ _ _) (DA (i_4 _ _) (i_172 _ _)))) (by decide +kernel)
-- ===== end of PART A; then your names; then what follows =====
/-! THE CLAIM OUT OF ONE WALK OF THE LAW'S BODY. Your part is whole_start (and what it stands on); all else here is the same for every law, but numbers. -/
noncomputable def R_law : String := "WhereTheLadderLaw"
noncomputable def lw_P (b : Addr) (xs : List Int32) (args : Array Value) (s : State) : Prop := args = #[.ref b] ∧ s.IntsAt b xs ∧ xs.length ≤ 2560 ∧ (Jvm.Cond.and given_1 narrow_1).before args s = true
noncomputable def lw_Q (_ : Array Value) (s : State) (o : Outcome) (t : State) : Prop := o = .returned (some (.int 1)) ∧ Framed s o t [] 601024 7293034
noncomputable def lw_Z (below : List Frame) (a : Array Value) (s : State) : State → Prop := fun t => ∃ o, t.status = .running ∧ Ended t below o ∧ lw_Q a s o t
/-- the law's own end, with 1 on the stack, nothing written that was there before, its room as the claim has it -/
theorem lw_ret {p : Program} {l : Launch} {e : Env} {s : State} {m : MethodId} {below : List Frame} {meth : Method} {c : Code} {b : Nat} (hx : p.tables.exec = Jvm.exec) (hb : c.code = code) (hr : meth.sig.returnType = ret) (hlocks : meth.locks = false) {pc : Nat} {H : Heap} {ls : Array Slot} (hdg : decode code pc = .ok (.ireturn, 1)) : W p l e room_1 s m #[Value.ref b] below meth c H [] 601024 7293034 (lw_Z below #[Value.ref b] s) (F0 m pc ls [.int 1]) := by
  intro T hT X
  obtain ⟨fs, hret, hrun, hended, hW, hframe⟩ := X.leave (v := some (.int 1)) (hlocks := hlocks) (fun h => by rw [hr] at h; cases h)
  have hmeth' : T.vm.method? m = some meth := X.method'
  refine ⟨T.setFrames fs, ?_, .returned (some (.int 1)), hrun, hended, rfl, ⟨_, rfl⟩, hW, hframe⟩
  jvm_step X.here [X.here.top, hx, hb, hdg, hmeth', hr, ret, narrow_b1]
  (try refine ⟨rfl, ?_⟩); (try refine ⟨rfl, ?_⟩)
  first | (intro acts; rw [hret _ acts rfl rfl rfl]) | rw [hret _ _ rfl rfl rfl]
  exact Steps.refl _
/-- what holds at the law's entry: the machine, the code, the tables' words (any of lw_tbl by 'hts w (by decide +kernel)'), the script of L ints xs at the cell b, what the Statement gives of the start (any of its parts by flat_of_before) -/
noncomputable def lw_At (p : Program) (s : State) (m : MethodId) (meth : Method) (c : Code) (b L : Nat) (xs : Nat → Int32) : Prop :=
  p.tables.exec = Jvm.exec ∧ c.code = code ∧ meth.sig.returnType = ret ∧ c.maxLocals = 7 ∧ s.vm.findClass R_law = some m.cls ∧ (∀ w ∈ lw_tbl, w.before #[Value.ref b] s = true) ∧ va_X b L xs s s.heap ∧ b < s.heap.size ∧ meth.locks = false ∧ (Jvm.Cond.and given_1 narrow_1).before #[Value.ref b] s = true
/-! Calls that make cells, or throw; the law's room -/
theorem n_castNSE : Cond.castable "java/util/NoSuchElementException" "java/util/NoSuchElementException" ∈ WN := List.mem_of_getElem? (i := 10) rfl
section GLAW
variable {p : Program} {l : Launch} {e : Env} {R : Room} {s : State} {m : MethodId} {args : Array Value} {below : List Frame} {meth : Method} {c : Code} {H : Heap} {locs : List Loc} {cells slots mc ms : Nat} {Q : State → Prop} {pc : Nat} {ls : Array Slot} {rest st0 : List Value} {D : va_G} {tys : List (ClassId × FieldType)} {A : Nat → Prop} {ws wc : va_W} {a : Array Value}
theorem g_calliC {S : Type} {post : Int32 → S → Prop} {w1 : S → va_W} (hP : va_P D classes ws H) (hD : va_D A ws) (hS : va_S A s.heap H locs) (hA : ∀ q, s.heap.size ≤ q → A q)
    (isC isR : List Nat) (hC : isC.map (fun i => ws[i]?) = wc.map some) (hR : isR.map (fun i => ws[i]?) = (gpk ws isR).map some) (hn : va_nd isR = true) (hdis : g_dis isR isC = true)
    (hr : va_Run p l e R s m args below meth c H locs cells slots mc ms (F0 m pc ls st0) rest (va_Qi post (fun u t => gB D tys (va_A wc H.size) (w1 u) t) (va_A wc H.size) a) (va_A wc H.size))
    (kk : ∀ (r : Int32) (u : S) (H1 : Heap) (locs1 : List Loc), post r u → va_P D classes (gpk ws isR ++ w1 u) H1 → va_D A (gpk ws isR ++ w1 u) → va_S A s.heap H1 locs1 → W p l e R s m args below meth c H1 locs1 (cells + mc) (slots + ms) Q (F0 m (pc + 3) ls (.int r :: rest))) :
    W p l e R s m args below meth c H locs cells slots Q (F0 m pc ls st0) := by
  have hF := va_free (wc := wc) hD hS hA isC hC
  refine va_calli hr hS (fun q _ h => hF q h) hF (fun r u t H1 locs1 ht hvm hw hB hz hk hS1 => ?_)
  obtain ⟨hP1, hK1, hD1⟩ := hB
  rw [ht] at hP1
  obtain ⟨hP2, hD2⟩ := va_join hP hD isC isR hC hR hn (g_dis_of hdis) hk hF hP1 hD1
  exact kk r u H1 locs1 hw hP2 hD2 hS1
theorem g_calliX {S : Type} {post : Int32 → S → Prop} {w1 : S → va_W} {postx : Prop} (hP : va_P D classes ws H) (hD : va_D A ws) (hS : va_S A s.heap H locs) (hA : ∀ q, s.heap.size ≤ q → A q)
    (isC isR : List Nat) (hC : isC.map (fun i => ws[i]?) = wc.map some) (hR : isR.map (fun i => ws[i]?) = (gpk ws isR).map some) (hn : va_nd isR = true) (hdis : g_dis isR isC = true)
    (hr : vx_Run p l e R s m args below meth c H locs cells slots mc ms (F0 m pc ls st0) rest (va_Qi post (fun u t => gB D tys (va_A wc H.size) (w1 u) t) (va_A wc H.size) a) (gXC D tys (va_A wc H.size) wc postx) (va_A wc H.size))
    (kx : ∀ (ce : Cell) (q9 : Addr) (H1 : Heap) (locs1 : List Loc), postx → va_P D classes (gpk ws isR ++ wc) H1 → va_D A (gpk ws isR ++ wc) → va_S A s.heap H1 locs1 → H1[q9]? = some ce → ce.vm = .none → s.vm.findClass NSE = some ce.cls → vx_W p l e R s m args below meth c H1 locs1 (cells + mc) (slots + ms) Q (F0 m pc ls rest) q9)
    (kk : ∀ (r : Int32) (u : S) (H1 : Heap) (locs1 : List Loc), post r u → va_P D classes (gpk ws isR ++ w1 u) H1 → va_D A (gpk ws isR ++ w1 u) → va_S A s.heap H1 locs1 → W p l e R s m args below meth c H1 locs1 (cells + mc) (slots + ms) Q (F0 m (pc + 3) ls (.int r :: rest))) :
    W p l e R s m args below meth c H locs cells slots Q (F0 m pc ls st0) := by
  have hF := va_free (wc := wc) hD hS hA isC hC
  refine vx_calli hr hS (fun q _ h => hF q h) hF (fun q _ h => hF q h) (fun E ce q9 u t H1 locs1 ht hvm hw hB hz hk hS1 hq hv hcl => ?_) (fun r u t H1 locs1 ht hvm hw hB hz hk hS1 => ?_)
  · obtain ⟨rfl, hP1, hK1, hD1⟩ := hB
    rw [ht] at hP1
    obtain ⟨hP2, hD2⟩ := va_join hP hD isC isR hC hR hn (g_dis_of hdis) hk hF hP1 hD1
    exact kx ce q9 H1 locs1 hw hP2 hD2 hS1 hq hv hcl
  · obtain ⟨hP1, hK1, hD1⟩ := hB
    rw [ht] at hP1
    obtain ⟨hP2, hD2⟩ := va_join hP hD isC isR hC hR hn (g_dis_of hdis) hk hF hP1 hD1
    exact kk r u H1 locs1 hw hP2 hD2 hS1
variable {y : MethodName} {bytes cc : ByteArray} {maxL nL n index : Nat} {ret ret0 : Option FieldType} {rm : Room} {Qc : Array Value → State → Outcome → State → Prop} {XC : String → State → State → Prop} {own C : String} {b : Addr} {As : List Value} {g : JFrame}
theorem g_runVX (C0 : gc cc ret0 nL own D tys A p s m args meth c) (hP : va_P D classes ws H) (hD : va_D A ws) (hS : va_S A s.heap H locs) (isC : List Nat) (hC : isC.map (fun i => ws[i]?) = wc.map some) (hn1 : va_nd isC = true) (q0 ci : Nat) {q : vw_C} {fs : List Value} (hc : classes[ci]? = some q) (he : ws[q0]? = some (b, .inr (ci, fs)))
    (hM : vx_Met l y (gw y bytes maxL ret) rm (va_Pc (.ref b :: As) (gPre D tys wc H.size)) Qc XC mc ms (va_A wc H.size))
    (h1 : Cond.code y bytes maxL ret ∈ W0) (h2 : Cond.methodLink own index y ∈ W0) (h3 : Cond.instanceMethod y ∈ W0) (h4 : Cond.selects q.1 y y ∈ W0) (h5 : Cond.initialized y.cls ∈ W0)
    (hd : y.cls ≠ "java/lang/invoke/MethodHandle" ∧ y.cls ≠ "java/lang/invoke/VarHandle" ∧ (parseMethodDescriptor y.desc).map (fun d => d.parameters.length) = some n) (hrc : rm.cells = mc) (hrs : rm.slots = ms) (hR : rm.frames + 1 ≤ R.frames ∧ 8 + (maxL + 11) + rm.locals ≤ R.locals)
    (hg : g.method = m) (hn : As.length = n) (hsize : g.locals.size = nL) (hstack : g.stack = As.reverse ++ .ref b :: rest) (hW : 2 * g.monitorRoom + (rest.map fun v => v.category).sum ≤ 8) (hdg : decode cc g.pc = .ok (.invokevirtual index, 3)) (hf : cells + mc ≤ R.cells ∧ slots + ms ≤ R.slots) :
    vx_Run p l e R s m args below meth c H locs cells slots mc ms g rest (Qc (Value.ref b :: As).toArray) XC (va_A wc H.size) := by
  obtain ⟨hx, hb, hr, hml, hown, hts, hlocks, hA, hK, hN, hZ⟩ := C0
  exact vx_runV (Ts := W0) ⟨hx, hb, hml, hown, hts⟩ hM ⟨callB_of n hts (g0_good h1) rfl hrc hrs (hts _ h5) (hts _ h2) hd hR, hts _ h3, hts _ h4⟩ ⟨gPre.blind, va_recv hK hP hc he, fun U hU hWm => ⟨rfl, by rw [hU], ⟨by rw [hU]; exact hP.sub isC (g_sub hC), va_K.moved hWm.alike hK, (hD.sub isC hn1 hC).weaken (fun _ _ _ _ => trivial)⟩, gN.warm hWm hN, by rw [hU]; exact hZ.to hWm.alike (fun _ h9 => vk_R.warm hWm h9) hS.2.1 (va_free (wc := wc) hD hS hA isC hC)⟩⟩ hg hn hsize hstack hW hdg hf
theorem g_goodW {y2 : MethodName} {b2 : ByteArray} {n2 : Nat} {r2 : Option FieldType} {hh : List (Nat × Nat × Nat × Nat)} {own2 : String} {ix : Nat} (h : Cond.codeWith y2 b2 n2 r2 hh ∈ W0) (h2 : Cond.methodLink own2 ix y2 ∈ W0) (h3 : Cond.static y2 ∈ W0) (h5 : Cond.initialized y2.cls ∈ W0) : GoodIn W0 (va_wsS own2 ix y2 (.codeWith y2 b2 n2 r2 hh :: W0)) := by
  have gd : ∀ w ∈ W0, w ∈ W0 ∧ ((w.onTables && w.keeps) = true ∨ ∃ ty, w = .arrayClass ty) := fun w e => ⟨e, good_of_word (List.all_eq_true.mp W0_good w e)⟩
  intro w hw
  unfold va_wsS at hw
  rcases List.mem_append.mp hw with e | e
  · rcases List.mem_cons.mp e with rfl | e
    · exact gd _ h2
    · rcases List.mem_cons.mp e with rfl | e
      · exact gd _ h3
      · rcases List.mem_cons.mp e with rfl | e
        · exact gd _ h5
        · cases e
  · rcases List.mem_cons.mp e with rfl | e
    · exact gd _ h
    · exact gd w e
theorem g_runSW {hh : List (Nat × Nat × Nat × Nat)} (C0 : gc cc ret0 nL own D tys A p s m args meth c) (hP : va_P D classes ws H) (hD : va_D A ws) (hS : va_S A s.heap H locs) (isC : List Nat) (hC : isC.map (fun i => ws[i]?) = wc.map some) (hn1 : va_nd isC = true)
    (hM : Met l y (.codeWith y bytes maxL ret hh :: W0) rm (va_Pc As (gPre D tys wc H.size)) Qc mc ms (va_A wc H.size))
    (h1 : Cond.codeWith y bytes maxL ret hh ∈ W0) (h2 : Cond.methodLink own index y ∈ W0) (h3 : Cond.static y ∈ W0) (h5 : Cond.initialized y.cls ∈ W0)
    (hd : y.cls ≠ "java/lang/invoke/MethodHandle" ∧ y.cls ≠ "java/lang/invoke/VarHandle" ∧ (parseMethodDescriptor y.desc).map (fun d => d.parameters.length) = some n) (hrc : rm.cells = mc) (hrs : rm.slots = ms) (hR : rm.frames + 1 ≤ R.frames ∧ 8 + (maxL + 11) + rm.locals ≤ R.locals)
    (hg : g.method = m) (hn : As.length = n) (hsize : g.locals.size = nL) (hstack : g.stack = As.reverse ++ rest) (hW : 2 * g.monitorRoom + (rest.map fun v => v.category).sum ≤ 8) (hdg : decode cc g.pc = .ok (.invokestatic index, 3)) (hf : cells + mc ≤ R.cells ∧ slots + ms ≤ R.slots) :
    va_Run p l e R s m args below meth c H locs cells slots mc ms g rest (Qc As.toArray) (va_A wc H.size) := by
  obtain ⟨hx, hb, hr, hml, hown, hts, hlocks, hA, hK, hN, hZ⟩ := C0
  exact vx_runSW (Ts := W0) (hh := hh) ⟨hx, hb, hml, hown, hts⟩ hM (vx_cwSW n hts (g_goodW h1 h2 h3 h5) rfl hrc hrs hd hR) ⟨gPre.blind, fun U hU hWm => ⟨rfl, by rw [hU], ⟨by rw [hU]; exact hP.sub isC (g_sub hC), va_K.moved hWm.alike hK, (hD.sub isC hn1 hC).weaken (fun _ _ _ _ => trivial)⟩, gN.warm hWm hN, by rw [hU]; exact hZ.to hWm.alike (fun _ h9 => vk_R.warm hWm h9) hS.2.1 (va_free (wc := wc) hD hS hA isC hC)⟩⟩ hg hn hsize hstack hW hdg hf
end GLAW
theorem g_room1 {j : Nat} (h : j ≤ 600) : (62 + j) + 1 ≤ room_1.cells := Nat.le_trans (show (62 + j) + 1 ≤ 700 by omega) (Nat.le_of_ble_eq_true rfl)
theorem g_room2 {j : Nat} (h : j ≤ 600) : (4445 + 6 * j) + 6 ≤ room_1.slots := Nat.le_trans (show (4445 + 6 * j) + 6 ≤ 10000 by omega) (Nat.le_of_ble_eq_true rfl)
theorem g_room3 {j : Nat} (h : j ≤ 600) : (62 + j) + 0 ≤ room_1.cells := Nat.le_trans (show (62 + j) + 0 ≤ 700 by omega) (Nat.le_of_ble_eq_true rfl)
theorem g_room4 {j : Nat} (h : j ≤ 600) : (4445 + 6 * j) + 0 ≤ room_1.slots := Nat.le_trans (show (4445 + 6 * j) + 0 ≤ 10000 by omega) (Nat.le_of_ble_eq_true rfl)
theorem g_room5 {j : Nat} (h : j ≤ 600) : (62 + (j + 1)) + 0 ≤ room_1.cells := Nat.le_trans (show (62 + (j + 1)) + 0 ≤ 700 by omega) (Nat.le_of_ble_eq_true rfl)
theorem g_room6 {j : Nat} (h : j ≤ 600) : (4445 + 6 * (j + 1)) + 0 ≤ room_1.slots := Nat.le_trans (show (4445 + 6 * (j + 1)) + 0 ≤ 10000 by omega) (Nat.le_of_ble_eq_true rfl)
noncomputable abbrev wd_L_fruit (cI cC cZ cB cJ : ClassId) (a_x xG xD wY wJ wQ xI xK xJ tW xH tX jE mX pD oO oQ eG a_lo : Nat) (bZ bD bI aI : Int32) (wD gF pE qA : Nat → Int32) (jC eO eW dO fJ fY jD nG : Int32) (lo : Nat → Int64) : va_W := [(a_x, .inr (9, [.ref xG, .ref xD, .ref wY, .ref wJ, .ref wQ, .ref xI, .ref xK, .ref xJ, .ref tW])), (wY, .inr (0, [.ref wJ, .ref wQ, .ref xH])), (wJ, .inr (3, [.ref tX, .ref jE, .ref mX, .ref pD, .ref oO, .ref oQ, .ref eG, .int bZ, .int bD, .int bI, .int aI])), (tX, .inl (cI, 16, .inl wD)), (jE, .inl (cI, 16, .inl gF)), (mX, .inl (cI, 16, .inl pE)), (pD, .inl (cI, 16, .inl qA)), (wQ, .inr (2, [.int jC, .int eO, .int eW, .int dO, .int fJ, .int fY, .int jD, .int nG])), (a_lo, .inl (cJ, 1, .inr (.inl lo)))]
noncomputable abbrev rm_L_fruit : Room := { frames := 7, cells := 1, slots := 6, locals := 122 }
noncomputable def wp_L_fruit (post : Int32 → (Nat → Int64) → Prop) (p0 p1 bZ : Int32) (wD gF pE qA : Nat → Int32) (jC eO eW dO : Int32) (lo : Nat → Int64) : Prop := wp_X9_fruit (fun r => ∀ f : Nat → Int64, f = vp_updL lo (0 : Int32).toNatClampNeg r.toInt64 → post 0 f) (post 1 lo) p0 p1 bZ wD gF pE qA jC eO eW dO
set_option maxHeartbeats 4000000 in
set_option maxRecDepth 100000 in
theorem c_L_fruit (l : Launch) (hl9 : l.stackTraces = false) (dC : Nat → ClassId) (dI : Nat → Nat → Nat) (cI cC cZ cB cJ : ClassId) (a_x xG xD wY wJ wQ xI xK xJ tW xH tX jE mX pD oO oQ eG a_lo sz : Nat) (p0 p1 bZ bD bI aI : Int32) (wD gF pE qA : Nat → Int32) (jC eO eW dO fJ fY jD nG : Int32) (lo : Nat → Int64) (post : Int32 → (Nat → Int64) → Prop) (hw : wp_L_fruit post p0 p1 bZ wD gF pE qA jC eO eW dO lo) : Met l yL_fruit (Cond.codeWith yL_fruit cL_fruit 5 (some .int) [(0, 10, 13, 13)] :: W0) rm_L_fruit (va_Pc [.ref a_x, .int p0, .int p1, .ref a_lo] (gPre (dC, dI) (tyl cI cC cZ cB cJ) (wd_L_fruit cI cC cZ cB cJ a_x xG xD wY wJ wQ xI xK xJ tW xH tX jE mX pD oO oQ eG a_lo bZ bD bI aI wD gF pE qA jC eO eW dO fJ fY jD nG lo) sz)) (va_Qi (fun (r : Int32) (u : Nat → Int64) => post r u) (fun u t => gB (dC, dI) (tyl cI cC cZ cB cJ) (va_A (wd_L_fruit cI cC cZ cB cJ a_x xG xD wY wJ wQ xI xK xJ tW xH tX jE mX pD oO oQ eG a_lo bZ bD bI aI wD gF pE qA jC eO eW dO fJ fY jD nG lo) sz) (wd_L_fruit cI cC cZ cB cJ a_x xG xD wY wJ wQ xI xK xJ tW xH tX jE mX pD oO oQ eG a_lo bZ bD bI aI wD gF pE qA jC eO eW dO fJ fY jD nG u) t) (va_A (wd_L_fruit cI cC cZ cB cJ a_x xG xD wY wJ wQ xI xK xJ tW xH tX jE mX pD oO oQ eG a_lo bZ bD bI aI wD gF pE qA jC eO eW dO fJ fY jD nG lo) sz)) 1 6 (va_A (wd_L_fruit cI cC cZ cB cJ a_x xG xD wY wJ wQ xI xK xJ tW xH tX jE mX pD oO oQ eG a_lo bZ bD bI aI wD gF pE qA jC eO eW dO fJ fY jD nG lo) sz) := by
  refine va_MetW (cc := cL_fruit) (maxL := 5) (ret := some .int) (hh := [(0, 10, 13, 13)]) (by decide) rfl ?_
  intro p e s m args below meth c s₁ B hml hv
  obtain ⟨rfl, hsz, ⟨hP, hK, hD0⟩, hN, hZ⟩ := hv
  subst hsz
  have hts0 := atoms_spec (ws := (Cond.codeWith yL_fruit cL_fruit 5 (some .int) [(0, 10, 13, 13)] :: W0)) B.pre
  have hts : ∀ w ∈ W0, w.before _ s = true := fun w hw => hts0 w (List.mem_cons_of_mem _ hw)
  have htab := vx_table (x := yL_fruit) B (hts0 _ List.mem_cons_self)
  have hx := B.exec
  have hb := B.bytes
  have hr := B.returns
  have hlocks := B.notSynchronized
  have hown : s.vm.findClass RL = some m.cls := findClass_of_methodNamed B.named
  have hD := hD0.self (sz := s.heap.size)
  have hA : ∀ q, s.heap.size ≤ q → (va_A (wd_L_fruit cI cC cZ cB cJ a_x xG xD wY wJ wQ xI xK xJ tW xH tX jE mX pD oO oQ eG a_lo bZ bD bI aI wD gF pE qA jC eO eW dO fJ fY jD nG lo) s.heap.size) q := fun q h => Or.inr h
  have C0 : gc cL_fruit (some .int) 5 RL (dC, dI) (tyl cI cC cZ cB cJ) (va_A (wd_L_fruit cI cC cZ cB cJ a_x xG xD wY wJ wQ xI xK xJ tW xH tX jE mX pD oO oQ eG a_lo bZ bD bI aI wD gF pE qA jC eO eW dO fJ fY jD nG lo) s.heap.size) p s m ([.ref a_x, .int p0, .int p1, .ref a_lo] : List Value).toArray meth c := ⟨hx, hb, hr, hml, hown, hts, hlocks, hA, hK, hN, hZ⟩
  have hS : va_S (va_A (wd_L_fruit cI cC cZ cB cJ a_x xG xD wY wJ wQ xI xK xJ tW xH tX jE mX pD oO oQ eG a_lo bZ bD bI aI wD gF pE qA jC eO eW dO fJ fY jD nG lo) s.heap.size) s.heap s.heap [] := va_S.rf
  have hl := lv_entry [.ref a_x, .int p0, .int p1, .ref a_lo] (n := 5) (Nat.le_of_ble_eq_true rfl)
  rw [lg_entry_eq]
  generalize (lg_sl [.ref a_x, .int p0, .int p1, .ref a_lo] ++ List.replicate (5 - (lg_sl [.ref a_x, .int p0, .int p1, .ref a_lo]).length) Slot.unset).toArray = ls at hl ⊢
  have hl : lv_has ls 5 [(0, .ref a_x), (1, .int p0), (2, .int p1), (3, .ref a_lo)] := hl
  have hp := hw
  unfold wp_L_fruit at hp
  refine lv_aload_n hx hb eL_fruit_0.1 rfl (lv_at hl 3 rfl) ?_
  refine lv_iconst (v := 0) hx hb eL_fruit_0.2.1 ic_0 ?_
  refine lv_aload_n hx hb eL_fruit_0.2.2.1 rfl (lv_at hl 0 rfl) ?_
  refine lv_iload_n hx hb eL_fruit_0.2.2.2.1 rfl (lv_at hl 1 rfl) ?_
  refine lv_iload_n hx hb eL_fruit_0.2.2.2.2.1 rfl (lv_at hl 2 rfl) ?_
  refine g_calliX (wc := (wd_X9_fruit cI cC cZ cB cJ a_x xG xD wY wJ wQ xI xK xJ tW xH tX jE mX pD oO oQ eG bZ bD bI aI wD gF pE qA jC eO eW dO fJ fY jD nG)) hP hD hS hA [0, 1, 2, 3, 4, 5, 6, 7] [8] rfl rfl rfl rfl (g_runVX (As := [.int p0, .int p1]) (rest := [.int 0, .ref a_lo]) C0 hP hD hS [0, 1, 2, 3, 4, 5, 6, 7] rfl rfl 0 9 rfl rfl (c_X9_fruit l hl9 dC dI cI cC cZ cB cJ a_x xG xD wY wJ wQ xI xK xJ tW xH tX jE mX pD oO oQ eG s.heap.size p0 p1 bZ bD bI aI wD gF pE qA jC eO eW dO fJ fY jD nG _ _ hp) q_1063 q_1064 q_1065 q_1066 q_256 h_X9_fruit rfl rfl ⟨Nat.le_of_ble_eq_true rfl, Nat.le_of_ble_eq_true rfl⟩ rfl rfl hl.1 rfl (lv_room (Nat.le_of_ble_eq_true rfl)) eL_fruit_0.2.2.2.2.2.1 ⟨Nat.le_of_ble_eq_true rfl, Nat.le_of_ble_eq_true rfl⟩) (fun ce q9 H locs hp hP hD hS hq hv hcl => ?_) (fun r u H locs hp hP hD hS => ?_)
  · have hPD := PDs (ws' := (wd_L_fruit cI cC cZ cB cJ a_x xG xD wY wJ wQ xI xK xJ tW xH tX jE mX pD oO oQ eG a_lo bZ bD bI aI wD gF pE qA jC eO eW dO fJ fY jD nG lo)) hP hD [1, 2, 3, 4, 5, 6, 7, 8, 0] (by decide) rfl
    have hP := hPD.1
    have hD := hPD.2
    refine gk_catch (own := RL) (name := NSE) (E := NSE) hown ⟨0, 10, 13, 13⟩ htab (by decide) (by decide) (hts _ q_1067) (va_Nw.use rfl (hN _ n_castNSE)) hq hv hcl ?_
    refine lv_astore (lv' := [(4, .ref q9), (0, .ref a_x), (1, .int p0), (2, .int p1), (3, .ref a_lo)]) hx hb eL_fruit_0.2.2.2.2.2.2.2.2.2.1 hl (by decide) rfl (fun ls hl => ?_)
    refine lv_iconst (v := 1) hx hb eL_fruit_0.2.2.2.2.2.2.2.2.2.2.1 ic_1 ?_
    refine W.widen (k := 1) (n := 6) (Nat.le_refl _) (Nat.le_refl _) ?_
    exact W.iret (v := 1) hx hb hr (fun t ht hW => ⟨⟨1, lo, rfl, hp, by rw [ht]; exact hP, va_K.moved hW.alike hK, hD⟩, hS.F ht⟩) hS.2.2 eL_fruit_0.2.2.2.2.2.2.2.2.2.2.2.1
  · have hPD := PDs (ws' := (wd_L_fruit cI cC cZ cB cJ a_x xG xD wY wJ wQ xI xK xJ tW xH tX jE mX pD oO oQ eG a_lo bZ bD bI aI wD gF pE qA jC eO eW dO fJ fY jD nG lo)) hP hD [1, 2, 3, 4, 5, 6, 7, 8, 0] (by decide) rfl
    have hP := hPD.1
    have hD := hPD.2
    refine lv_i2l hx hb eL_fruit_0.2.2.2.2.2.2.1 rfl ?_
    obtain ⟨f, ef⟩ : ∃ f : Nat → Int64, f = vp_updL lo (0 : Int32).toNatClampNeg r.toInt64 := ⟨_, rfl⟩
    have hp := hp f ef
    refine va_last hx hb hK hP hD hS 8 4 rfl rfl (g_in rfl) eL_fruit_0.2.2.2.2.2.2.2.1 (fun H locs hP hD hS => ?_)
    have hP : va_P (dC, dI) classes (wd_L_fruit cI cC cZ cB cJ a_x xG xD wY wJ wQ xI xK xJ tW xH tX jE mX pD oO oQ eG a_lo bZ bD bI aI wD gF pE qA jC eO eW dO fJ fY jD nG f) H := by rw [ef]; exact hP
    have hD : va_D (va_A (wd_L_fruit cI cC cZ cB cJ a_x xG xD wY wJ wQ xI xK xJ tW xH tX jE mX pD oO oQ eG a_lo bZ bD bI aI wD gF pE qA jC eO eW dO fJ fY jD nG lo) s.heap.size) (wd_L_fruit cI cC cZ cB cJ a_x xG xD wY wJ wQ xI xK xJ tW xH tX jE mX pD oO oQ eG a_lo bZ bD bI aI wD gF pE qA jC eO eW dO fJ fY jD nG f) := by rw [ef]; exact hD
    refine lv_goto (tgt := 17) hx hb eL_fruit_0.2.2.2.2.2.2.2.2.1 (by decide) ?_
    refine lv_iconst (v := 0) hx hb eL_fruit_0.2.2.2.2.2.2.2.2.2.2.2.2.1 ic_0 ?_
    refine W.widen (k := 1) (n := 6) (Nat.le_refl _) (Nat.le_refl _) ?_
    exact W.iret (v := 0) hx hb hr (fun t ht hW => ⟨⟨0, f, rfl, hp, by rw [ht]; exact hP, va_K.moved hW.alike hK, hD⟩, hS.F ht⟩) hS.2.2 eL_fruit_0.2.2.2.2.2.2.2.2.2.2.2.2.2
noncomputable abbrev wd_L_standing (cI cC cZ cB cJ : ClassId) (a_x xG xD wY wJ wQ xI xK xJ tW tX jE mX pD oO oQ eG a_lo : Nat) (bZ bD bI aI : Int32) (nJ nY : Nat → Int32) (lo : Nat → Int64) : va_W := [(a_x, .inr (9, [.ref xG, .ref xD, .ref wY, .ref wJ, .ref wQ, .ref xI, .ref xK, .ref xJ, .ref tW])), (wJ, .inr (3, [.ref tX, .ref jE, .ref mX, .ref pD, .ref oO, .ref oQ, .ref eG, .int bZ, .int bD, .int bI, .int aI])), (oO, .inl (cI, 8, .inl nJ)), (oQ, .inl (cI, 8, .inl nY)), (a_lo, .inl (cJ, 1, .inr (.inl lo)))]
noncomputable abbrev rm_L_standing : Room := { frames := 7, cells := 1, slots := 6, locals := 122 }
noncomputable def wp_L_standing (post : Int32 → (Nat → Int64) → Prop) (p0 p1 bD : Int32) (nJ nY : Nat → Int32) (lo : Nat → Int64) : Prop := wp_X9_standing (fun r => ∀ f : Nat → Int64, f = vp_updL lo (0 : Int32).toNatClampNeg r.toInt64 → post 0 f) (post 1 lo) p0 p1 bD nJ nY
set_option maxHeartbeats 4000000 in
set_option maxRecDepth 100000 in
theorem c_L_standing (l : Launch) (hl9 : l.stackTraces = false) (dC : Nat → ClassId) (dI : Nat → Nat → Nat) (cI cC cZ cB cJ : ClassId) (a_x xG xD wY wJ wQ xI xK xJ tW tX jE mX pD oO oQ eG a_lo sz : Nat) (p0 p1 bZ bD bI aI : Int32) (nJ nY : Nat → Int32) (lo : Nat → Int64) (post : Int32 → (Nat → Int64) → Prop) (hw : wp_L_standing post p0 p1 bD nJ nY lo) : Met l yL_standing (Cond.codeWith yL_standing cL_standing 5 (some .int) [(0, 10, 13, 13)] :: W0) rm_L_standing (va_Pc [.ref a_x, .int p0, .int p1, .ref a_lo] (gPre (dC, dI) (tyl cI cC cZ cB cJ) (wd_L_standing cI cC cZ cB cJ a_x xG xD wY wJ wQ xI xK xJ tW tX jE mX pD oO oQ eG a_lo bZ bD bI aI nJ nY lo) sz)) (va_Qi (fun (r : Int32) (u : Nat → Int64) => post r u) (fun u t => gB (dC, dI) (tyl cI cC cZ cB cJ) (va_A (wd_L_standing cI cC cZ cB cJ a_x xG xD wY wJ wQ xI xK xJ tW tX jE mX pD oO oQ eG a_lo bZ bD bI aI nJ nY lo) sz) (wd_L_standing cI cC cZ cB cJ a_x xG xD wY wJ wQ xI xK xJ tW tX jE mX pD oO oQ eG a_lo bZ bD bI aI nJ nY u) t) (va_A (wd_L_standing cI cC cZ cB cJ a_x xG xD wY wJ wQ xI xK xJ tW tX jE mX pD oO oQ eG a_lo bZ bD bI aI nJ nY lo) sz)) 1 6 (va_A (wd_L_standing cI cC cZ cB cJ a_x xG xD wY wJ wQ xI xK xJ tW tX jE mX pD oO oQ eG a_lo bZ bD bI aI nJ nY lo) sz) := by
  refine va_MetW (cc := cL_standing) (maxL := 5) (ret := some .int) (hh := [(0, 10, 13, 13)]) (by decide) rfl ?_
  intro p e s m args below meth c s₁ B hml hv
  obtain ⟨rfl, hsz, ⟨hP, hK, hD0⟩, hN, hZ⟩ := hv
  subst hsz
  have hts0 := atoms_spec (ws := (Cond.codeWith yL_standing cL_standing 5 (some .int) [(0, 10, 13, 13)] :: W0)) B.pre
  have hts : ∀ w ∈ W0, w.before _ s = true := fun w hw => hts0 w (List.mem_cons_of_mem _ hw)
  have htab := vx_table (x := yL_standing) B (hts0 _ List.mem_cons_self)
  have hx := B.exec
  have hb := B.bytes
  have hr := B.returns
  have hlocks := B.notSynchronized
  have hown : s.vm.findClass RL = some m.cls := findClass_of_methodNamed B.named
  have hD := hD0.self (sz := s.heap.size)
  have hA : ∀ q, s.heap.size ≤ q → (va_A (wd_L_standing cI cC cZ cB cJ a_x xG xD wY wJ wQ xI xK xJ tW tX jE mX pD oO oQ eG a_lo bZ bD bI aI nJ nY lo) s.heap.size) q := fun q h => Or.inr h
  have C0 : gc cL_standing (some .int) 5 RL (dC, dI) (tyl cI cC cZ cB cJ) (va_A (wd_L_standing cI cC cZ cB cJ a_x xG xD wY wJ wQ xI xK xJ tW tX jE mX pD oO oQ eG a_lo bZ bD bI aI nJ nY lo) s.heap.size) p s m ([.ref a_x, .int p0, .int p1, .ref a_lo] : List Value).toArray meth c := ⟨hx, hb, hr, hml, hown, hts, hlocks, hA, hK, hN, hZ⟩
  have hS : va_S (va_A (wd_L_standing cI cC cZ cB cJ a_x xG xD wY wJ wQ xI xK xJ tW tX jE mX pD oO oQ eG a_lo bZ bD bI aI nJ nY lo) s.heap.size) s.heap s.heap [] := va_S.rf
  have hl := lv_entry [.ref a_x, .int p0, .int p1, .ref a_lo] (n := 5) (Nat.le_of_ble_eq_true rfl)
  rw [lg_entry_eq]
  generalize (lg_sl [.ref a_x, .int p0, .int p1, .ref a_lo] ++ List.replicate (5 - (lg_sl [.ref a_x, .int p0, .int p1, .ref a_lo]).length) Slot.unset).toArray = ls at hl ⊢
  have hl : lv_has ls 5 [(0, .ref a_x), (1, .int p0), (2, .int p1), (3, .ref a_lo)] := hl
  have hp := hw
  unfold wp_L_standing at hp
  refine lv_aload_n hx hb eL_standing_0.1 rfl (lv_at hl 3 rfl) ?_
  refine lv_iconst (v := 0) hx hb eL_standing_0.2.1 ic_0 ?_
  refine lv_aload_n hx hb eL_standing_0.2.2.1 rfl (lv_at hl 0 rfl) ?_
  refine lv_iload_n hx hb eL_standing_0.2.2.2.1 rfl (lv_at hl 1 rfl) ?_
  refine lv_iload_n hx hb eL_standing_0.2.2.2.2.1 rfl (lv_at hl 2 rfl) ?_
  refine g_calliX (wc := (wd_X9_standing cI cC cZ cB cJ a_x xG xD wY wJ wQ xI xK xJ tW tX jE mX pD oO oQ eG bZ bD bI aI nJ nY)) hP hD hS hA [0, 1, 2, 3] [4] rfl rfl rfl rfl (g_runVX (As := [.int p0, .int p1]) (rest := [.int 0, .ref a_lo]) C0 hP hD hS [0, 1, 2, 3] rfl rfl 0 9 rfl rfl (c_X9_standing l hl9 dC dI cI cC cZ cB cJ a_x xG xD wY wJ wQ xI xK xJ tW tX jE mX pD oO oQ eG s.heap.size p0 p1 bZ bD bI aI nJ nY _ _ hp) q_1068 q_1069 q_1070 q_1071 q_256 h_X9_standing rfl rfl ⟨Nat.le_of_ble_eq_true rfl, Nat.le_of_ble_eq_true rfl⟩ rfl rfl hl.1 rfl (lv_room (Nat.le_of_ble_eq_true rfl)) eL_standing_0.2.2.2.2.2.1 ⟨Nat.le_of_ble_eq_true rfl, Nat.le_of_ble_eq_true rfl⟩) (fun ce q9 H locs hp hP hD hS hq hv hcl => ?_) (fun r u H locs hp hP hD hS => ?_)
  · have hPD := PDs (ws' := (wd_L_standing cI cC cZ cB cJ a_x xG xD wY wJ wQ xI xK xJ tW tX jE mX pD oO oQ eG a_lo bZ bD bI aI nJ nY lo)) hP hD [1, 2, 3, 4, 0] (by decide) rfl
    have hP := hPD.1
    have hD := hPD.2
    refine gk_catch (own := RL) (name := NSE) (E := NSE) hown ⟨0, 10, 13, 13⟩ htab (by decide) (by decide) (hts _ q_1067) (va_Nw.use rfl (hN _ n_castNSE)) hq hv hcl ?_
    refine lv_astore (lv' := [(4, .ref q9), (0, .ref a_x), (1, .int p0), (2, .int p1), (3, .ref a_lo)]) hx hb eL_standing_0.2.2.2.2.2.2.2.2.2.1 hl (by decide) rfl (fun ls hl => ?_)
    refine lv_iconst (v := 1) hx hb eL_standing_0.2.2.2.2.2.2.2.2.2.2.1 ic_1 ?_
    refine W.widen (k := 1) (n := 6) (Nat.le_refl _) (Nat.le_refl _) ?_
    exact W.iret (v := 1) hx hb hr (fun t ht hW => ⟨⟨1, lo, rfl, hp, by rw [ht]; exact hP, va_K.moved hW.alike hK, hD⟩, hS.F ht⟩) hS.2.2 eL_standing_0.2.2.2.2.2.2.2.2.2.2.2.1
  · have hPD := PDs (ws' := (wd_L_standing cI cC cZ cB cJ a_x xG xD wY wJ wQ xI xK xJ tW tX jE mX pD oO oQ eG a_lo bZ bD bI aI nJ nY lo)) hP hD [1, 2, 3, 4, 0] (by decide) rfl
    have hP := hPD.1
    have hD := hPD.2
    refine lv_i2l hx hb eL_standing_0.2.2.2.2.2.2.1 rfl ?_
    obtain ⟨f, ef⟩ : ∃ f : Nat → Int64, f = vp_updL lo (0 : Int32).toNatClampNeg r.toInt64 := ⟨_, rfl⟩
    have hp := hp f ef
    refine va_last hx hb hK hP hD hS 4 4 rfl rfl (g_in rfl) eL_standing_0.2.2.2.2.2.2.2.1 (fun H locs hP hD hS => ?_)
    have hP : va_P (dC, dI) classes (wd_L_standing cI cC cZ cB cJ a_x xG xD wY wJ wQ xI xK xJ tW tX jE mX pD oO oQ eG a_lo bZ bD bI aI nJ nY f) H := by rw [ef]; exact hP
    have hD : va_D (va_A (wd_L_standing cI cC cZ cB cJ a_x xG xD wY wJ wQ xI xK xJ tW tX jE mX pD oO oQ eG a_lo bZ bD bI aI nJ nY lo) s.heap.size) (wd_L_standing cI cC cZ cB cJ a_x xG xD wY wJ wQ xI xK xJ tW tX jE mX pD oO oQ eG a_lo bZ bD bI aI nJ nY f) := by rw [ef]; exact hD
    refine lv_goto (tgt := 17) hx hb eL_standing_0.2.2.2.2.2.2.2.2.1 (by decide) ?_
    refine lv_iconst (v := 0) hx hb eL_standing_0.2.2.2.2.2.2.2.2.2.2.2.2.1 ic_0 ?_
    refine W.widen (k := 1) (n := 6) (Nat.le_refl _) (Nat.le_refl _) ?_
    exact W.iret (v := 0) hx hb hr (fun t ht hW => ⟨⟨0, f, rfl, hp, by rw [ht]; exact hP, va_K.moved hW.alike hK, hD⟩, hS.F ht⟩) hS.2.2 eL_standing_0.2.2.2.2.2.2.2.2.2.2.2.2.2
noncomputable abbrev wd_L_row (cI cC cZ cB cJ : ClassId) (a_x xG xD wY wJ wQ xI xK xJ tW qT a_lo : Nat) (qF : Int32) (jJ : Nat → Int32) (lo : Nat → Int64) : va_W := [(a_x, .inr (9, [.ref xG, .ref xD, .ref wY, .ref wJ, .ref wQ, .ref xI, .ref xK, .ref xJ, .ref tW])), (xK, .inr (6, [.ref qT, .int qF])), (qT, .inl (cI, 16, .inl jJ)), (a_lo, .inl (cJ, 1, .inr (.inl lo)))]
noncomputable abbrev rm_L_row : Room := { frames := 7, cells := 1, slots := 6, locals := 121 }
noncomputable def wp_L_row (post : Int32 → (Nat → Int64) → Prop) (p0 qF : Int32) (jJ : Nat → Int32) (lo : Nat → Int64) : Prop := wp_X9_row (fun r => ∀ f : Nat → Int64, f = vp_updL lo (0 : Int32).toNatClampNeg r.toInt64 → post 0 f) (post 1 lo) p0 qF jJ
set_option maxHeartbeats 4000000 in
set_option maxRecDepth 100000 in
theorem c_L_row (l : Launch) (hl9 : l.stackTraces = false) (dC : Nat → ClassId) (dI : Nat → Nat → Nat) (cI cC cZ cB cJ : ClassId) (a_x xG xD wY wJ wQ xI xK xJ tW qT a_lo sz : Nat) (p0 qF : Int32) (jJ : Nat → Int32) (lo : Nat → Int64) (post : Int32 → (Nat → Int64) → Prop) (hw : wp_L_row post p0 qF jJ lo) : Met l yL_row (Cond.codeWith yL_row cL_row 4 (some .int) [(0, 9, 12, 13)] :: W0) rm_L_row (va_Pc [.ref a_x, .int p0, .ref a_lo] (gPre (dC, dI) (tyl cI cC cZ cB cJ) (wd_L_row cI cC cZ cB cJ a_x xG xD wY wJ wQ xI xK xJ tW qT a_lo qF jJ lo) sz)) (va_Qi (fun (r : Int32) (u : Nat → Int64) => post r u) (fun u t => gB (dC, dI) (tyl cI cC cZ cB cJ) (va_A (wd_L_row cI cC cZ cB cJ a_x xG xD wY wJ wQ xI xK xJ tW qT a_lo qF jJ lo) sz) (wd_L_row cI cC cZ cB cJ a_x xG xD wY wJ wQ xI xK xJ tW qT a_lo qF jJ u) t) (va_A (wd_L_row cI cC cZ cB cJ a_x xG xD wY wJ wQ xI xK xJ tW qT a_lo qF jJ lo) sz)) 1 6 (va_A (wd_L_row cI cC cZ cB cJ a_x xG xD wY wJ wQ xI xK xJ tW qT a_lo qF jJ lo) sz) := by
  refine va_MetW (cc := cL_row) (maxL := 4) (ret := some .int) (hh := [(0, 9, 12, 13)]) (by decide) rfl ?_
  intro p e s m args below meth c s₁ B hml hv
  obtain ⟨rfl, hsz, ⟨hP, hK, hD0⟩, hN, hZ⟩ := hv
  subst hsz
  have hts0 := atoms_spec (ws := (Cond.codeWith yL_row cL_row 4 (some .int) [(0, 9, 12, 13)] :: W0)) B.pre
  have hts : ∀ w ∈ W0, w.before _ s = true := fun w hw => hts0 w (List.mem_cons_of_mem _ hw)
  have htab := vx_table (x := yL_row) B (hts0 _ List.mem_cons_self)
  have hx := B.exec
  have hb := B.bytes
  have hr := B.returns
  have hlocks := B.notSynchronized
  have hown : s.vm.findClass RL = some m.cls := findClass_of_methodNamed B.named
  have hD := hD0.self (sz := s.heap.size)
  have hA : ∀ q, s.heap.size ≤ q → (va_A (wd_L_row cI cC cZ cB cJ a_x xG xD wY wJ wQ xI xK xJ tW qT a_lo qF jJ lo) s.heap.size) q := fun q h => Or.inr h
  have C0 : gc cL_row (some .int) 4 RL (dC, dI) (tyl cI cC cZ cB cJ) (va_A (wd_L_row cI cC cZ cB cJ a_x xG xD wY wJ wQ xI xK xJ tW qT a_lo qF jJ lo) s.heap.size) p s m ([.ref a_x, .int p0, .ref a_lo] : List Value).toArray meth c := ⟨hx, hb, hr, hml, hown, hts, hlocks, hA, hK, hN, hZ⟩
  have hS : va_S (va_A (wd_L_row cI cC cZ cB cJ a_x xG xD wY wJ wQ xI xK xJ tW qT a_lo qF jJ lo) s.heap.size) s.heap s.heap [] := va_S.rf
  have hl := lv_entry [.ref a_x, .int p0, .ref a_lo] (n := 4) (Nat.le_of_ble_eq_true rfl)
  rw [lg_entry_eq]
  generalize (lg_sl [.ref a_x, .int p0, .ref a_lo] ++ List.replicate (4 - (lg_sl [.ref a_x, .int p0, .ref a_lo]).length) Slot.unset).toArray = ls at hl ⊢
  have hl : lv_has ls 4 [(0, .ref a_x), (1, .int p0), (2, .ref a_lo)] := hl
  have hp := hw
  unfold wp_L_row at hp
  refine lv_aload_n hx hb eL_row_0.1 rfl (lv_at hl 2 rfl) ?_
  refine lv_iconst (v := 0) hx hb eL_row_0.2.1 ic_0 ?_
  refine lv_aload_n hx hb eL_row_0.2.2.1 rfl (lv_at hl 0 rfl) ?_
  refine lv_iload_n hx hb eL_row_0.2.2.2.1 rfl (lv_at hl 1 rfl) ?_
  refine g_calliX (wc := (wd_X9_row cI cC cZ cB cJ a_x xG xD wY wJ wQ xI xK xJ tW qT qF jJ)) hP hD hS hA [0, 1, 2] [3] rfl rfl rfl rfl (g_runVX (As := [.int p0]) (rest := [.int 0, .ref a_lo]) C0 hP hD hS [0, 1, 2] rfl rfl 0 9 rfl rfl (c_X9_row l hl9 dC dI cI cC cZ cB cJ a_x xG xD wY wJ wQ xI xK xJ tW qT s.heap.size p0 qF jJ _ _ hp) q_1072 q_1073 q_1074 q_1075 q_256 h_X9_row rfl rfl ⟨Nat.le_of_ble_eq_true rfl, Nat.le_of_ble_eq_true rfl⟩ rfl rfl hl.1 rfl (lv_room (Nat.le_of_ble_eq_true rfl)) eL_row_0.2.2.2.2.1 ⟨Nat.le_of_ble_eq_true rfl, Nat.le_of_ble_eq_true rfl⟩) (fun ce q9 H locs hp hP hD hS hq hv hcl => ?_) (fun r u H locs hp hP hD hS => ?_)
  · have hPD := PDs (ws' := (wd_L_row cI cC cZ cB cJ a_x xG xD wY wJ wQ xI xK xJ tW qT a_lo qF jJ lo)) hP hD [1, 2, 3, 0] (by decide) rfl
    have hP := hPD.1
    have hD := hPD.2
    refine gk_catch (own := RL) (name := NSE) (E := NSE) hown ⟨0, 9, 12, 13⟩ htab (by decide) (by decide) (hts _ q_1067) (va_Nw.use rfl (hN _ n_castNSE)) hq hv hcl ?_
    refine lv_astore_n (lv' := [(3, .ref q9), (0, .ref a_x), (1, .int p0), (2, .ref a_lo)]) hx hb eL_row_0.2.2.2.2.2.2.2.2.1 rfl hl (by decide) rfl (fun ls hl => ?_)
    refine lv_iconst (v := 1) hx hb eL_row_0.2.2.2.2.2.2.2.2.2.1 ic_1 ?_
    refine W.widen (k := 1) (n := 6) (Nat.le_refl _) (Nat.le_refl _) ?_
    exact W.iret (v := 1) hx hb hr (fun t ht hW => ⟨⟨1, lo, rfl, hp, by rw [ht]; exact hP, va_K.moved hW.alike hK, hD⟩, hS.F ht⟩) hS.2.2 eL_row_0.2.2.2.2.2.2.2.2.2.2.1
  · have hPD := PDs (ws' := (wd_L_row cI cC cZ cB cJ a_x xG xD wY wJ wQ xI xK xJ tW qT a_lo qF jJ lo)) hP hD [1, 2, 3, 0] (by decide) rfl
    have hP := hPD.1
    have hD := hPD.2
    refine lv_i2l hx hb eL_row_0.2.2.2.2.2.1 rfl ?_
    obtain ⟨f, ef⟩ : ∃ f : Nat → Int64, f = vp_updL lo (0 : Int32).toNatClampNeg r.toInt64 := ⟨_, rfl⟩
    have hp := hp f ef
    refine va_last hx hb hK hP hD hS 3 4 rfl rfl (g_in rfl) eL_row_0.2.2.2.2.2.2.1 (fun H locs hP hD hS => ?_)
    have hP : va_P (dC, dI) classes (wd_L_row cI cC cZ cB cJ a_x xG xD wY wJ wQ xI xK xJ tW qT a_lo qF jJ f) H := by rw [ef]; exact hP
    have hD : va_D (va_A (wd_L_row cI cC cZ cB cJ a_x xG xD wY wJ wQ xI xK xJ tW qT a_lo qF jJ lo) s.heap.size) (wd_L_row cI cC cZ cB cJ a_x xG xD wY wJ wQ xI xK xJ tW qT a_lo qF jJ f) := by rw [ef]; exact hD
    refine lv_goto (tgt := 15) hx hb eL_row_0.2.2.2.2.2.2.2.1 (by decide) ?_
    refine lv_iconst (v := 0) hx hb eL_row_0.2.2.2.2.2.2.2.2.2.2.2.1 ic_0 ?_
    refine W.widen (k := 1) (n := 6) (Nat.le_refl _) (Nat.le_refl _) ?_
    exact W.iret (v := 0) hx hb hr (fun t ht hW => ⟨⟨0, f, rfl, hp, by rw [ht]; exact hP, va_K.moved hW.alike hK, hD⟩, hS.F ht⟩) hS.2.2 eL_row_0.2.2.2.2.2.2.2.2.2.2.2.2
