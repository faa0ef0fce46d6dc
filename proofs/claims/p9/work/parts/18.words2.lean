theorem q_1063 : Cond.code yX9_fruit cX9_fruit 3 (some .int) ∈ W0 := W0_in (tb_5 (List.mem_of_getElem? (i := 182) rfl)) rfl
theorem q_1064 : Cond.methodLink RL 7 yX9_fruit ∈ W0 := W0_in (tb_5 (List.mem_of_getElem? (i := 179) rfl)) rfl
theorem q_1065 : Cond.instanceMethod yX9_fruit ∈ W0 := W0_in (tb_5 (List.mem_of_getElem? (i := 180) rfl)) rfl
theorem q_1066 : Cond.selects RX9 yX9_fruit yX9_fruit ∈ W0 := W0_in (tb_5 (List.mem_of_getElem? (i := 181) rfl)) rfl
theorem q_1067 : Cond.classLink RL 13 "java/util/NoSuchElementException" ∈ W0 := W0_in (tb_5 (List.mem_of_getElem? (i := 178) rfl)) rfl
theorem q_1068 : Cond.code yX9_standing cX9_standing 3 (some .int) ∈ W0 := W0_in (tb_6 (List.mem_of_getElem? (i := 14) rfl)) rfl
theorem q_1069 : Cond.methodLink RL 15 yX9_standing ∈ W0 := W0_in (tb_6 (List.mem_of_getElem? (i := 11) rfl)) rfl
theorem q_1070 : Cond.instanceMethod yX9_standing ∈ W0 := W0_in (tb_6 (List.mem_of_getElem? (i := 12) rfl)) rfl
theorem q_1071 : Cond.selects RX9 yX9_standing yX9_standing ∈ W0 := W0_in (tb_6 (List.mem_of_getElem? (i := 13) rfl)) rfl
theorem q_1072 : Cond.code yX9_row cX9_row 2 (some .int) ∈ W0 := W0_in (tb_6 (List.mem_of_getElem? (i := 22) rfl)) rfl
theorem q_1073 : Cond.methodLink RL 18 yX9_row ∈ W0 := W0_in (tb_6 (List.mem_of_getElem? (i := 19) rfl)) rfl
theorem q_1074 : Cond.instanceMethod yX9_row ∈ W0 := W0_in (tb_6 (List.mem_of_getElem? (i := 20) rfl)) rfl
theorem q_1075 : Cond.selects RX9 yX9_row yX9_row ∈ W0 := W0_in (tb_6 (List.mem_of_getElem? (i := 21) rfl)) rfl
theorem q_1076 : Cond.code yX9_sign cX9_sign 2 (some .int) ∈ W0 := W0_in (tb_2 (List.mem_of_getElem? (i := 125) rfl)) rfl
theorem q_1077 : Cond.instanceMethod yX9_sign ∈ W0 := W0_in (tb_2 (List.mem_of_getElem? (i := 123) rfl)) rfl
theorem q_1078 : Cond.selects RX9 yX9_sign yX9_sign ∈ W0 := W0_in (tb_2 (List.mem_of_getElem? (i := 124) rfl)) rfl
theorem q_1079 : Cond.methodLink RL 26 yX9_sign ∈ W0 := W0_in (tb_2 (List.mem_of_getElem? (i := 122) rfl)) rfl
theorem q_1080 : Cond.code yX10_sign cX10_sign 3 (some .int) ∈ W0 := W0_in (tb_6 (List.mem_of_getElem? (i := 186) rfl)) rfl
theorem q_1081 : Cond.instanceMethod yX10_sign ∈ W0 := W0_in (tb_6 (List.mem_of_getElem? (i := 184) rfl)) rfl
theorem q_1082 : Cond.selects RX10 yX10_sign yX10_sign ∈ W0 := W0_in (tb_6 (List.mem_of_getElem? (i := 185) rfl)) rfl
theorem q_1083 : Cond.methodLink RL 29 yX10_sign ∈ W0 := W0_in (tb_6 (List.mem_of_getElem? (i := 183) rfl)) rfl
theorem q_1084 : Cond.code yX9_end cX9_end 2 (some .boolean) ∈ W0 := W0_in (tb_2 (List.mem_of_getElem? (i := 133) rfl)) rfl
theorem q_1085 : Cond.instanceMethod yX9_end ∈ W0 := W0_in (tb_2 (List.mem_of_getElem? (i := 131) rfl)) rfl
theorem q_1086 : Cond.selects RX9 yX9_end yX9_end ∈ W0 := W0_in (tb_2 (List.mem_of_getElem? (i := 132) rfl)) rfl
theorem q_1087 : Cond.methodLink RL 30 yX9_end ∈ W0 := W0_in (tb_2 (List.mem_of_getElem? (i := 130) rfl)) rfl
theorem q_1088 : Cond.code yX10_end cX10_end 2 (some .boolean) ∈ W0 := W0_in (tb_6 (List.mem_of_getElem? (i := 190) rfl)) rfl
theorem q_1089 : Cond.instanceMethod yX10_end ∈ W0 := W0_in (tb_6 (List.mem_of_getElem? (i := 188) rfl)) rfl
theorem q_1090 : Cond.selects RX10 yX10_end yX10_end ∈ W0 := W0_in (tb_6 (List.mem_of_getElem? (i := 189) rfl)) rfl
theorem q_1091 : Cond.methodLink RL 34 yX10_end ∈ W0 := W0_in (tb_6 (List.mem_of_getElem? (i := 187) rfl)) rfl
theorem q_1092 : Cond.code yX9_orchard cX9_orchard 4 (some .int) ∈ W0 := W0_in (tb_2 (List.mem_of_getElem? (i := 141) rfl)) rfl
theorem q_1093 : Cond.instanceMethod yX9_orchard ∈ W0 := W0_in (tb_2 (List.mem_of_getElem? (i := 139) rfl)) rfl
theorem q_1094 : Cond.selects RX9 yX9_orchard yX9_orchard ∈ W0 := W0_in (tb_2 (List.mem_of_getElem? (i := 140) rfl)) rfl
theorem q_1095 : Cond.methodLink RL 35 yX9_orchard ∈ W0 := W0_in (tb_2 (List.mem_of_getElem? (i := 138) rfl)) rfl
theorem q_1096 : Cond.code yX10_orchard cX10_orchard 3 (some .int) ∈ W0 := W0_in (tb_6 (List.mem_of_getElem? (i := 197) rfl)) rfl
theorem q_1097 : Cond.instanceMethod yX10_orchard ∈ W0 := W0_in (tb_6 (List.mem_of_getElem? (i := 195) rfl)) rfl
theorem q_1098 : Cond.selects RX10 yX10_orchard yX10_orchard ∈ W0 := W0_in (tb_6 (List.mem_of_getElem? (i := 196) rfl)) rfl
theorem q_1099 : Cond.methodLink RL 39 yX10_orchard ∈ W0 := W0_in (tb_6 (List.mem_of_getElem? (i := 194) rfl)) rfl
theorem q_1100 : Cond.code yX9_rule cX9_rule 2 (some .int) ∈ W0 := W0_in (tb_2 (List.mem_of_getElem? (i := 213) rfl)) rfl
theorem q_1101 : Cond.instanceMethod yX9_rule ∈ W0 := W0_in (tb_2 (List.mem_of_getElem? (i := 211) rfl)) rfl
theorem q_1102 : Cond.selects RX9 yX9_rule yX9_rule ∈ W0 := W0_in (tb_2 (List.mem_of_getElem? (i := 212) rfl)) rfl
theorem q_1103 : Cond.methodLink RL 40 yX9_rule ∈ W0 := W0_in (tb_2 (List.mem_of_getElem? (i := 210) rfl)) rfl
theorem q_1104 : Cond.code yX10_rule cX10_rule 3 (some .int) ∈ W0 := W0_in (tb_6 (List.mem_of_getElem? (i := 233) rfl)) rfl
theorem q_1105 : Cond.instanceMethod yX10_rule ∈ W0 := W0_in (tb_6 (List.mem_of_getElem? (i := 231) rfl)) rfl
theorem q_1106 : Cond.selects RX10 yX10_rule yX10_rule ∈ W0 := W0_in (tb_6 (List.mem_of_getElem? (i := 232) rfl)) rfl
theorem q_1107 : Cond.methodLink RL 43 yX10_rule ∈ W0 := W0_in (tb_6 (List.mem_of_getElem? (i := 230) rfl)) rfl
theorem q_1108 : Cond.codeWith yL_fruit cL_fruit 5 (some .int) [(0, 10, 13, 13)] ∈ W0 := W0_in (tb_5 (List.mem_of_getElem? (i := 177) rfl)) rfl
theorem q_1109 : Cond.methodLink RL 44 yL_fruit ∈ W0 := W0_in (tb_5 (List.mem_of_getElem? (i := 175) rfl)) rfl
theorem q_1110 : Cond.static yL_fruit ∈ W0 := W0_in (tb_5 (List.mem_of_getElem? (i := 176) rfl)) rfl
theorem q_1111 : Cond.initialized RL ∈ W0 := W0_in (tb_1 (List.mem_of_getElem? (i := 0) rfl)) rfl
theorem q_1112 : Cond.code yX10_fruit cX10_fruit 3 (some .int) ∈ W0 := W0_in (tb_7 (List.mem_of_getElem? (i := 27) rfl)) rfl
theorem q_1113 : Cond.instanceMethod yX10_fruit ∈ W0 := W0_in (tb_7 (List.mem_of_getElem? (i := 25) rfl)) rfl
theorem q_1114 : Cond.selects RX10 yX10_fruit yX10_fruit ∈ W0 := W0_in (tb_7 (List.mem_of_getElem? (i := 26) rfl)) rfl
theorem q_1115 : Cond.methodLink RL 49 yX10_fruit ∈ W0 := W0_in (tb_7 (List.mem_of_getElem? (i := 24) rfl)) rfl
theorem q_1116 : Cond.codeWith yL_standing cL_standing 5 (some .int) [(0, 10, 13, 13)] ∈ W0 := W0_in (tb_6 (List.mem_of_getElem? (i := 10) rfl)) rfl
theorem q_1117 : Cond.methodLink RL 50 yL_standing ∈ W0 := W0_in (tb_6 (List.mem_of_getElem? (i := 8) rfl)) rfl
theorem q_1118 : Cond.static yL_standing ∈ W0 := W0_in (tb_6 (List.mem_of_getElem? (i := 9) rfl)) rfl
theorem q_1119 : Cond.code yX10_standing cX10_standing 3 (some .int) ∈ W0 := W0_in (tb_7 (List.mem_of_getElem? (i := 54) rfl)) rfl
theorem q_1120 : Cond.instanceMethod yX10_standing ∈ W0 := W0_in (tb_7 (List.mem_of_getElem? (i := 52) rfl)) rfl
theorem q_1121 : Cond.selects RX10 yX10_standing yX10_standing ∈ W0 := W0_in (tb_7 (List.mem_of_getElem? (i := 53) rfl)) rfl
theorem q_1122 : Cond.methodLink RL 52 yX10_standing ∈ W0 := W0_in (tb_7 (List.mem_of_getElem? (i := 51) rfl)) rfl
theorem q_1123 : Cond.code yX9_set cX9_set 4 (some .int) ∈ W0 := W0_in (tb_3 (List.mem_of_getElem? (i := 92) rfl)) rfl
theorem q_1124 : Cond.instanceMethod yX9_set ∈ W0 := W0_in (tb_3 (List.mem_of_getElem? (i := 90) rfl)) rfl
theorem q_1125 : Cond.selects RX9 yX9_set yX9_set ∈ W0 := W0_in (tb_3 (List.mem_of_getElem? (i := 91) rfl)) rfl
theorem q_1126 : Cond.methodLink RL 53 yX9_set ∈ W0 := W0_in (tb_3 (List.mem_of_getElem? (i := 89) rfl)) rfl
theorem q_1127 : Cond.code yX10_set cX10_set 4 (some .int) ∈ W0 := W0_in (tb_7 (List.mem_of_getElem? (i := 66) rfl)) rfl
theorem q_1128 : Cond.instanceMethod yX10_set ∈ W0 := W0_in (tb_7 (List.mem_of_getElem? (i := 64) rfl)) rfl
theorem q_1129 : Cond.selects RX10 yX10_set yX10_set ∈ W0 := W0_in (tb_7 (List.mem_of_getElem? (i := 65) rfl)) rfl
theorem q_1130 : Cond.methodLink RL 56 yX10_set ∈ W0 := W0_in (tb_7 (List.mem_of_getElem? (i := 63) rfl)) rfl
theorem q_1131 : Cond.code yX9_sheet cX9_sheet 5 (some .int) ∈ W0 := W0_in (tb_3 (List.mem_of_getElem? (i := 100) rfl)) rfl
theorem q_1132 : Cond.instanceMethod yX9_sheet ∈ W0 := W0_in (tb_3 (List.mem_of_getElem? (i := 98) rfl)) rfl
theorem q_1133 : Cond.selects RX9 yX9_sheet yX9_sheet ∈ W0 := W0_in (tb_3 (List.mem_of_getElem? (i := 99) rfl)) rfl
theorem q_1134 : Cond.methodLink RL 57 yX9_sheet ∈ W0 := W0_in (tb_3 (List.mem_of_getElem? (i := 97) rfl)) rfl
theorem q_1135 : Cond.code yX10_sheet cX10_sheet 9 (some .int) ∈ W0 := W0_in (tb_7 (List.mem_of_getElem? (i := 70) rfl)) rfl
theorem q_1136 : Cond.instanceMethod yX10_sheet ∈ W0 := W0_in (tb_7 (List.mem_of_getElem? (i := 68) rfl)) rfl
theorem q_1137 : Cond.selects RX10 yX10_sheet yX10_sheet ∈ W0 := W0_in (tb_7 (List.mem_of_getElem? (i := 69) rfl)) rfl
theorem q_1138 : Cond.methodLink RL 61 yX10_sheet ∈ W0 := W0_in (tb_7 (List.mem_of_getElem? (i := 67) rfl)) rfl
theorem q_1139 : Cond.code yX9_move cX9_move 2 (some .int) ∈ W0 := W0_in (tb_3 (List.mem_of_getElem? (i := 110) rfl)) rfl
theorem q_1140 : Cond.instanceMethod yX9_move ∈ W0 := W0_in (tb_3 (List.mem_of_getElem? (i := 108) rfl)) rfl
theorem q_1141 : Cond.selects RX9 yX9_move yX9_move ∈ W0 := W0_in (tb_3 (List.mem_of_getElem? (i := 109) rfl)) rfl
theorem q_1142 : Cond.methodLink RL 62 yX9_move ∈ W0 := W0_in (tb_3 (List.mem_of_getElem? (i := 107) rfl)) rfl
theorem q_1143 : Cond.code yX10_move cX10_move 3 (some .int) ∈ W0 := W0_in (tb_7 (List.mem_of_getElem? (i := 75) rfl)) rfl
theorem q_1144 : Cond.instanceMethod yX10_move ∈ W0 := W0_in (tb_7 (List.mem_of_getElem? (i := 73) rfl)) rfl
theorem q_1145 : Cond.selects RX10 yX10_move yX10_move ∈ W0 := W0_in (tb_7 (List.mem_of_getElem? (i := 74) rfl)) rfl
theorem q_1146 : Cond.methodLink RL 65 yX10_move ∈ W0 := W0_in (tb_7 (List.mem_of_getElem? (i := 72) rfl)) rfl
theorem q_1147 : Cond.code yX9_foot cX9_foot 2 (some .int) ∈ W0 := W0_in (tb_3 (List.mem_of_getElem? (i := 159) rfl)) rfl
theorem q_1148 : Cond.instanceMethod yX9_foot ∈ W0 := W0_in (tb_3 (List.mem_of_getElem? (i := 157) rfl)) rfl
theorem q_1149 : Cond.selects RX9 yX9_foot yX9_foot ∈ W0 := W0_in (tb_3 (List.mem_of_getElem? (i := 158) rfl)) rfl
theorem q_1150 : Cond.methodLink RL 66 yX9_foot ∈ W0 := W0_in (tb_3 (List.mem_of_getElem? (i := 156) rfl)) rfl
theorem q_1151 : Cond.code yX10_foot cX10_foot 3 (some .int) ∈ W0 := W0_in (tb_7 (List.mem_of_getElem? (i := 106) rfl)) rfl
theorem q_1152 : Cond.instanceMethod yX10_foot ∈ W0 := W0_in (tb_7 (List.mem_of_getElem? (i := 104) rfl)) rfl
theorem q_1153 : Cond.selects RX10 yX10_foot yX10_foot ∈ W0 := W0_in (tb_7 (List.mem_of_getElem? (i := 105) rfl)) rfl
theorem q_1154 : Cond.methodLink RL 69 yX10_foot ∈ W0 := W0_in (tb_7 (List.mem_of_getElem? (i := 103) rfl)) rfl
theorem q_1155 : Cond.code yX9_pick cX9_pick 3 (some .int) ∈ W0 := W0_in (tb_3 (List.mem_of_getElem? (i := 170) rfl)) rfl
theorem q_1156 : Cond.instanceMethod yX9_pick ∈ W0 := W0_in (tb_3 (List.mem_of_getElem? (i := 168) rfl)) rfl
theorem q_1157 : Cond.selects RX9 yX9_pick yX9_pick ∈ W0 := W0_in (tb_3 (List.mem_of_getElem? (i := 169) rfl)) rfl
theorem q_1158 : Cond.methodLink RL 70 yX9_pick ∈ W0 := W0_in (tb_3 (List.mem_of_getElem? (i := 167) rfl)) rfl
theorem q_1159 : Cond.code yX10_pick cX10_pick 4 (some .int) ∈ W0 := W0_in (tb_7 (List.mem_of_getElem? (i := 110) rfl)) rfl
theorem q_1160 : Cond.instanceMethod yX10_pick ∈ W0 := W0_in (tb_7 (List.mem_of_getElem? (i := 108) rfl)) rfl
theorem q_1161 : Cond.selects RX10 yX10_pick yX10_pick ∈ W0 := W0_in (tb_7 (List.mem_of_getElem? (i := 109) rfl)) rfl
theorem q_1162 : Cond.methodLink RL 73 yX10_pick ∈ W0 := W0_in (tb_7 (List.mem_of_getElem? (i := 107) rfl)) rfl
theorem q_1163 : Cond.code yX9_down cX9_down 1 (some .int) ∈ W0 := W0_in (tb_4 (List.mem_of_getElem? (i := 3) rfl)) rfl
theorem q_1164 : Cond.instanceMethod yX9_down ∈ W0 := W0_in (tb_4 (List.mem_of_getElem? (i := 1) rfl)) rfl
theorem q_1165 : Cond.selects RX9 yX9_down yX9_down ∈ W0 := W0_in (tb_4 (List.mem_of_getElem? (i := 2) rfl)) rfl
theorem q_1166 : Cond.methodLink RL 74 yX9_down ∈ W0 := W0_in (tb_4 (List.mem_of_getElem? (i := 0) rfl)) rfl
theorem q_1167 : Cond.code yX10_down cX10_down 1 (some .int) ∈ W0 := W0_in (tb_7 (List.mem_of_getElem? (i := 135) rfl)) rfl
theorem q_1168 : Cond.instanceMethod yX10_down ∈ W0 := W0_in (tb_7 (List.mem_of_getElem? (i := 133) rfl)) rfl
theorem q_1169 : Cond.selects RX10 yX10_down yX10_down ∈ W0 := W0_in (tb_7 (List.mem_of_getElem? (i := 134) rfl)) rfl
theorem q_1170 : Cond.methodLink RL 77 yX10_down ∈ W0 := W0_in (tb_7 (List.mem_of_getElem? (i := 132) rfl)) rfl
theorem q_1171 : Cond.code yX9_shake cX9_shake 1 (some .int) ∈ W0 := W0_in (tb_4 (List.mem_of_getElem? (i := 11) rfl)) rfl
theorem q_1172 : Cond.instanceMethod yX9_shake ∈ W0 := W0_in (tb_4 (List.mem_of_getElem? (i := 9) rfl)) rfl
theorem q_1173 : Cond.selects RX9 yX9_shake yX9_shake ∈ W0 := W0_in (tb_4 (List.mem_of_getElem? (i := 10) rfl)) rfl
theorem q_1174 : Cond.methodLink RL 78 yX9_shake ∈ W0 := W0_in (tb_4 (List.mem_of_getElem? (i := 8) rfl)) rfl
theorem q_1175 : Cond.code yX10_shake cX10_shake 1 (some .int) ∈ W0 := W0_in (tb_7 (List.mem_of_getElem? (i := 147) rfl)) rfl
theorem q_1176 : Cond.instanceMethod yX10_shake ∈ W0 := W0_in (tb_7 (List.mem_of_getElem? (i := 145) rfl)) rfl
theorem q_1177 : Cond.selects RX10 yX10_shake yX10_shake ∈ W0 := W0_in (tb_7 (List.mem_of_getElem? (i := 146) rfl)) rfl
theorem q_1178 : Cond.methodLink RL 81 yX10_shake ∈ W0 := W0_in (tb_7 (List.mem_of_getElem? (i := 144) rfl)) rfl
theorem q_1179 : Cond.code yX9_sleep cX9_sleep 1 (some .int) ∈ W0 := W0_in (tb_4 (List.mem_of_getElem? (i := 32) rfl)) rfl
theorem q_1180 : Cond.instanceMethod yX9_sleep ∈ W0 := W0_in (tb_4 (List.mem_of_getElem? (i := 30) rfl)) rfl
theorem q_1181 : Cond.selects RX9 yX9_sleep yX9_sleep ∈ W0 := W0_in (tb_4 (List.mem_of_getElem? (i := 31) rfl)) rfl
theorem q_1182 : Cond.methodLink RL 82 yX9_sleep ∈ W0 := W0_in (tb_4 (List.mem_of_getElem? (i := 29) rfl)) rfl
theorem q_1183 : Cond.code yX10_sleep cX10_sleep 1 (some .int) ∈ W0 := W0_in (tb_7 (List.mem_of_getElem? (i := 167) rfl)) rfl
theorem q_1184 : Cond.instanceMethod yX10_sleep ∈ W0 := W0_in (tb_7 (List.mem_of_getElem? (i := 165) rfl)) rfl
theorem q_1185 : Cond.selects RX10 yX10_sleep yX10_sleep ∈ W0 := W0_in (tb_7 (List.mem_of_getElem? (i := 166) rfl)) rfl
theorem q_1186 : Cond.methodLink RL 85 yX10_sleep ∈ W0 := W0_in (tb_7 (List.mem_of_getElem? (i := 164) rfl)) rfl
theorem q_1187 : Cond.code yX9_day cX9_day 4 (some .int) ∈ W0 := W0_in (tb_4 (List.mem_of_getElem? (i := 40) rfl)) rfl
theorem q_1188 : Cond.instanceMethod yX9_day ∈ W0 := W0_in (tb_4 (List.mem_of_getElem? (i := 38) rfl)) rfl
theorem q_1189 : Cond.selects RX9 yX9_day yX9_day ∈ W0 := W0_in (tb_4 (List.mem_of_getElem? (i := 39) rfl)) rfl
theorem q_1190 : Cond.methodLink RL 86 yX9_day ∈ W0 := W0_in (tb_4 (List.mem_of_getElem? (i := 37) rfl)) rfl
theorem q_1191 : Cond.code yX10_day cX10_day 4 (some .int) ∈ W0 := W0_in (tb_7 (List.mem_of_getElem? (i := 175) rfl)) rfl
theorem q_1192 : Cond.instanceMethod yX10_day ∈ W0 := W0_in (tb_7 (List.mem_of_getElem? (i := 173) rfl)) rfl
theorem q_1193 : Cond.selects RX10 yX10_day yX10_day ∈ W0 := W0_in (tb_7 (List.mem_of_getElem? (i := 174) rfl)) rfl
theorem q_1194 : Cond.methodLink RL 89 yX10_day ∈ W0 := W0_in (tb_7 (List.mem_of_getElem? (i := 172) rfl)) rfl
theorem q_1195 : Cond.code yX9_undo cX9_undo 1 (some .int) ∈ W0 := W0_in (tb_4 (List.mem_of_getElem? (i := 80) rfl)) rfl
theorem q_1196 : Cond.instanceMethod yX9_undo ∈ W0 := W0_in (tb_4 (List.mem_of_getElem? (i := 78) rfl)) rfl
theorem q_1197 : Cond.selects RX9 yX9_undo yX9_undo ∈ W0 := W0_in (tb_4 (List.mem_of_getElem? (i := 79) rfl)) rfl
theorem q_1198 : Cond.methodLink RL 90 yX9_undo ∈ W0 := W0_in (tb_4 (List.mem_of_getElem? (i := 77) rfl)) rfl
theorem q_1199 : Cond.code yX10_undo cX10_undo 2 (some .int) ∈ W0 := W0_in (tb_7 (List.mem_of_getElem? (i := 191) rfl)) rfl
theorem q_1200 : Cond.instanceMethod yX10_undo ∈ W0 := W0_in (tb_7 (List.mem_of_getElem? (i := 189) rfl)) rfl
theorem q_1201 : Cond.selects RX10 yX10_undo yX10_undo ∈ W0 := W0_in (tb_7 (List.mem_of_getElem? (i := 190) rfl)) rfl
theorem q_1202 : Cond.methodLink RL 93 yX10_undo ∈ W0 := W0_in (tb_7 (List.mem_of_getElem? (i := 188) rfl)) rfl
theorem q_1203 : Cond.code yX9_reached cX9_reached 2 (some .int) ∈ W0 := W0_in (tb_4 (List.mem_of_getElem? (i := 92) rfl)) rfl
theorem q_1204 : Cond.instanceMethod yX9_reached ∈ W0 := W0_in (tb_4 (List.mem_of_getElem? (i := 90) rfl)) rfl
theorem q_1205 : Cond.selects RX9 yX9_reached yX9_reached ∈ W0 := W0_in (tb_4 (List.mem_of_getElem? (i := 91) rfl)) rfl
theorem q_1206 : Cond.methodLink RL 94 yX9_reached ∈ W0 := W0_in (tb_4 (List.mem_of_getElem? (i := 89) rfl)) rfl
theorem q_1207 : Cond.code yX10_reached cX10_reached 2 (some .int) ∈ W0 := W0_in (tb_7 (List.mem_of_getElem? (i := 195) rfl)) rfl
theorem q_1208 : Cond.instanceMethod yX10_reached ∈ W0 := W0_in (tb_7 (List.mem_of_getElem? (i := 193) rfl)) rfl
theorem q_1209 : Cond.selects RX10 yX10_reached yX10_reached ∈ W0 := W0_in (tb_7 (List.mem_of_getElem? (i := 194) rfl)) rfl
theorem q_1210 : Cond.methodLink RL 97 yX10_reached ∈ W0 := W0_in (tb_7 (List.mem_of_getElem? (i := 192) rfl)) rfl
theorem q_1211 : Cond.code yX9_from cX9_from 6 (some .int) ∈ W0 := W0_in (tb_4 (List.mem_of_getElem? (i := 99) rfl)) rfl
theorem q_1212 : Cond.instanceMethod yX9_from ∈ W0 := W0_in (tb_4 (List.mem_of_getElem? (i := 97) rfl)) rfl
theorem q_1213 : Cond.selects RX9 yX9_from yX9_from ∈ W0 := W0_in (tb_4 (List.mem_of_getElem? (i := 98) rfl)) rfl
theorem q_1214 : Cond.methodLink RL 98 yX9_from ∈ W0 := W0_in (tb_4 (List.mem_of_getElem? (i := 96) rfl)) rfl
theorem q_1215 : Cond.code yX10_from cX10_from 5 (some .int) ∈ W0 := W0_in (tb_7 (List.mem_of_getElem? (i := 199) rfl)) rfl
theorem q_1216 : Cond.instanceMethod yX10_from ∈ W0 := W0_in (tb_7 (List.mem_of_getElem? (i := 197) rfl)) rfl
theorem q_1217 : Cond.selects RX10 yX10_from yX10_from ∈ W0 := W0_in (tb_7 (List.mem_of_getElem? (i := 198) rfl)) rfl
theorem q_1218 : Cond.methodLink RL 101 yX10_from ∈ W0 := W0_in (tb_7 (List.mem_of_getElem? (i := 196) rfl)) rfl
theorem q_1219 : Cond.code yX9_never cX9_never 3 (some .int) ∈ W0 := W0_in (tb_4 (List.mem_of_getElem? (i := 106) rfl)) rfl
theorem q_1220 : Cond.instanceMethod yX9_never ∈ W0 := W0_in (tb_4 (List.mem_of_getElem? (i := 104) rfl)) rfl
theorem q_1221 : Cond.selects RX9 yX9_never yX9_never ∈ W0 := W0_in (tb_4 (List.mem_of_getElem? (i := 105) rfl)) rfl
theorem q_1222 : Cond.methodLink RL 102 yX9_never ∈ W0 := W0_in (tb_4 (List.mem_of_getElem? (i := 103) rfl)) rfl
theorem q_1223 : Cond.code yX10_never cX10_never 3 (some .int) ∈ W0 := W0_in (tb_7 (List.mem_of_getElem? (i := 203) rfl)) rfl
theorem q_1224 : Cond.instanceMethod yX10_never ∈ W0 := W0_in (tb_7 (List.mem_of_getElem? (i := 201) rfl)) rfl
theorem q_1225 : Cond.selects RX10 yX10_never yX10_never ∈ W0 := W0_in (tb_7 (List.mem_of_getElem? (i := 202) rfl)) rfl
theorem q_1226 : Cond.methodLink RL 105 yX10_never ∈ W0 := W0_in (tb_7 (List.mem_of_getElem? (i := 200) rfl)) rfl
theorem q_1227 : Cond.code yX9_seconds cX9_seconds 4 (some .int) ∈ W0 := W0_in (tb_4 (List.mem_of_getElem? (i := 112) rfl)) rfl
theorem q_1228 : Cond.instanceMethod yX9_seconds ∈ W0 := W0_in (tb_4 (List.mem_of_getElem? (i := 110) rfl)) rfl
theorem q_1229 : Cond.selects RX9 yX9_seconds yX9_seconds ∈ W0 := W0_in (tb_4 (List.mem_of_getElem? (i := 111) rfl)) rfl
theorem q_1230 : Cond.methodLink RL 106 yX9_seconds ∈ W0 := W0_in (tb_4 (List.mem_of_getElem? (i := 109) rfl)) rfl
theorem q_1231 : Cond.code yX10_seconds cX10_seconds 4 (some .int) ∈ W0 := W0_in (tb_7 (List.mem_of_getElem? (i := 215) rfl)) rfl
theorem q_1232 : Cond.instanceMethod yX10_seconds ∈ W0 := W0_in (tb_7 (List.mem_of_getElem? (i := 213) rfl)) rfl
theorem q_1233 : Cond.selects RX10 yX10_seconds yX10_seconds ∈ W0 := W0_in (tb_7 (List.mem_of_getElem? (i := 214) rfl)) rfl
theorem q_1234 : Cond.methodLink RL 110 yX10_seconds ∈ W0 := W0_in (tb_7 (List.mem_of_getElem? (i := 212) rfl)) rfl
theorem q_1235 : Cond.code yX9_both cX9_both 5 (some .int) ∈ W0 := W0_in (tb_4 (List.mem_of_getElem? (i := 117) rfl)) rfl
theorem q_1236 : Cond.instanceMethod yX9_both ∈ W0 := W0_in (tb_4 (List.mem_of_getElem? (i := 115) rfl)) rfl
theorem q_1237 : Cond.selects RX9 yX9_both yX9_both ∈ W0 := W0_in (tb_4 (List.mem_of_getElem? (i := 116) rfl)) rfl
theorem q_1238 : Cond.methodLink RL 111 yX9_both ∈ W0 := W0_in (tb_4 (List.mem_of_getElem? (i := 114) rfl)) rfl
theorem q_1239 : Cond.code yX10_both cX10_both 3 (some .int) ∈ W0 := W0_in (tb_7 (List.mem_of_getElem? (i := 219) rfl)) rfl
theorem q_1240 : Cond.instanceMethod yX10_both ∈ W0 := W0_in (tb_7 (List.mem_of_getElem? (i := 217) rfl)) rfl
theorem q_1241 : Cond.selects RX10 yX10_both yX10_both ∈ W0 := W0_in (tb_7 (List.mem_of_getElem? (i := 218) rfl)) rfl
theorem q_1242 : Cond.methodLink RL 114 yX10_both ∈ W0 := W0_in (tb_7 (List.mem_of_getElem? (i := 216) rfl)) rfl
theorem q_1243 : Cond.code yX9_nearest cX9_nearest 6 (some .int) ∈ W0 := W0_in (tb_4 (List.mem_of_getElem? (i := 145) rfl)) rfl
theorem q_1244 : Cond.instanceMethod yX9_nearest ∈ W0 := W0_in (tb_4 (List.mem_of_getElem? (i := 143) rfl)) rfl
theorem q_1245 : Cond.selects RX9 yX9_nearest yX9_nearest ∈ W0 := W0_in (tb_4 (List.mem_of_getElem? (i := 144) rfl)) rfl
theorem q_1246 : Cond.methodLink RL 115 yX9_nearest ∈ W0 := W0_in (tb_4 (List.mem_of_getElem? (i := 142) rfl)) rfl
theorem q_1247 : Cond.code yX10_nearest cX10_nearest 4 (some .int) ∈ W0 := W0_in (tb_7 (List.mem_of_getElem? (i := 239) rfl)) rfl
theorem q_1248 : Cond.instanceMethod yX10_nearest ∈ W0 := W0_in (tb_7 (List.mem_of_getElem? (i := 237) rfl)) rfl
theorem q_1249 : Cond.selects RX10 yX10_nearest yX10_nearest ∈ W0 := W0_in (tb_7 (List.mem_of_getElem? (i := 238) rfl)) rfl
theorem q_1250 : Cond.methodLink RL 118 yX10_nearest ∈ W0 := W0_in (tb_7 (List.mem_of_getElem? (i := 236) rfl)) rfl
theorem q_1251 : Cond.code yX9_fewest cX9_fewest 1 (some .int) ∈ W0 := W0_in (tb_4 (List.mem_of_getElem? (i := 153) rfl)) rfl
theorem q_1252 : Cond.instanceMethod yX9_fewest ∈ W0 := W0_in (tb_4 (List.mem_of_getElem? (i := 151) rfl)) rfl
theorem q_1253 : Cond.selects RX9 yX9_fewest yX9_fewest ∈ W0 := W0_in (tb_4 (List.mem_of_getElem? (i := 152) rfl)) rfl
theorem q_1254 : Cond.methodLink RL 119 yX9_fewest ∈ W0 := W0_in (tb_4 (List.mem_of_getElem? (i := 150) rfl)) rfl
theorem q_1255 : Cond.code yX10_fewest cX10_fewest 1 (some .int) ∈ W0 := W0_in (tb_8 (List.mem_of_getElem? (i := 7) rfl)) rfl
theorem q_1256 : Cond.instanceMethod yX10_fewest ∈ W0 := W0_in (tb_8 (List.mem_of_getElem? (i := 5) rfl)) rfl
theorem q_1257 : Cond.selects RX10 yX10_fewest yX10_fewest ∈ W0 := W0_in (tb_8 (List.mem_of_getElem? (i := 6) rfl)) rfl
theorem q_1258 : Cond.methodLink RL 122 yX10_fewest ∈ W0 := W0_in (tb_8 (List.mem_of_getElem? (i := 4) rfl)) rfl
theorem q_1259 : Cond.code yX9_needed cX9_needed 6 (some .int) ∈ W0 := W0_in (tb_4 (List.mem_of_getElem? (i := 170) rfl)) rfl
theorem q_1260 : Cond.instanceMethod yX9_needed ∈ W0 := W0_in (tb_4 (List.mem_of_getElem? (i := 168) rfl)) rfl
theorem q_1261 : Cond.selects RX9 yX9_needed yX9_needed ∈ W0 := W0_in (tb_4 (List.mem_of_getElem? (i := 169) rfl)) rfl
theorem q_1262 : Cond.methodLink RL 123 yX9_needed ∈ W0 := W0_in (tb_4 (List.mem_of_getElem? (i := 167) rfl)) rfl
theorem q_1263 : Cond.code yX10_needed cX10_needed 6 (some .int) ∈ W0 := W0_in (tb_8 (List.mem_of_getElem? (i := 26) rfl)) rfl
theorem q_1264 : Cond.instanceMethod yX10_needed ∈ W0 := W0_in (tb_8 (List.mem_of_getElem? (i := 24) rfl)) rfl
theorem q_1265 : Cond.selects RX10 yX10_needed yX10_needed ∈ W0 := W0_in (tb_8 (List.mem_of_getElem? (i := 25) rfl)) rfl
theorem q_1266 : Cond.methodLink RL 126 yX10_needed ∈ W0 := W0_in (tb_8 (List.mem_of_getElem? (i := 23) rfl)) rfl
theorem q_1267 : Cond.code yX9_birds cX9_birds 6 (some .int) ∈ W0 := W0_in (tb_4 (List.mem_of_getElem? (i := 175) rfl)) rfl
theorem q_1268 : Cond.instanceMethod yX9_birds ∈ W0 := W0_in (tb_4 (List.mem_of_getElem? (i := 173) rfl)) rfl
theorem q_1269 : Cond.selects RX9 yX9_birds yX9_birds ∈ W0 := W0_in (tb_4 (List.mem_of_getElem? (i := 174) rfl)) rfl
theorem q_1270 : Cond.methodLink RL 127 yX9_birds ∈ W0 := W0_in (tb_4 (List.mem_of_getElem? (i := 172) rfl)) rfl
theorem q_1271 : Cond.code yX10_birds cX10_birds 6 (some .int) ∈ W0 := W0_in (tb_8 (List.mem_of_getElem? (i := 30) rfl)) rfl
theorem q_1272 : Cond.instanceMethod yX10_birds ∈ W0 := W0_in (tb_8 (List.mem_of_getElem? (i := 28) rfl)) rfl
theorem q_1273 : Cond.selects RX10 yX10_birds yX10_birds ∈ W0 := W0_in (tb_8 (List.mem_of_getElem? (i := 29) rfl)) rfl
theorem q_1274 : Cond.methodLink RL 130 yX10_birds ∈ W0 := W0_in (tb_8 (List.mem_of_getElem? (i := 27) rfl)) rfl
theorem q_1275 : Cond.code yX9_next cX9_next 6 (some .int) ∈ W0 := W0_in (tb_4 (List.mem_of_getElem? (i := 188) rfl)) rfl
theorem q_1276 : Cond.instanceMethod yX9_next ∈ W0 := W0_in (tb_4 (List.mem_of_getElem? (i := 186) rfl)) rfl
theorem q_1277 : Cond.selects RX9 yX9_next yX9_next ∈ W0 := W0_in (tb_4 (List.mem_of_getElem? (i := 187) rfl)) rfl
theorem q_1278 : Cond.methodLink RL 131 yX9_next ∈ W0 := W0_in (tb_4 (List.mem_of_getElem? (i := 185) rfl)) rfl
theorem q_1279 : Cond.code yX10_next cX10_next 4 (some .int) ∈ W0 := W0_in (tb_8 (List.mem_of_getElem? (i := 38) rfl)) rfl
theorem q_1280 : Cond.instanceMethod yX10_next ∈ W0 := W0_in (tb_8 (List.mem_of_getElem? (i := 36) rfl)) rfl
theorem q_1281 : Cond.selects RX10 yX10_next yX10_next ∈ W0 := W0_in (tb_8 (List.mem_of_getElem? (i := 37) rfl)) rfl
theorem q_1282 : Cond.methodLink RL 134 yX10_next ∈ W0 := W0_in (tb_8 (List.mem_of_getElem? (i := 35) rfl)) rfl
theorem q_1283 : Cond.code yX9_route cX9_route 8 (some .int) ∈ W0 := W0_in (tb_4 (List.mem_of_getElem? (i := 197) rfl)) rfl
theorem q_1284 : Cond.instanceMethod yX9_route ∈ W0 := W0_in (tb_4 (List.mem_of_getElem? (i := 195) rfl)) rfl
theorem q_1285 : Cond.selects RX9 yX9_route yX9_route ∈ W0 := W0_in (tb_4 (List.mem_of_getElem? (i := 196) rfl)) rfl
theorem q_1286 : Cond.methodLink RL 135 yX9_route ∈ W0 := W0_in (tb_4 (List.mem_of_getElem? (i := 194) rfl)) rfl
theorem q_1287 : Cond.code yX10_route cX10_route 6 (some .int) ∈ W0 := W0_in (tb_8 (List.mem_of_getElem? (i := 42) rfl)) rfl
theorem q_1288 : Cond.instanceMethod yX10_route ∈ W0 := W0_in (tb_8 (List.mem_of_getElem? (i := 40) rfl)) rfl
theorem q_1289 : Cond.selects RX10 yX10_route yX10_route ∈ W0 := W0_in (tb_8 (List.mem_of_getElem? (i := 41) rfl)) rfl
theorem q_1290 : Cond.methodLink RL 138 yX10_route ∈ W0 := W0_in (tb_8 (List.mem_of_getElem? (i := 39) rfl)) rfl
theorem q_1291 : Cond.code yX9_work cX9_work 3 (some .int) ∈ W0 := W0_in (tb_4 (List.mem_of_getElem? (i := 217) rfl)) rfl
theorem q_1292 : Cond.instanceMethod yX9_work ∈ W0 := W0_in (tb_4 (List.mem_of_getElem? (i := 215) rfl)) rfl
theorem q_1293 : Cond.selects RX9 yX9_work yX9_work ∈ W0 := W0_in (tb_4 (List.mem_of_getElem? (i := 216) rfl)) rfl
theorem q_1294 : Cond.methodLink RL 139 yX9_work ∈ W0 := W0_in (tb_4 (List.mem_of_getElem? (i := 214) rfl)) rfl
theorem q_1295 : Cond.code yX10_work cX10_work 3 (some .int) ∈ W0 := W0_in (tb_8 (List.mem_of_getElem? (i := 63) rfl)) rfl
theorem q_1296 : Cond.instanceMethod yX10_work ∈ W0 := W0_in (tb_8 (List.mem_of_getElem? (i := 61) rfl)) rfl
theorem q_1297 : Cond.selects RX10 yX10_work yX10_work ∈ W0 := W0_in (tb_8 (List.mem_of_getElem? (i := 62) rfl)) rfl
theorem q_1298 : Cond.methodLink RL 142 yX10_work ∈ W0 := W0_in (tb_8 (List.mem_of_getElem? (i := 60) rfl)) rfl
theorem q_1299 : Cond.code yX9_soonest cX9_soonest 5 (some .int) ∈ W0 := W0_in (tb_5 (List.mem_of_getElem? (i := 6) rfl)) rfl
theorem q_1300 : Cond.instanceMethod yX9_soonest ∈ W0 := W0_in (tb_5 (List.mem_of_getElem? (i := 4) rfl)) rfl
theorem q_1301 : Cond.selects RX9 yX9_soonest yX9_soonest ∈ W0 := W0_in (tb_5 (List.mem_of_getElem? (i := 5) rfl)) rfl
theorem q_1302 : Cond.methodLink RL 143 yX9_soonest ∈ W0 := W0_in (tb_5 (List.mem_of_getElem? (i := 3) rfl)) rfl
theorem q_1303 : Cond.code yX10_soonest cX10_soonest 5 (some .int) ∈ W0 := W0_in (tb_8 (List.mem_of_getElem? (i := 75) rfl)) rfl
theorem q_1304 : Cond.instanceMethod yX10_soonest ∈ W0 := W0_in (tb_8 (List.mem_of_getElem? (i := 73) rfl)) rfl
theorem q_1305 : Cond.selects RX10 yX10_soonest yX10_soonest ∈ W0 := W0_in (tb_8 (List.mem_of_getElem? (i := 74) rfl)) rfl
theorem q_1306 : Cond.methodLink RL 146 yX10_soonest ∈ W0 := W0_in (tb_8 (List.mem_of_getElem? (i := 72) rfl)) rfl
theorem q_1307 : Cond.code yX9_pays cX9_pays 6 (some .int) ∈ W0 := W0_in (tb_5 (List.mem_of_getElem? (i := 10) rfl)) rfl
theorem q_1308 : Cond.instanceMethod yX9_pays ∈ W0 := W0_in (tb_5 (List.mem_of_getElem? (i := 8) rfl)) rfl
theorem q_1309 : Cond.selects RX9 yX9_pays yX9_pays ∈ W0 := W0_in (tb_5 (List.mem_of_getElem? (i := 9) rfl)) rfl
theorem q_1310 : Cond.methodLink RL 147 yX9_pays ∈ W0 := W0_in (tb_5 (List.mem_of_getElem? (i := 7) rfl)) rfl
theorem q_1311 : Cond.code yX10_pays cX10_pays 5 (some .int) ∈ W0 := W0_in (tb_8 (List.mem_of_getElem? (i := 79) rfl)) rfl
theorem q_1312 : Cond.instanceMethod yX10_pays ∈ W0 := W0_in (tb_8 (List.mem_of_getElem? (i := 77) rfl)) rfl
theorem q_1313 : Cond.selects RX10 yX10_pays yX10_pays ∈ W0 := W0_in (tb_8 (List.mem_of_getElem? (i := 78) rfl)) rfl
theorem q_1314 : Cond.methodLink RL 150 yX10_pays ∈ W0 := W0_in (tb_8 (List.mem_of_getElem? (i := 76) rfl)) rfl
theorem q_1315 : Cond.code yX9_trips cX9_trips 6 (some .int) ∈ W0 := W0_in (tb_5 (List.mem_of_getElem? (i := 15) rfl)) rfl
theorem q_1316 : Cond.instanceMethod yX9_trips ∈ W0 := W0_in (tb_5 (List.mem_of_getElem? (i := 13) rfl)) rfl
theorem q_1317 : Cond.selects RX9 yX9_trips yX9_trips ∈ W0 := W0_in (tb_5 (List.mem_of_getElem? (i := 14) rfl)) rfl
theorem q_1318 : Cond.methodLink RL 151 yX9_trips ∈ W0 := W0_in (tb_5 (List.mem_of_getElem? (i := 12) rfl)) rfl
theorem q_1319 : Cond.code yX10_trips cX10_trips 5 (some .int) ∈ W0 := W0_in (tb_8 (List.mem_of_getElem? (i := 83) rfl)) rfl
theorem q_1320 : Cond.instanceMethod yX10_trips ∈ W0 := W0_in (tb_8 (List.mem_of_getElem? (i := 81) rfl)) rfl
theorem q_1321 : Cond.selects RX10 yX10_trips yX10_trips ∈ W0 := W0_in (tb_8 (List.mem_of_getElem? (i := 82) rfl)) rfl
theorem q_1322 : Cond.methodLink RL 154 yX10_trips ∈ W0 := W0_in (tb_8 (List.mem_of_getElem? (i := 80) rfl)) rfl
theorem q_1323 : Cond.code yX9_helps cX9_helps 4 (some .int) ∈ W0 := W0_in (tb_5 (List.mem_of_getElem? (i := 19) rfl)) rfl
theorem q_1324 : Cond.instanceMethod yX9_helps ∈ W0 := W0_in (tb_5 (List.mem_of_getElem? (i := 17) rfl)) rfl
theorem q_1325 : Cond.selects RX9 yX9_helps yX9_helps ∈ W0 := W0_in (tb_5 (List.mem_of_getElem? (i := 18) rfl)) rfl
theorem q_1326 : Cond.methodLink RL 155 yX9_helps ∈ W0 := W0_in (tb_5 (List.mem_of_getElem? (i := 16) rfl)) rfl
theorem q_1327 : Cond.code yX10_helps cX10_helps 4 (some .int) ∈ W0 := W0_in (tb_8 (List.mem_of_getElem? (i := 87) rfl)) rfl
theorem q_1328 : Cond.instanceMethod yX10_helps ∈ W0 := W0_in (tb_8 (List.mem_of_getElem? (i := 85) rfl)) rfl
theorem q_1329 : Cond.selects RX10 yX10_helps yX10_helps ∈ W0 := W0_in (tb_8 (List.mem_of_getElem? (i := 86) rfl)) rfl
theorem q_1330 : Cond.methodLink RL 158 yX10_helps ∈ W0 := W0_in (tb_8 (List.mem_of_getElem? (i := 84) rfl)) rfl
theorem q_1331 : Cond.code yX9_hooked cX9_hooked 7 (some .int) ∈ W0 := W0_in (tb_5 (List.mem_of_getElem? (i := 24) rfl)) rfl
theorem q_1332 : Cond.instanceMethod yX9_hooked ∈ W0 := W0_in (tb_5 (List.mem_of_getElem? (i := 22) rfl)) rfl
theorem q_1333 : Cond.selects RX9 yX9_hooked yX9_hooked ∈ W0 := W0_in (tb_5 (List.mem_of_getElem? (i := 23) rfl)) rfl
theorem q_1334 : Cond.methodLink RL 159 yX9_hooked ∈ W0 := W0_in (tb_5 (List.mem_of_getElem? (i := 21) rfl)) rfl
theorem q_1335 : Cond.code yX10_hooked cX10_hooked 7 (some .int) ∈ W0 := W0_in (tb_8 (List.mem_of_getElem? (i := 91) rfl)) rfl
theorem q_1336 : Cond.instanceMethod yX10_hooked ∈ W0 := W0_in (tb_8 (List.mem_of_getElem? (i := 89) rfl)) rfl
theorem q_1337 : Cond.selects RX10 yX10_hooked yX10_hooked ∈ W0 := W0_in (tb_8 (List.mem_of_getElem? (i := 90) rfl)) rfl
theorem q_1338 : Cond.methodLink RL 162 yX10_hooked ∈ W0 := W0_in (tb_8 (List.mem_of_getElem? (i := 88) rfl)) rfl
theorem q_1339 : Cond.code yX9_broken cX9_broken 4 (some .int) ∈ W0 := W0_in (tb_5 (List.mem_of_getElem? (i := 29) rfl)) rfl
theorem q_1340 : Cond.instanceMethod yX9_broken ∈ W0 := W0_in (tb_5 (List.mem_of_getElem? (i := 27) rfl)) rfl
theorem q_1341 : Cond.selects RX9 yX9_broken yX9_broken ∈ W0 := W0_in (tb_5 (List.mem_of_getElem? (i := 28) rfl)) rfl
theorem q_1342 : Cond.methodLink RL 163 yX9_broken ∈ W0 := W0_in (tb_5 (List.mem_of_getElem? (i := 26) rfl)) rfl
theorem q_1343 : Cond.code yX10_broken cX10_broken 4 (some .int) ∈ W0 := W0_in (tb_8 (List.mem_of_getElem? (i := 95) rfl)) rfl
theorem q_1344 : Cond.instanceMethod yX10_broken ∈ W0 := W0_in (tb_8 (List.mem_of_getElem? (i := 93) rfl)) rfl
theorem q_1345 : Cond.selects RX10 yX10_broken yX10_broken ∈ W0 := W0_in (tb_8 (List.mem_of_getElem? (i := 94) rfl)) rfl
theorem q_1346 : Cond.methodLink RL 166 yX10_broken ∈ W0 := W0_in (tb_8 (List.mem_of_getElem? (i := 92) rfl)) rfl
theorem q_1347 : Cond.code yX9_sweep cX9_sweep 8 (some .int) ∈ W0 := W0_in (tb_5 (List.mem_of_getElem? (i := 33) rfl)) rfl
theorem q_1348 : Cond.instanceMethod yX9_sweep ∈ W0 := W0_in (tb_5 (List.mem_of_getElem? (i := 31) rfl)) rfl
theorem q_1349 : Cond.selects RX9 yX9_sweep yX9_sweep ∈ W0 := W0_in (tb_5 (List.mem_of_getElem? (i := 32) rfl)) rfl
theorem q_1350 : Cond.methodLink RL 167 yX9_sweep ∈ W0 := W0_in (tb_5 (List.mem_of_getElem? (i := 30) rfl)) rfl
theorem q_1351 : Cond.code yX10_sweep cX10_sweep 8 (some .int) ∈ W0 := W0_in (tb_8 (List.mem_of_getElem? (i := 99) rfl)) rfl
theorem q_1352 : Cond.instanceMethod yX10_sweep ∈ W0 := W0_in (tb_8 (List.mem_of_getElem? (i := 97) rfl)) rfl
theorem q_1353 : Cond.selects RX10 yX10_sweep yX10_sweep ∈ W0 := W0_in (tb_8 (List.mem_of_getElem? (i := 98) rfl)) rfl
theorem q_1354 : Cond.methodLink RL 170 yX10_sweep ∈ W0 := W0_in (tb_8 (List.mem_of_getElem? (i := 96) rfl)) rfl
theorem q_1355 : Cond.code yX9_dusk cX9_dusk 7 (some .int) ∈ W0 := W0_in (tb_5 (List.mem_of_getElem? (i := 37) rfl)) rfl
theorem q_1356 : Cond.instanceMethod yX9_dusk ∈ W0 := W0_in (tb_5 (List.mem_of_getElem? (i := 35) rfl)) rfl
theorem q_1357 : Cond.selects RX9 yX9_dusk yX9_dusk ∈ W0 := W0_in (tb_5 (List.mem_of_getElem? (i := 36) rfl)) rfl
theorem q_1358 : Cond.methodLink RL 171 yX9_dusk ∈ W0 := W0_in (tb_5 (List.mem_of_getElem? (i := 34) rfl)) rfl
theorem q_1359 : Cond.code yX10_dusk cX10_dusk 11 (some .int) ∈ W0 := W0_in (tb_8 (List.mem_of_getElem? (i := 103) rfl)) rfl
theorem q_1360 : Cond.instanceMethod yX10_dusk ∈ W0 := W0_in (tb_8 (List.mem_of_getElem? (i := 101) rfl)) rfl
theorem q_1361 : Cond.selects RX10 yX10_dusk yX10_dusk ∈ W0 := W0_in (tb_8 (List.mem_of_getElem? (i := 102) rfl)) rfl
theorem q_1362 : Cond.methodLink RL 174 yX10_dusk ∈ W0 := W0_in (tb_8 (List.mem_of_getElem? (i := 100) rfl)) rfl
theorem q_1363 : Cond.code yX9_gentle cX9_gentle 5 (some .int) ∈ W0 := W0_in (tb_5 (List.mem_of_getElem? (i := 62) rfl)) rfl
theorem q_1364 : Cond.instanceMethod yX9_gentle ∈ W0 := W0_in (tb_5 (List.mem_of_getElem? (i := 60) rfl)) rfl
theorem q_1365 : Cond.selects RX9 yX9_gentle yX9_gentle ∈ W0 := W0_in (tb_5 (List.mem_of_getElem? (i := 61) rfl)) rfl
theorem q_1366 : Cond.methodLink RL 175 yX9_gentle ∈ W0 := W0_in (tb_5 (List.mem_of_getElem? (i := 59) rfl)) rfl
theorem q_1367 : Cond.code yX10_gentle cX10_gentle 5 (some .int) ∈ W0 := W0_in (tb_8 (List.mem_of_getElem? (i := 111) rfl)) rfl
theorem q_1368 : Cond.instanceMethod yX10_gentle ∈ W0 := W0_in (tb_8 (List.mem_of_getElem? (i := 109) rfl)) rfl
theorem q_1369 : Cond.selects RX10 yX10_gentle yX10_gentle ∈ W0 := W0_in (tb_8 (List.mem_of_getElem? (i := 110) rfl)) rfl
theorem q_1370 : Cond.methodLink RL 178 yX10_gentle ∈ W0 := W0_in (tb_8 (List.mem_of_getElem? (i := 108) rfl)) rfl
theorem q_1371 : Cond.code yX9_harm cX9_harm 5 (some .int) ∈ W0 := W0_in (tb_5 (List.mem_of_getElem? (i := 72) rfl)) rfl
theorem q_1372 : Cond.instanceMethod yX9_harm ∈ W0 := W0_in (tb_5 (List.mem_of_getElem? (i := 70) rfl)) rfl
theorem q_1373 : Cond.selects RX9 yX9_harm yX9_harm ∈ W0 := W0_in (tb_5 (List.mem_of_getElem? (i := 71) rfl)) rfl
theorem q_1374 : Cond.methodLink RL 179 yX9_harm ∈ W0 := W0_in (tb_5 (List.mem_of_getElem? (i := 69) rfl)) rfl
theorem q_1375 : Cond.code yX10_harm cX10_harm 5 (some .int) ∈ W0 := W0_in (tb_8 (List.mem_of_getElem? (i := 115) rfl)) rfl
theorem q_1376 : Cond.instanceMethod yX10_harm ∈ W0 := W0_in (tb_8 (List.mem_of_getElem? (i := 113) rfl)) rfl
theorem q_1377 : Cond.selects RX10 yX10_harm yX10_harm ∈ W0 := W0_in (tb_8 (List.mem_of_getElem? (i := 114) rfl)) rfl
theorem q_1378 : Cond.methodLink RL 182 yX10_harm ∈ W0 := W0_in (tb_8 (List.mem_of_getElem? (i := 112) rfl)) rfl
theorem q_1379 : Cond.code yX9_share cX9_share 8 (some .int) ∈ W0 := W0_in (tb_5 (List.mem_of_getElem? (i := 78) rfl)) rfl
theorem q_1380 : Cond.instanceMethod yX9_share ∈ W0 := W0_in (tb_5 (List.mem_of_getElem? (i := 76) rfl)) rfl
theorem q_1381 : Cond.selects RX9 yX9_share yX9_share ∈ W0 := W0_in (tb_5 (List.mem_of_getElem? (i := 77) rfl)) rfl
theorem q_1382 : Cond.methodLink RL 183 yX9_share ∈ W0 := W0_in (tb_5 (List.mem_of_getElem? (i := 75) rfl)) rfl
theorem q_1383 : Cond.code yX10_share cX10_share 8 (some .int) ∈ W0 := W0_in (tb_8 (List.mem_of_getElem? (i := 119) rfl)) rfl
theorem q_1384 : Cond.instanceMethod yX10_share ∈ W0 := W0_in (tb_8 (List.mem_of_getElem? (i := 117) rfl)) rfl
theorem q_1385 : Cond.selects RX10 yX10_share yX10_share ∈ W0 := W0_in (tb_8 (List.mem_of_getElem? (i := 118) rfl)) rfl
theorem q_1386 : Cond.methodLink RL 186 yX10_share ∈ W0 := W0_in (tb_8 (List.mem_of_getElem? (i := 116) rfl)) rfl
theorem q_1387 : Cond.code yX9_ripens cX9_ripens 5 (some .int) ∈ W0 := W0_in (tb_5 (List.mem_of_getElem? (i := 91) rfl)) rfl
theorem q_1388 : Cond.instanceMethod yX9_ripens ∈ W0 := W0_in (tb_5 (List.mem_of_getElem? (i := 89) rfl)) rfl
theorem q_1389 : Cond.selects RX9 yX9_ripens yX9_ripens ∈ W0 := W0_in (tb_5 (List.mem_of_getElem? (i := 90) rfl)) rfl
theorem q_1390 : Cond.methodLink RL 187 yX9_ripens ∈ W0 := W0_in (tb_5 (List.mem_of_getElem? (i := 88) rfl)) rfl
theorem q_1391 : Cond.code yX10_ripens cX10_ripens 5 (some .int) ∈ W0 := W0_in (tb_8 (List.mem_of_getElem? (i := 127) rfl)) rfl
theorem q_1392 : Cond.instanceMethod yX10_ripens ∈ W0 := W0_in (tb_8 (List.mem_of_getElem? (i := 125) rfl)) rfl
theorem q_1393 : Cond.selects RX10 yX10_ripens yX10_ripens ∈ W0 := W0_in (tb_8 (List.mem_of_getElem? (i := 126) rfl)) rfl
theorem q_1394 : Cond.methodLink RL 190 yX10_ripens ∈ W0 := W0_in (tb_8 (List.mem_of_getElem? (i := 124) rfl)) rfl
theorem q_1395 : Cond.code yX9_ondays cX9_ondays 3 (some .int) ∈ W0 := W0_in (tb_5 (List.mem_of_getElem? (i := 99) rfl)) rfl
theorem q_1396 : Cond.instanceMethod yX9_ondays ∈ W0 := W0_in (tb_5 (List.mem_of_getElem? (i := 97) rfl)) rfl
theorem q_1397 : Cond.selects RX9 yX9_ondays yX9_ondays ∈ W0 := W0_in (tb_5 (List.mem_of_getElem? (i := 98) rfl)) rfl
theorem q_1398 : Cond.methodLink RL 191 yX9_ondays ∈ W0 := W0_in (tb_5 (List.mem_of_getElem? (i := 96) rfl)) rfl
theorem q_1399 : Cond.code yX10_ondays cX10_ondays 2 (some .int) ∈ W0 := W0_in (tb_8 (List.mem_of_getElem? (i := 135) rfl)) rfl
theorem q_1400 : Cond.instanceMethod yX10_ondays ∈ W0 := W0_in (tb_8 (List.mem_of_getElem? (i := 133) rfl)) rfl
theorem q_1401 : Cond.selects RX10 yX10_ondays yX10_ondays ∈ W0 := W0_in (tb_8 (List.mem_of_getElem? (i := 134) rfl)) rfl
theorem q_1402 : Cond.methodLink RL 194 yX10_ondays ∈ W0 := W0_in (tb_8 (List.mem_of_getElem? (i := 132) rfl)) rfl
theorem q_1403 : Cond.code yX9_allripe cX9_allripe 4 (some .int) ∈ W0 := W0_in (tb_5 (List.mem_of_getElem? (i := 103) rfl)) rfl
theorem q_1404 : Cond.instanceMethod yX9_allripe ∈ W0 := W0_in (tb_5 (List.mem_of_getElem? (i := 101) rfl)) rfl
theorem q_1405 : Cond.selects RX9 yX9_allripe yX9_allripe ∈ W0 := W0_in (tb_5 (List.mem_of_getElem? (i := 102) rfl)) rfl
theorem q_1406 : Cond.methodLink RL 195 yX9_allripe ∈ W0 := W0_in (tb_5 (List.mem_of_getElem? (i := 100) rfl)) rfl
theorem q_1407 : Cond.code yX10_allripe cX10_allripe 4 (some .int) ∈ W0 := W0_in (tb_8 (List.mem_of_getElem? (i := 139) rfl)) rfl
theorem q_1408 : Cond.instanceMethod yX10_allripe ∈ W0 := W0_in (tb_8 (List.mem_of_getElem? (i := 137) rfl)) rfl
theorem q_1409 : Cond.selects RX10 yX10_allripe yX10_allripe ∈ W0 := W0_in (tb_8 (List.mem_of_getElem? (i := 138) rfl)) rfl
theorem q_1410 : Cond.methodLink RL 198 yX10_allripe ∈ W0 := W0_in (tb_8 (List.mem_of_getElem? (i := 136) rfl)) rfl
theorem q_1411 : Cond.code yX9_marks cX9_marks 3 (some .int) ∈ W0 := W0_in (tb_5 (List.mem_of_getElem? (i := 107) rfl)) rfl
theorem q_1412 : Cond.instanceMethod yX9_marks ∈ W0 := W0_in (tb_5 (List.mem_of_getElem? (i := 105) rfl)) rfl
theorem q_1413 : Cond.selects RX9 yX9_marks yX9_marks ∈ W0 := W0_in (tb_5 (List.mem_of_getElem? (i := 106) rfl)) rfl
theorem q_1414 : Cond.methodLink RL 199 yX9_marks ∈ W0 := W0_in (tb_5 (List.mem_of_getElem? (i := 104) rfl)) rfl
theorem q_1415 : Cond.code yX10_marks cX10_marks 5 (some .int) ∈ W0 := W0_in (tb_8 (List.mem_of_getElem? (i := 147) rfl)) rfl
theorem q_1416 : Cond.instanceMethod yX10_marks ∈ W0 := W0_in (tb_8 (List.mem_of_getElem? (i := 145) rfl)) rfl
theorem q_1417 : Cond.selects RX10 yX10_marks yX10_marks ∈ W0 := W0_in (tb_8 (List.mem_of_getElem? (i := 146) rfl)) rfl
theorem q_1418 : Cond.methodLink RL 202 yX10_marks ∈ W0 := W0_in (tb_8 (List.mem_of_getElem? (i := 144) rfl)) rfl
theorem q_1419 : Cond.code yX9_grass cX9_grass 3 (some .int) ∈ W0 := W0_in (tb_5 (List.mem_of_getElem? (i := 115) rfl)) rfl
theorem q_1420 : Cond.instanceMethod yX9_grass ∈ W0 := W0_in (tb_5 (List.mem_of_getElem? (i := 113) rfl)) rfl
theorem q_1421 : Cond.selects RX9 yX9_grass yX9_grass ∈ W0 := W0_in (tb_5 (List.mem_of_getElem? (i := 114) rfl)) rfl
theorem q_1422 : Cond.methodLink RL 203 yX9_grass ∈ W0 := W0_in (tb_5 (List.mem_of_getElem? (i := 112) rfl)) rfl
theorem q_1423 : Cond.code yX10_grass cX10_grass 9 (some .int) ∈ W0 := W0_in (tb_8 (List.mem_of_getElem? (i := 143) rfl)) rfl
theorem q_1424 : Cond.instanceMethod yX10_grass ∈ W0 := W0_in (tb_8 (List.mem_of_getElem? (i := 141) rfl)) rfl
theorem q_1425 : Cond.selects RX10 yX10_grass yX10_grass ∈ W0 := W0_in (tb_8 (List.mem_of_getElem? (i := 142) rfl)) rfl
theorem q_1426 : Cond.methodLink RL 206 yX10_grass ∈ W0 := W0_in (tb_8 (List.mem_of_getElem? (i := 140) rfl)) rfl
theorem q_1427 : Cond.code yX9_fits cX9_fits 6 (some .int) ∈ W0 := W0_in (tb_5 (List.mem_of_getElem? (i := 139) rfl)) rfl
theorem q_1428 : Cond.instanceMethod yX9_fits ∈ W0 := W0_in (tb_5 (List.mem_of_getElem? (i := 137) rfl)) rfl
theorem q_1429 : Cond.selects RX9 yX9_fits yX9_fits ∈ W0 := W0_in (tb_5 (List.mem_of_getElem? (i := 138) rfl)) rfl
theorem q_1430 : Cond.methodLink RL 207 yX9_fits ∈ W0 := W0_in (tb_5 (List.mem_of_getElem? (i := 136) rfl)) rfl
theorem q_1431 : Cond.code yX10_fits cX10_fits 7 (some .int) ∈ W0 := W0_in (tb_8 (List.mem_of_getElem? (i := 151) rfl)) rfl
theorem q_1432 : Cond.instanceMethod yX10_fits ∈ W0 := W0_in (tb_8 (List.mem_of_getElem? (i := 149) rfl)) rfl
theorem q_1433 : Cond.selects RX10 yX10_fits yX10_fits ∈ W0 := W0_in (tb_8 (List.mem_of_getElem? (i := 150) rfl)) rfl
theorem q_1434 : Cond.methodLink RL 210 yX10_fits ∈ W0 := W0_in (tb_8 (List.mem_of_getElem? (i := 148) rfl)) rfl
theorem q_1435 : Cond.code yX9_leaned cX9_leaned 3 (some .int) ∈ W0 := W0_in (tb_5 (List.mem_of_getElem? (i := 148) rfl)) rfl
theorem q_1436 : Cond.instanceMethod yX9_leaned ∈ W0 := W0_in (tb_5 (List.mem_of_getElem? (i := 146) rfl)) rfl
theorem q_1437 : Cond.selects RX9 yX9_leaned yX9_leaned ∈ W0 := W0_in (tb_5 (List.mem_of_getElem? (i := 147) rfl)) rfl
theorem q_1438 : Cond.methodLink RL 211 yX9_leaned ∈ W0 := W0_in (tb_5 (List.mem_of_getElem? (i := 145) rfl)) rfl
theorem q_1439 : Cond.code yX10_leaned cX10_leaned 4 (some .int) ∈ W0 := W0_in (tb_8 (List.mem_of_getElem? (i := 159) rfl)) rfl
theorem q_1440 : Cond.instanceMethod yX10_leaned ∈ W0 := W0_in (tb_8 (List.mem_of_getElem? (i := 157) rfl)) rfl
theorem q_1441 : Cond.selects RX10 yX10_leaned yX10_leaned ∈ W0 := W0_in (tb_8 (List.mem_of_getElem? (i := 158) rfl)) rfl
theorem q_1442 : Cond.methodLink RL 214 yX10_leaned ∈ W0 := W0_in (tb_8 (List.mem_of_getElem? (i := 156) rfl)) rfl
theorem q_1443 : Cond.code yX9_autumn cX9_autumn 13 (some .int) ∈ W0 := W0_in (tb_5 (List.mem_of_getElem? (i := 152) rfl)) rfl
theorem q_1444 : Cond.instanceMethod yX9_autumn ∈ W0 := W0_in (tb_5 (List.mem_of_getElem? (i := 150) rfl)) rfl
theorem q_1445 : Cond.selects RX9 yX9_autumn yX9_autumn ∈ W0 := W0_in (tb_5 (List.mem_of_getElem? (i := 151) rfl)) rfl
theorem q_1446 : Cond.methodLink RL 215 yX9_autumn ∈ W0 := W0_in (tb_5 (List.mem_of_getElem? (i := 149) rfl)) rfl
theorem q_1447 : Cond.code yX10_autumn cX10_autumn 12 (some .int) ∈ W0 := W0_in (tb_8 (List.mem_of_getElem? (i := 163) rfl)) rfl
theorem q_1448 : Cond.instanceMethod yX10_autumn ∈ W0 := W0_in (tb_8 (List.mem_of_getElem? (i := 161) rfl)) rfl
theorem q_1449 : Cond.selects RX10 yX10_autumn yX10_autumn ∈ W0 := W0_in (tb_8 (List.mem_of_getElem? (i := 162) rfl)) rfl
theorem q_1450 : Cond.methodLink RL 218 yX10_autumn ∈ W0 := W0_in (tb_8 (List.mem_of_getElem? (i := 160) rfl)) rfl
theorem q_1451 : Cond.code yX9_keep cX9_keep 2 (some .boolean) ∈ W0 := W0_in (tb_5 (List.mem_of_getElem? (i := 158) rfl)) rfl
theorem q_1452 : Cond.instanceMethod yX9_keep ∈ W0 := W0_in (tb_5 (List.mem_of_getElem? (i := 156) rfl)) rfl
theorem q_1453 : Cond.selects RX9 yX9_keep yX9_keep ∈ W0 := W0_in (tb_5 (List.mem_of_getElem? (i := 157) rfl)) rfl
theorem q_1454 : Cond.methodLink RL 219 yX9_keep ∈ W0 := W0_in (tb_5 (List.mem_of_getElem? (i := 155) rfl)) rfl
theorem q_1455 : Cond.code yX10_keep cX10_keep 2 (some .boolean) ∈ W0 := W0_in (tb_8 (List.mem_of_getElem? (i := 172) rfl)) rfl
theorem q_1456 : Cond.instanceMethod yX10_keep ∈ W0 := W0_in (tb_8 (List.mem_of_getElem? (i := 170) rfl)) rfl
theorem q_1457 : Cond.selects RX10 yX10_keep yX10_keep ∈ W0 := W0_in (tb_8 (List.mem_of_getElem? (i := 171) rfl)) rfl
theorem q_1458 : Cond.methodLink RL 222 yX10_keep ∈ W0 := W0_in (tb_8 (List.mem_of_getElem? (i := 169) rfl)) rfl
theorem q_1459 : Cond.code yX9_again cX9_again 2 (some .boolean) ∈ W0 := W0_in (tb_5 (List.mem_of_getElem? (i := 166) rfl)) rfl
theorem q_1460 : Cond.instanceMethod yX9_again ∈ W0 := W0_in (tb_5 (List.mem_of_getElem? (i := 164) rfl)) rfl
theorem q_1461 : Cond.selects RX9 yX9_again yX9_again ∈ W0 := W0_in (tb_5 (List.mem_of_getElem? (i := 165) rfl)) rfl
theorem q_1462 : Cond.methodLink RL 223 yX9_again ∈ W0 := W0_in (tb_5 (List.mem_of_getElem? (i := 163) rfl)) rfl
theorem q_1463 : Cond.code yX10_again cX10_again 3 (some .boolean) ∈ W0 := W0_in (tb_8 (List.mem_of_getElem? (i := 176) rfl)) rfl
theorem q_1464 : Cond.instanceMethod yX10_again ∈ W0 := W0_in (tb_8 (List.mem_of_getElem? (i := 174) rfl)) rfl
theorem q_1465 : Cond.selects RX10 yX10_again yX10_again ∈ W0 := W0_in (tb_8 (List.mem_of_getElem? (i := 175) rfl)) rfl
theorem q_1466 : Cond.methodLink RL 226 yX10_again ∈ W0 := W0_in (tb_8 (List.mem_of_getElem? (i := 173) rfl)) rfl
theorem q_1467 : Cond.code yX9_count cX9_count 2 (some .int) ∈ W0 := W0_in (tb_5 (List.mem_of_getElem? (i := 174) rfl)) rfl
theorem q_1468 : Cond.instanceMethod yX9_count ∈ W0 := W0_in (tb_5 (List.mem_of_getElem? (i := 172) rfl)) rfl
theorem q_1469 : Cond.selects RX9 yX9_count yX9_count ∈ W0 := W0_in (tb_5 (List.mem_of_getElem? (i := 173) rfl)) rfl
theorem q_1470 : Cond.methodLink RL 227 yX9_count ∈ W0 := W0_in (tb_5 (List.mem_of_getElem? (i := 171) rfl)) rfl
theorem q_1471 : Cond.code yX10_count cX10_count 2 (some .int) ∈ W0 := W0_in (tb_8 (List.mem_of_getElem? (i := 180) rfl)) rfl
theorem q_1472 : Cond.instanceMethod yX10_count ∈ W0 := W0_in (tb_8 (List.mem_of_getElem? (i := 178) rfl)) rfl
theorem q_1473 : Cond.selects RX10 yX10_count yX10_count ∈ W0 := W0_in (tb_8 (List.mem_of_getElem? (i := 179) rfl)) rfl
theorem q_1474 : Cond.methodLink RL 230 yX10_count ∈ W0 := W0_in (tb_8 (List.mem_of_getElem? (i := 177) rfl)) rfl
theorem q_1475 : Cond.codeWith yL_row cL_row 4 (some .int) [(0, 9, 12, 13)] ∈ W0 := W0_in (tb_6 (List.mem_of_getElem? (i := 18) rfl)) rfl
theorem q_1476 : Cond.methodLink RL 231 yL_row ∈ W0 := W0_in (tb_6 (List.mem_of_getElem? (i := 16) rfl)) rfl
theorem q_1477 : Cond.static yL_row ∈ W0 := W0_in (tb_6 (List.mem_of_getElem? (i := 17) rfl)) rfl
theorem q_1478 : Cond.code yX10_row cX10_row 2 (some .int) ∈ W0 := W0_in (tb_8 (List.mem_of_getElem? (i := 184) rfl)) rfl
theorem q_1479 : Cond.instanceMethod yX10_row ∈ W0 := W0_in (tb_8 (List.mem_of_getElem? (i := 182) rfl)) rfl
theorem q_1480 : Cond.selects RX10 yX10_row yX10_row ∈ W0 := W0_in (tb_8 (List.mem_of_getElem? (i := 183) rfl)) rfl
theorem q_1481 : Cond.methodLink RL 234 yX10_row ∈ W0 := W0_in (tb_8 (List.mem_of_getElem? (i := 181) rfl)) rfl
theorem q_1482 : Cond.classLink RL 8 RX9 ∈ W0 := W0_in (tb_1 (List.mem_of_getElem? (i := 23) rfl)) rfl
theorem q_1483 : Cond.instantiable RX9 9 ∈ W0 := W0_in (tb_1 (List.mem_of_getElem? (i := 24) rfl)) rfl
theorem q_1484 : Cond.code yX9_init cX9_init 1 none ∈ W0 := W0_in (tb_1 (List.mem_of_getElem? (i := 27) rfl)) rfl
theorem q_1485 : Cond.methodLink RL 22 yX9_init ∈ W0 := W0_in (tb_1 (List.mem_of_getElem? (i := 25) rfl)) rfl
theorem q_1486 : Cond.instanceMethod yX9_init ∈ W0 := W0_in (tb_1 (List.mem_of_getElem? (i := 26) rfl)) rfl
theorem q_1487 : Cond.classLink RL 23 RX10 ∈ W0 := W0_in (tb_6 (List.mem_of_getElem? (i := 23) rfl)) rfl
theorem q_1488 : Cond.instantiable RX10 51 ∈ W0 := W0_in (tb_6 (List.mem_of_getElem? (i := 24) rfl)) rfl
theorem q_1489 : Cond.code yX10_init cX10_init 1 none ∈ W0 := W0_in (tb_6 (List.mem_of_getElem? (i := 27) rfl)) rfl
theorem q_1490 : Cond.methodLink RL 25 yX10_init ∈ W0 := W0_in (tb_6 (List.mem_of_getElem? (i := 25) rfl)) rfl
theorem q_1491 : Cond.instanceMethod yX10_init ∈ W0 := W0_in (tb_6 (List.mem_of_getElem? (i := 26) rfl)) rfl
theorem q_1492 : Cond.arrayClass .long ∈ W0 := W0_in (tb_8 (List.mem_of_getElem? (i := 185) rfl)) rfl
theorem h_X9_fruit : yX9_fruit.cls ≠ "java/lang/invoke/MethodHandle" ∧ yX9_fruit.cls ≠ "java/lang/invoke/VarHandle" ∧ (parseMethodDescriptor yX9_fruit.desc).map (fun d => d.parameters.length) = some 2 := by decide +kernel
theorem h_X9_standing : yX9_standing.cls ≠ "java/lang/invoke/MethodHandle" ∧ yX9_standing.cls ≠ "java/lang/invoke/VarHandle" ∧ (parseMethodDescriptor yX9_standing.desc).map (fun d => d.parameters.length) = some 2 := by decide +kernel
theorem h_X9_row : yX9_row.cls ≠ "java/lang/invoke/MethodHandle" ∧ yX9_row.cls ≠ "java/lang/invoke/VarHandle" ∧ (parseMethodDescriptor yX9_row.desc).map (fun d => d.parameters.length) = some 1 := by decide +kernel
theorem h_X9_sign : yX9_sign.cls ≠ "java/lang/invoke/MethodHandle" ∧ yX9_sign.cls ≠ "java/lang/invoke/VarHandle" ∧ (parseMethodDescriptor yX9_sign.desc).map (fun d => d.parameters.length) = some 1 := by decide +kernel
theorem h_X10_sign : yX10_sign.cls ≠ "java/lang/invoke/MethodHandle" ∧ yX10_sign.cls ≠ "java/lang/invoke/VarHandle" ∧ (parseMethodDescriptor yX10_sign.desc).map (fun d => d.parameters.length) = some 1 := by decide +kernel
theorem h_X9_end : yX9_end.cls ≠ "java/lang/invoke/MethodHandle" ∧ yX9_end.cls ≠ "java/lang/invoke/VarHandle" ∧ (parseMethodDescriptor yX9_end.desc).map (fun d => d.parameters.length) = some 1 := by decide +kernel
theorem h_X10_end : yX10_end.cls ≠ "java/lang/invoke/MethodHandle" ∧ yX10_end.cls ≠ "java/lang/invoke/VarHandle" ∧ (parseMethodDescriptor yX10_end.desc).map (fun d => d.parameters.length) = some 1 := by decide +kernel
theorem h_X9_orchard : yX9_orchard.cls ≠ "java/lang/invoke/MethodHandle" ∧ yX9_orchard.cls ≠ "java/lang/invoke/VarHandle" ∧ (parseMethodDescriptor yX9_orchard.desc).map (fun d => d.parameters.length) = some 0 := by decide +kernel
theorem h_X10_orchard : yX10_orchard.cls ≠ "java/lang/invoke/MethodHandle" ∧ yX10_orchard.cls ≠ "java/lang/invoke/VarHandle" ∧ (parseMethodDescriptor yX10_orchard.desc).map (fun d => d.parameters.length) = some 0 := by decide +kernel
theorem h_X9_rule : yX9_rule.cls ≠ "java/lang/invoke/MethodHandle" ∧ yX9_rule.cls ≠ "java/lang/invoke/VarHandle" ∧ (parseMethodDescriptor yX9_rule.desc).map (fun d => d.parameters.length) = some 0 := by decide +kernel
theorem h_X10_rule : yX10_rule.cls ≠ "java/lang/invoke/MethodHandle" ∧ yX10_rule.cls ≠ "java/lang/invoke/VarHandle" ∧ (parseMethodDescriptor yX10_rule.desc).map (fun d => d.parameters.length) = some 0 := by decide +kernel
theorem h_L_fruit : yL_fruit.cls ≠ "java/lang/invoke/MethodHandle" ∧ yL_fruit.cls ≠ "java/lang/invoke/VarHandle" ∧ (parseMethodDescriptor yL_fruit.desc).map (fun d => d.parameters.length) = some 4 := by decide +kernel
theorem h_X10_fruit : yX10_fruit.cls ≠ "java/lang/invoke/MethodHandle" ∧ yX10_fruit.cls ≠ "java/lang/invoke/VarHandle" ∧ (parseMethodDescriptor yX10_fruit.desc).map (fun d => d.parameters.length) = some 2 := by decide +kernel
theorem h_L_standing : yL_standing.cls ≠ "java/lang/invoke/MethodHandle" ∧ yL_standing.cls ≠ "java/lang/invoke/VarHandle" ∧ (parseMethodDescriptor yL_standing.desc).map (fun d => d.parameters.length) = some 4 := by decide +kernel
theorem h_X10_standing : yX10_standing.cls ≠ "java/lang/invoke/MethodHandle" ∧ yX10_standing.cls ≠ "java/lang/invoke/VarHandle" ∧ (parseMethodDescriptor yX10_standing.desc).map (fun d => d.parameters.length) = some 2 := by decide +kernel
theorem h_X9_set : yX9_set.cls ≠ "java/lang/invoke/MethodHandle" ∧ yX9_set.cls ≠ "java/lang/invoke/VarHandle" ∧ (parseMethodDescriptor yX9_set.desc).map (fun d => d.parameters.length) = some 2 := by decide +kernel
theorem h_X10_set : yX10_set.cls ≠ "java/lang/invoke/MethodHandle" ∧ yX10_set.cls ≠ "java/lang/invoke/VarHandle" ∧ (parseMethodDescriptor yX10_set.desc).map (fun d => d.parameters.length) = some 2 := by decide +kernel
theorem h_X9_sheet : yX9_sheet.cls ≠ "java/lang/invoke/MethodHandle" ∧ yX9_sheet.cls ≠ "java/lang/invoke/VarHandle" ∧ (parseMethodDescriptor yX9_sheet.desc).map (fun d => d.parameters.length) = some 4 := by decide +kernel
theorem h_X10_sheet : yX10_sheet.cls ≠ "java/lang/invoke/MethodHandle" ∧ yX10_sheet.cls ≠ "java/lang/invoke/VarHandle" ∧ (parseMethodDescriptor yX10_sheet.desc).map (fun d => d.parameters.length) = some 4 := by decide +kernel
theorem h_X9_move : yX9_move.cls ≠ "java/lang/invoke/MethodHandle" ∧ yX9_move.cls ≠ "java/lang/invoke/VarHandle" ∧ (parseMethodDescriptor yX9_move.desc).map (fun d => d.parameters.length) = some 1 := by decide +kernel
theorem h_X10_move : yX10_move.cls ≠ "java/lang/invoke/MethodHandle" ∧ yX10_move.cls ≠ "java/lang/invoke/VarHandle" ∧ (parseMethodDescriptor yX10_move.desc).map (fun d => d.parameters.length) = some 1 := by decide +kernel
theorem h_X9_foot : yX9_foot.cls ≠ "java/lang/invoke/MethodHandle" ∧ yX9_foot.cls ≠ "java/lang/invoke/VarHandle" ∧ (parseMethodDescriptor yX9_foot.desc).map (fun d => d.parameters.length) = some 1 := by decide +kernel
theorem h_X10_foot : yX10_foot.cls ≠ "java/lang/invoke/MethodHandle" ∧ yX10_foot.cls ≠ "java/lang/invoke/VarHandle" ∧ (parseMethodDescriptor yX10_foot.desc).map (fun d => d.parameters.length) = some 1 := by decide +kernel
theorem h_X9_pick : yX9_pick.cls ≠ "java/lang/invoke/MethodHandle" ∧ yX9_pick.cls ≠ "java/lang/invoke/VarHandle" ∧ (parseMethodDescriptor yX9_pick.desc).map (fun d => d.parameters.length) = some 2 := by decide +kernel
theorem h_X10_pick : yX10_pick.cls ≠ "java/lang/invoke/MethodHandle" ∧ yX10_pick.cls ≠ "java/lang/invoke/VarHandle" ∧ (parseMethodDescriptor yX10_pick.desc).map (fun d => d.parameters.length) = some 2 := by decide +kernel
theorem h_X9_down : yX9_down.cls ≠ "java/lang/invoke/MethodHandle" ∧ yX9_down.cls ≠ "java/lang/invoke/VarHandle" ∧ (parseMethodDescriptor yX9_down.desc).map (fun d => d.parameters.length) = some 0 := by decide +kernel
theorem h_X10_down : yX10_down.cls ≠ "java/lang/invoke/MethodHandle" ∧ yX10_down.cls ≠ "java/lang/invoke/VarHandle" ∧ (parseMethodDescriptor yX10_down.desc).map (fun d => d.parameters.length) = some 0 := by decide +kernel
theorem h_X9_shake : yX9_shake.cls ≠ "java/lang/invoke/MethodHandle" ∧ yX9_shake.cls ≠ "java/lang/invoke/VarHandle" ∧ (parseMethodDescriptor yX9_shake.desc).map (fun d => d.parameters.length) = some 0 := by decide +kernel
theorem h_X10_shake : yX10_shake.cls ≠ "java/lang/invoke/MethodHandle" ∧ yX10_shake.cls ≠ "java/lang/invoke/VarHandle" ∧ (parseMethodDescriptor yX10_shake.desc).map (fun d => d.parameters.length) = some 0 := by decide +kernel
theorem h_X9_sleep : yX9_sleep.cls ≠ "java/lang/invoke/MethodHandle" ∧ yX9_sleep.cls ≠ "java/lang/invoke/VarHandle" ∧ (parseMethodDescriptor yX9_sleep.desc).map (fun d => d.parameters.length) = some 0 := by decide +kernel
theorem h_X10_sleep : yX10_sleep.cls ≠ "java/lang/invoke/MethodHandle" ∧ yX10_sleep.cls ≠ "java/lang/invoke/VarHandle" ∧ (parseMethodDescriptor yX10_sleep.desc).map (fun d => d.parameters.length) = some 0 := by decide +kernel
theorem h_X9_day : yX9_day.cls ≠ "java/lang/invoke/MethodHandle" ∧ yX9_day.cls ≠ "java/lang/invoke/VarHandle" ∧ (parseMethodDescriptor yX9_day.desc).map (fun d => d.parameters.length) = some 0 := by decide +kernel
theorem h_X10_day : yX10_day.cls ≠ "java/lang/invoke/MethodHandle" ∧ yX10_day.cls ≠ "java/lang/invoke/VarHandle" ∧ (parseMethodDescriptor yX10_day.desc).map (fun d => d.parameters.length) = some 0 := by decide +kernel
theorem h_X9_undo : yX9_undo.cls ≠ "java/lang/invoke/MethodHandle" ∧ yX9_undo.cls ≠ "java/lang/invoke/VarHandle" ∧ (parseMethodDescriptor yX9_undo.desc).map (fun d => d.parameters.length) = some 0 := by decide +kernel
theorem h_X10_undo : yX10_undo.cls ≠ "java/lang/invoke/MethodHandle" ∧ yX10_undo.cls ≠ "java/lang/invoke/VarHandle" ∧ (parseMethodDescriptor yX10_undo.desc).map (fun d => d.parameters.length) = some 0 := by decide +kernel
theorem h_X9_reached : yX9_reached.cls ≠ "java/lang/invoke/MethodHandle" ∧ yX9_reached.cls ≠ "java/lang/invoke/VarHandle" ∧ (parseMethodDescriptor yX9_reached.desc).map (fun d => d.parameters.length) = some 1 := by decide +kernel
theorem h_X10_reached : yX10_reached.cls ≠ "java/lang/invoke/MethodHandle" ∧ yX10_reached.cls ≠ "java/lang/invoke/VarHandle" ∧ (parseMethodDescriptor yX10_reached.desc).map (fun d => d.parameters.length) = some 1 := by decide +kernel
theorem h_X9_from : yX9_from.cls ≠ "java/lang/invoke/MethodHandle" ∧ yX9_from.cls ≠ "java/lang/invoke/VarHandle" ∧ (parseMethodDescriptor yX9_from.desc).map (fun d => d.parameters.length) = some 2 := by decide +kernel
theorem h_X10_from : yX10_from.cls ≠ "java/lang/invoke/MethodHandle" ∧ yX10_from.cls ≠ "java/lang/invoke/VarHandle" ∧ (parseMethodDescriptor yX10_from.desc).map (fun d => d.parameters.length) = some 2 := by decide +kernel
theorem h_X9_never : yX9_never.cls ≠ "java/lang/invoke/MethodHandle" ∧ yX9_never.cls ≠ "java/lang/invoke/VarHandle" ∧ (parseMethodDescriptor yX9_never.desc).map (fun d => d.parameters.length) = some 0 := by decide +kernel
theorem h_X10_never : yX10_never.cls ≠ "java/lang/invoke/MethodHandle" ∧ yX10_never.cls ≠ "java/lang/invoke/VarHandle" ∧ (parseMethodDescriptor yX10_never.desc).map (fun d => d.parameters.length) = some 0 := by decide +kernel
theorem h_X9_seconds : yX9_seconds.cls ≠ "java/lang/invoke/MethodHandle" ∧ yX9_seconds.cls ≠ "java/lang/invoke/VarHandle" ∧ (parseMethodDescriptor yX9_seconds.desc).map (fun d => d.parameters.length) = some 3 := by decide +kernel
theorem h_X10_seconds : yX10_seconds.cls ≠ "java/lang/invoke/MethodHandle" ∧ yX10_seconds.cls ≠ "java/lang/invoke/VarHandle" ∧ (parseMethodDescriptor yX10_seconds.desc).map (fun d => d.parameters.length) = some 3 := by decide +kernel
theorem h_X9_both : yX9_both.cls ≠ "java/lang/invoke/MethodHandle" ∧ yX9_both.cls ≠ "java/lang/invoke/VarHandle" ∧ (parseMethodDescriptor yX9_both.desc).map (fun d => d.parameters.length) = some 2 := by decide +kernel
theorem h_X10_both : yX10_both.cls ≠ "java/lang/invoke/MethodHandle" ∧ yX10_both.cls ≠ "java/lang/invoke/VarHandle" ∧ (parseMethodDescriptor yX10_both.desc).map (fun d => d.parameters.length) = some 2 := by decide +kernel
theorem h_X9_nearest : yX9_nearest.cls ≠ "java/lang/invoke/MethodHandle" ∧ yX9_nearest.cls ≠ "java/lang/invoke/VarHandle" ∧ (parseMethodDescriptor yX9_nearest.desc).map (fun d => d.parameters.length) = some 1 := by decide +kernel
theorem h_X10_nearest : yX10_nearest.cls ≠ "java/lang/invoke/MethodHandle" ∧ yX10_nearest.cls ≠ "java/lang/invoke/VarHandle" ∧ (parseMethodDescriptor yX10_nearest.desc).map (fun d => d.parameters.length) = some 1 := by decide +kernel
theorem h_X9_fewest : yX9_fewest.cls ≠ "java/lang/invoke/MethodHandle" ∧ yX9_fewest.cls ≠ "java/lang/invoke/VarHandle" ∧ (parseMethodDescriptor yX9_fewest.desc).map (fun d => d.parameters.length) = some 0 := by decide +kernel
theorem h_X10_fewest : yX10_fewest.cls ≠ "java/lang/invoke/MethodHandle" ∧ yX10_fewest.cls ≠ "java/lang/invoke/VarHandle" ∧ (parseMethodDescriptor yX10_fewest.desc).map (fun d => d.parameters.length) = some 0 := by decide +kernel
theorem h_X9_needed : yX9_needed.cls ≠ "java/lang/invoke/MethodHandle" ∧ yX9_needed.cls ≠ "java/lang/invoke/VarHandle" ∧ (parseMethodDescriptor yX9_needed.desc).map (fun d => d.parameters.length) = some 0 := by decide +kernel
theorem h_X10_needed : yX10_needed.cls ≠ "java/lang/invoke/MethodHandle" ∧ yX10_needed.cls ≠ "java/lang/invoke/VarHandle" ∧ (parseMethodDescriptor yX10_needed.desc).map (fun d => d.parameters.length) = some 0 := by decide +kernel
theorem h_X9_birds : yX9_birds.cls ≠ "java/lang/invoke/MethodHandle" ∧ yX9_birds.cls ≠ "java/lang/invoke/VarHandle" ∧ (parseMethodDescriptor yX9_birds.desc).map (fun d => d.parameters.length) = some 1 := by decide +kernel
theorem h_X10_birds : yX10_birds.cls ≠ "java/lang/invoke/MethodHandle" ∧ yX10_birds.cls ≠ "java/lang/invoke/VarHandle" ∧ (parseMethodDescriptor yX10_birds.desc).map (fun d => d.parameters.length) = some 1 := by decide +kernel
theorem h_X9_next : yX9_next.cls ≠ "java/lang/invoke/MethodHandle" ∧ yX9_next.cls ≠ "java/lang/invoke/VarHandle" ∧ (parseMethodDescriptor yX9_next.desc).map (fun d => d.parameters.length) = some 1 := by decide +kernel
theorem h_X10_next : yX10_next.cls ≠ "java/lang/invoke/MethodHandle" ∧ yX10_next.cls ≠ "java/lang/invoke/VarHandle" ∧ (parseMethodDescriptor yX10_next.desc).map (fun d => d.parameters.length) = some 1 := by decide +kernel
theorem h_X9_route : yX9_route.cls ≠ "java/lang/invoke/MethodHandle" ∧ yX9_route.cls ≠ "java/lang/invoke/VarHandle" ∧ (parseMethodDescriptor yX9_route.desc).map (fun d => d.parameters.length) = some 1 := by decide +kernel
theorem h_X10_route : yX10_route.cls ≠ "java/lang/invoke/MethodHandle" ∧ yX10_route.cls ≠ "java/lang/invoke/VarHandle" ∧ (parseMethodDescriptor yX10_route.desc).map (fun d => d.parameters.length) = some 1 := by decide +kernel
theorem h_X9_work : yX9_work.cls ≠ "java/lang/invoke/MethodHandle" ∧ yX9_work.cls ≠ "java/lang/invoke/VarHandle" ∧ (parseMethodDescriptor yX9_work.desc).map (fun d => d.parameters.length) = some 1 := by decide +kernel
theorem h_X10_work : yX10_work.cls ≠ "java/lang/invoke/MethodHandle" ∧ yX10_work.cls ≠ "java/lang/invoke/VarHandle" ∧ (parseMethodDescriptor yX10_work.desc).map (fun d => d.parameters.length) = some 1 := by decide +kernel
theorem h_X9_soonest : yX9_soonest.cls ≠ "java/lang/invoke/MethodHandle" ∧ yX9_soonest.cls ≠ "java/lang/invoke/VarHandle" ∧ (parseMethodDescriptor yX9_soonest.desc).map (fun d => d.parameters.length) = some 0 := by decide +kernel
theorem h_X10_soonest : yX10_soonest.cls ≠ "java/lang/invoke/MethodHandle" ∧ yX10_soonest.cls ≠ "java/lang/invoke/VarHandle" ∧ (parseMethodDescriptor yX10_soonest.desc).map (fun d => d.parameters.length) = some 0 := by decide +kernel
theorem h_X9_pays : yX9_pays.cls ≠ "java/lang/invoke/MethodHandle" ∧ yX9_pays.cls ≠ "java/lang/invoke/VarHandle" ∧ (parseMethodDescriptor yX9_pays.desc).map (fun d => d.parameters.length) = some 1 := by decide +kernel
theorem h_X10_pays : yX10_pays.cls ≠ "java/lang/invoke/MethodHandle" ∧ yX10_pays.cls ≠ "java/lang/invoke/VarHandle" ∧ (parseMethodDescriptor yX10_pays.desc).map (fun d => d.parameters.length) = some 1 := by decide +kernel
theorem h_X9_trips : yX9_trips.cls ≠ "java/lang/invoke/MethodHandle" ∧ yX9_trips.cls ≠ "java/lang/invoke/VarHandle" ∧ (parseMethodDescriptor yX9_trips.desc).map (fun d => d.parameters.length) = some 1 := by decide +kernel
theorem h_X10_trips : yX10_trips.cls ≠ "java/lang/invoke/MethodHandle" ∧ yX10_trips.cls ≠ "java/lang/invoke/VarHandle" ∧ (parseMethodDescriptor yX10_trips.desc).map (fun d => d.parameters.length) = some 1 := by decide +kernel
theorem h_X9_helps : yX9_helps.cls ≠ "java/lang/invoke/MethodHandle" ∧ yX9_helps.cls ≠ "java/lang/invoke/VarHandle" ∧ (parseMethodDescriptor yX9_helps.desc).map (fun d => d.parameters.length) = some 0 := by decide +kernel
theorem h_X10_helps : yX10_helps.cls ≠ "java/lang/invoke/MethodHandle" ∧ yX10_helps.cls ≠ "java/lang/invoke/VarHandle" ∧ (parseMethodDescriptor yX10_helps.desc).map (fun d => d.parameters.length) = some 0 := by decide +kernel
theorem h_X9_hooked : yX9_hooked.cls ≠ "java/lang/invoke/MethodHandle" ∧ yX9_hooked.cls ≠ "java/lang/invoke/VarHandle" ∧ (parseMethodDescriptor yX9_hooked.desc).map (fun d => d.parameters.length) = some 0 := by decide +kernel
theorem h_X10_hooked : yX10_hooked.cls ≠ "java/lang/invoke/MethodHandle" ∧ yX10_hooked.cls ≠ "java/lang/invoke/VarHandle" ∧ (parseMethodDescriptor yX10_hooked.desc).map (fun d => d.parameters.length) = some 0 := by decide +kernel
theorem h_X9_broken : yX9_broken.cls ≠ "java/lang/invoke/MethodHandle" ∧ yX9_broken.cls ≠ "java/lang/invoke/VarHandle" ∧ (parseMethodDescriptor yX9_broken.desc).map (fun d => d.parameters.length) = some 1 := by decide +kernel
theorem h_X10_broken : yX10_broken.cls ≠ "java/lang/invoke/MethodHandle" ∧ yX10_broken.cls ≠ "java/lang/invoke/VarHandle" ∧ (parseMethodDescriptor yX10_broken.desc).map (fun d => d.parameters.length) = some 1 := by decide +kernel
theorem h_X9_sweep : yX9_sweep.cls ≠ "java/lang/invoke/MethodHandle" ∧ yX9_sweep.cls ≠ "java/lang/invoke/VarHandle" ∧ (parseMethodDescriptor yX9_sweep.desc).map (fun d => d.parameters.length) = some 1 := by decide +kernel
theorem h_X10_sweep : yX10_sweep.cls ≠ "java/lang/invoke/MethodHandle" ∧ yX10_sweep.cls ≠ "java/lang/invoke/VarHandle" ∧ (parseMethodDescriptor yX10_sweep.desc).map (fun d => d.parameters.length) = some 1 := by decide +kernel
theorem h_X9_dusk : yX9_dusk.cls ≠ "java/lang/invoke/MethodHandle" ∧ yX9_dusk.cls ≠ "java/lang/invoke/VarHandle" ∧ (parseMethodDescriptor yX9_dusk.desc).map (fun d => d.parameters.length) = some 1 := by decide +kernel
theorem h_X10_dusk : yX10_dusk.cls ≠ "java/lang/invoke/MethodHandle" ∧ yX10_dusk.cls ≠ "java/lang/invoke/VarHandle" ∧ (parseMethodDescriptor yX10_dusk.desc).map (fun d => d.parameters.length) = some 1 := by decide +kernel
theorem h_X9_gentle : yX9_gentle.cls ≠ "java/lang/invoke/MethodHandle" ∧ yX9_gentle.cls ≠ "java/lang/invoke/VarHandle" ∧ (parseMethodDescriptor yX9_gentle.desc).map (fun d => d.parameters.length) = some 0 := by decide +kernel
theorem h_X10_gentle : yX10_gentle.cls ≠ "java/lang/invoke/MethodHandle" ∧ yX10_gentle.cls ≠ "java/lang/invoke/VarHandle" ∧ (parseMethodDescriptor yX10_gentle.desc).map (fun d => d.parameters.length) = some 0 := by decide +kernel
theorem h_X9_harm : yX9_harm.cls ≠ "java/lang/invoke/MethodHandle" ∧ yX9_harm.cls ≠ "java/lang/invoke/VarHandle" ∧ (parseMethodDescriptor yX9_harm.desc).map (fun d => d.parameters.length) = some 0 := by decide +kernel
theorem h_X10_harm : yX10_harm.cls ≠ "java/lang/invoke/MethodHandle" ∧ yX10_harm.cls ≠ "java/lang/invoke/VarHandle" ∧ (parseMethodDescriptor yX10_harm.desc).map (fun d => d.parameters.length) = some 0 := by decide +kernel
theorem h_X9_share : yX9_share.cls ≠ "java/lang/invoke/MethodHandle" ∧ yX9_share.cls ≠ "java/lang/invoke/VarHandle" ∧ (parseMethodDescriptor yX9_share.desc).map (fun d => d.parameters.length) = some 1 := by decide +kernel
theorem h_X10_share : yX10_share.cls ≠ "java/lang/invoke/MethodHandle" ∧ yX10_share.cls ≠ "java/lang/invoke/VarHandle" ∧ (parseMethodDescriptor yX10_share.desc).map (fun d => d.parameters.length) = some 1 := by decide +kernel
theorem h_X9_ripens : yX9_ripens.cls ≠ "java/lang/invoke/MethodHandle" ∧ yX9_ripens.cls ≠ "java/lang/invoke/VarHandle" ∧ (parseMethodDescriptor yX9_ripens.desc).map (fun d => d.parameters.length) = some 0 := by decide +kernel
theorem h_X10_ripens : yX10_ripens.cls ≠ "java/lang/invoke/MethodHandle" ∧ yX10_ripens.cls ≠ "java/lang/invoke/VarHandle" ∧ (parseMethodDescriptor yX10_ripens.desc).map (fun d => d.parameters.length) = some 0 := by decide +kernel
theorem h_X9_ondays : yX9_ondays.cls ≠ "java/lang/invoke/MethodHandle" ∧ yX9_ondays.cls ≠ "java/lang/invoke/VarHandle" ∧ (parseMethodDescriptor yX9_ondays.desc).map (fun d => d.parameters.length) = some 1 := by decide +kernel
theorem h_X10_ondays : yX10_ondays.cls ≠ "java/lang/invoke/MethodHandle" ∧ yX10_ondays.cls ≠ "java/lang/invoke/VarHandle" ∧ (parseMethodDescriptor yX10_ondays.desc).map (fun d => d.parameters.length) = some 1 := by decide +kernel
theorem h_X9_allripe : yX9_allripe.cls ≠ "java/lang/invoke/MethodHandle" ∧ yX9_allripe.cls ≠ "java/lang/invoke/VarHandle" ∧ (parseMethodDescriptor yX9_allripe.desc).map (fun d => d.parameters.length) = some 0 := by decide +kernel
theorem h_X10_allripe : yX10_allripe.cls ≠ "java/lang/invoke/MethodHandle" ∧ yX10_allripe.cls ≠ "java/lang/invoke/VarHandle" ∧ (parseMethodDescriptor yX10_allripe.desc).map (fun d => d.parameters.length) = some 0 := by decide +kernel
theorem h_X9_marks : yX9_marks.cls ≠ "java/lang/invoke/MethodHandle" ∧ yX9_marks.cls ≠ "java/lang/invoke/VarHandle" ∧ (parseMethodDescriptor yX9_marks.desc).map (fun d => d.parameters.length) = some 2 := by decide +kernel
theorem h_X10_marks : yX10_marks.cls ≠ "java/lang/invoke/MethodHandle" ∧ yX10_marks.cls ≠ "java/lang/invoke/VarHandle" ∧ (parseMethodDescriptor yX10_marks.desc).map (fun d => d.parameters.length) = some 2 := by decide +kernel
theorem h_X9_grass : yX9_grass.cls ≠ "java/lang/invoke/MethodHandle" ∧ yX9_grass.cls ≠ "java/lang/invoke/VarHandle" ∧ (parseMethodDescriptor yX9_grass.desc).map (fun d => d.parameters.length) = some 1 := by decide +kernel
theorem h_X10_grass : yX10_grass.cls ≠ "java/lang/invoke/MethodHandle" ∧ yX10_grass.cls ≠ "java/lang/invoke/VarHandle" ∧ (parseMethodDescriptor yX10_grass.desc).map (fun d => d.parameters.length) = some 1 := by decide +kernel
theorem h_X9_fits : yX9_fits.cls ≠ "java/lang/invoke/MethodHandle" ∧ yX9_fits.cls ≠ "java/lang/invoke/VarHandle" ∧ (parseMethodDescriptor yX9_fits.desc).map (fun d => d.parameters.length) = some 1 := by decide +kernel
theorem h_X10_fits : yX10_fits.cls ≠ "java/lang/invoke/MethodHandle" ∧ yX10_fits.cls ≠ "java/lang/invoke/VarHandle" ∧ (parseMethodDescriptor yX10_fits.desc).map (fun d => d.parameters.length) = some 1 := by decide +kernel
theorem h_X9_leaned : yX9_leaned.cls ≠ "java/lang/invoke/MethodHandle" ∧ yX9_leaned.cls ≠ "java/lang/invoke/VarHandle" ∧ (parseMethodDescriptor yX9_leaned.desc).map (fun d => d.parameters.length) = some 2 := by decide +kernel
theorem h_X10_leaned : yX10_leaned.cls ≠ "java/lang/invoke/MethodHandle" ∧ yX10_leaned.cls ≠ "java/lang/invoke/VarHandle" ∧ (parseMethodDescriptor yX10_leaned.desc).map (fun d => d.parameters.length) = some 2 := by decide +kernel
theorem h_X9_autumn : yX9_autumn.cls ≠ "java/lang/invoke/MethodHandle" ∧ yX9_autumn.cls ≠ "java/lang/invoke/VarHandle" ∧ (parseMethodDescriptor yX9_autumn.desc).map (fun d => d.parameters.length) = some 3 := by decide +kernel
theorem h_X10_autumn : yX10_autumn.cls ≠ "java/lang/invoke/MethodHandle" ∧ yX10_autumn.cls ≠ "java/lang/invoke/VarHandle" ∧ (parseMethodDescriptor yX10_autumn.desc).map (fun d => d.parameters.length) = some 3 := by decide +kernel
theorem h_X9_keep : yX9_keep.cls ≠ "java/lang/invoke/MethodHandle" ∧ yX9_keep.cls ≠ "java/lang/invoke/VarHandle" ∧ (parseMethodDescriptor yX9_keep.desc).map (fun d => d.parameters.length) = some 1 := by decide +kernel
theorem h_X10_keep : yX10_keep.cls ≠ "java/lang/invoke/MethodHandle" ∧ yX10_keep.cls ≠ "java/lang/invoke/VarHandle" ∧ (parseMethodDescriptor yX10_keep.desc).map (fun d => d.parameters.length) = some 1 := by decide +kernel
theorem h_X9_again : yX9_again.cls ≠ "java/lang/invoke/MethodHandle" ∧ yX9_again.cls ≠ "java/lang/invoke/VarHandle" ∧ (parseMethodDescriptor yX9_again.desc).map (fun d => d.parameters.length) = some 1 := by decide +kernel
theorem h_X10_again : yX10_again.cls ≠ "java/lang/invoke/MethodHandle" ∧ yX10_again.cls ≠ "java/lang/invoke/VarHandle" ∧ (parseMethodDescriptor yX10_again.desc).map (fun d => d.parameters.length) = some 1 := by decide +kernel
theorem h_X9_count : yX9_count.cls ≠ "java/lang/invoke/MethodHandle" ∧ yX9_count.cls ≠ "java/lang/invoke/VarHandle" ∧ (parseMethodDescriptor yX9_count.desc).map (fun d => d.parameters.length) = some 1 := by decide +kernel
theorem h_X10_count : yX10_count.cls ≠ "java/lang/invoke/MethodHandle" ∧ yX10_count.cls ≠ "java/lang/invoke/VarHandle" ∧ (parseMethodDescriptor yX10_count.desc).map (fun d => d.parameters.length) = some 1 := by decide +kernel
theorem h_L_row : yL_row.cls ≠ "java/lang/invoke/MethodHandle" ∧ yL_row.cls ≠ "java/lang/invoke/VarHandle" ∧ (parseMethodDescriptor yL_row.desc).map (fun d => d.parameters.length) = some 3 := by decide +kernel
theorem h_X10_row : yX10_row.cls ≠ "java/lang/invoke/MethodHandle" ∧ yX10_row.cls ≠ "java/lang/invoke/VarHandle" ∧ (parseMethodDescriptor yX10_row.desc).map (fun d => d.parameters.length) = some 1 := by decide +kernel
theorem h_X9_init : yX9_init.cls ≠ "java/lang/invoke/MethodHandle" ∧ yX9_init.cls ≠ "java/lang/invoke/VarHandle" ∧ (parseMethodDescriptor yX9_init.desc).map (fun d => d.parameters.length) = some 0 := by decide +kernel
theorem h_X10_init : yX10_init.cls ≠ "java/lang/invoke/MethodHandle" ∧ yX10_init.cls ≠ "java/lang/invoke/VarHandle" ∧ (parseMethodDescriptor yX10_init.desc).map (fun d => d.parameters.length) = some 0 := by decide +kernel
