theorem dL_law_894 : decode cL_law 894 = .ok (.iadd, 1) := by decide +kernel
theorem dL_law_895 : decode cL_law 895 = .ok (.iaload, 1) := by decide +kernel
theorem dL_law_896 : decode cL_law 896 = .ok (.invokevirtual 121, 3) := by decide +kernel
theorem dL_law_899 : decode cL_law 899 = .ok (.if_icmp .eq 701, 3) := by decide +kernel
theorem dL_law_902 : decode cL_law 902 = .ok (.iconst 0, 1) := by decide +kernel
theorem dL_law_903 : decode cL_law 903 = .ok (.ireturn, 1) := by decide +kernel
theorem dL_law_904 : decode cL_law 904 = .ok (.aload_n 1, 1) := by decide +kernel
theorem dL_law_905 : decode cL_law 905 = .ok (.invokevirtual 122, 3) := by decide +kernel
theorem dL_law_908 : decode cL_law 908 = .ok (.aload_n 2, 1) := by decide +kernel
theorem dL_law_909 : decode cL_law 909 = .ok (.invokevirtual 125, 3) := by decide +kernel
theorem dL_law_912 : decode cL_law 912 = .ok (.if_icmp .eq 688, 3) := by decide +kernel
theorem dL_law_915 : decode cL_law 915 = .ok (.iconst 0, 1) := by decide +kernel
theorem dL_law_916 : decode cL_law 916 = .ok (.ireturn, 1) := by decide +kernel
theorem dL_law_917 : decode cL_law 917 = .ok (.aload_n 1, 1) := by decide +kernel
theorem dL_law_918 : decode cL_law 918 = .ok (.invokevirtual 126, 3) := by decide +kernel
theorem dL_law_921 : decode cL_law 921 = .ok (.aload_n 2, 1) := by decide +kernel
theorem dL_law_922 : decode cL_law 922 = .ok (.invokevirtual 129, 3) := by decide +kernel
theorem dL_law_925 : decode cL_law 925 = .ok (.if_icmp .eq 675, 3) := by decide +kernel
theorem dL_law_928 : decode cL_law 928 = .ok (.iconst 0, 1) := by decide +kernel
theorem dL_law_929 : decode cL_law 929 = .ok (.ireturn, 1) := by decide +kernel
theorem dL_law_930 : decode cL_law 930 = .ok (.aload_n 1, 1) := by decide +kernel
theorem dL_law_931 : decode cL_law 931 = .ok (.aload_n 0, 1) := by decide +kernel
theorem dL_law_932 : decode cL_law 932 = .ok (.iload 4, 2) := by decide +kernel
theorem dL_law_934 : decode cL_law 934 = .ok (.iconst 1, 1) := by decide +kernel
theorem dL_law_935 : decode cL_law 935 = .ok (.iadd, 1) := by decide +kernel
theorem dL_law_936 : decode cL_law 936 = .ok (.iaload, 1) := by decide +kernel
theorem dL_law_937 : decode cL_law 937 = .ok (.invokevirtual 130, 3) := by decide +kernel
theorem dL_law_940 : decode cL_law 940 = .ok (.aload_n 2, 1) := by decide +kernel
theorem dL_law_941 : decode cL_law 941 = .ok (.aload_n 0, 1) := by decide +kernel
theorem dL_law_942 : decode cL_law 942 = .ok (.iload 4, 2) := by decide +kernel
theorem dL_law_944 : decode cL_law 944 = .ok (.iconst 1, 1) := by decide +kernel
theorem dL_law_945 : decode cL_law 945 = .ok (.iadd, 1) := by decide +kernel
theorem dL_law_946 : decode cL_law 946 = .ok (.iaload, 1) := by decide +kernel
theorem dL_law_947 : decode cL_law 947 = .ok (.invokevirtual 133, 3) := by decide +kernel
theorem dL_law_950 : decode cL_law 950 = .ok (.if_icmp .eq 650, 3) := by decide +kernel
theorem dL_law_953 : decode cL_law 953 = .ok (.iconst 0, 1) := by decide +kernel
theorem dL_law_954 : decode cL_law 954 = .ok (.ireturn, 1) := by decide +kernel
theorem dL_law_955 : decode cL_law 955 = .ok (.aload_n 1, 1) := by decide +kernel
theorem dL_law_956 : decode cL_law 956 = .ok (.aload_n 0, 1) := by decide +kernel
theorem dL_law_957 : decode cL_law 957 = .ok (.iload 4, 2) := by decide +kernel
theorem dL_law_959 : decode cL_law 959 = .ok (.iconst 1, 1) := by decide +kernel
theorem dL_law_960 : decode cL_law 960 = .ok (.iadd, 1) := by decide +kernel
theorem dL_law_961 : decode cL_law 961 = .ok (.iaload, 1) := by decide +kernel
theorem dL_law_962 : decode cL_law 962 = .ok (.invokevirtual 134, 3) := by decide +kernel
theorem dL_law_965 : decode cL_law 965 = .ok (.aload_n 2, 1) := by decide +kernel
theorem dL_law_966 : decode cL_law 966 = .ok (.aload_n 0, 1) := by decide +kernel
theorem dL_law_967 : decode cL_law 967 = .ok (.iload 4, 2) := by decide +kernel
theorem dL_law_969 : decode cL_law 969 = .ok (.iconst 1, 1) := by decide +kernel
theorem dL_law_970 : decode cL_law 970 = .ok (.iadd, 1) := by decide +kernel
theorem dL_law_971 : decode cL_law 971 = .ok (.iaload, 1) := by decide +kernel
theorem dL_law_972 : decode cL_law 972 = .ok (.invokevirtual 137, 3) := by decide +kernel
theorem dL_law_975 : decode cL_law 975 = .ok (.if_icmp .eq 625, 3) := by decide +kernel
theorem dL_law_978 : decode cL_law 978 = .ok (.iconst 0, 1) := by decide +kernel
theorem dL_law_979 : decode cL_law 979 = .ok (.ireturn, 1) := by decide +kernel
theorem dL_law_980 : decode cL_law 980 = .ok (.aload_n 1, 1) := by decide +kernel
theorem dL_law_981 : decode cL_law 981 = .ok (.aload_n 0, 1) := by decide +kernel
theorem dL_law_982 : decode cL_law 982 = .ok (.iload 4, 2) := by decide +kernel
theorem dL_law_984 : decode cL_law 984 = .ok (.iconst 1, 1) := by decide +kernel
theorem dL_law_985 : decode cL_law 985 = .ok (.iadd, 1) := by decide +kernel
theorem dL_law_986 : decode cL_law 986 = .ok (.iaload, 1) := by decide +kernel
theorem dL_law_987 : decode cL_law 987 = .ok (.invokevirtual 138, 3) := by decide +kernel
theorem dL_law_990 : decode cL_law 990 = .ok (.aload_n 2, 1) := by decide +kernel
theorem dL_law_991 : decode cL_law 991 = .ok (.aload_n 0, 1) := by decide +kernel
theorem dL_law_992 : decode cL_law 992 = .ok (.iload 4, 2) := by decide +kernel
theorem dL_law_994 : decode cL_law 994 = .ok (.iconst 1, 1) := by decide +kernel
theorem dL_law_995 : decode cL_law 995 = .ok (.iadd, 1) := by decide +kernel
theorem dL_law_996 : decode cL_law 996 = .ok (.iaload, 1) := by decide +kernel
theorem dL_law_997 : decode cL_law 997 = .ok (.invokevirtual 141, 3) := by decide +kernel
theorem dL_law_1000 : decode cL_law 1000 = .ok (.if_icmp .eq 600, 3) := by decide +kernel
theorem dL_law_1003 : decode cL_law 1003 = .ok (.iconst 0, 1) := by decide +kernel
theorem dL_law_1004 : decode cL_law 1004 = .ok (.ireturn, 1) := by decide +kernel
theorem dL_law_1005 : decode cL_law 1005 = .ok (.aload_n 1, 1) := by decide +kernel
theorem dL_law_1006 : decode cL_law 1006 = .ok (.aload_n 0, 1) := by decide +kernel
theorem dL_law_1007 : decode cL_law 1007 = .ok (.iload 4, 2) := by decide +kernel
theorem dL_law_1009 : decode cL_law 1009 = .ok (.iconst 1, 1) := by decide +kernel
theorem dL_law_1010 : decode cL_law 1010 = .ok (.iadd, 1) := by decide +kernel
theorem dL_law_1011 : decode cL_law 1011 = .ok (.iaload, 1) := by decide +kernel
theorem dL_law_1012 : decode cL_law 1012 = .ok (.invokevirtual 142, 3) := by decide +kernel
theorem dL_law_1015 : decode cL_law 1015 = .ok (.aload_n 2, 1) := by decide +kernel
theorem dL_law_1016 : decode cL_law 1016 = .ok (.aload_n 0, 1) := by decide +kernel
theorem dL_law_1017 : decode cL_law 1017 = .ok (.iload 4, 2) := by decide +kernel
theorem dL_law_1019 : decode cL_law 1019 = .ok (.iconst 1, 1) := by decide +kernel
theorem dL_law_1020 : decode cL_law 1020 = .ok (.iadd, 1) := by decide +kernel
theorem dL_law_1021 : decode cL_law 1021 = .ok (.iaload, 1) := by decide +kernel
theorem dL_law_1022 : decode cL_law 1022 = .ok (.invokevirtual 145, 3) := by decide +kernel
theorem dL_law_1025 : decode cL_law 1025 = .ok (.if_icmp .eq 575, 3) := by decide +kernel
theorem dL_law_1028 : decode cL_law 1028 = .ok (.iconst 0, 1) := by decide +kernel
theorem dL_law_1029 : decode cL_law 1029 = .ok (.ireturn, 1) := by decide +kernel
theorem dL_law_1030 : decode cL_law 1030 = .ok (.aload_n 1, 1) := by decide +kernel
theorem dL_law_1031 : decode cL_law 1031 = .ok (.invokevirtual 146, 3) := by decide +kernel
theorem dL_law_1034 : decode cL_law 1034 = .ok (.aload_n 2, 1) := by decide +kernel
theorem dL_law_1035 : decode cL_law 1035 = .ok (.invokevirtual 149, 3) := by decide +kernel
theorem dL_law_1038 : decode cL_law 1038 = .ok (.if_icmp .eq 562, 3) := by decide +kernel
theorem dL_law_1041 : decode cL_law 1041 = .ok (.iconst 0, 1) := by decide +kernel
theorem dL_law_1042 : decode cL_law 1042 = .ok (.ireturn, 1) := by decide +kernel
theorem dL_law_1043 : decode cL_law 1043 = .ok (.aload_n 1, 1) := by decide +kernel
theorem dL_law_1044 : decode cL_law 1044 = .ok (.aload_n 0, 1) := by decide +kernel
theorem dL_law_1045 : decode cL_law 1045 = .ok (.iload 4, 2) := by decide +kernel
theorem dL_law_1047 : decode cL_law 1047 = .ok (.iconst 1, 1) := by decide +kernel
theorem dL_law_1048 : decode cL_law 1048 = .ok (.iadd, 1) := by decide +kernel
theorem dL_law_1049 : decode cL_law 1049 = .ok (.iaload, 1) := by decide +kernel
theorem dL_law_1050 : decode cL_law 1050 = .ok (.invokevirtual 150, 3) := by decide +kernel
theorem dL_law_1053 : decode cL_law 1053 = .ok (.aload_n 2, 1) := by decide +kernel
theorem dL_law_1054 : decode cL_law 1054 = .ok (.aload_n 0, 1) := by decide +kernel
theorem dL_law_1055 : decode cL_law 1055 = .ok (.iload 4, 2) := by decide +kernel
theorem dL_law_1057 : decode cL_law 1057 = .ok (.iconst 1, 1) := by decide +kernel
theorem dL_law_1058 : decode cL_law 1058 = .ok (.iadd, 1) := by decide +kernel
theorem dL_law_1059 : decode cL_law 1059 = .ok (.iaload, 1) := by decide +kernel
theorem dL_law_1060 : decode cL_law 1060 = .ok (.invokevirtual 153, 3) := by decide +kernel
theorem dL_law_1063 : decode cL_law 1063 = .ok (.if_icmp .eq 537, 3) := by decide +kernel
theorem dL_law_1066 : decode cL_law 1066 = .ok (.iconst 0, 1) := by decide +kernel
theorem dL_law_1067 : decode cL_law 1067 = .ok (.ireturn, 1) := by decide +kernel
theorem dL_law_1068 : decode cL_law 1068 = .ok (.aload_n 1, 1) := by decide +kernel
theorem dL_law_1069 : decode cL_law 1069 = .ok (.aload_n 0, 1) := by decide +kernel
theorem dL_law_1070 : decode cL_law 1070 = .ok (.iload 4, 2) := by decide +kernel
theorem dL_law_1072 : decode cL_law 1072 = .ok (.iconst 1, 1) := by decide +kernel
theorem dL_law_1073 : decode cL_law 1073 = .ok (.iadd, 1) := by decide +kernel
theorem dL_law_1074 : decode cL_law 1074 = .ok (.iaload, 1) := by decide +kernel
theorem dL_law_1075 : decode cL_law 1075 = .ok (.invokevirtual 154, 3) := by decide +kernel
theorem dL_law_1078 : decode cL_law 1078 = .ok (.aload_n 2, 1) := by decide +kernel
theorem dL_law_1079 : decode cL_law 1079 = .ok (.aload_n 0, 1) := by decide +kernel
theorem dL_law_1080 : decode cL_law 1080 = .ok (.iload 4, 2) := by decide +kernel
theorem dL_law_1082 : decode cL_law 1082 = .ok (.iconst 1, 1) := by decide +kernel
theorem dL_law_1083 : decode cL_law 1083 = .ok (.iadd, 1) := by decide +kernel
theorem dL_law_1084 : decode cL_law 1084 = .ok (.iaload, 1) := by decide +kernel
theorem dL_law_1085 : decode cL_law 1085 = .ok (.invokevirtual 157, 3) := by decide +kernel
theorem dL_law_1088 : decode cL_law 1088 = .ok (.if_icmp .eq 512, 3) := by decide +kernel
theorem dL_law_1091 : decode cL_law 1091 = .ok (.iconst 0, 1) := by decide +kernel
theorem dL_law_1092 : decode cL_law 1092 = .ok (.ireturn, 1) := by decide +kernel
theorem dL_law_1093 : decode cL_law 1093 = .ok (.aload_n 1, 1) := by decide +kernel
theorem dL_law_1094 : decode cL_law 1094 = .ok (.invokevirtual 158, 3) := by decide +kernel
theorem dL_law_1097 : decode cL_law 1097 = .ok (.aload_n 2, 1) := by decide +kernel
theorem dL_law_1098 : decode cL_law 1098 = .ok (.invokevirtual 161, 3) := by decide +kernel
theorem dL_law_1101 : decode cL_law 1101 = .ok (.if_icmp .eq 499, 3) := by decide +kernel
theorem dL_law_1104 : decode cL_law 1104 = .ok (.iconst 0, 1) := by decide +kernel
theorem dL_law_1105 : decode cL_law 1105 = .ok (.ireturn, 1) := by decide +kernel
theorem dL_law_1106 : decode cL_law 1106 = .ok (.aload_n 1, 1) := by decide +kernel
theorem dL_law_1107 : decode cL_law 1107 = .ok (.invokevirtual 162, 3) := by decide +kernel
theorem dL_law_1110 : decode cL_law 1110 = .ok (.aload_n 2, 1) := by decide +kernel
theorem dL_law_1111 : decode cL_law 1111 = .ok (.invokevirtual 165, 3) := by decide +kernel
theorem dL_law_1114 : decode cL_law 1114 = .ok (.if_icmp .eq 486, 3) := by decide +kernel
theorem dL_law_1117 : decode cL_law 1117 = .ok (.iconst 0, 1) := by decide +kernel
theorem dL_law_1118 : decode cL_law 1118 = .ok (.ireturn, 1) := by decide +kernel
theorem dL_law_1119 : decode cL_law 1119 = .ok (.aload_n 1, 1) := by decide +kernel
theorem dL_law_1120 : decode cL_law 1120 = .ok (.aload_n 0, 1) := by decide +kernel
theorem dL_law_1121 : decode cL_law 1121 = .ok (.iload 4, 2) := by decide +kernel
theorem dL_law_1123 : decode cL_law 1123 = .ok (.iconst 1, 1) := by decide +kernel
theorem dL_law_1124 : decode cL_law 1124 = .ok (.iadd, 1) := by decide +kernel
theorem dL_law_1125 : decode cL_law 1125 = .ok (.iaload, 1) := by decide +kernel
theorem dL_law_1126 : decode cL_law 1126 = .ok (.invokevirtual 166, 3) := by decide +kernel
theorem dL_law_1129 : decode cL_law 1129 = .ok (.aload_n 2, 1) := by decide +kernel
theorem dL_law_1130 : decode cL_law 1130 = .ok (.aload_n 0, 1) := by decide +kernel
theorem dL_law_1131 : decode cL_law 1131 = .ok (.iload 4, 2) := by decide +kernel
theorem dL_law_1133 : decode cL_law 1133 = .ok (.iconst 1, 1) := by decide +kernel
theorem dL_law_1134 : decode cL_law 1134 = .ok (.iadd, 1) := by decide +kernel
theorem dL_law_1135 : decode cL_law 1135 = .ok (.iaload, 1) := by decide +kernel
theorem dL_law_1136 : decode cL_law 1136 = .ok (.invokevirtual 169, 3) := by decide +kernel
theorem dL_law_1139 : decode cL_law 1139 = .ok (.if_icmp .eq 461, 3) := by decide +kernel
theorem dL_law_1142 : decode cL_law 1142 = .ok (.iconst 0, 1) := by decide +kernel
theorem dL_law_1143 : decode cL_law 1143 = .ok (.ireturn, 1) := by decide +kernel
theorem dL_law_1144 : decode cL_law 1144 = .ok (.aload_n 1, 1) := by decide +kernel
theorem dL_law_1145 : decode cL_law 1145 = .ok (.aload_n 0, 1) := by decide +kernel
theorem dL_law_1146 : decode cL_law 1146 = .ok (.iload 4, 2) := by decide +kernel
theorem dL_law_1148 : decode cL_law 1148 = .ok (.iconst 1, 1) := by decide +kernel
theorem dL_law_1149 : decode cL_law 1149 = .ok (.iadd, 1) := by decide +kernel
theorem dL_law_1150 : decode cL_law 1150 = .ok (.iaload, 1) := by decide +kernel
theorem dL_law_1151 : decode cL_law 1151 = .ok (.invokevirtual 170, 3) := by decide +kernel
theorem dL_law_1154 : decode cL_law 1154 = .ok (.aload_n 2, 1) := by decide +kernel
theorem dL_law_1155 : decode cL_law 1155 = .ok (.aload_n 0, 1) := by decide +kernel
theorem dL_law_1156 : decode cL_law 1156 = .ok (.iload 4, 2) := by decide +kernel
theorem dL_law_1158 : decode cL_law 1158 = .ok (.iconst 1, 1) := by decide +kernel
theorem dL_law_1159 : decode cL_law 1159 = .ok (.iadd, 1) := by decide +kernel
theorem dL_law_1160 : decode cL_law 1160 = .ok (.iaload, 1) := by decide +kernel
theorem dL_law_1161 : decode cL_law 1161 = .ok (.invokevirtual 173, 3) := by decide +kernel
theorem dL_law_1164 : decode cL_law 1164 = .ok (.if_icmp .eq 436, 3) := by decide +kernel
theorem dL_law_1167 : decode cL_law 1167 = .ok (.iconst 0, 1) := by decide +kernel
theorem dL_law_1168 : decode cL_law 1168 = .ok (.ireturn, 1) := by decide +kernel
theorem dL_law_1169 : decode cL_law 1169 = .ok (.aload_n 1, 1) := by decide +kernel
theorem dL_law_1170 : decode cL_law 1170 = .ok (.aload_n 0, 1) := by decide +kernel
theorem dL_law_1171 : decode cL_law 1171 = .ok (.iload 4, 2) := by decide +kernel
theorem dL_law_1173 : decode cL_law 1173 = .ok (.iconst 1, 1) := by decide +kernel
theorem dL_law_1174 : decode cL_law 1174 = .ok (.iadd, 1) := by decide +kernel
theorem dL_law_1175 : decode cL_law 1175 = .ok (.iaload, 1) := by decide +kernel
theorem dL_law_1176 : decode cL_law 1176 = .ok (.invokevirtual 174, 3) := by decide +kernel
theorem dL_law_1179 : decode cL_law 1179 = .ok (.aload_n 2, 1) := by decide +kernel
theorem dL_law_1180 : decode cL_law 1180 = .ok (.aload_n 0, 1) := by decide +kernel
theorem dL_law_1181 : decode cL_law 1181 = .ok (.iload 4, 2) := by decide +kernel
theorem dL_law_1183 : decode cL_law 1183 = .ok (.iconst 1, 1) := by decide +kernel
theorem dL_law_1184 : decode cL_law 1184 = .ok (.iadd, 1) := by decide +kernel
theorem dL_law_1185 : decode cL_law 1185 = .ok (.iaload, 1) := by decide +kernel
theorem dL_law_1186 : decode cL_law 1186 = .ok (.invokevirtual 177, 3) := by decide +kernel
theorem dL_law_1189 : decode cL_law 1189 = .ok (.if_icmp .eq 411, 3) := by decide +kernel
theorem dL_law_1192 : decode cL_law 1192 = .ok (.iconst 0, 1) := by decide +kernel
theorem dL_law_1193 : decode cL_law 1193 = .ok (.ireturn, 1) := by decide +kernel
theorem dL_law_1194 : decode cL_law 1194 = .ok (.aload_n 1, 1) := by decide +kernel
theorem dL_law_1195 : decode cL_law 1195 = .ok (.invokevirtual 178, 3) := by decide +kernel
theorem dL_law_1198 : decode cL_law 1198 = .ok (.aload_n 2, 1) := by decide +kernel
theorem dL_law_1199 : decode cL_law 1199 = .ok (.invokevirtual 181, 3) := by decide +kernel
theorem dL_law_1202 : decode cL_law 1202 = .ok (.if_icmp .eq 398, 3) := by decide +kernel
theorem dL_law_1205 : decode cL_law 1205 = .ok (.iconst 0, 1) := by decide +kernel
theorem dL_law_1206 : decode cL_law 1206 = .ok (.ireturn, 1) := by decide +kernel
theorem dL_law_1207 : decode cL_law 1207 = .ok (.aload_n 1, 1) := by decide +kernel
theorem dL_law_1208 : decode cL_law 1208 = .ok (.invokevirtual 182, 3) := by decide +kernel
theorem dL_law_1211 : decode cL_law 1211 = .ok (.aload_n 2, 1) := by decide +kernel
theorem dL_law_1212 : decode cL_law 1212 = .ok (.invokevirtual 185, 3) := by decide +kernel
theorem dL_law_1215 : decode cL_law 1215 = .ok (.if_icmp .eq 385, 3) := by decide +kernel
theorem dL_law_1218 : decode cL_law 1218 = .ok (.iconst 0, 1) := by decide +kernel
theorem dL_law_1219 : decode cL_law 1219 = .ok (.ireturn, 1) := by decide +kernel
theorem dL_law_1220 : decode cL_law 1220 = .ok (.aload_n 1, 1) := by decide +kernel
theorem dL_law_1221 : decode cL_law 1221 = .ok (.aload_n 0, 1) := by decide +kernel
theorem dL_law_1222 : decode cL_law 1222 = .ok (.iload 4, 2) := by decide +kernel
theorem dL_law_1224 : decode cL_law 1224 = .ok (.iconst 1, 1) := by decide +kernel
theorem dL_law_1225 : decode cL_law 1225 = .ok (.iadd, 1) := by decide +kernel
theorem dL_law_1226 : decode cL_law 1226 = .ok (.iaload, 1) := by decide +kernel
theorem dL_law_1227 : decode cL_law 1227 = .ok (.invokevirtual 186, 3) := by decide +kernel
theorem dL_law_1230 : decode cL_law 1230 = .ok (.aload_n 2, 1) := by decide +kernel
theorem dL_law_1231 : decode cL_law 1231 = .ok (.aload_n 0, 1) := by decide +kernel
theorem dL_law_1232 : decode cL_law 1232 = .ok (.iload 4, 2) := by decide +kernel
theorem dL_law_1234 : decode cL_law 1234 = .ok (.iconst 1, 1) := by decide +kernel
theorem dL_law_1235 : decode cL_law 1235 = .ok (.iadd, 1) := by decide +kernel
theorem dL_law_1236 : decode cL_law 1236 = .ok (.iaload, 1) := by decide +kernel
theorem dL_law_1237 : decode cL_law 1237 = .ok (.invokevirtual 189, 3) := by decide +kernel
theorem dL_law_1240 : decode cL_law 1240 = .ok (.if_icmp .eq 360, 3) := by decide +kernel
theorem dL_law_1243 : decode cL_law 1243 = .ok (.iconst 0, 1) := by decide +kernel
theorem dL_law_1244 : decode cL_law 1244 = .ok (.ireturn, 1) := by decide +kernel
theorem dL_law_1245 : decode cL_law 1245 = .ok (.aload_n 1, 1) := by decide +kernel
theorem dL_law_1246 : decode cL_law 1246 = .ok (.invokevirtual 190, 3) := by decide +kernel
theorem dL_law_1249 : decode cL_law 1249 = .ok (.aload_n 2, 1) := by decide +kernel
theorem dL_law_1250 : decode cL_law 1250 = .ok (.invokevirtual 193, 3) := by decide +kernel
theorem dL_law_1253 : decode cL_law 1253 = .ok (.if_icmp .eq 347, 3) := by decide +kernel
theorem dL_law_1256 : decode cL_law 1256 = .ok (.iconst 0, 1) := by decide +kernel
theorem dL_law_1257 : decode cL_law 1257 = .ok (.ireturn, 1) := by decide +kernel
theorem dL_law_1258 : decode cL_law 1258 = .ok (.aload_n 1, 1) := by decide +kernel
theorem dL_law_1259 : decode cL_law 1259 = .ok (.aload_n 0, 1) := by decide +kernel
theorem dL_law_1260 : decode cL_law 1260 = .ok (.iload 4, 2) := by decide +kernel
theorem dL_law_1262 : decode cL_law 1262 = .ok (.iconst 1, 1) := by decide +kernel
theorem dL_law_1263 : decode cL_law 1263 = .ok (.iadd, 1) := by decide +kernel
theorem dL_law_1264 : decode cL_law 1264 = .ok (.iaload, 1) := by decide +kernel
theorem dL_law_1265 : decode cL_law 1265 = .ok (.invokevirtual 194, 3) := by decide +kernel
theorem dL_law_1268 : decode cL_law 1268 = .ok (.aload_n 2, 1) := by decide +kernel
theorem dL_law_1269 : decode cL_law 1269 = .ok (.aload_n 0, 1) := by decide +kernel
theorem dL_law_1270 : decode cL_law 1270 = .ok (.iload 4, 2) := by decide +kernel
theorem dL_law_1272 : decode cL_law 1272 = .ok (.iconst 1, 1) := by decide +kernel
theorem dL_law_1273 : decode cL_law 1273 = .ok (.iadd, 1) := by decide +kernel
theorem dL_law_1274 : decode cL_law 1274 = .ok (.iaload, 1) := by decide +kernel
theorem dL_law_1275 : decode cL_law 1275 = .ok (.invokevirtual 197, 3) := by decide +kernel
theorem dL_law_1278 : decode cL_law 1278 = .ok (.if_icmp .eq 322, 3) := by decide +kernel
theorem dL_law_1281 : decode cL_law 1281 = .ok (.iconst 0, 1) := by decide +kernel
theorem dL_law_1282 : decode cL_law 1282 = .ok (.ireturn, 1) := by decide +kernel
theorem dL_law_1283 : decode cL_law 1283 = .ok (.aload_n 1, 1) := by decide +kernel
theorem dL_law_1284 : decode cL_law 1284 = .ok (.invokevirtual 198, 3) := by decide +kernel
theorem dL_law_1287 : decode cL_law 1287 = .ok (.aload_n 2, 1) := by decide +kernel
theorem dL_law_1288 : decode cL_law 1288 = .ok (.invokevirtual 201, 3) := by decide +kernel
theorem dL_law_1291 : decode cL_law 1291 = .ok (.if_icmp .eq 309, 3) := by decide +kernel
theorem dL_law_1294 : decode cL_law 1294 = .ok (.iconst 0, 1) := by decide +kernel
theorem dL_law_1295 : decode cL_law 1295 = .ok (.ireturn, 1) := by decide +kernel
theorem dL_law_1296 : decode cL_law 1296 = .ok (.aload_n 1, 1) := by decide +kernel
theorem dL_law_1297 : decode cL_law 1297 = .ok (.aload_n 0, 1) := by decide +kernel
theorem dL_law_1298 : decode cL_law 1298 = .ok (.iload 4, 2) := by decide +kernel
theorem dL_law_1300 : decode cL_law 1300 = .ok (.iconst 1, 1) := by decide +kernel
theorem dL_law_1301 : decode cL_law 1301 = .ok (.iadd, 1) := by decide +kernel
theorem dL_law_1302 : decode cL_law 1302 = .ok (.iaload, 1) := by decide +kernel
theorem dL_law_1303 : decode cL_law 1303 = .ok (.aload_n 0, 1) := by decide +kernel
theorem dL_law_1304 : decode cL_law 1304 = .ok (.iload 4, 2) := by decide +kernel
theorem dL_law_1306 : decode cL_law 1306 = .ok (.iconst 2, 1) := by decide +kernel
theorem dL_law_1307 : decode cL_law 1307 = .ok (.iadd, 1) := by decide +kernel
theorem dL_law_1308 : decode cL_law 1308 = .ok (.iaload, 1) := by decide +kernel
theorem dL_law_1309 : decode cL_law 1309 = .ok (.invokevirtual 202, 3) := by decide +kernel
theorem dL_law_1312 : decode cL_law 1312 = .ok (.aload_n 2, 1) := by decide +kernel
theorem dL_law_1313 : decode cL_law 1313 = .ok (.aload_n 0, 1) := by decide +kernel
theorem dL_law_1314 : decode cL_law 1314 = .ok (.iload 4, 2) := by decide +kernel
theorem dL_law_1316 : decode cL_law 1316 = .ok (.iconst 1, 1) := by decide +kernel
theorem dL_law_1317 : decode cL_law 1317 = .ok (.iadd, 1) := by decide +kernel
theorem dL_law_1318 : decode cL_law 1318 = .ok (.iaload, 1) := by decide +kernel
theorem dL_law_1319 : decode cL_law 1319 = .ok (.aload_n 0, 1) := by decide +kernel
theorem dL_law_1320 : decode cL_law 1320 = .ok (.iload 4, 2) := by decide +kernel
theorem dL_law_1322 : decode cL_law 1322 = .ok (.iconst 2, 1) := by decide +kernel
theorem dL_law_1323 : decode cL_law 1323 = .ok (.iadd, 1) := by decide +kernel
theorem dL_law_1324 : decode cL_law 1324 = .ok (.iaload, 1) := by decide +kernel
theorem dL_law_1325 : decode cL_law 1325 = .ok (.invokevirtual 205, 3) := by decide +kernel
theorem dL_law_1328 : decode cL_law 1328 = .ok (.if_icmp .eq 272, 3) := by decide +kernel
theorem dL_law_1331 : decode cL_law 1331 = .ok (.iconst 0, 1) := by decide +kernel
theorem dL_law_1332 : decode cL_law 1332 = .ok (.ireturn, 1) := by decide +kernel
theorem dL_law_1333 : decode cL_law 1333 = .ok (.aload_n 1, 1) := by decide +kernel
theorem dL_law_1334 : decode cL_law 1334 = .ok (.aload_n 0, 1) := by decide +kernel
theorem dL_law_1335 : decode cL_law 1335 = .ok (.iload 4, 2) := by decide +kernel
theorem dL_law_1337 : decode cL_law 1337 = .ok (.iconst 1, 1) := by decide +kernel
theorem dL_law_1338 : decode cL_law 1338 = .ok (.iadd, 1) := by decide +kernel
theorem dL_law_1339 : decode cL_law 1339 = .ok (.iaload, 1) := by decide +kernel
theorem dL_law_1340 : decode cL_law 1340 = .ok (.invokevirtual 206, 3) := by decide +kernel
theorem dL_law_1343 : decode cL_law 1343 = .ok (.aload_n 2, 1) := by decide +kernel
theorem dL_law_1344 : decode cL_law 1344 = .ok (.aload_n 0, 1) := by decide +kernel
theorem dL_law_1345 : decode cL_law 1345 = .ok (.iload 4, 2) := by decide +kernel
theorem dL_law_1347 : decode cL_law 1347 = .ok (.iconst 1, 1) := by decide +kernel
theorem dL_law_1348 : decode cL_law 1348 = .ok (.iadd, 1) := by decide +kernel
theorem dL_law_1349 : decode cL_law 1349 = .ok (.iaload, 1) := by decide +kernel
theorem dL_law_1350 : decode cL_law 1350 = .ok (.invokevirtual 209, 3) := by decide +kernel
theorem dL_law_1353 : decode cL_law 1353 = .ok (.if_icmp .eq 247, 3) := by decide +kernel
theorem dL_law_1356 : decode cL_law 1356 = .ok (.iconst 0, 1) := by decide +kernel
theorem dL_law_1357 : decode cL_law 1357 = .ok (.ireturn, 1) := by decide +kernel
theorem dL_law_1358 : decode cL_law 1358 = .ok (.aload_n 1, 1) := by decide +kernel
theorem dL_law_1359 : decode cL_law 1359 = .ok (.aload_n 0, 1) := by decide +kernel
theorem dL_law_1360 : decode cL_law 1360 = .ok (.iload 4, 2) := by decide +kernel
theorem dL_law_1362 : decode cL_law 1362 = .ok (.iconst 1, 1) := by decide +kernel
theorem dL_law_1363 : decode cL_law 1363 = .ok (.iadd, 1) := by decide +kernel
theorem dL_law_1364 : decode cL_law 1364 = .ok (.iaload, 1) := by decide +kernel
theorem dL_law_1365 : decode cL_law 1365 = .ok (.invokevirtual 210, 3) := by decide +kernel
theorem dL_law_1368 : decode cL_law 1368 = .ok (.aload_n 2, 1) := by decide +kernel
theorem dL_law_1369 : decode cL_law 1369 = .ok (.aload_n 0, 1) := by decide +kernel
theorem dL_law_1370 : decode cL_law 1370 = .ok (.iload 4, 2) := by decide +kernel
theorem dL_law_1372 : decode cL_law 1372 = .ok (.iconst 1, 1) := by decide +kernel
theorem dL_law_1373 : decode cL_law 1373 = .ok (.iadd, 1) := by decide +kernel
theorem dL_law_1374 : decode cL_law 1374 = .ok (.iaload, 1) := by decide +kernel
theorem dL_law_1375 : decode cL_law 1375 = .ok (.invokevirtual 213, 3) := by decide +kernel
theorem dL_law_1378 : decode cL_law 1378 = .ok (.if_icmp .eq 222, 3) := by decide +kernel
theorem dL_law_1381 : decode cL_law 1381 = .ok (.iconst 0, 1) := by decide +kernel
theorem dL_law_1382 : decode cL_law 1382 = .ok (.ireturn, 1) := by decide +kernel
theorem dL_law_1383 : decode cL_law 1383 = .ok (.aload_n 1, 1) := by decide +kernel
theorem dL_law_1384 : decode cL_law 1384 = .ok (.aload_n 0, 1) := by decide +kernel
theorem dL_law_1385 : decode cL_law 1385 = .ok (.iload 4, 2) := by decide +kernel
theorem dL_law_1387 : decode cL_law 1387 = .ok (.iconst 1, 1) := by decide +kernel
theorem dL_law_1388 : decode cL_law 1388 = .ok (.iadd, 1) := by decide +kernel
theorem dL_law_1389 : decode cL_law 1389 = .ok (.iaload, 1) := by decide +kernel
theorem dL_law_1390 : decode cL_law 1390 = .ok (.aload_n 0, 1) := by decide +kernel
theorem dL_law_1391 : decode cL_law 1391 = .ok (.iload 4, 2) := by decide +kernel
theorem dL_law_1393 : decode cL_law 1393 = .ok (.iconst 2, 1) := by decide +kernel
theorem dL_law_1394 : decode cL_law 1394 = .ok (.iadd, 1) := by decide +kernel
theorem dL_law_1395 : decode cL_law 1395 = .ok (.iaload, 1) := by decide +kernel
theorem dL_law_1396 : decode cL_law 1396 = .ok (.invokevirtual 214, 3) := by decide +kernel
theorem dL_law_1399 : decode cL_law 1399 = .ok (.aload_n 2, 1) := by decide +kernel
theorem dL_law_1400 : decode cL_law 1400 = .ok (.aload_n 0, 1) := by decide +kernel
theorem dL_law_1401 : decode cL_law 1401 = .ok (.iload 4, 2) := by decide +kernel
theorem dL_law_1403 : decode cL_law 1403 = .ok (.iconst 1, 1) := by decide +kernel
theorem dL_law_1404 : decode cL_law 1404 = .ok (.iadd, 1) := by decide +kernel
theorem dL_law_1405 : decode cL_law 1405 = .ok (.iaload, 1) := by decide +kernel
theorem dL_law_1406 : decode cL_law 1406 = .ok (.aload_n 0, 1) := by decide +kernel
theorem dL_law_1407 : decode cL_law 1407 = .ok (.iload 4, 2) := by decide +kernel
theorem dL_law_1409 : decode cL_law 1409 = .ok (.iconst 2, 1) := by decide +kernel
theorem dL_law_1410 : decode cL_law 1410 = .ok (.iadd, 1) := by decide +kernel
theorem dL_law_1411 : decode cL_law 1411 = .ok (.iaload, 1) := by decide +kernel
theorem dL_law_1412 : decode cL_law 1412 = .ok (.invokevirtual 217, 3) := by decide +kernel
theorem dL_law_1415 : decode cL_law 1415 = .ok (.if_icmp .eq 185, 3) := by decide +kernel
theorem dL_law_1418 : decode cL_law 1418 = .ok (.iconst 0, 1) := by decide +kernel
theorem dL_law_1419 : decode cL_law 1419 = .ok (.ireturn, 1) := by decide +kernel
theorem dL_law_1420 : decode cL_law 1420 = .ok (.aload_n 1, 1) := by decide +kernel
theorem dL_law_1421 : decode cL_law 1421 = .ok (.aload_n 0, 1) := by decide +kernel
theorem dL_law_1422 : decode cL_law 1422 = .ok (.iload 4, 2) := by decide +kernel
theorem dL_law_1424 : decode cL_law 1424 = .ok (.iconst 1, 1) := by decide +kernel
theorem dL_law_1425 : decode cL_law 1425 = .ok (.iadd, 1) := by decide +kernel
theorem dL_law_1426 : decode cL_law 1426 = .ok (.iaload, 1) := by decide +kernel
theorem dL_law_1427 : decode cL_law 1427 = .ok (.aload_n 0, 1) := by decide +kernel
theorem dL_law_1428 : decode cL_law 1428 = .ok (.iload 4, 2) := by decide +kernel
theorem dL_law_1430 : decode cL_law 1430 = .ok (.iconst 2, 1) := by decide +kernel
theorem dL_law_1431 : decode cL_law 1431 = .ok (.iadd, 1) := by decide +kernel
theorem dL_law_1432 : decode cL_law 1432 = .ok (.iaload, 1) := by decide +kernel
theorem dL_law_1433 : decode cL_law 1433 = .ok (.aload_n 0, 1) := by decide +kernel
theorem dL_law_1434 : decode cL_law 1434 = .ok (.iload 4, 2) := by decide +kernel
theorem dL_law_1436 : decode cL_law 1436 = .ok (.iconst 3, 1) := by decide +kernel
theorem dL_law_1437 : decode cL_law 1437 = .ok (.iadd, 1) := by decide +kernel
theorem dL_law_1438 : decode cL_law 1438 = .ok (.iaload, 1) := by decide +kernel
theorem dL_law_1439 : decode cL_law 1439 = .ok (.invokevirtual 218, 3) := by decide +kernel
theorem dL_law_1442 : decode cL_law 1442 = .ok (.aload_n 2, 1) := by decide +kernel
theorem dL_law_1443 : decode cL_law 1443 = .ok (.aload_n 0, 1) := by decide +kernel
theorem dL_law_1444 : decode cL_law 1444 = .ok (.iload 4, 2) := by decide +kernel
theorem dL_law_1446 : decode cL_law 1446 = .ok (.iconst 1, 1) := by decide +kernel
theorem dL_law_1447 : decode cL_law 1447 = .ok (.iadd, 1) := by decide +kernel
theorem dL_law_1448 : decode cL_law 1448 = .ok (.iaload, 1) := by decide +kernel
theorem dL_law_1449 : decode cL_law 1449 = .ok (.aload_n 0, 1) := by decide +kernel
theorem dL_law_1450 : decode cL_law 1450 = .ok (.iload 4, 2) := by decide +kernel
theorem dL_law_1452 : decode cL_law 1452 = .ok (.iconst 2, 1) := by decide +kernel
theorem dL_law_1453 : decode cL_law 1453 = .ok (.iadd, 1) := by decide +kernel
theorem dL_law_1454 : decode cL_law 1454 = .ok (.iaload, 1) := by decide +kernel
theorem dL_law_1455 : decode cL_law 1455 = .ok (.aload_n 0, 1) := by decide +kernel
theorem dL_law_1456 : decode cL_law 1456 = .ok (.iload 4, 2) := by decide +kernel
theorem dL_law_1458 : decode cL_law 1458 = .ok (.iconst 3, 1) := by decide +kernel
theorem dL_law_1459 : decode cL_law 1459 = .ok (.iadd, 1) := by decide +kernel
theorem dL_law_1460 : decode cL_law 1460 = .ok (.iaload, 1) := by decide +kernel
theorem dL_law_1461 : decode cL_law 1461 = .ok (.invokevirtual 221, 3) := by decide +kernel
theorem dL_law_1464 : decode cL_law 1464 = .ok (.if_icmp .eq 136, 3) := by decide +kernel
theorem dL_law_1467 : decode cL_law 1467 = .ok (.iconst 0, 1) := by decide +kernel
theorem dL_law_1468 : decode cL_law 1468 = .ok (.ireturn, 1) := by decide +kernel
theorem dL_law_1469 : decode cL_law 1469 = .ok (.aload_n 1, 1) := by decide +kernel
theorem dL_law_1470 : decode cL_law 1470 = .ok (.aload_n 0, 1) := by decide +kernel
theorem dL_law_1471 : decode cL_law 1471 = .ok (.iload 4, 2) := by decide +kernel
theorem dL_law_1473 : decode cL_law 1473 = .ok (.iconst 1, 1) := by decide +kernel
theorem dL_law_1474 : decode cL_law 1474 = .ok (.iadd, 1) := by decide +kernel
theorem dL_law_1475 : decode cL_law 1475 = .ok (.iaload, 1) := by decide +kernel
theorem dL_law_1476 : decode cL_law 1476 = .ok (.invokevirtual 222, 3) := by decide +kernel
theorem dL_law_1479 : decode cL_law 1479 = .ok (.aload_n 2, 1) := by decide +kernel
theorem dL_law_1480 : decode cL_law 1480 = .ok (.aload_n 0, 1) := by decide +kernel
theorem dL_law_1481 : decode cL_law 1481 = .ok (.iload 4, 2) := by decide +kernel
theorem dL_law_1483 : decode cL_law 1483 = .ok (.iconst 1, 1) := by decide +kernel
theorem dL_law_1484 : decode cL_law 1484 = .ok (.iadd, 1) := by decide +kernel
theorem dL_law_1485 : decode cL_law 1485 = .ok (.iaload, 1) := by decide +kernel
theorem dL_law_1486 : decode cL_law 1486 = .ok (.invokevirtual 225, 3) := by decide +kernel
theorem dL_law_1489 : decode cL_law 1489 = .ok (.if_icmp .eq 111, 3) := by decide +kernel
theorem dL_law_1492 : decode cL_law 1492 = .ok (.iconst 0, 1) := by decide +kernel
theorem dL_law_1493 : decode cL_law 1493 = .ok (.ireturn, 1) := by decide +kernel
theorem dL_law_1494 : decode cL_law 1494 = .ok (.aload_n 1, 1) := by decide +kernel
theorem dL_law_1495 : decode cL_law 1495 = .ok (.aload_n 0, 1) := by decide +kernel
theorem dL_law_1496 : decode cL_law 1496 = .ok (.iload 4, 2) := by decide +kernel
theorem dL_law_1498 : decode cL_law 1498 = .ok (.iconst 1, 1) := by decide +kernel
theorem dL_law_1499 : decode cL_law 1499 = .ok (.iadd, 1) := by decide +kernel
theorem dL_law_1500 : decode cL_law 1500 = .ok (.iaload, 1) := by decide +kernel
theorem dL_law_1501 : decode cL_law 1501 = .ok (.invokevirtual 226, 3) := by decide +kernel
theorem dL_law_1504 : decode cL_law 1504 = .ok (.aload_n 2, 1) := by decide +kernel
theorem dL_law_1505 : decode cL_law 1505 = .ok (.aload_n 0, 1) := by decide +kernel
theorem dL_law_1506 : decode cL_law 1506 = .ok (.iload 4, 2) := by decide +kernel
theorem dL_law_1508 : decode cL_law 1508 = .ok (.iconst 1, 1) := by decide +kernel
theorem dL_law_1509 : decode cL_law 1509 = .ok (.iadd, 1) := by decide +kernel
theorem dL_law_1510 : decode cL_law 1510 = .ok (.iaload, 1) := by decide +kernel
theorem dL_law_1511 : decode cL_law 1511 = .ok (.invokevirtual 229, 3) := by decide +kernel
theorem dL_law_1514 : decode cL_law 1514 = .ok (.if_icmp .eq 86, 3) := by decide +kernel
theorem dL_law_1517 : decode cL_law 1517 = .ok (.iconst 0, 1) := by decide +kernel
theorem dL_law_1518 : decode cL_law 1518 = .ok (.ireturn, 1) := by decide +kernel
theorem dL_law_1519 : decode cL_law 1519 = .ok (.aload_n 1, 1) := by decide +kernel
theorem dL_law_1520 : decode cL_law 1520 = .ok (.aload_n 0, 1) := by decide +kernel
theorem dL_law_1521 : decode cL_law 1521 = .ok (.iload 4, 2) := by decide +kernel
theorem dL_law_1523 : decode cL_law 1523 = .ok (.iconst 1, 1) := by decide +kernel
theorem dL_law_1524 : decode cL_law 1524 = .ok (.iadd, 1) := by decide +kernel
theorem dL_law_1525 : decode cL_law 1525 = .ok (.iaload, 1) := by decide +kernel
theorem dL_law_1526 : decode cL_law 1526 = .ok (.invokevirtual 230, 3) := by decide +kernel
theorem dL_law_1529 : decode cL_law 1529 = .ok (.aload_n 2, 1) := by decide +kernel
theorem dL_law_1530 : decode cL_law 1530 = .ok (.aload_n 0, 1) := by decide +kernel
theorem dL_law_1531 : decode cL_law 1531 = .ok (.iload 4, 2) := by decide +kernel
theorem dL_law_1533 : decode cL_law 1533 = .ok (.iconst 1, 1) := by decide +kernel
theorem dL_law_1534 : decode cL_law 1534 = .ok (.iadd, 1) := by decide +kernel
theorem dL_law_1535 : decode cL_law 1535 = .ok (.iaload, 1) := by decide +kernel
theorem dL_law_1536 : decode cL_law 1536 = .ok (.invokevirtual 233, 3) := by decide +kernel
theorem dL_law_1539 : decode cL_law 1539 = .ok (.if_icmp .eq 61, 3) := by decide +kernel
theorem dL_law_1542 : decode cL_law 1542 = .ok (.iconst 0, 1) := by decide +kernel
theorem dL_law_1543 : decode cL_law 1543 = .ok (.ireturn, 1) := by decide +kernel
theorem dL_law_1544 : decode cL_law 1544 = .ok (.aload_n 1, 1) := by decide +kernel
theorem dL_law_1545 : decode cL_law 1545 = .ok (.aload_n 0, 1) := by decide +kernel
theorem dL_law_1546 : decode cL_law 1546 = .ok (.iload 4, 2) := by decide +kernel
theorem dL_law_1548 : decode cL_law 1548 = .ok (.iconst 1, 1) := by decide +kernel
theorem dL_law_1549 : decode cL_law 1549 = .ok (.iadd, 1) := by decide +kernel
theorem dL_law_1550 : decode cL_law 1550 = .ok (.iaload, 1) := by decide +kernel
theorem dL_law_1551 : decode cL_law 1551 = .ok (.aload_n 3, 1) := by decide +kernel
theorem dL_law_1552 : decode cL_law 1552 = .ok (.invokestatic 234, 3) := by decide +kernel
theorem dL_law_1555 : decode cL_law 1555 = .ok (.istore 5, 2) := by decide +kernel
theorem dL_law_1557 : decode cL_law 1557 = .ok (.aload_n 2, 1) := by decide +kernel
theorem dL_law_1558 : decode cL_law 1558 = .ok (.aload_n 0, 1) := by decide +kernel
theorem dL_law_1559 : decode cL_law 1559 = .ok (.iload 4, 2) := by decide +kernel
theorem dL_law_1561 : decode cL_law 1561 = .ok (.iconst 1, 1) := by decide +kernel
theorem dL_law_1562 : decode cL_law 1562 = .ok (.iadd, 1) := by decide +kernel
theorem dL_law_1563 : decode cL_law 1563 = .ok (.iaload, 1) := by decide +kernel
theorem dL_law_1564 : decode cL_law 1564 = .ok (.invokevirtual 237, 3) := by decide +kernel
theorem dL_law_1567 : decode cL_law 1567 = .ok (.istore 6, 2) := by decide +kernel
theorem dL_law_1569 : decode cL_law 1569 = .ok (.aload_n 2, 1) := by decide +kernel
theorem dL_law_1570 : decode cL_law 1570 = .ok (.invokevirtual 50, 3) := by decide +kernel
theorem dL_law_1573 : decode cL_law 1573 = .ok (.iload 5, 2) := by decide +kernel
theorem dL_law_1575 : decode cL_law 1575 = .ok (.if_icmp .eq 5, 3) := by decide +kernel
theorem dL_law_1578 : decode cL_law 1578 = .ok (.iconst 0, 1) := by decide +kernel
theorem dL_law_1579 : decode cL_law 1579 = .ok (.ireturn, 1) := by decide +kernel
theorem dL_law_1580 : decode cL_law 1580 = .ok (.iload 5, 2) := by decide +kernel
theorem dL_law_1582 : decode cL_law 1582 = .ok (.ifCond .ne 15, 3) := by decide +kernel
theorem dL_law_1585 : decode cL_law 1585 = .ok (.aload_n 3, 1) := by decide +kernel
theorem dL_law_1586 : decode cL_law 1586 = .ok (.iconst 0, 1) := by decide +kernel
theorem dL_law_1587 : decode cL_law 1587 = .ok (.laload, 1) := by decide +kernel
theorem dL_law_1588 : decode cL_law 1588 = .ok (.iload 6, 2) := by decide +kernel
theorem dL_law_1590 : decode cL_law 1590 = .ok (.i2l, 1) := by decide +kernel
theorem dL_law_1591 : decode cL_law 1591 = .ok (.lcmp, 1) := by decide +kernel
theorem dL_law_1592 : decode cL_law 1592 = .ok (.ifCond .eq 5, 3) := by decide +kernel
theorem dL_law_1595 : decode cL_law 1595 = .ok (.iconst 0, 1) := by decide +kernel
theorem dL_law_1596 : decode cL_law 1596 = .ok (.ireturn, 1) := by decide +kernel
theorem dL_law_1597 : decode cL_law 1597 = .ok (.goto 3, 3) := by decide +kernel
theorem dL_law_1600 : decode cL_law 1600 = .ok (.iinc 4 5, 3) := by decide +kernel
theorem dL_law_1603 : decode cL_law 1603 = .ok (.goto (-1580), 3) := by decide +kernel
theorem dL_law_1606 : decode cL_law 1606 = .ok (.iconst 1, 1) := by decide +kernel
theorem dL_law_1607 : decode cL_law 1607 = .ok (.ireturn, 1) := by decide +kernel
