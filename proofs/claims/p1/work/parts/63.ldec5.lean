theorem dL_1052 : decode code 1052 = .ok (.aload_n 1, 1) := by decide +kernel
theorem dL_1053 : decode code 1053 = .ok (.aload_n 0, 1) := by decide +kernel
theorem dL_1054 : decode code 1054 = .ok (.iload_n 3, 1) := by decide +kernel
theorem dL_1055 : decode code 1055 = .ok (.iconst 1, 1) := by decide +kernel
theorem dL_1056 : decode code 1056 = .ok (.iadd, 1) := by decide +kernel
theorem dL_1057 : decode code 1057 = .ok (.iaload, 1) := by decide +kernel
theorem dL_1058 : decode code 1058 = .ok (.aload_n 0, 1) := by decide +kernel
theorem dL_1059 : decode code 1059 = .ok (.iload_n 3, 1) := by decide +kernel
theorem dL_1060 : decode code 1060 = .ok (.iconst 2, 1) := by decide +kernel
theorem dL_1061 : decode code 1061 = .ok (.iadd, 1) := by decide +kernel
theorem dL_1062 : decode code 1062 = .ok (.iaload, 1) := by decide +kernel
theorem dL_1063 : decode code 1063 = .ok (.invokevirtual 120, 3) := by decide +kernel
theorem dL_1066 : decode code 1066 = .ok (.aload_n 2, 1) := by decide +kernel
theorem dL_1067 : decode code 1067 = .ok (.aload_n 0, 1) := by decide +kernel
theorem dL_1068 : decode code 1068 = .ok (.iload_n 3, 1) := by decide +kernel
theorem dL_1069 : decode code 1069 = .ok (.iconst 1, 1) := by decide +kernel
theorem dL_1070 : decode code 1070 = .ok (.iadd, 1) := by decide +kernel
theorem dL_1071 : decode code 1071 = .ok (.iaload, 1) := by decide +kernel
theorem dL_1072 : decode code 1072 = .ok (.aload_n 0, 1) := by decide +kernel
theorem dL_1073 : decode code 1073 = .ok (.iload_n 3, 1) := by decide +kernel
theorem dL_1074 : decode code 1074 = .ok (.iconst 2, 1) := by decide +kernel
theorem dL_1075 : decode code 1075 = .ok (.iadd, 1) := by decide +kernel
theorem dL_1076 : decode code 1076 = .ok (.iaload, 1) := by decide +kernel
theorem dL_1077 : decode code 1077 = .ok (.invokevirtual 123, 3) := by decide +kernel
theorem dL_1080 : decode code 1080 = .ok (.if_icmp .eq 430, 3) := by decide +kernel
theorem dL_1085 : decode code 1085 = .ok (.aload_n 1, 1) := by decide +kernel
theorem dL_1086 : decode code 1086 = .ok (.aload_n 0, 1) := by decide +kernel
theorem dL_1087 : decode code 1087 = .ok (.iload_n 3, 1) := by decide +kernel
theorem dL_1088 : decode code 1088 = .ok (.iconst 1, 1) := by decide +kernel
theorem dL_1089 : decode code 1089 = .ok (.iadd, 1) := by decide +kernel
theorem dL_1090 : decode code 1090 = .ok (.iaload, 1) := by decide +kernel
theorem dL_1091 : decode code 1091 = .ok (.aload_n 0, 1) := by decide +kernel
theorem dL_1092 : decode code 1092 = .ok (.iload_n 3, 1) := by decide +kernel
theorem dL_1093 : decode code 1093 = .ok (.iconst 2, 1) := by decide +kernel
theorem dL_1094 : decode code 1094 = .ok (.iadd, 1) := by decide +kernel
theorem dL_1095 : decode code 1095 = .ok (.iaload, 1) := by decide +kernel
theorem dL_1096 : decode code 1096 = .ok (.invokevirtual 124, 3) := by decide +kernel
theorem dL_1099 : decode code 1099 = .ok (.aload_n 2, 1) := by decide +kernel
theorem dL_1100 : decode code 1100 = .ok (.aload_n 0, 1) := by decide +kernel
theorem dL_1101 : decode code 1101 = .ok (.iload_n 3, 1) := by decide +kernel
theorem dL_1102 : decode code 1102 = .ok (.iconst 1, 1) := by decide +kernel
theorem dL_1103 : decode code 1103 = .ok (.iadd, 1) := by decide +kernel
theorem dL_1104 : decode code 1104 = .ok (.iaload, 1) := by decide +kernel
theorem dL_1105 : decode code 1105 = .ok (.aload_n 0, 1) := by decide +kernel
theorem dL_1106 : decode code 1106 = .ok (.iload_n 3, 1) := by decide +kernel
theorem dL_1107 : decode code 1107 = .ok (.iconst 2, 1) := by decide +kernel
theorem dL_1108 : decode code 1108 = .ok (.iadd, 1) := by decide +kernel
theorem dL_1109 : decode code 1109 = .ok (.iaload, 1) := by decide +kernel
theorem dL_1110 : decode code 1110 = .ok (.invokevirtual 128, 3) := by decide +kernel
theorem dL_1113 : decode code 1113 = .ok (.lcmp, 1) := by decide +kernel
theorem dL_1114 : decode code 1114 = .ok (.ifCond .eq 396, 3) := by decide +kernel
theorem dL_1119 : decode code 1119 = .ok (.aload_n 1, 1) := by decide +kernel
theorem dL_1120 : decode code 1120 = .ok (.aload_n 0, 1) := by decide +kernel
theorem dL_1121 : decode code 1121 = .ok (.iload_n 3, 1) := by decide +kernel
theorem dL_1122 : decode code 1122 = .ok (.iconst 1, 1) := by decide +kernel
theorem dL_1123 : decode code 1123 = .ok (.iadd, 1) := by decide +kernel
theorem dL_1124 : decode code 1124 = .ok (.iaload, 1) := by decide +kernel
theorem dL_1125 : decode code 1125 = .ok (.invokevirtual 129, 3) := by decide +kernel
theorem dL_1128 : decode code 1128 = .ok (.aload_n 2, 1) := by decide +kernel
theorem dL_1129 : decode code 1129 = .ok (.aload_n 0, 1) := by decide +kernel
theorem dL_1130 : decode code 1130 = .ok (.iload_n 3, 1) := by decide +kernel
theorem dL_1131 : decode code 1131 = .ok (.iconst 1, 1) := by decide +kernel
theorem dL_1132 : decode code 1132 = .ok (.iadd, 1) := by decide +kernel
theorem dL_1133 : decode code 1133 = .ok (.iaload, 1) := by decide +kernel
theorem dL_1134 : decode code 1134 = .ok (.invokevirtual 132, 3) := by decide +kernel
theorem dL_1137 : decode code 1137 = .ok (.if_icmp .eq 373, 3) := by decide +kernel
theorem dL_1142 : decode code 1142 = .ok (.aload_n 1, 1) := by decide +kernel
theorem dL_1143 : decode code 1143 = .ok (.aload_n 0, 1) := by decide +kernel
theorem dL_1144 : decode code 1144 = .ok (.iload_n 3, 1) := by decide +kernel
theorem dL_1145 : decode code 1145 = .ok (.iconst 1, 1) := by decide +kernel
theorem dL_1146 : decode code 1146 = .ok (.iadd, 1) := by decide +kernel
theorem dL_1147 : decode code 1147 = .ok (.iaload, 1) := by decide +kernel
theorem dL_1148 : decode code 1148 = .ok (.aload_n 0, 1) := by decide +kernel
theorem dL_1149 : decode code 1149 = .ok (.iload_n 3, 1) := by decide +kernel
theorem dL_1150 : decode code 1150 = .ok (.iconst 2, 1) := by decide +kernel
theorem dL_1151 : decode code 1151 = .ok (.iadd, 1) := by decide +kernel
theorem dL_1152 : decode code 1152 = .ok (.iaload, 1) := by decide +kernel
theorem dL_1153 : decode code 1153 = .ok (.invokevirtual 133, 3) := by decide +kernel
theorem dL_1156 : decode code 1156 = .ok (.aload_n 2, 1) := by decide +kernel
theorem dL_1157 : decode code 1157 = .ok (.aload_n 0, 1) := by decide +kernel
theorem dL_1158 : decode code 1158 = .ok (.iload_n 3, 1) := by decide +kernel
theorem dL_1159 : decode code 1159 = .ok (.iconst 1, 1) := by decide +kernel
theorem dL_1160 : decode code 1160 = .ok (.iadd, 1) := by decide +kernel
theorem dL_1161 : decode code 1161 = .ok (.iaload, 1) := by decide +kernel
theorem dL_1162 : decode code 1162 = .ok (.aload_n 0, 1) := by decide +kernel
theorem dL_1163 : decode code 1163 = .ok (.iload_n 3, 1) := by decide +kernel
theorem dL_1164 : decode code 1164 = .ok (.iconst 2, 1) := by decide +kernel
theorem dL_1165 : decode code 1165 = .ok (.iadd, 1) := by decide +kernel
theorem dL_1166 : decode code 1166 = .ok (.iaload, 1) := by decide +kernel
theorem dL_1167 : decode code 1167 = .ok (.invokevirtual 136, 3) := by decide +kernel
theorem dL_1170 : decode code 1170 = .ok (.if_icmp .eq 340, 3) := by decide +kernel
theorem dL_1175 : decode code 1175 = .ok (.aload_n 1, 1) := by decide +kernel
theorem dL_1176 : decode code 1176 = .ok (.aload_n 0, 1) := by decide +kernel
theorem dL_1177 : decode code 1177 = .ok (.iload_n 3, 1) := by decide +kernel
theorem dL_1178 : decode code 1178 = .ok (.iconst 1, 1) := by decide +kernel
theorem dL_1179 : decode code 1179 = .ok (.iadd, 1) := by decide +kernel
theorem dL_1180 : decode code 1180 = .ok (.iaload, 1) := by decide +kernel
theorem dL_1181 : decode code 1181 = .ok (.aload_n 0, 1) := by decide +kernel
theorem dL_1182 : decode code 1182 = .ok (.iload_n 3, 1) := by decide +kernel
theorem dL_1183 : decode code 1183 = .ok (.iconst 2, 1) := by decide +kernel
theorem dL_1184 : decode code 1184 = .ok (.iadd, 1) := by decide +kernel
theorem dL_1185 : decode code 1185 = .ok (.iaload, 1) := by decide +kernel
theorem dL_1186 : decode code 1186 = .ok (.invokevirtual 137, 3) := by decide +kernel
theorem dL_1189 : decode code 1189 = .ok (.aload_n 2, 1) := by decide +kernel
theorem dL_1190 : decode code 1190 = .ok (.aload_n 0, 1) := by decide +kernel
theorem dL_1191 : decode code 1191 = .ok (.iload_n 3, 1) := by decide +kernel
theorem dL_1192 : decode code 1192 = .ok (.iconst 1, 1) := by decide +kernel
theorem dL_1193 : decode code 1193 = .ok (.iadd, 1) := by decide +kernel
theorem dL_1194 : decode code 1194 = .ok (.iaload, 1) := by decide +kernel
theorem dL_1195 : decode code 1195 = .ok (.aload_n 0, 1) := by decide +kernel
theorem dL_1196 : decode code 1196 = .ok (.iload_n 3, 1) := by decide +kernel
theorem dL_1197 : decode code 1197 = .ok (.iconst 2, 1) := by decide +kernel
theorem dL_1198 : decode code 1198 = .ok (.iadd, 1) := by decide +kernel
theorem dL_1199 : decode code 1199 = .ok (.iaload, 1) := by decide +kernel
theorem dL_1200 : decode code 1200 = .ok (.invokevirtual 140, 3) := by decide +kernel
theorem dL_1203 : decode code 1203 = .ok (.if_icmp .eq 307, 3) := by decide +kernel
theorem dL_1208 : decode code 1208 = .ok (.aload_n 1, 1) := by decide +kernel
theorem dL_1209 : decode code 1209 = .ok (.aload_n 0, 1) := by decide +kernel
theorem dL_1210 : decode code 1210 = .ok (.iload_n 3, 1) := by decide +kernel
theorem dL_1211 : decode code 1211 = .ok (.iconst 1, 1) := by decide +kernel
theorem dL_1212 : decode code 1212 = .ok (.iadd, 1) := by decide +kernel
theorem dL_1213 : decode code 1213 = .ok (.iaload, 1) := by decide +kernel
theorem dL_1214 : decode code 1214 = .ok (.aload_n 0, 1) := by decide +kernel
theorem dL_1215 : decode code 1215 = .ok (.iload_n 3, 1) := by decide +kernel
theorem dL_1216 : decode code 1216 = .ok (.iconst 2, 1) := by decide +kernel
theorem dL_1217 : decode code 1217 = .ok (.iadd, 1) := by decide +kernel
theorem dL_1218 : decode code 1218 = .ok (.iaload, 1) := by decide +kernel
theorem dL_1219 : decode code 1219 = .ok (.aload_n 0, 1) := by decide +kernel
theorem dL_1220 : decode code 1220 = .ok (.iload_n 3, 1) := by decide +kernel
theorem dL_1221 : decode code 1221 = .ok (.iconst 3, 1) := by decide +kernel
