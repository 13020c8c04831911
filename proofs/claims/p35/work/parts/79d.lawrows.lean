theorem dL_law_1057 : decode cL_law 1057 = .ok (.pop, 1) := dq_87 dp_cL_law rfl
theorem dL_law_1058 : decode cL_law 1058 = .ok (.goto 312, 3) := dq_167 (v := 312) dp_cL_law rfl rfl
theorem dL_law_1061 : decode cL_law 1061 = .ok (.aload_n 1, 1) := dq_43 dp_cL_law rfl
theorem dL_law_1062 : decode cL_law 1062 = .ok (.aload_n 0, 1) := dq_42 dp_cL_law rfl
theorem dL_law_1063 : decode cL_law 1063 = .ok (.iload_n 3, 1) := dq_29 dp_cL_law rfl
theorem dL_law_1064 : decode cL_law 1064 = .ok (.iconst 1, 1) := dq_4 dp_cL_law rfl
theorem dL_law_1065 : decode cL_law 1065 = .ok (.iadd, 1) := dq_96 dp_cL_law rfl
theorem dL_law_1066 : decode cL_law 1066 = .ok (.iaload, 1) := dq_46 dp_cL_law rfl
theorem dL_law_1067 : decode cL_law 1067 = .ok (.aload_n 0, 1) := dq_42 dp_cL_law rfl
theorem dL_law_1068 : decode cL_law 1068 = .ok (.iload_n 3, 1) := dq_29 dp_cL_law rfl
theorem dL_law_1069 : decode cL_law 1069 = .ok (.iconst 2, 1) := dq_5 dp_cL_law rfl
theorem dL_law_1070 : decode cL_law 1070 = .ok (.iadd, 1) := dq_96 dp_cL_law rfl
theorem dL_law_1071 : decode cL_law 1071 = .ok (.iaload, 1) := dq_46 dp_cL_law rfl
theorem dL_law_1072 : decode cL_law 1072 = .ok (.invokevirtual 123, 3) := dq_182 dp_cL_law rfl
theorem dL_law_1075 : decode cL_law 1075 = .ok (.pop, 1) := dq_87 dp_cL_law rfl
theorem dL_law_1076 : decode cL_law 1076 = .ok (.aload_n 2, 1) := dq_44 dp_cL_law rfl
theorem dL_law_1077 : decode cL_law 1077 = .ok (.aload_n 0, 1) := dq_42 dp_cL_law rfl
theorem dL_law_1078 : decode cL_law 1078 = .ok (.iload_n 3, 1) := dq_29 dp_cL_law rfl
theorem dL_law_1079 : decode cL_law 1079 = .ok (.iconst 1, 1) := dq_4 dp_cL_law rfl
theorem dL_law_1080 : decode cL_law 1080 = .ok (.iadd, 1) := dq_96 dp_cL_law rfl
theorem dL_law_1081 : decode cL_law 1081 = .ok (.iaload, 1) := dq_46 dp_cL_law rfl
theorem dL_law_1082 : decode cL_law 1082 = .ok (.aload_n 0, 1) := dq_42 dp_cL_law rfl
theorem dL_law_1083 : decode cL_law 1083 = .ok (.iload_n 3, 1) := dq_29 dp_cL_law rfl
theorem dL_law_1084 : decode cL_law 1084 = .ok (.iconst 2, 1) := dq_5 dp_cL_law rfl
theorem dL_law_1085 : decode cL_law 1085 = .ok (.iadd, 1) := dq_96 dp_cL_law rfl
theorem dL_law_1086 : decode cL_law 1086 = .ok (.iaload, 1) := dq_46 dp_cL_law rfl
theorem dL_law_1087 : decode cL_law 1087 = .ok (.invokevirtual 126, 3) := dq_182 dp_cL_law rfl
theorem dL_law_1090 : decode cL_law 1090 = .ok (.pop, 1) := dq_87 dp_cL_law rfl
theorem dL_law_1091 : decode cL_law 1091 = .ok (.goto 279, 3) := dq_167 (v := 279) dp_cL_law rfl rfl
theorem dL_law_1094 : decode cL_law 1094 = .ok (.aload_n 1, 1) := dq_43 dp_cL_law rfl
theorem dL_law_1095 : decode cL_law 1095 = .ok (.aload_n 0, 1) := dq_42 dp_cL_law rfl
theorem dL_law_1096 : decode cL_law 1096 = .ok (.iload_n 3, 1) := dq_29 dp_cL_law rfl
theorem dL_law_1097 : decode cL_law 1097 = .ok (.iconst 1, 1) := dq_4 dp_cL_law rfl
theorem dL_law_1098 : decode cL_law 1098 = .ok (.iadd, 1) := dq_96 dp_cL_law rfl
theorem dL_law_1099 : decode cL_law 1099 = .ok (.iaload, 1) := dq_46 dp_cL_law rfl
theorem dL_law_1100 : decode cL_law 1100 = .ok (.aload_n 0, 1) := dq_42 dp_cL_law rfl
theorem dL_law_1101 : decode cL_law 1101 = .ok (.iload_n 3, 1) := dq_29 dp_cL_law rfl
theorem dL_law_1102 : decode cL_law 1102 = .ok (.iconst 2, 1) := dq_5 dp_cL_law rfl
theorem dL_law_1103 : decode cL_law 1103 = .ok (.iadd, 1) := dq_96 dp_cL_law rfl
theorem dL_law_1104 : decode cL_law 1104 = .ok (.iaload, 1) := dq_46 dp_cL_law rfl
theorem dL_law_1105 : decode cL_law 1105 = .ok (.aload_n 0, 1) := dq_42 dp_cL_law rfl
theorem dL_law_1106 : decode cL_law 1106 = .ok (.iload_n 3, 1) := dq_29 dp_cL_law rfl
theorem dL_law_1107 : decode cL_law 1107 = .ok (.iconst 3, 1) := dq_6 dp_cL_law rfl
theorem dL_law_1108 : decode cL_law 1108 = .ok (.iadd, 1) := dq_96 dp_cL_law rfl
theorem dL_law_1109 : decode cL_law 1109 = .ok (.iaload, 1) := dq_46 dp_cL_law rfl
theorem dL_law_1110 : decode cL_law 1110 = .ok (.invokevirtual 127, 3) := dq_182 dp_cL_law rfl
theorem dL_law_1113 : decode cL_law 1113 = .ok (.pop, 1) := dq_87 dp_cL_law rfl
theorem dL_law_1114 : decode cL_law 1114 = .ok (.aload_n 2, 1) := dq_44 dp_cL_law rfl
theorem dL_law_1115 : decode cL_law 1115 = .ok (.aload_n 0, 1) := dq_42 dp_cL_law rfl
theorem dL_law_1116 : decode cL_law 1116 = .ok (.iload_n 3, 1) := dq_29 dp_cL_law rfl
theorem dL_law_1117 : decode cL_law 1117 = .ok (.iconst 1, 1) := dq_4 dp_cL_law rfl
theorem dL_law_1118 : decode cL_law 1118 = .ok (.iadd, 1) := dq_96 dp_cL_law rfl
theorem dL_law_1119 : decode cL_law 1119 = .ok (.iaload, 1) := dq_46 dp_cL_law rfl
theorem dL_law_1120 : decode cL_law 1120 = .ok (.aload_n 0, 1) := dq_42 dp_cL_law rfl
theorem dL_law_1121 : decode cL_law 1121 = .ok (.iload_n 3, 1) := dq_29 dp_cL_law rfl
theorem dL_law_1122 : decode cL_law 1122 = .ok (.iconst 2, 1) := dq_5 dp_cL_law rfl
theorem dL_law_1123 : decode cL_law 1123 = .ok (.iadd, 1) := dq_96 dp_cL_law rfl
theorem dL_law_1124 : decode cL_law 1124 = .ok (.iaload, 1) := dq_46 dp_cL_law rfl
theorem dL_law_1125 : decode cL_law 1125 = .ok (.aload_n 0, 1) := dq_42 dp_cL_law rfl
theorem dL_law_1126 : decode cL_law 1126 = .ok (.iload_n 3, 1) := dq_29 dp_cL_law rfl
theorem dL_law_1127 : decode cL_law 1127 = .ok (.iconst 3, 1) := dq_6 dp_cL_law rfl
theorem dL_law_1128 : decode cL_law 1128 = .ok (.iadd, 1) := dq_96 dp_cL_law rfl
theorem dL_law_1129 : decode cL_law 1129 = .ok (.iaload, 1) := dq_46 dp_cL_law rfl
theorem dL_law_1130 : decode cL_law 1130 = .ok (.invokevirtual 130, 3) := dq_182 dp_cL_law rfl
theorem dL_law_1133 : decode cL_law 1133 = .ok (.pop, 1) := dq_87 dp_cL_law rfl
theorem dL_law_1134 : decode cL_law 1134 = .ok (.goto 236, 3) := dq_167 (v := 236) dp_cL_law rfl rfl
theorem dL_law_1137 : decode cL_law 1137 = .ok (.aload_n 1, 1) := dq_43 dp_cL_law rfl
theorem dL_law_1138 : decode cL_law 1138 = .ok (.invokevirtual 131, 3) := dq_182 dp_cL_law rfl
theorem dL_law_1141 : decode cL_law 1141 = .ok (.pop, 1) := dq_87 dp_cL_law rfl
theorem dL_law_1142 : decode cL_law 1142 = .ok (.aload_n 2, 1) := dq_44 dp_cL_law rfl
theorem dL_law_1143 : decode cL_law 1143 = .ok (.invokevirtual 134, 3) := dq_182 dp_cL_law rfl
theorem dL_law_1146 : decode cL_law 1146 = .ok (.pop, 1) := dq_87 dp_cL_law rfl
theorem dL_law_1147 : decode cL_law 1147 = .ok (.goto 223, 3) := dq_167 (v := 223) dp_cL_law rfl rfl
theorem dL_law_1150 : decode cL_law 1150 = .ok (.aload_n 1, 1) := dq_43 dp_cL_law rfl
theorem dL_law_1151 : decode cL_law 1151 = .ok (.aload_n 0, 1) := dq_42 dp_cL_law rfl
theorem dL_law_1152 : decode cL_law 1152 = .ok (.iload_n 3, 1) := dq_29 dp_cL_law rfl
theorem dL_law_1153 : decode cL_law 1153 = .ok (.iconst 1, 1) := dq_4 dp_cL_law rfl
theorem dL_law_1154 : decode cL_law 1154 = .ok (.iadd, 1) := dq_96 dp_cL_law rfl
theorem dL_law_1155 : decode cL_law 1155 = .ok (.iaload, 1) := dq_46 dp_cL_law rfl
theorem dL_law_1156 : decode cL_law 1156 = .ok (.invokevirtual 135, 3) := dq_182 dp_cL_law rfl
theorem dL_law_1159 : decode cL_law 1159 = .ok (.pop, 1) := dq_87 dp_cL_law rfl
theorem dL_law_1160 : decode cL_law 1160 = .ok (.aload_n 2, 1) := dq_44 dp_cL_law rfl
theorem dL_law_1161 : decode cL_law 1161 = .ok (.aload_n 0, 1) := dq_42 dp_cL_law rfl
theorem dL_law_1162 : decode cL_law 1162 = .ok (.iload_n 3, 1) := dq_29 dp_cL_law rfl
theorem dL_law_1163 : decode cL_law 1163 = .ok (.iconst 1, 1) := dq_4 dp_cL_law rfl
theorem dL_law_1164 : decode cL_law 1164 = .ok (.iadd, 1) := dq_96 dp_cL_law rfl
theorem dL_law_1165 : decode cL_law 1165 = .ok (.iaload, 1) := dq_46 dp_cL_law rfl
theorem dL_law_1166 : decode cL_law 1166 = .ok (.invokevirtual 138, 3) := dq_182 dp_cL_law rfl
theorem dL_law_1169 : decode cL_law 1169 = .ok (.pop, 1) := dq_87 dp_cL_law rfl
theorem dL_law_1170 : decode cL_law 1170 = .ok (.goto 200, 3) := dq_167 (v := 200) dp_cL_law rfl rfl
theorem dL_law_1173 : decode cL_law 1173 = .ok (.aload_n 1, 1) := dq_43 dp_cL_law rfl
theorem dL_law_1174 : decode cL_law 1174 = .ok (.invokevirtual 139, 3) := dq_182 dp_cL_law rfl
theorem dL_law_1177 : decode cL_law 1177 = .ok (.pop, 1) := dq_87 dp_cL_law rfl
theorem dL_law_1178 : decode cL_law 1178 = .ok (.aload_n 2, 1) := dq_44 dp_cL_law rfl
theorem dL_law_1179 : decode cL_law 1179 = .ok (.invokevirtual 142, 3) := dq_182 dp_cL_law rfl
theorem dL_law_1182 : decode cL_law 1182 = .ok (.pop, 1) := dq_87 dp_cL_law rfl
theorem dL_law_1183 : decode cL_law 1183 = .ok (.goto 187, 3) := dq_167 (v := 187) dp_cL_law rfl rfl
theorem dL_law_1186 : decode cL_law 1186 = .ok (.aload_n 1, 1) := dq_43 dp_cL_law rfl
theorem dL_law_1187 : decode cL_law 1187 = .ok (.aload_n 0, 1) := dq_42 dp_cL_law rfl
theorem dL_law_1188 : decode cL_law 1188 = .ok (.iload_n 3, 1) := dq_29 dp_cL_law rfl
theorem dL_law_1189 : decode cL_law 1189 = .ok (.iconst 1, 1) := dq_4 dp_cL_law rfl
theorem dL_law_1190 : decode cL_law 1190 = .ok (.iadd, 1) := dq_96 dp_cL_law rfl
theorem dL_law_1191 : decode cL_law 1191 = .ok (.iaload, 1) := dq_46 dp_cL_law rfl
theorem dL_law_1192 : decode cL_law 1192 = .ok (.invokevirtual 143, 3) := dq_182 dp_cL_law rfl
theorem dL_law_1195 : decode cL_law 1195 = .ok (.pop, 1) := dq_87 dp_cL_law rfl
theorem dL_law_1196 : decode cL_law 1196 = .ok (.aload_n 2, 1) := dq_44 dp_cL_law rfl
theorem dL_law_1197 : decode cL_law 1197 = .ok (.aload_n 0, 1) := dq_42 dp_cL_law rfl
theorem dL_law_1198 : decode cL_law 1198 = .ok (.iload_n 3, 1) := dq_29 dp_cL_law rfl
theorem dL_law_1199 : decode cL_law 1199 = .ok (.iconst 1, 1) := dq_4 dp_cL_law rfl
theorem dL_law_1200 : decode cL_law 1200 = .ok (.iadd, 1) := dq_96 dp_cL_law rfl
theorem dL_law_1201 : decode cL_law 1201 = .ok (.iaload, 1) := dq_46 dp_cL_law rfl
theorem dL_law_1202 : decode cL_law 1202 = .ok (.invokevirtual 146, 3) := dq_182 dp_cL_law rfl
theorem dL_law_1205 : decode cL_law 1205 = .ok (.pop, 1) := dq_87 dp_cL_law rfl
theorem dL_law_1206 : decode cL_law 1206 = .ok (.goto 164, 3) := dq_167 (v := 164) dp_cL_law rfl rfl
theorem dL_law_1209 : decode cL_law 1209 = .ok (.aload_n 1, 1) := dq_43 dp_cL_law rfl
theorem dL_law_1210 : decode cL_law 1210 = .ok (.aload_n 0, 1) := dq_42 dp_cL_law rfl
theorem dL_law_1211 : decode cL_law 1211 = .ok (.iload_n 3, 1) := dq_29 dp_cL_law rfl
theorem dL_law_1212 : decode cL_law 1212 = .ok (.iconst 1, 1) := dq_4 dp_cL_law rfl
theorem dL_law_1213 : decode cL_law 1213 = .ok (.iadd, 1) := dq_96 dp_cL_law rfl
theorem dL_law_1214 : decode cL_law 1214 = .ok (.iaload, 1) := dq_46 dp_cL_law rfl
theorem dL_law_1215 : decode cL_law 1215 = .ok (.invokevirtual 147, 3) := dq_182 dp_cL_law rfl
theorem dL_law_1218 : decode cL_law 1218 = .ok (.pop, 1) := dq_87 dp_cL_law rfl
theorem dL_law_1219 : decode cL_law 1219 = .ok (.aload_n 2, 1) := dq_44 dp_cL_law rfl
theorem dL_law_1220 : decode cL_law 1220 = .ok (.aload_n 0, 1) := dq_42 dp_cL_law rfl
theorem dL_law_1221 : decode cL_law 1221 = .ok (.iload_n 3, 1) := dq_29 dp_cL_law rfl
theorem dL_law_1222 : decode cL_law 1222 = .ok (.iconst 1, 1) := dq_4 dp_cL_law rfl
theorem dL_law_1223 : decode cL_law 1223 = .ok (.iadd, 1) := dq_96 dp_cL_law rfl
theorem dL_law_1224 : decode cL_law 1224 = .ok (.iaload, 1) := dq_46 dp_cL_law rfl
theorem dL_law_1225 : decode cL_law 1225 = .ok (.invokevirtual 150, 3) := dq_182 dp_cL_law rfl
theorem dL_law_1228 : decode cL_law 1228 = .ok (.pop, 1) := dq_87 dp_cL_law rfl
theorem dL_law_1229 : decode cL_law 1229 = .ok (.goto 141, 3) := dq_167 (v := 141) dp_cL_law rfl rfl
theorem dL_law_1232 : decode cL_law 1232 = .ok (.aload_n 1, 1) := dq_43 dp_cL_law rfl
theorem dL_law_1233 : decode cL_law 1233 = .ok (.aload_n 0, 1) := dq_42 dp_cL_law rfl
theorem dL_law_1234 : decode cL_law 1234 = .ok (.iload_n 3, 1) := dq_29 dp_cL_law rfl
theorem dL_law_1235 : decode cL_law 1235 = .ok (.iconst 1, 1) := dq_4 dp_cL_law rfl
theorem dL_law_1236 : decode cL_law 1236 = .ok (.iadd, 1) := dq_96 dp_cL_law rfl
theorem dL_law_1237 : decode cL_law 1237 = .ok (.iaload, 1) := dq_46 dp_cL_law rfl
theorem dL_law_1238 : decode cL_law 1238 = .ok (.invokevirtual 151, 3) := dq_182 dp_cL_law rfl
theorem dL_law_1241 : decode cL_law 1241 = .ok (.pop, 1) := dq_87 dp_cL_law rfl
theorem dL_law_1242 : decode cL_law 1242 = .ok (.aload_n 2, 1) := dq_44 dp_cL_law rfl
theorem dL_law_1243 : decode cL_law 1243 = .ok (.aload_n 0, 1) := dq_42 dp_cL_law rfl
theorem dL_law_1244 : decode cL_law 1244 = .ok (.iload_n 3, 1) := dq_29 dp_cL_law rfl
theorem dL_law_1245 : decode cL_law 1245 = .ok (.iconst 1, 1) := dq_4 dp_cL_law rfl
theorem dL_law_1246 : decode cL_law 1246 = .ok (.iadd, 1) := dq_96 dp_cL_law rfl
theorem dL_law_1247 : decode cL_law 1247 = .ok (.iaload, 1) := dq_46 dp_cL_law rfl
theorem dL_law_1248 : decode cL_law 1248 = .ok (.invokevirtual 154, 3) := dq_182 dp_cL_law rfl
theorem dL_law_1251 : decode cL_law 1251 = .ok (.pop, 1) := dq_87 dp_cL_law rfl
theorem dL_law_1252 : decode cL_law 1252 = .ok (.goto 118, 3) := dq_167 (v := 118) dp_cL_law rfl rfl
theorem dL_law_1255 : decode cL_law 1255 = .ok (.aload_n 1, 1) := dq_43 dp_cL_law rfl
theorem dL_law_1256 : decode cL_law 1256 = .ok (.aload_n 0, 1) := dq_42 dp_cL_law rfl
theorem dL_law_1257 : decode cL_law 1257 = .ok (.iload_n 3, 1) := dq_29 dp_cL_law rfl
theorem dL_law_1258 : decode cL_law 1258 = .ok (.iconst 1, 1) := dq_4 dp_cL_law rfl
theorem dL_law_1259 : decode cL_law 1259 = .ok (.iadd, 1) := dq_96 dp_cL_law rfl
theorem dL_law_1260 : decode cL_law 1260 = .ok (.iaload, 1) := dq_46 dp_cL_law rfl
theorem dL_law_1261 : decode cL_law 1261 = .ok (.aload_n 0, 1) := dq_42 dp_cL_law rfl
theorem dL_law_1262 : decode cL_law 1262 = .ok (.iload_n 3, 1) := dq_29 dp_cL_law rfl
theorem dL_law_1263 : decode cL_law 1263 = .ok (.iconst 2, 1) := dq_5 dp_cL_law rfl
theorem dL_law_1264 : decode cL_law 1264 = .ok (.iadd, 1) := dq_96 dp_cL_law rfl
theorem dL_law_1265 : decode cL_law 1265 = .ok (.iaload, 1) := dq_46 dp_cL_law rfl
theorem dL_law_1266 : decode cL_law 1266 = .ok (.aload_n 0, 1) := dq_42 dp_cL_law rfl
theorem dL_law_1267 : decode cL_law 1267 = .ok (.iload_n 3, 1) := dq_29 dp_cL_law rfl
theorem dL_law_1268 : decode cL_law 1268 = .ok (.iconst 3, 1) := dq_6 dp_cL_law rfl
theorem dL_law_1269 : decode cL_law 1269 = .ok (.iadd, 1) := dq_96 dp_cL_law rfl
theorem dL_law_1270 : decode cL_law 1270 = .ok (.iaload, 1) := dq_46 dp_cL_law rfl
theorem dL_law_1271 : decode cL_law 1271 = .ok (.invokevirtual 155, 3) := dq_182 dp_cL_law rfl
theorem dL_law_1274 : decode cL_law 1274 = .ok (.aload_n 2, 1) := dq_44 dp_cL_law rfl
theorem dL_law_1275 : decode cL_law 1275 = .ok (.aload_n 0, 1) := dq_42 dp_cL_law rfl
theorem dL_law_1276 : decode cL_law 1276 = .ok (.iload_n 3, 1) := dq_29 dp_cL_law rfl
theorem dL_law_1277 : decode cL_law 1277 = .ok (.iconst 1, 1) := dq_4 dp_cL_law rfl
theorem dL_law_1278 : decode cL_law 1278 = .ok (.iadd, 1) := dq_96 dp_cL_law rfl
theorem dL_law_1279 : decode cL_law 1279 = .ok (.iaload, 1) := dq_46 dp_cL_law rfl
theorem dL_law_1280 : decode cL_law 1280 = .ok (.aload_n 0, 1) := dq_42 dp_cL_law rfl
theorem dL_law_1281 : decode cL_law 1281 = .ok (.iload_n 3, 1) := dq_29 dp_cL_law rfl
theorem dL_law_1282 : decode cL_law 1282 = .ok (.iconst 2, 1) := dq_5 dp_cL_law rfl
theorem dL_law_1283 : decode cL_law 1283 = .ok (.iadd, 1) := dq_96 dp_cL_law rfl
theorem dL_law_1284 : decode cL_law 1284 = .ok (.iaload, 1) := dq_46 dp_cL_law rfl
theorem dL_law_1285 : decode cL_law 1285 = .ok (.aload_n 0, 1) := dq_42 dp_cL_law rfl
theorem dL_law_1286 : decode cL_law 1286 = .ok (.iload_n 3, 1) := dq_29 dp_cL_law rfl
theorem dL_law_1287 : decode cL_law 1287 = .ok (.iconst 3, 1) := dq_6 dp_cL_law rfl
theorem dL_law_1288 : decode cL_law 1288 = .ok (.iadd, 1) := dq_96 dp_cL_law rfl
theorem dL_law_1289 : decode cL_law 1289 = .ok (.iaload, 1) := dq_46 dp_cL_law rfl
theorem dL_law_1290 : decode cL_law 1290 = .ok (.invokevirtual 158, 3) := dq_182 dp_cL_law rfl
theorem dL_law_1293 : decode cL_law 1293 = .ok (.if_icmp .eq 77, 3) := dq_159 (v := 77) dp_cL_law rfl rfl
theorem dL_law_1296 : decode cL_law 1296 = .ok (.iconst 0, 1) := dq_3 dp_cL_law rfl
theorem dL_law_1298 : decode cL_law 1298 = .ok (.aload_n 1, 1) := dq_43 dp_cL_law rfl
theorem dL_law_1299 : decode cL_law 1299 = .ok (.aload_n 0, 1) := dq_42 dp_cL_law rfl
theorem dL_law_1300 : decode cL_law 1300 = .ok (.iload_n 3, 1) := dq_29 dp_cL_law rfl
theorem dL_law_1301 : decode cL_law 1301 = .ok (.iconst 1, 1) := dq_4 dp_cL_law rfl
theorem dL_law_1302 : decode cL_law 1302 = .ok (.iadd, 1) := dq_96 dp_cL_law rfl
theorem dL_law_1303 : decode cL_law 1303 = .ok (.iaload, 1) := dq_46 dp_cL_law rfl
theorem dL_law_1304 : decode cL_law 1304 = .ok (.invokevirtual 159, 3) := dq_182 dp_cL_law rfl
theorem dL_law_1307 : decode cL_law 1307 = .ok (.pop, 1) := dq_87 dp_cL_law rfl
theorem dL_law_1308 : decode cL_law 1308 = .ok (.aload_n 2, 1) := dq_44 dp_cL_law rfl
theorem dL_law_1309 : decode cL_law 1309 = .ok (.aload_n 0, 1) := dq_42 dp_cL_law rfl
theorem dL_law_1310 : decode cL_law 1310 = .ok (.iload_n 3, 1) := dq_29 dp_cL_law rfl
theorem dL_law_1311 : decode cL_law 1311 = .ok (.iconst 1, 1) := dq_4 dp_cL_law rfl
theorem dL_law_1312 : decode cL_law 1312 = .ok (.iadd, 1) := dq_96 dp_cL_law rfl
theorem dL_law_1313 : decode cL_law 1313 = .ok (.iaload, 1) := dq_46 dp_cL_law rfl
theorem dL_law_1314 : decode cL_law 1314 = .ok (.invokevirtual 162, 3) := dq_182 dp_cL_law rfl
theorem dL_law_1317 : decode cL_law 1317 = .ok (.pop, 1) := dq_87 dp_cL_law rfl
theorem dL_law_1318 : decode cL_law 1318 = .ok (.goto 52, 3) := dq_167 (v := 52) dp_cL_law rfl rfl
theorem dL_law_1321 : decode cL_law 1321 = .ok (.aload_n 1, 1) := dq_43 dp_cL_law rfl
theorem dL_law_1322 : decode cL_law 1322 = .ok (.invokevirtual 163, 3) := dq_182 dp_cL_law rfl
theorem dL_law_1325 : decode cL_law 1325 = .ok (.pop, 1) := dq_87 dp_cL_law rfl
theorem dL_law_1326 : decode cL_law 1326 = .ok (.aload_n 2, 1) := dq_44 dp_cL_law rfl
theorem dL_law_1327 : decode cL_law 1327 = .ok (.invokevirtual 166, 3) := dq_182 dp_cL_law rfl
theorem dL_law_1330 : decode cL_law 1330 = .ok (.pop, 1) := dq_87 dp_cL_law rfl
theorem dL_law_1331 : decode cL_law 1331 = .ok (.goto 39, 3) := dq_167 (v := 39) dp_cL_law rfl rfl
theorem dL_law_1334 : decode cL_law 1334 = .ok (.aload_n 1, 1) := dq_43 dp_cL_law rfl
theorem dL_law_1335 : decode cL_law 1335 = .ok (.invokevirtual 167, 3) := dq_182 dp_cL_law rfl
theorem dL_law_1338 : decode cL_law 1338 = .ok (.pop, 1) := dq_87 dp_cL_law rfl
theorem dL_law_1339 : decode cL_law 1339 = .ok (.aload_n 2, 1) := dq_44 dp_cL_law rfl
theorem dL_law_1340 : decode cL_law 1340 = .ok (.invokevirtual 170, 3) := dq_182 dp_cL_law rfl
theorem dL_law_1343 : decode cL_law 1343 = .ok (.pop, 1) := dq_87 dp_cL_law rfl
theorem dL_law_1344 : decode cL_law 1344 = .ok (.goto 26, 3) := dq_167 (v := 26) dp_cL_law rfl rfl
theorem dL_law_1347 : decode cL_law 1347 = .ok (.aload_n 1, 1) := dq_43 dp_cL_law rfl
theorem dL_law_1348 : decode cL_law 1348 = .ok (.aload_n 0, 1) := dq_42 dp_cL_law rfl
theorem dL_law_1349 : decode cL_law 1349 = .ok (.iload_n 3, 1) := dq_29 dp_cL_law rfl
theorem dL_law_1350 : decode cL_law 1350 = .ok (.iconst 1, 1) := dq_4 dp_cL_law rfl
theorem dL_law_1351 : decode cL_law 1351 = .ok (.iadd, 1) := dq_96 dp_cL_law rfl
theorem dL_law_1352 : decode cL_law 1352 = .ok (.iaload, 1) := dq_46 dp_cL_law rfl
theorem dL_law_1353 : decode cL_law 1353 = .ok (.invokevirtual 171, 3) := dq_182 dp_cL_law rfl
theorem dL_law_1356 : decode cL_law 1356 = .ok (.pop, 1) := dq_87 dp_cL_law rfl
theorem dL_law_1357 : decode cL_law 1357 = .ok (.aload_n 2, 1) := dq_44 dp_cL_law rfl
theorem dL_law_1358 : decode cL_law 1358 = .ok (.aload_n 0, 1) := dq_42 dp_cL_law rfl
theorem dL_law_1359 : decode cL_law 1359 = .ok (.iload_n 3, 1) := dq_29 dp_cL_law rfl
theorem dL_law_1360 : decode cL_law 1360 = .ok (.iconst 1, 1) := dq_4 dp_cL_law rfl
theorem dL_law_1361 : decode cL_law 1361 = .ok (.iadd, 1) := dq_96 dp_cL_law rfl
theorem dL_law_1362 : decode cL_law 1362 = .ok (.iaload, 1) := dq_46 dp_cL_law rfl
theorem dL_law_1363 : decode cL_law 1363 = .ok (.invokevirtual 174, 3) := dq_182 dp_cL_law rfl
theorem dL_law_1366 : decode cL_law 1366 = .ok (.pop, 1) := dq_87 dp_cL_law rfl
theorem dL_law_1367 : decode cL_law 1367 = .ok (.goto 3, 3) := dq_167 (v := 3) dp_cL_law rfl rfl
theorem dL_law_1370 : decode cL_law 1370 = .ok (.iinc 3 6, 3) := dq_132 (v := 6) dp_cL_law rfl (by decide) rfl
theorem dL_law_1373 : decode cL_law 1373 = .ok (.goto (-1355), 3) := dq_167 (v := 64181) dp_cL_law rfl rfl
theorem dL_law_1376 : decode cL_law 1376 = .ok (.iconst 1, 1) := dq_4 dp_cL_law rfl
theorem dL_law_1377 : decode cL_law 1377 = .ok (.ireturn, 1) := dq_172 dp_cL_law rfl

