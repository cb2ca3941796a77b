theorem dL_law_1036 : decode cL_law 1036 = .ok (.aload_n 1, 1) := by decide +kernel
theorem dL_law_1037 : decode cL_law 1037 = .ok (.aload_n 0, 1) := by decide +kernel
theorem dL_law_1038 : decode cL_law 1038 = .ok (.iload_n 3, 1) := by decide +kernel
theorem dL_law_1039 : decode cL_law 1039 = .ok (.iconst 1, 1) := by decide +kernel
theorem dL_law_1040 : decode cL_law 1040 = .ok (.iadd, 1) := by decide +kernel
theorem dL_law_1041 : decode cL_law 1041 = .ok (.iaload, 1) := by decide +kernel
theorem dL_law_1042 : decode cL_law 1042 = .ok (.invokevirtual 122, 3) := by decide +kernel
theorem dL_law_1045 : decode cL_law 1045 = .ok (.aload_n 2, 1) := by decide +kernel
theorem dL_law_1046 : decode cL_law 1046 = .ok (.aload_n 0, 1) := by decide +kernel
theorem dL_law_1047 : decode cL_law 1047 = .ok (.iload_n 3, 1) := by decide +kernel
theorem dL_law_1048 : decode cL_law 1048 = .ok (.iconst 1, 1) := by decide +kernel
theorem dL_law_1049 : decode cL_law 1049 = .ok (.iadd, 1) := by decide +kernel
theorem dL_law_1050 : decode cL_law 1050 = .ok (.iaload, 1) := by decide +kernel
theorem dL_law_1051 : decode cL_law 1051 = .ok (.invokevirtual 125, 3) := by decide +kernel
theorem dL_law_1054 : decode cL_law 1054 = .ok (.if_icmp .eq 363, 3) := by decide +kernel
theorem dL_law_1059 : decode cL_law 1059 = .ok (.aload_n 1, 1) := by decide +kernel
theorem dL_law_1060 : decode cL_law 1060 = .ok (.aload_n 0, 1) := by decide +kernel
theorem dL_law_1061 : decode cL_law 1061 = .ok (.iload_n 3, 1) := by decide +kernel
theorem dL_law_1062 : decode cL_law 1062 = .ok (.iconst 1, 1) := by decide +kernel
theorem dL_law_1063 : decode cL_law 1063 = .ok (.iadd, 1) := by decide +kernel
theorem dL_law_1064 : decode cL_law 1064 = .ok (.iaload, 1) := by decide +kernel
theorem dL_law_1065 : decode cL_law 1065 = .ok (.aload_n 0, 1) := by decide +kernel
theorem dL_law_1066 : decode cL_law 1066 = .ok (.iload_n 3, 1) := by decide +kernel
theorem dL_law_1067 : decode cL_law 1067 = .ok (.iconst 2, 1) := by decide +kernel
theorem dL_law_1068 : decode cL_law 1068 = .ok (.iadd, 1) := by decide +kernel
theorem dL_law_1069 : decode cL_law 1069 = .ok (.iaload, 1) := by decide +kernel
theorem dL_law_1070 : decode cL_law 1070 = .ok (.aload_n 0, 1) := by decide +kernel
theorem dL_law_1071 : decode cL_law 1071 = .ok (.iload_n 3, 1) := by decide +kernel
theorem dL_law_1072 : decode cL_law 1072 = .ok (.iconst 3, 1) := by decide +kernel
theorem dL_law_1073 : decode cL_law 1073 = .ok (.iadd, 1) := by decide +kernel
theorem dL_law_1074 : decode cL_law 1074 = .ok (.iaload, 1) := by decide +kernel
theorem dL_law_1075 : decode cL_law 1075 = .ok (.invokevirtual 126, 3) := by decide +kernel
theorem dL_law_1078 : decode cL_law 1078 = .ok (.aload_n 2, 1) := by decide +kernel
theorem dL_law_1079 : decode cL_law 1079 = .ok (.aload_n 0, 1) := by decide +kernel
theorem dL_law_1080 : decode cL_law 1080 = .ok (.iload_n 3, 1) := by decide +kernel
theorem dL_law_1081 : decode cL_law 1081 = .ok (.iconst 1, 1) := by decide +kernel
theorem dL_law_1082 : decode cL_law 1082 = .ok (.iadd, 1) := by decide +kernel
theorem dL_law_1083 : decode cL_law 1083 = .ok (.iaload, 1) := by decide +kernel
theorem dL_law_1084 : decode cL_law 1084 = .ok (.aload_n 0, 1) := by decide +kernel
theorem dL_law_1085 : decode cL_law 1085 = .ok (.iload_n 3, 1) := by decide +kernel
theorem dL_law_1086 : decode cL_law 1086 = .ok (.iconst 2, 1) := by decide +kernel
theorem dL_law_1087 : decode cL_law 1087 = .ok (.iadd, 1) := by decide +kernel
theorem dL_law_1088 : decode cL_law 1088 = .ok (.iaload, 1) := by decide +kernel
theorem dL_law_1089 : decode cL_law 1089 = .ok (.aload_n 0, 1) := by decide +kernel
theorem dL_law_1090 : decode cL_law 1090 = .ok (.iload_n 3, 1) := by decide +kernel
theorem dL_law_1091 : decode cL_law 1091 = .ok (.iconst 3, 1) := by decide +kernel
theorem dL_law_1092 : decode cL_law 1092 = .ok (.iadd, 1) := by decide +kernel
theorem dL_law_1093 : decode cL_law 1093 = .ok (.iaload, 1) := by decide +kernel
theorem dL_law_1094 : decode cL_law 1094 = .ok (.invokevirtual 130, 3) := by decide +kernel
theorem dL_law_1097 : decode cL_law 1097 = .ok (.lcmp, 1) := by decide +kernel
theorem dL_law_1098 : decode cL_law 1098 = .ok (.ifCond .eq 319, 3) := by decide +kernel
theorem dL_law_1103 : decode cL_law 1103 = .ok (.aload_n 1, 1) := by decide +kernel
theorem dL_law_1104 : decode cL_law 1104 = .ok (.aload_n 0, 1) := by decide +kernel
theorem dL_law_1105 : decode cL_law 1105 = .ok (.iload_n 3, 1) := by decide +kernel
theorem dL_law_1106 : decode cL_law 1106 = .ok (.iconst 1, 1) := by decide +kernel
theorem dL_law_1107 : decode cL_law 1107 = .ok (.iadd, 1) := by decide +kernel
theorem dL_law_1108 : decode cL_law 1108 = .ok (.iaload, 1) := by decide +kernel
theorem dL_law_1109 : decode cL_law 1109 = .ok (.aload_n 0, 1) := by decide +kernel
theorem dL_law_1110 : decode cL_law 1110 = .ok (.iload_n 3, 1) := by decide +kernel
theorem dL_law_1111 : decode cL_law 1111 = .ok (.iconst 2, 1) := by decide +kernel
theorem dL_law_1112 : decode cL_law 1112 = .ok (.iadd, 1) := by decide +kernel
theorem dL_law_1113 : decode cL_law 1113 = .ok (.iaload, 1) := by decide +kernel
theorem dL_law_1114 : decode cL_law 1114 = .ok (.aload_n 0, 1) := by decide +kernel
theorem dL_law_1115 : decode cL_law 1115 = .ok (.iload_n 3, 1) := by decide +kernel
theorem dL_law_1116 : decode cL_law 1116 = .ok (.iconst 3, 1) := by decide +kernel
theorem dL_law_1117 : decode cL_law 1117 = .ok (.iadd, 1) := by decide +kernel
theorem dL_law_1118 : decode cL_law 1118 = .ok (.iaload, 1) := by decide +kernel
theorem dL_law_1119 : decode cL_law 1119 = .ok (.aload_n 0, 1) := by decide +kernel
theorem dL_law_1120 : decode cL_law 1120 = .ok (.iload_n 3, 1) := by decide +kernel
theorem dL_law_1121 : decode cL_law 1121 = .ok (.iconst 4, 1) := by decide +kernel
theorem dL_law_1122 : decode cL_law 1122 = .ok (.iadd, 1) := by decide +kernel
theorem dL_law_1123 : decode cL_law 1123 = .ok (.iaload, 1) := by decide +kernel
theorem dL_law_1124 : decode cL_law 1124 = .ok (.aload_n 0, 1) := by decide +kernel
theorem dL_law_1125 : decode cL_law 1125 = .ok (.iload_n 3, 1) := by decide +kernel
theorem dL_law_1126 : decode cL_law 1126 = .ok (.iconst 5, 1) := by decide +kernel
theorem dL_law_1127 : decode cL_law 1127 = .ok (.iadd, 1) := by decide +kernel
theorem dL_law_1128 : decode cL_law 1128 = .ok (.iaload, 1) := by decide +kernel
theorem dL_law_1129 : decode cL_law 1129 = .ok (.i2l, 1) := by decide +kernel
theorem dL_law_1130 : decode cL_law 1130 = .ok (.bipush 32, 2) := by decide +kernel
theorem dL_law_1132 : decode cL_law 1132 = .ok (.lshl, 1) := by decide +kernel
theorem dL_law_1133 : decode cL_law 1133 = .ok (.aload_n 0, 1) := by decide +kernel
theorem dL_law_1134 : decode cL_law 1134 = .ok (.iload_n 3, 1) := by decide +kernel
theorem dL_law_1135 : decode cL_law 1135 = .ok (.bipush 6, 2) := by decide +kernel
theorem dL_law_1137 : decode cL_law 1137 = .ok (.iadd, 1) := by decide +kernel
theorem dL_law_1138 : decode cL_law 1138 = .ok (.iaload, 1) := by decide +kernel
theorem dL_law_1139 : decode cL_law 1139 = .ok (.i2l, 1) := by decide +kernel
theorem dL_law_1140 : decode cL_law 1140 = .ok (.ldc2_w 13, 3) := by decide +kernel
theorem dL_law_1143 : decode cL_law 1143 = .ok (.land, 1) := by decide +kernel
theorem dL_law_1144 : decode cL_law 1144 = .ok (.lor, 1) := by decide +kernel
theorem dL_law_1145 : decode cL_law 1145 = .ok (.aload_n 0, 1) := by decide +kernel
theorem dL_law_1146 : decode cL_law 1146 = .ok (.iload_n 3, 1) := by decide +kernel
theorem dL_law_1147 : decode cL_law 1147 = .ok (.bipush 7, 2) := by decide +kernel
theorem dL_law_1149 : decode cL_law 1149 = .ok (.iadd, 1) := by decide +kernel
theorem dL_law_1150 : decode cL_law 1150 = .ok (.iaload, 1) := by decide +kernel
theorem dL_law_1151 : decode cL_law 1151 = .ok (.invokevirtual 131, 3) := by decide +kernel
theorem dL_law_1154 : decode cL_law 1154 = .ok (.aload_n 2, 1) := by decide +kernel
theorem dL_law_1155 : decode cL_law 1155 = .ok (.aload_n 0, 1) := by decide +kernel
theorem dL_law_1156 : decode cL_law 1156 = .ok (.iload_n 3, 1) := by decide +kernel
theorem dL_law_1157 : decode cL_law 1157 = .ok (.iconst 1, 1) := by decide +kernel
theorem dL_law_1158 : decode cL_law 1158 = .ok (.iadd, 1) := by decide +kernel
theorem dL_law_1159 : decode cL_law 1159 = .ok (.iaload, 1) := by decide +kernel
theorem dL_law_1160 : decode cL_law 1160 = .ok (.aload_n 0, 1) := by decide +kernel
theorem dL_law_1161 : decode cL_law 1161 = .ok (.iload_n 3, 1) := by decide +kernel
theorem dL_law_1162 : decode cL_law 1162 = .ok (.iconst 2, 1) := by decide +kernel
theorem dL_law_1163 : decode cL_law 1163 = .ok (.iadd, 1) := by decide +kernel
theorem dL_law_1164 : decode cL_law 1164 = .ok (.iaload, 1) := by decide +kernel
theorem dL_law_1165 : decode cL_law 1165 = .ok (.aload_n 0, 1) := by decide +kernel
theorem dL_law_1166 : decode cL_law 1166 = .ok (.iload_n 3, 1) := by decide +kernel
theorem dL_law_1167 : decode cL_law 1167 = .ok (.iconst 3, 1) := by decide +kernel
theorem dL_law_1168 : decode cL_law 1168 = .ok (.iadd, 1) := by decide +kernel
theorem dL_law_1169 : decode cL_law 1169 = .ok (.iaload, 1) := by decide +kernel
theorem dL_law_1170 : decode cL_law 1170 = .ok (.aload_n 0, 1) := by decide +kernel
theorem dL_law_1171 : decode cL_law 1171 = .ok (.iload_n 3, 1) := by decide +kernel
theorem dL_law_1172 : decode cL_law 1172 = .ok (.iconst 4, 1) := by decide +kernel
theorem dL_law_1173 : decode cL_law 1173 = .ok (.iadd, 1) := by decide +kernel
theorem dL_law_1174 : decode cL_law 1174 = .ok (.iaload, 1) := by decide +kernel
theorem dL_law_1175 : decode cL_law 1175 = .ok (.aload_n 0, 1) := by decide +kernel
theorem dL_law_1176 : decode cL_law 1176 = .ok (.iload_n 3, 1) := by decide +kernel
theorem dL_law_1177 : decode cL_law 1177 = .ok (.iconst 5, 1) := by decide +kernel
theorem dL_law_1178 : decode cL_law 1178 = .ok (.iadd, 1) := by decide +kernel
theorem dL_law_1179 : decode cL_law 1179 = .ok (.iaload, 1) := by decide +kernel
theorem dL_law_1180 : decode cL_law 1180 = .ok (.i2l, 1) := by decide +kernel
theorem dL_law_1181 : decode cL_law 1181 = .ok (.bipush 32, 2) := by decide +kernel
theorem dL_law_1183 : decode cL_law 1183 = .ok (.lshl, 1) := by decide +kernel
theorem dL_law_1184 : decode cL_law 1184 = .ok (.aload_n 0, 1) := by decide +kernel
theorem dL_law_1185 : decode cL_law 1185 = .ok (.iload_n 3, 1) := by decide +kernel
theorem dL_law_1186 : decode cL_law 1186 = .ok (.bipush 6, 2) := by decide +kernel
theorem dL_law_1188 : decode cL_law 1188 = .ok (.iadd, 1) := by decide +kernel
theorem dL_law_1189 : decode cL_law 1189 = .ok (.iaload, 1) := by decide +kernel
theorem dL_law_1190 : decode cL_law 1190 = .ok (.i2l, 1) := by decide +kernel
theorem dL_law_1191 : decode cL_law 1191 = .ok (.ldc2_w 13, 3) := by decide +kernel
theorem dL_law_1194 : decode cL_law 1194 = .ok (.land, 1) := by decide +kernel
theorem dL_law_1195 : decode cL_law 1195 = .ok (.lor, 1) := by decide +kernel
theorem dL_law_1196 : decode cL_law 1196 = .ok (.aload_n 0, 1) := by decide +kernel
theorem dL_law_1197 : decode cL_law 1197 = .ok (.iload_n 3, 1) := by decide +kernel
theorem dL_law_1198 : decode cL_law 1198 = .ok (.bipush 7, 2) := by decide +kernel
theorem dL_law_1200 : decode cL_law 1200 = .ok (.iadd, 1) := by decide +kernel
theorem dL_law_1201 : decode cL_law 1201 = .ok (.iaload, 1) := by decide +kernel
theorem dL_law_1202 : decode cL_law 1202 = .ok (.invokevirtual 135, 3) := by decide +kernel
theorem dL_law_1205 : decode cL_law 1205 = .ok (.lcmp, 1) := by decide +kernel
theorem dL_law_1206 : decode cL_law 1206 = .ok (.ifCond .eq 211, 3) := by decide +kernel
theorem dL_law_1211 : decode cL_law 1211 = .ok (.aload_n 1, 1) := by decide +kernel
theorem dL_law_1212 : decode cL_law 1212 = .ok (.aload_n 0, 1) := by decide +kernel
theorem dL_law_1213 : decode cL_law 1213 = .ok (.iload_n 3, 1) := by decide +kernel
theorem dL_law_1214 : decode cL_law 1214 = .ok (.iconst 1, 1) := by decide +kernel
theorem dL_law_1215 : decode cL_law 1215 = .ok (.iadd, 1) := by decide +kernel
theorem dL_law_1216 : decode cL_law 1216 = .ok (.iaload, 1) := by decide +kernel
theorem dL_law_1217 : decode cL_law 1217 = .ok (.invokevirtual 136, 3) := by decide +kernel
theorem dL_law_1220 : decode cL_law 1220 = .ok (.aload_n 2, 1) := by decide +kernel
theorem dL_law_1221 : decode cL_law 1221 = .ok (.aload_n 0, 1) := by decide +kernel
theorem dL_law_1222 : decode cL_law 1222 = .ok (.iload_n 3, 1) := by decide +kernel
theorem dL_law_1223 : decode cL_law 1223 = .ok (.iconst 1, 1) := by decide +kernel
theorem dL_law_1224 : decode cL_law 1224 = .ok (.iadd, 1) := by decide +kernel
theorem dL_law_1225 : decode cL_law 1225 = .ok (.iaload, 1) := by decide +kernel
theorem dL_law_1226 : decode cL_law 1226 = .ok (.invokevirtual 139, 3) := by decide +kernel
theorem dL_law_1229 : decode cL_law 1229 = .ok (.if_icmp .eq 188, 3) := by decide +kernel
theorem dL_law_1234 : decode cL_law 1234 = .ok (.aload_n 1, 1) := by decide +kernel
theorem dL_law_1235 : decode cL_law 1235 = .ok (.aload_n 0, 1) := by decide +kernel
theorem dL_law_1236 : decode cL_law 1236 = .ok (.iload_n 3, 1) := by decide +kernel
theorem dL_law_1237 : decode cL_law 1237 = .ok (.iconst 1, 1) := by decide +kernel
theorem dL_law_1238 : decode cL_law 1238 = .ok (.iadd, 1) := by decide +kernel
theorem dL_law_1239 : decode cL_law 1239 = .ok (.iaload, 1) := by decide +kernel
theorem dL_law_1240 : decode cL_law 1240 = .ok (.aload_n 0, 1) := by decide +kernel
theorem dL_law_1241 : decode cL_law 1241 = .ok (.iload_n 3, 1) := by decide +kernel
theorem dL_law_1242 : decode cL_law 1242 = .ok (.iconst 2, 1) := by decide +kernel
theorem dL_law_1243 : decode cL_law 1243 = .ok (.iadd, 1) := by decide +kernel
theorem dL_law_1244 : decode cL_law 1244 = .ok (.iaload, 1) := by decide +kernel
theorem dL_law_1245 : decode cL_law 1245 = .ok (.aload_n 0, 1) := by decide +kernel
theorem dL_law_1246 : decode cL_law 1246 = .ok (.iload_n 3, 1) := by decide +kernel
theorem dL_law_1247 : decode cL_law 1247 = .ok (.iconst 3, 1) := by decide +kernel
theorem dL_law_1248 : decode cL_law 1248 = .ok (.iadd, 1) := by decide +kernel
theorem dL_law_1249 : decode cL_law 1249 = .ok (.iaload, 1) := by decide +kernel
theorem dL_law_1250 : decode cL_law 1250 = .ok (.invokevirtual 140, 3) := by decide +kernel
theorem dL_law_1253 : decode cL_law 1253 = .ok (.aload_n 2, 1) := by decide +kernel
theorem dL_law_1254 : decode cL_law 1254 = .ok (.aload_n 0, 1) := by decide +kernel
theorem dL_law_1255 : decode cL_law 1255 = .ok (.iload_n 3, 1) := by decide +kernel
theorem dL_law_1256 : decode cL_law 1256 = .ok (.iconst 1, 1) := by decide +kernel
theorem dL_law_1257 : decode cL_law 1257 = .ok (.iadd, 1) := by decide +kernel
theorem dL_law_1258 : decode cL_law 1258 = .ok (.iaload, 1) := by decide +kernel
theorem dL_law_1259 : decode cL_law 1259 = .ok (.aload_n 0, 1) := by decide +kernel
theorem dL_law_1260 : decode cL_law 1260 = .ok (.iload_n 3, 1) := by decide +kernel
theorem dL_law_1261 : decode cL_law 1261 = .ok (.iconst 2, 1) := by decide +kernel
theorem dL_law_1262 : decode cL_law 1262 = .ok (.iadd, 1) := by decide +kernel
theorem dL_law_1263 : decode cL_law 1263 = .ok (.iaload, 1) := by decide +kernel
theorem dL_law_1264 : decode cL_law 1264 = .ok (.aload_n 0, 1) := by decide +kernel
theorem dL_law_1265 : decode cL_law 1265 = .ok (.iload_n 3, 1) := by decide +kernel
theorem dL_law_1266 : decode cL_law 1266 = .ok (.iconst 3, 1) := by decide +kernel
theorem dL_law_1267 : decode cL_law 1267 = .ok (.iadd, 1) := by decide +kernel
theorem dL_law_1268 : decode cL_law 1268 = .ok (.iaload, 1) := by decide +kernel
theorem dL_law_1269 : decode cL_law 1269 = .ok (.invokevirtual 143, 3) := by decide +kernel
theorem dL_law_1272 : decode cL_law 1272 = .ok (.lcmp, 1) := by decide +kernel
theorem dL_law_1273 : decode cL_law 1273 = .ok (.ifCond .eq 144, 3) := by decide +kernel
theorem dL_law_1278 : decode cL_law 1278 = .ok (.aload_n 1, 1) := by decide +kernel
theorem dL_law_1279 : decode cL_law 1279 = .ok (.invokevirtual 144, 3) := by decide +kernel
theorem dL_law_1282 : decode cL_law 1282 = .ok (.aload_n 2, 1) := by decide +kernel
theorem dL_law_1283 : decode cL_law 1283 = .ok (.invokevirtual 147, 3) := by decide +kernel
theorem dL_law_1286 : decode cL_law 1286 = .ok (.if_icmp .eq 131, 3) := by decide +kernel
theorem dL_law_1291 : decode cL_law 1291 = .ok (.aload_n 1, 1) := by decide +kernel
theorem dL_law_1292 : decode cL_law 1292 = .ok (.aload_n 0, 1) := by decide +kernel
theorem dL_law_1293 : decode cL_law 1293 = .ok (.iload_n 3, 1) := by decide +kernel
theorem dL_law_1294 : decode cL_law 1294 = .ok (.iconst 1, 1) := by decide +kernel
theorem dL_law_1295 : decode cL_law 1295 = .ok (.iadd, 1) := by decide +kernel
theorem dL_law_1296 : decode cL_law 1296 = .ok (.iaload, 1) := by decide +kernel
theorem dL_law_1297 : decode cL_law 1297 = .ok (.aload_n 0, 1) := by decide +kernel
theorem dL_law_1298 : decode cL_law 1298 = .ok (.iload_n 3, 1) := by decide +kernel
theorem dL_law_1299 : decode cL_law 1299 = .ok (.iconst 2, 1) := by decide +kernel
theorem dL_law_1300 : decode cL_law 1300 = .ok (.iadd, 1) := by decide +kernel
theorem dL_law_1301 : decode cL_law 1301 = .ok (.iaload, 1) := by decide +kernel
theorem dL_law_1302 : decode cL_law 1302 = .ok (.invokevirtual 148, 3) := by decide +kernel
theorem dL_law_1305 : decode cL_law 1305 = .ok (.aload_n 2, 1) := by decide +kernel
theorem dL_law_1306 : decode cL_law 1306 = .ok (.aload_n 0, 1) := by decide +kernel
theorem dL_law_1307 : decode cL_law 1307 = .ok (.iload_n 3, 1) := by decide +kernel
theorem dL_law_1308 : decode cL_law 1308 = .ok (.iconst 1, 1) := by decide +kernel
theorem dL_law_1309 : decode cL_law 1309 = .ok (.iadd, 1) := by decide +kernel
theorem dL_law_1310 : decode cL_law 1310 = .ok (.iaload, 1) := by decide +kernel
theorem dL_law_1311 : decode cL_law 1311 = .ok (.aload_n 0, 1) := by decide +kernel
theorem dL_law_1312 : decode cL_law 1312 = .ok (.iload_n 3, 1) := by decide +kernel
theorem dL_law_1313 : decode cL_law 1313 = .ok (.iconst 2, 1) := by decide +kernel
theorem dL_law_1314 : decode cL_law 1314 = .ok (.iadd, 1) := by decide +kernel
theorem dL_law_1315 : decode cL_law 1315 = .ok (.iaload, 1) := by decide +kernel
theorem dL_law_1316 : decode cL_law 1316 = .ok (.invokevirtual 151, 3) := by decide +kernel
theorem dL_law_1319 : decode cL_law 1319 = .ok (.if_icmp .eq 98, 3) := by decide +kernel
theorem dL_law_1324 : decode cL_law 1324 = .ok (.aload_n 1, 1) := by decide +kernel
theorem dL_law_1325 : decode cL_law 1325 = .ok (.aload_n 0, 1) := by decide +kernel
theorem dL_law_1326 : decode cL_law 1326 = .ok (.iload_n 3, 1) := by decide +kernel
theorem dL_law_1327 : decode cL_law 1327 = .ok (.iconst 1, 1) := by decide +kernel
theorem dL_law_1328 : decode cL_law 1328 = .ok (.iadd, 1) := by decide +kernel
theorem dL_law_1329 : decode cL_law 1329 = .ok (.iaload, 1) := by decide +kernel
theorem dL_law_1330 : decode cL_law 1330 = .ok (.aload_n 0, 1) := by decide +kernel
theorem dL_law_1331 : decode cL_law 1331 = .ok (.iload_n 3, 1) := by decide +kernel
theorem dL_law_1332 : decode cL_law 1332 = .ok (.iconst 2, 1) := by decide +kernel
theorem dL_law_1333 : decode cL_law 1333 = .ok (.iadd, 1) := by decide +kernel
theorem dL_law_1334 : decode cL_law 1334 = .ok (.iaload, 1) := by decide +kernel
theorem dL_law_1335 : decode cL_law 1335 = .ok (.aload_n 0, 1) := by decide +kernel
theorem dL_law_1336 : decode cL_law 1336 = .ok (.iload_n 3, 1) := by decide +kernel
theorem dL_law_1337 : decode cL_law 1337 = .ok (.iconst 3, 1) := by decide +kernel
theorem dL_law_1338 : decode cL_law 1338 = .ok (.iadd, 1) := by decide +kernel
theorem dL_law_1339 : decode cL_law 1339 = .ok (.iaload, 1) := by decide +kernel
theorem dL_law_1340 : decode cL_law 1340 = .ok (.invokevirtual 152, 3) := by decide +kernel
theorem dL_law_1343 : decode cL_law 1343 = .ok (.aload_n 2, 1) := by decide +kernel
theorem dL_law_1344 : decode cL_law 1344 = .ok (.aload_n 0, 1) := by decide +kernel
theorem dL_law_1345 : decode cL_law 1345 = .ok (.iload_n 3, 1) := by decide +kernel
theorem dL_law_1346 : decode cL_law 1346 = .ok (.iconst 1, 1) := by decide +kernel
theorem dL_law_1347 : decode cL_law 1347 = .ok (.iadd, 1) := by decide +kernel
theorem dL_law_1348 : decode cL_law 1348 = .ok (.iaload, 1) := by decide +kernel
theorem dL_law_1349 : decode cL_law 1349 = .ok (.aload_n 0, 1) := by decide +kernel
theorem dL_law_1350 : decode cL_law 1350 = .ok (.iload_n 3, 1) := by decide +kernel
theorem dL_law_1351 : decode cL_law 1351 = .ok (.iconst 2, 1) := by decide +kernel
theorem dL_law_1352 : decode cL_law 1352 = .ok (.iadd, 1) := by decide +kernel
theorem dL_law_1353 : decode cL_law 1353 = .ok (.iaload, 1) := by decide +kernel
theorem dL_law_1354 : decode cL_law 1354 = .ok (.aload_n 0, 1) := by decide +kernel
theorem dL_law_1355 : decode cL_law 1355 = .ok (.iload_n 3, 1) := by decide +kernel
theorem dL_law_1356 : decode cL_law 1356 = .ok (.iconst 3, 1) := by decide +kernel
theorem dL_law_1357 : decode cL_law 1357 = .ok (.iadd, 1) := by decide +kernel
theorem dL_law_1358 : decode cL_law 1358 = .ok (.iaload, 1) := by decide +kernel
theorem dL_law_1359 : decode cL_law 1359 = .ok (.invokevirtual 155, 3) := by decide +kernel
theorem dL_law_1362 : decode cL_law 1362 = .ok (.lcmp, 1) := by decide +kernel
theorem dL_law_1363 : decode cL_law 1363 = .ok (.ifCond .eq 54, 3) := by decide +kernel
theorem dL_law_1368 : decode cL_law 1368 = .ok (.aload_n 1, 1) := by decide +kernel
theorem dL_law_1369 : decode cL_law 1369 = .ok (.invokevirtual 156, 3) := by decide +kernel
theorem dL_law_1372 : decode cL_law 1372 = .ok (.aload_n 2, 1) := by decide +kernel
theorem dL_law_1373 : decode cL_law 1373 = .ok (.invokevirtual 159, 3) := by decide +kernel
theorem dL_law_1376 : decode cL_law 1376 = .ok (.if_icmp .eq 41, 3) := by decide +kernel
theorem dL_law_1381 : decode cL_law 1381 = .ok (.aload_n 1, 1) := by decide +kernel
theorem dL_law_1382 : decode cL_law 1382 = .ok (.invokevirtual 160, 3) := by decide +kernel
theorem dL_law_1385 : decode cL_law 1385 = .ok (.aload_n 2, 1) := by decide +kernel
theorem dL_law_1386 : decode cL_law 1386 = .ok (.invokevirtual 163, 3) := by decide +kernel
theorem dL_law_1389 : decode cL_law 1389 = .ok (.if_icmp .eq 28, 3) := by decide +kernel
theorem dL_law_1394 : decode cL_law 1394 = .ok (.aload_n 1, 1) := by decide +kernel
theorem dL_law_1395 : decode cL_law 1395 = .ok (.aload_n 0, 1) := by decide +kernel
theorem dL_law_1396 : decode cL_law 1396 = .ok (.iload_n 3, 1) := by decide +kernel
theorem dL_law_1397 : decode cL_law 1397 = .ok (.iconst 1, 1) := by decide +kernel
theorem dL_law_1398 : decode cL_law 1398 = .ok (.iadd, 1) := by decide +kernel
theorem dL_law_1399 : decode cL_law 1399 = .ok (.iaload, 1) := by decide +kernel
theorem dL_law_1400 : decode cL_law 1400 = .ok (.invokevirtual 164, 3) := by decide +kernel
theorem dL_law_1403 : decode cL_law 1403 = .ok (.aload_n 2, 1) := by decide +kernel
theorem dL_law_1404 : decode cL_law 1404 = .ok (.aload_n 0, 1) := by decide +kernel
theorem dL_law_1405 : decode cL_law 1405 = .ok (.iload_n 3, 1) := by decide +kernel
theorem dL_law_1406 : decode cL_law 1406 = .ok (.iconst 1, 1) := by decide +kernel
theorem dL_law_1407 : decode cL_law 1407 = .ok (.iadd, 1) := by decide +kernel
theorem dL_law_1408 : decode cL_law 1408 = .ok (.iaload, 1) := by decide +kernel
theorem dL_law_1409 : decode cL_law 1409 = .ok (.invokevirtual 167, 3) := by decide +kernel
theorem dL_law_1412 : decode cL_law 1412 = .ok (.if_icmp .eq 5, 3) := by decide +kernel

set_option maxRecDepth 20000 in
theorem gu_L_X9_booked : GoodIn wsL_law (wsV RL 122 RX9 yX9_booked uX9_booked) := goodIn_r _ [900, 901, 902, 2, 903, 168, 169, 2, 51, 904, 170, 1064, 1065, 1066, 1067, 1068, 1069, 1070, 1071, 1072, 1073, 1074, 1075, 1076, 1077, 1078, 1079, 1080, 1081, 1147, 1148, 1149] (by decide +kernel) (by decide +kernel)
set_option maxRecDepth 20000 in
theorem gu_L_X10_booked : GoodIn wsL_law (wsV RL 125 RX10 yX10_booked uX10_booked) := goodIn_r _ [905, 906, 907, 5, 908, 575, 182, 183, 5, 155, 184, 1082, 1083, 1084, 1085, 1086, 1087, 1088, 1089, 1090, 1091, 1092, 1093, 1094, 1095, 1096, 1097, 1098, 1099, 1100, 1101, 1102, 1103, 1104, 1105, 1106, 1107, 1108, 1109, 1110, 1111, 1112, 1113, 1114, 1115, 1116, 1117] (by decide +kernel) (by decide +kernel)
set_option maxHeartbeats 4000000 in
set_option maxRecDepth 100000 in
theorem lc_24 {p : Program} {l : Launch} {e : Env} {s : State} {m : MethodId} {below : List Frame} {meth : Method} {c : Code} {cells slots : Nat} {Q : State → Prop} {b h0 : Nat} {xs : Nat → Int32} {D : va_G} {cI cL cC : ClassId} {t : Nat → Nat} {H : Heap} {locs : List Loc} {ls : Array Slot} (hx : p.tables.exec = Jvm.exec) (hb : c.code = cL_law) (hml : c.maxLocals = 4) (hown : s.vm.findClass RL = some m.cls) (hts : ∀ w ∈ wsL_law, w.before #[Value.ref b] s = true) (hE : EV D cI cL cC s) (hbl : b < h0) (hG : tG D (fF cI cL cC 0 0) t H) (kt : t h0 = 1) (kt2 : t (h0 + 92) = 40) (ht0 : ∀ q : Nat, q < h0 → t q = 0) (uq_gC : ∀ b c : Nat, t b = 2 → t c = 2 → b = c) (uq_gR : ∀ b c : Nat, t b = 40 → t c = 40 → b = c) (hS : cF h0 s.heap H locs) (hX : va_X b 8 xs s H) (hl : lv_has ls 4 [(3, .int 0), (2, .ref (h0 + 92)), (1, .ref h0), (0, .ref b)]) (hcl : cells ≤ 600000) (hsl : slots ≤ 7302250) (kx : ∀ (H1 : Heap) (locs1 : List Loc), cF h0 s.heap H1 locs1 → va_X b 8 xs s H1 → W p l e room_1 s m #[Value.ref b] below meth c H1 locs1 cells slots Q (F0 m 1417 ls [])) : W p l e room_1 s m #[Value.ref b] below meth c H locs cells slots Q (F0 m 1036 ls []) := by
  refine lv_aload_n hx hb dL_law_1036 rfl (lv_at hl 2 rfl) ?_
  refine lv_aload_n hx hb dL_law_1037 rfl (lv_at hl 3 rfl) ?_
  refine lv_iload_n hx hb dL_law_1038 rfl (lv_at hl 0 rfl) ?_
  refine lv_iconst (v := 1) hx hb dL_law_1039 (by decide) ?_
  refine lv_iadd hx hb dL_law_1040 ?_
  refine lv_seti (y := 1) (by decide) ?_
  refine ty_sld hx hb hX (i := 1) (q_in (by decide) (by decide)) dL_law_1041 ?_
  refine lv_seti (y := xs 1) rfl ?_
  obtain ⟨_, at_1⟩ := rcv1 hG kt
  refine lw_calli (W.runV (As := [.int (xs 1)]) (rest := []) ⟨hx, hb, hml, hown, hts⟩ (c_X9_booked l D t cI cL cC h0 (xs 1) kt) (cwV 1 hts gu_L_X9_booked rfl rfl rfl (by decide +kernel) ⟨Nat.le_of_ble_eq_true rfl, Nat.le_of_ble_eq_true rfl⟩) (tP_V hG hE at_1 rfl) rfl rfl hl.1 rfl (lv_room (Nat.le_of_ble_eq_true rfl)) dL_law_1042 ⟨hcl, hsl⟩) hS rfl ht0 (fun r_2 H locs hp_3 _ hS o_4 => ?_)
  replace hX := hX.kept (o_4 b (by rw [ht0 b hbl]; rfl))
  have hG2 := tG.keptW (tG.ref hG) o_4 (fun q h => rfl)
  refine lv_pc (pc2 := 1045) rfl ?_
  refine lv_aload_n hx hb dL_law_1045 rfl (lv_at hl 1 rfl) ?_
  refine lv_aload_n hx hb dL_law_1046 rfl (lv_at hl 3 rfl) ?_
  refine lv_iload_n hx hb dL_law_1047 rfl (lv_at hl 0 rfl) ?_
  refine lv_iconst (v := 1) hx hb dL_law_1048 (by decide) ?_
  refine lv_iadd hx hb dL_law_1049 ?_
  refine lv_seti (y := 1) (by decide) ?_
  refine ty_sld hx hb hX (i := 1) (q_in (by decide) (by decide)) dL_law_1050 ?_
  refine lv_seti (y := xs 1) rfl ?_
  obtain ⟨_, at_5⟩ := rcv40 hG2 (tM2_40 kt2 (by decide))
  refine lw_calli (W.runV (As := [.int (xs 1)]) (rest := [.int r_2]) ⟨hx, hb, hml, hown, hts⟩ (c_X10_booked l D (tM2 t) cI cL cC (h0 + 92) (xs 1) (tM2_40 kt2 (by decide))) (cwV 1 hts gu_L_X10_booked rfl rfl rfl (by decide +kernel) ⟨Nat.le_of_ble_eq_true rfl, Nat.le_of_ble_eq_true rfl⟩) (tP_V hG2 hE at_5 rfl) rfl rfl hl.1 rfl (lv_room (Nat.le_of_ble_eq_true rfl)) dL_law_1051 ⟨hcl, hsl⟩) hS rfl (fun q h => tM2_0 (ht0 q h)) (fun r_6 H locs hp_7 _ hS o_8 => ?_)
  replace hX := hX.kept (o_8 b (by rw [tM2_0 (ht0 b hbl)]; rfl))
  refine lv_icmp_eq (tgt := 1417) hx hb dL_law_1054 (by decide) (fun _ => ?_) (fun q => absurd ((by rcases hp_3 with ⟨h1, g1⟩ | ⟨h1, g1⟩ <;> rcases hp_7 with ⟨h2, g2⟩ | ⟨h2, g2⟩ <;> first | exact h1.trans h2.symm | (exfalso; omega))) q)
  exact kx H locs hS hX

set_option maxRecDepth 20000 in
theorem gu_L_X9_peak : GoodIn wsL_law (wsV RL 126 RX9 yX9_peak uX9_peak) := goodIn_r _ [909, 910, 911, 2, 912, 608, 609, 2, 527, 168, 169, 623, 624, 625, 528, 610, 170, 626, 23, 1064, 1065, 1066, 1067, 1068, 1069, 1070, 1071, 1072, 1073, 1074, 1075, 1076, 1077, 1078, 1079, 1080, 1081] (by decide +kernel) (by decide +kernel)
set_option maxRecDepth 20000 in
theorem gu_L_X10_peak : GoodIn wsL_law (wsV RL 130 RX10 yX10_peak uX10_peak) := goodIn_r _ [913, 914, 915, 5, 916, 575, 182, 183, 5, 871, 545, 872, 873, 874, 546, 184, 875, 642, 643, 644, 645, 370, 1082, 1083, 1084, 1085, 1086, 1087, 1088, 1089, 1090, 1091, 1092, 1093, 1094, 1095, 1096, 1097, 1098, 1099, 1100, 1101, 1102, 1103, 1104, 1105, 1106, 1107, 1108, 1109, 1110, 1111, 1112, 1113, 1114, 1115, 1116, 1117] (by decide +kernel) (by decide +kernel)
set_option maxHeartbeats 4000000 in
set_option maxRecDepth 100000 in
theorem lc_25 {p : Program} {l : Launch} {e : Env} {s : State} {m : MethodId} {below : List Frame} {meth : Method} {c : Code} {cells slots : Nat} {Q : State → Prop} {b h0 : Nat} {xs : Nat → Int32} {D : va_G} {cI cL cC : ClassId} {t : Nat → Nat} {H : Heap} {locs : List Loc} {ls : Array Slot} (hx : p.tables.exec = Jvm.exec) (hb : c.code = cL_law) (hml : c.maxLocals = 4) (hown : s.vm.findClass RL = some m.cls) (hts : ∀ w ∈ wsL_law, w.before #[Value.ref b] s = true) (hE : EV D cI cL cC s) (hbl : b < h0) (hG : tG D (fF cI cL cC 0 0) t H) (kt : t h0 = 1) (kt2 : t (h0 + 92) = 40) (ht0 : ∀ q : Nat, q < h0 → t q = 0) (uq_gC : ∀ b c : Nat, t b = 2 → t c = 2 → b = c) (uq_gR : ∀ b c : Nat, t b = 40 → t c = 40 → b = c) (hS : cF h0 s.heap H locs) (hX : va_X b 8 xs s H) (hl : lv_has ls 4 [(3, .int 0), (2, .ref (h0 + 92)), (1, .ref h0), (0, .ref b)]) (hcl : cells ≤ 600000) (hsl : slots ≤ 7302250) (kx : ∀ (H1 : Heap) (locs1 : List Loc), cF h0 s.heap H1 locs1 → va_X b 8 xs s H1 → W p l e room_1 s m #[Value.ref b] below meth c H1 locs1 cells slots Q (F0 m 1417 ls [])) : W p l e room_1 s m #[Value.ref b] below meth c H locs cells slots Q (F0 m 1059 ls []) := by
  refine lv_aload_n hx hb dL_law_1059 rfl (lv_at hl 2 rfl) ?_
  refine lv_aload_n hx hb dL_law_1060 rfl (lv_at hl 3 rfl) ?_
  refine lv_iload_n hx hb dL_law_1061 rfl (lv_at hl 0 rfl) ?_
  refine lv_iconst (v := 1) hx hb dL_law_1062 (by decide) ?_
  refine lv_iadd hx hb dL_law_1063 ?_
  refine lv_seti (y := 1) (by decide) ?_
  refine ty_sld hx hb hX (i := 1) (q_in (by decide) (by decide)) dL_law_1064 ?_
  refine lv_seti (y := xs 1) rfl ?_
  refine lv_aload_n hx hb dL_law_1065 rfl (lv_at hl 3 rfl) ?_
  refine lv_pc (pc2 := 1066) rfl ?_
  refine lv_iload_n hx hb dL_law_1066 rfl (lv_at hl 0 rfl) ?_
  refine lv_iconst (v := 2) hx hb dL_law_1067 (by decide) ?_
  refine lv_iadd hx hb dL_law_1068 ?_
  refine lv_seti (y := 2) (by decide) ?_
  refine ty_sld hx hb hX (i := 2) (q_in (by decide) (by decide)) dL_law_1069 ?_
  refine lv_seti (y := xs 2) rfl ?_
  refine lv_aload_n hx hb dL_law_1070 rfl (lv_at hl 3 rfl) ?_
  refine lv_iload_n hx hb dL_law_1071 rfl (lv_at hl 0 rfl) ?_
  refine lv_iconst (v := 3) hx hb dL_law_1072 (by decide) ?_
  refine lv_iadd hx hb dL_law_1073 ?_
  refine lv_seti (y := 3) (by decide) ?_
  refine lv_pc (pc2 := 1074) rfl ?_
  refine ty_sld hx hb hX (i := 3) (q_in (by decide) (by decide)) dL_law_1074 ?_
  refine lv_seti (y := xs 3) rfl ?_
  obtain ⟨_, at_1⟩ := rcv1 hG kt
  refine lw_calll (W.runV (As := [.int (xs 1), .int (xs 2), .int (xs 3)]) (rest := []) ⟨hx, hb, hml, hown, hts⟩ (c_X9_peak l D t cI cL cC h0 (xs 1) (xs 2) (xs 3) kt) (cwV 3 hts gu_L_X9_peak rfl rfl rfl (by decide +kernel) ⟨Nat.le_of_ble_eq_true rfl, Nat.le_of_ble_eq_true rfl⟩) (tP_V hG hE at_1 rfl) rfl rfl hl.1 rfl (lv_room (Nat.le_of_ble_eq_true rfl)) dL_law_1075 ⟨hcl, hsl⟩) hS rfl ht0 (fun r_2 H locs hp_3 _ hS o_4 => ?_)
  replace hX := hX.kept (o_4 b (by rw [ht0 b hbl]; rfl))
  have hG2 := tG.keptW (tG.ref hG) o_4 (fun q h => rfl)
  refine lv_aload_n hx hb dL_law_1078 rfl (lv_at hl 1 rfl) ?_
  refine lv_aload_n hx hb dL_law_1079 rfl (lv_at hl 3 rfl) ?_
  refine lv_iload_n hx hb dL_law_1080 rfl (lv_at hl 0 rfl) ?_
  refine lv_iconst (v := 1) hx hb dL_law_1081 (by decide) ?_
  refine lv_iadd hx hb dL_law_1082 ?_
  refine lv_seti (y := 1) (by decide) ?_
  refine ty_sld hx hb hX (i := 1) (q_in (by decide) (by decide)) dL_law_1083 ?_
  refine lv_seti (y := xs 1) rfl ?_
  refine lv_pc (pc2 := 1084) rfl ?_
  refine lv_aload_n hx hb dL_law_1084 rfl (lv_at hl 3 rfl) ?_
  refine lv_iload_n hx hb dL_law_1085 rfl (lv_at hl 0 rfl) ?_
  refine lv_iconst (v := 2) hx hb dL_law_1086 (by decide) ?_
  refine lv_iadd hx hb dL_law_1087 ?_
  refine lv_seti (y := 2) (by decide) ?_
  refine ty_sld hx hb hX (i := 2) (q_in (by decide) (by decide)) dL_law_1088 ?_
  refine lv_seti (y := xs 2) rfl ?_
  refine lv_aload_n hx hb dL_law_1089 rfl (lv_at hl 3 rfl) ?_
  refine lv_iload_n hx hb dL_law_1090 rfl (lv_at hl 0 rfl) ?_
  refine lv_iconst (v := 3) hx hb dL_law_1091 (by decide) ?_
  refine lv_pc (pc2 := 1092) rfl ?_
  refine lv_iadd hx hb dL_law_1092 ?_
  refine lv_seti (y := 3) (by decide) ?_
  refine ty_sld hx hb hX (i := 3) (q_in (by decide) (by decide)) dL_law_1093 ?_
  refine lv_seti (y := xs 3) rfl ?_
  obtain ⟨_, at_5⟩ := rcv40 hG2 (tM2_40 kt2 (by decide))
  refine lw_calll (W.runV (As := [.int (xs 1), .int (xs 2), .int (xs 3)]) (rest := [.long r_2]) ⟨hx, hb, hml, hown, hts⟩ (c_X10_peak l D (tM2 t) cI cL cC (h0 + 92) (xs 1) (xs 2) (xs 3) (tM2_40 kt2 (by decide))) (cwV 3 hts gu_L_X10_peak rfl rfl rfl (by decide +kernel) ⟨Nat.le_of_ble_eq_true rfl, Nat.le_of_ble_eq_true rfl⟩) (tP_V hG2 hE at_5 rfl) rfl rfl hl.1 rfl (lv_room (Nat.le_of_ble_eq_true rfl)) dL_law_1094 ⟨hcl, hsl⟩) hS rfl (fun q h => tM2_0 (ht0 q h)) (fun r_6 H locs hp_7 _ hS o_8 => ?_)
  replace hX := hX.kept (o_8 b (by rw [tM2_0 (ht0 b hbl)]; rfl))
  refine W.lcmp hx hb dL_law_1097 ?_
  refine lv_if_eq (tgt := 1417) hx hb dL_law_1098 (by decide) (fun _ => ?_) (fun q => absurd ((lg_cmp_eq _ _).mpr (by rcases hp_3 with ⟨h1, g1⟩ | ⟨h1, g1⟩ <;> rcases hp_7 with ⟨h2, g2⟩ | ⟨h2, g2⟩ <;> first | exact h1.trans h2.symm | (exfalso; omega))) q)
  exact kx H locs hS hX

set_option maxRecDepth 20000 in
theorem gu_L_X9_best : GoodIn wsL_law (wsV RL 131 RX9 yX9_best uX9_best) := goodIn_r _ [917, 918, 919, 2, 920, 565, 487, 2, 527, 168, 169, 608, 609, 530, 223, 566, 567, 568, 528, 488, 170, 610, 224, 569, 23, 1064, 1065, 1066, 1067, 1068, 1069, 1070, 1071, 1072, 1073, 1074, 1075, 1076, 1077, 1078, 1079, 1080, 1081] (by decide +kernel) (by decide +kernel)
set_option maxRecDepth 20000 in
theorem gu_L_X10_best : GoodIn wsL_law (wsV RL 135 RX10 yX10_best uX10_best) := goodIn_r _ [952, 953, 954, 5, 955, 575, 182, 183, 5, 956, 544, 545, 872, 873, 874, 546, 184, 875, 642, 643, 644, 645, 370, 1082, 1083, 1084, 1085, 1086, 1087, 1088, 1089, 1090, 1091, 1092, 1093, 1094, 1095, 1096, 1097, 1098, 1099, 1100, 1101, 1102, 1103, 1104, 1105, 1106, 1107, 1108, 1109, 1110, 1111, 1112, 1113, 1114, 1115, 1116, 1117] (by decide +kernel) (by decide +kernel)
set_option maxHeartbeats 4000000 in
set_option maxRecDepth 100000 in
theorem lc_26 {p : Program} {l : Launch} {e : Env} {s : State} {m : MethodId} {below : List Frame} {meth : Method} {c : Code} {cells slots : Nat} {Q : State → Prop} {b h0 : Nat} {xs : Nat → Int32} {D : va_G} {cI cL cC : ClassId} {t : Nat → Nat} {H : Heap} {locs : List Loc} {ls : Array Slot} (hx : p.tables.exec = Jvm.exec) (hb : c.code = cL_law) (hml : c.maxLocals = 4) (hown : s.vm.findClass RL = some m.cls) (hts : ∀ w ∈ wsL_law, w.before #[Value.ref b] s = true) (hE : EV D cI cL cC s) (hbl : b < h0) (hG : tG D (fF cI cL cC 0 0) t H) (kt : t h0 = 1) (kt2 : t (h0 + 92) = 40) (ht0 : ∀ q : Nat, q < h0 → t q = 0) (uq_gC : ∀ b c : Nat, t b = 2 → t c = 2 → b = c) (uq_gR : ∀ b c : Nat, t b = 40 → t c = 40 → b = c) (hS : cF h0 s.heap H locs) (hX : va_X b 8 xs s H) (hl : lv_has ls 4 [(3, .int 0), (2, .ref (h0 + 92)), (1, .ref h0), (0, .ref b)]) (hcl : cells ≤ 600000) (hsl : slots ≤ 7302250) (kx : ∀ (H1 : Heap) (locs1 : List Loc), cF h0 s.heap H1 locs1 → va_X b 8 xs s H1 → W p l e room_1 s m #[Value.ref b] below meth c H1 locs1 cells slots Q (F0 m 1417 ls [])) : W p l e room_1 s m #[Value.ref b] below meth c H locs cells slots Q (F0 m 1103 ls []) := by
  refine lv_aload_n hx hb dL_law_1103 rfl (lv_at hl 2 rfl) ?_
  refine lv_aload_n hx hb dL_law_1104 rfl (lv_at hl 3 rfl) ?_
  refine lv_iload_n hx hb dL_law_1105 rfl (lv_at hl 0 rfl) ?_
  refine lv_iconst (v := 1) hx hb dL_law_1106 (by decide) ?_
  refine lv_iadd hx hb dL_law_1107 ?_
  refine lv_seti (y := 1) (by decide) ?_
  refine ty_sld hx hb hX (i := 1) (q_in (by decide) (by decide)) dL_law_1108 ?_
  refine lv_seti (y := xs 1) rfl ?_
  refine lv_aload_n hx hb dL_law_1109 rfl (lv_at hl 3 rfl) ?_
  refine lv_pc (pc2 := 1110) rfl ?_
  refine lv_iload_n hx hb dL_law_1110 rfl (lv_at hl 0 rfl) ?_
  refine lv_iconst (v := 2) hx hb dL_law_1111 (by decide) ?_
  refine lv_iadd hx hb dL_law_1112 ?_
  refine lv_seti (y := 2) (by decide) ?_
  refine ty_sld hx hb hX (i := 2) (q_in (by decide) (by decide)) dL_law_1113 ?_
  refine lv_seti (y := xs 2) rfl ?_
  refine lv_aload_n hx hb dL_law_1114 rfl (lv_at hl 3 rfl) ?_
  refine lv_iload_n hx hb dL_law_1115 rfl (lv_at hl 0 rfl) ?_
  refine lv_iconst (v := 3) hx hb dL_law_1116 (by decide) ?_
  refine lv_iadd hx hb dL_law_1117 ?_
  refine lv_seti (y := 3) (by decide) ?_
  refine lv_pc (pc2 := 1118) rfl ?_
  refine ty_sld hx hb hX (i := 3) (q_in (by decide) (by decide)) dL_law_1118 ?_
  refine lv_seti (y := xs 3) rfl ?_
  refine lv_aload_n hx hb dL_law_1119 rfl (lv_at hl 3 rfl) ?_
  refine lv_iload_n hx hb dL_law_1120 rfl (lv_at hl 0 rfl) ?_
  refine lv_iconst (v := 4) hx hb dL_law_1121 (by decide) ?_
  refine lv_iadd hx hb dL_law_1122 ?_
  refine lv_seti (y := 4) (by decide) ?_
  refine ty_sld hx hb hX (i := 4) (q_in (by decide) (by decide)) dL_law_1123 ?_
  refine lv_seti (y := xs 4) rfl ?_
  refine lv_aload_n hx hb dL_law_1124 rfl (lv_at hl 3 rfl) ?_
  refine lv_iload_n hx hb dL_law_1125 rfl (lv_at hl 0 rfl) ?_
  refine lv_pc (pc2 := 1126) rfl ?_
  refine lv_iconst (v := 5) hx hb dL_law_1126 (by decide) ?_
  refine lv_iadd hx hb dL_law_1127 ?_
  refine lv_seti (y := 5) (by decide) ?_
  refine ty_sld hx hb hX (i := 5) (q_in (by decide) (by decide)) dL_law_1128 ?_
  refine lv_seti (y := xs 5) rfl ?_
  refine lv_i2l (v := (xs 5).toInt64) hx hb dL_law_1129 rfl ?_
  refine lv_bipush (v := 32) hx hb dL_law_1130 (by decide) ?_
  refine lv_lshl hx hb dL_law_1132 rfl ?_
  refine lv_topl (fun z_1 e_2 => ?_)
  refine lv_aload_n hx hb dL_law_1133 rfl (lv_at hl 3 rfl) ?_
  refine lv_iload_n hx hb dL_law_1134 rfl (lv_at hl 0 rfl) ?_
  refine lv_pc (pc2 := 1135) rfl ?_
  refine lv_bipush (v := 6) hx hb dL_law_1135 (by decide) ?_
  refine lv_iadd hx hb dL_law_1137 ?_
  refine lv_seti (y := 6) (by decide) ?_
  refine ty_sld hx hb hX (i := 6) (q_in (by decide) (by decide)) dL_law_1138 ?_
  refine lv_seti (y := xs 6) rfl ?_
  refine lv_i2l (v := (xs 6).toInt64) hx hb dL_law_1139 rfl ?_
  refine lv_ldc2 hx hb hown (hts (.constantLong RL 13 (4294967295)) (List.mem_of_getElem? (i := 6) rfl)) dL_law_1140 ?_
  refine lv_land hx hb dL_law_1143 ?_
  refine lv_topl (fun z_3 e_4 => ?_)
  refine lv_lor hx hb dL_law_1144 ?_
  refine lv_topl (fun z_5 e_6 => ?_)
  refine lv_aload_n hx hb dL_law_1145 rfl (lv_at hl 3 rfl) ?_
  refine lv_pc (pc2 := 1146) rfl ?_
  refine lv_iload_n hx hb dL_law_1146 rfl (lv_at hl 0 rfl) ?_
  refine lv_bipush (v := 7) hx hb dL_law_1147 (by decide) ?_
  refine lv_iadd hx hb dL_law_1149 ?_
  refine lv_seti (y := 7) (by decide) ?_
  refine ty_sld hx hb hX (i := 7) (q_in (by decide) (by decide)) dL_law_1150 ?_
  refine lv_seti (y := xs 7) rfl ?_
  obtain ⟨_, at_7⟩ := rcv1 hG kt
  refine lw_calll (W.runV (As := [.int (xs 1), .int (xs 2), .int (xs 3), .int (xs 4), .long z_5, .int (xs 7)]) (rest := []) ⟨hx, hb, hml, hown, hts⟩ (c_X9_best l D t cI cL cC h0 (xs 1) (xs 2) (xs 3) (xs 4) z_5 (xs 7) kt) (cwV 6 hts gu_L_X9_best rfl rfl rfl (by decide +kernel) ⟨Nat.le_of_ble_eq_true rfl, Nat.le_of_ble_eq_true rfl⟩) (tP_V hG hE at_7 rfl) rfl rfl hl.1 rfl (lv_room (Nat.le_of_ble_eq_true rfl)) dL_law_1151 ⟨hcl, hsl⟩) hS rfl ht0 (fun r_8 H locs hp_9 _ hS o_10 => ?_)
  replace hX := hX.kept (o_10 b (by rw [ht0 b hbl]; rfl))
  have hG2 := tG.keptW (tG.ref hG) o_10 (fun q h => rfl)
  refine lv_aload_n hx hb dL_law_1154 rfl (lv_at hl 1 rfl) ?_
  refine lv_aload_n hx hb dL_law_1155 rfl (lv_at hl 3 rfl) ?_
  refine lv_iload_n hx hb dL_law_1156 rfl (lv_at hl 0 rfl) ?_
  refine lv_pc (pc2 := 1157) rfl ?_
  refine lv_iconst (v := 1) hx hb dL_law_1157 (by decide) ?_
  refine lv_iadd hx hb dL_law_1158 ?_
  refine lv_seti (y := 1) (by decide) ?_
  refine ty_sld hx hb hX (i := 1) (q_in (by decide) (by decide)) dL_law_1159 ?_
  refine lv_seti (y := xs 1) rfl ?_
  refine lv_aload_n hx hb dL_law_1160 rfl (lv_at hl 3 rfl) ?_
  refine lv_iload_n hx hb dL_law_1161 rfl (lv_at hl 0 rfl) ?_
  refine lv_iconst (v := 2) hx hb dL_law_1162 (by decide) ?_
  refine lv_iadd hx hb dL_law_1163 ?_
  refine lv_seti (y := 2) (by decide) ?_
  refine ty_sld hx hb hX (i := 2) (q_in (by decide) (by decide)) dL_law_1164 ?_
  refine lv_seti (y := xs 2) rfl ?_
  refine lv_pc (pc2 := 1165) rfl ?_
  refine lv_aload_n hx hb dL_law_1165 rfl (lv_at hl 3 rfl) ?_
  refine lv_iload_n hx hb dL_law_1166 rfl (lv_at hl 0 rfl) ?_
  refine lv_iconst (v := 3) hx hb dL_law_1167 (by decide) ?_
  refine lv_iadd hx hb dL_law_1168 ?_
  refine lv_seti (y := 3) (by decide) ?_
  refine ty_sld hx hb hX (i := 3) (q_in (by decide) (by decide)) dL_law_1169 ?_
  refine lv_seti (y := xs 3) rfl ?_
  refine lv_aload_n hx hb dL_law_1170 rfl (lv_at hl 3 rfl) ?_
  refine lv_iload_n hx hb dL_law_1171 rfl (lv_at hl 0 rfl) ?_
  refine lv_iconst (v := 4) hx hb dL_law_1172 (by decide) ?_
  refine lv_pc (pc2 := 1173) rfl ?_
  refine lv_iadd hx hb dL_law_1173 ?_
  refine lv_seti (y := 4) (by decide) ?_
  refine ty_sld hx hb hX (i := 4) (q_in (by decide) (by decide)) dL_law_1174 ?_
  refine lv_seti (y := xs 4) rfl ?_
  refine lv_aload_n hx hb dL_law_1175 rfl (lv_at hl 3 rfl) ?_
  refine lv_iload_n hx hb dL_law_1176 rfl (lv_at hl 0 rfl) ?_
  refine lv_iconst (v := 5) hx hb dL_law_1177 (by decide) ?_
  refine lv_iadd hx hb dL_law_1178 ?_
  refine lv_seti (y := 5) (by decide) ?_
  refine ty_sld hx hb hX (i := 5) (q_in (by decide) (by decide)) dL_law_1179 ?_
  refine lv_seti (y := xs 5) rfl ?_
  refine lv_i2l (v := (xs 5).toInt64) hx hb dL_law_1180 rfl ?_
  refine lv_pc (pc2 := 1181) rfl ?_
  refine lv_bipush (v := 32) hx hb dL_law_1181 (by decide) ?_
  refine lv_lshl hx hb dL_law_1183 rfl ?_
  refine lv_topl (fun z_11 e_12 => ?_)
  refine lv_aload_n hx hb dL_law_1184 rfl (lv_at hl 3 rfl) ?_
  refine lv_iload_n hx hb dL_law_1185 rfl (lv_at hl 0 rfl) ?_
  refine lv_bipush (v := 6) hx hb dL_law_1186 (by decide) ?_
  refine lv_iadd hx hb dL_law_1188 ?_
  refine lv_seti (y := 6) (by decide) ?_
  refine ty_sld hx hb hX (i := 6) (q_in (by decide) (by decide)) dL_law_1189 ?_
  refine lv_seti (y := xs 6) rfl ?_
  refine lv_i2l (v := (xs 6).toInt64) hx hb dL_law_1190 rfl ?_
  refine lv_pc (pc2 := 1191) rfl ?_
  refine lv_ldc2 hx hb hown (hts (.constantLong RL 13 (4294967295)) (List.mem_of_getElem? (i := 6) rfl)) dL_law_1191 ?_
  refine lv_land hx hb dL_law_1194 ?_
  refine lv_topl (fun z_13 e_14 => ?_)
  refine lv_lor hx hb dL_law_1195 ?_
  refine lv_topl (fun z_15 e_16 => ?_)
  refine lv_aload_n hx hb dL_law_1196 rfl (lv_at hl 3 rfl) ?_
  refine lv_iload_n hx hb dL_law_1197 rfl (lv_at hl 0 rfl) ?_
  refine lv_bipush (v := 7) hx hb dL_law_1198 (by decide) ?_
  refine lv_iadd hx hb dL_law_1200 ?_
  refine lv_seti (y := 7) (by decide) ?_
  refine ty_sld hx hb hX (i := 7) (q_in (by decide) (by decide)) dL_law_1201 ?_
  refine lv_seti (y := xs 7) rfl ?_
  refine lv_pc (pc2 := 1202) rfl ?_
  obtain ⟨_, at_17⟩ := rcv40 hG2 (tM2_40 kt2 (by decide))
  refine lw_calll (W.runV (As := [.int (xs 1), .int (xs 2), .int (xs 3), .int (xs 4), .long z_15, .int (xs 7)]) (rest := [.long r_8]) ⟨hx, hb, hml, hown, hts⟩ (c_X10_best l D (tM2 t) cI cL cC (h0 + 92) (xs 1) (xs 2) (xs 3) (xs 4) z_15 (xs 7) (tM2_40 kt2 (by decide))) (cwV 6 hts gu_L_X10_best rfl rfl rfl (by decide +kernel) ⟨Nat.le_of_ble_eq_true rfl, Nat.le_of_ble_eq_true rfl⟩) (tP_V hG2 hE at_17 rfl) rfl rfl hl.1 rfl (lv_room (Nat.le_of_ble_eq_true rfl)) dL_law_1202 ⟨hcl, hsl⟩) hS rfl (fun q h => tM2_0 (ht0 q h)) (fun r_18 H locs hp_19 _ hS o_20 => ?_)
  replace hX := hX.kept (o_20 b (by rw [tM2_0 (ht0 b hbl)]; rfl))
  refine W.lcmp hx hb dL_law_1205 ?_
  refine lv_if_eq (tgt := 1417) hx hb dL_law_1206 (by decide) (fun _ => ?_) (fun q => absurd ((lg_cmp_eq _ _).mpr (by rcases hp_9 with ⟨h1, g1⟩ | ⟨h1, g1⟩ <;> rcases hp_19 with ⟨h2, g2⟩ | ⟨h2, g2⟩ <;> first | exact h1.trans h2.symm | (exfalso; omega))) q)
  exact kx H locs hS hX

set_option maxRecDepth 20000 in
theorem gu_L_X9_swap : GoodIn wsL_law (wsV RL 136 RX9 yX9_swap uX9_swap) := goodIn_r _ [962, 963, 964, 2, 965, 400, 274, 2, 401, 402, 403, 275, 404, 23, 1064, 1065, 1066, 1067, 1068, 1069, 1070, 1071, 1072, 1073, 1074, 1075, 1076, 1077, 1078, 1079, 1080, 1081] (by decide +kernel) (by decide +kernel)
set_option maxRecDepth 20000 in
theorem gu_L_X10_swap : GoodIn wsL_law (wsV RL 139 RX10 yX10_swap uX10_swap) := goodIn_r _ [976, 977, 978, 5, 979, 410, 182, 183, 5, 370, 184, 1082, 1083, 1084, 1085, 1086, 1087, 1088, 1089, 1090, 1091, 1092, 1093, 1094, 1095, 1096, 1097, 1098, 1099, 1100, 1101, 1102, 1103, 1104, 1105, 1106, 1107, 1108, 1109, 1110, 1111, 1112, 1113, 1114, 1115, 1116, 1117] (by decide +kernel) (by decide +kernel)
set_option maxHeartbeats 4000000 in
set_option maxRecDepth 100000 in
theorem lc_27 {p : Program} {l : Launch} {e : Env} {s : State} {m : MethodId} {below : List Frame} {meth : Method} {c : Code} {cells slots : Nat} {Q : State → Prop} {b h0 : Nat} {xs : Nat → Int32} {D : va_G} {cI cL cC : ClassId} {t : Nat → Nat} {H : Heap} {locs : List Loc} {ls : Array Slot} (hx : p.tables.exec = Jvm.exec) (hb : c.code = cL_law) (hml : c.maxLocals = 4) (hown : s.vm.findClass RL = some m.cls) (hts : ∀ w ∈ wsL_law, w.before #[Value.ref b] s = true) (hE : EV D cI cL cC s) (hbl : b < h0) (hG : tG D (fF cI cL cC 0 0) t H) (kt : t h0 = 1) (kt2 : t (h0 + 92) = 40) (ht0 : ∀ q : Nat, q < h0 → t q = 0) (uq_gC : ∀ b c : Nat, t b = 2 → t c = 2 → b = c) (uq_gR : ∀ b c : Nat, t b = 40 → t c = 40 → b = c) (hS : cF h0 s.heap H locs) (hX : va_X b 8 xs s H) (hl : lv_has ls 4 [(3, .int 0), (2, .ref (h0 + 92)), (1, .ref h0), (0, .ref b)]) (hcl : cells ≤ 600000) (hsl : slots ≤ 7302250) (kx : ∀ (H1 : Heap) (locs1 : List Loc), cF h0 s.heap H1 locs1 → va_X b 8 xs s H1 → W p l e room_1 s m #[Value.ref b] below meth c H1 locs1 cells slots Q (F0 m 1417 ls [])) : W p l e room_1 s m #[Value.ref b] below meth c H locs cells slots Q (F0 m 1211 ls []) := by
  refine lv_aload_n hx hb dL_law_1211 rfl (lv_at hl 2 rfl) ?_
  refine lv_aload_n hx hb dL_law_1212 rfl (lv_at hl 3 rfl) ?_
  refine lv_iload_n hx hb dL_law_1213 rfl (lv_at hl 0 rfl) ?_
  refine lv_iconst (v := 1) hx hb dL_law_1214 (by decide) ?_
  refine lv_iadd hx hb dL_law_1215 ?_
  refine lv_seti (y := 1) (by decide) ?_
  refine ty_sld hx hb hX (i := 1) (q_in (by decide) (by decide)) dL_law_1216 ?_
  refine lv_seti (y := xs 1) rfl ?_
  obtain ⟨_, at_1⟩ := rcv1 hG kt
  refine lw_calli (W.runV (As := [.int (xs 1)]) (rest := []) ⟨hx, hb, hml, hown, hts⟩ (c_X9_swap l D t cI cL cC h0 (xs 1) kt) (cwV 1 hts gu_L_X9_swap rfl rfl rfl (by decide +kernel) ⟨Nat.le_of_ble_eq_true rfl, Nat.le_of_ble_eq_true rfl⟩) (tP_V hG hE at_1 rfl) rfl rfl hl.1 rfl (lv_room (Nat.le_of_ble_eq_true rfl)) dL_law_1217 ⟨hcl, hsl⟩) hS rfl ht0 (fun r_2 H locs hp_3 _ hS o_4 => ?_)
  replace hX := hX.kept (o_4 b (by rw [ht0 b hbl]; rfl))
  have hG2 := tG.keptW (tG.ref hG) o_4 (fun q h => rfl)
  refine lv_pc (pc2 := 1220) rfl ?_
  refine lv_aload_n hx hb dL_law_1220 rfl (lv_at hl 1 rfl) ?_
  refine lv_aload_n hx hb dL_law_1221 rfl (lv_at hl 3 rfl) ?_
  refine lv_iload_n hx hb dL_law_1222 rfl (lv_at hl 0 rfl) ?_
  refine lv_iconst (v := 1) hx hb dL_law_1223 (by decide) ?_
  refine lv_iadd hx hb dL_law_1224 ?_
  refine lv_seti (y := 1) (by decide) ?_
  refine ty_sld hx hb hX (i := 1) (q_in (by decide) (by decide)) dL_law_1225 ?_
  refine lv_seti (y := xs 1) rfl ?_
  obtain ⟨_, at_5⟩ := rcv40 hG2 (tM2_40 kt2 (by decide))
  refine lw_calli (W.runV (As := [.int (xs 1)]) (rest := [.int r_2]) ⟨hx, hb, hml, hown, hts⟩ (c_X10_swap l D (tM2 t) cI cL cC (h0 + 92) (xs 1) (tM2_40 kt2 (by decide))) (cwV 1 hts gu_L_X10_swap rfl rfl rfl (by decide +kernel) ⟨Nat.le_of_ble_eq_true rfl, Nat.le_of_ble_eq_true rfl⟩) (tP_V hG2 hE at_5 rfl) rfl rfl hl.1 rfl (lv_room (Nat.le_of_ble_eq_true rfl)) dL_law_1226 ⟨hcl, hsl⟩) hS rfl (fun q h => tM2_0 (ht0 q h)) (fun r_6 H locs hp_7 _ hS o_8 => ?_)
  replace hX := hX.kept (o_8 b (by rw [tM2_0 (ht0 b hbl)]; rfl))
  refine lv_icmp_eq (tgt := 1417) hx hb dL_law_1229 (by decide) (fun _ => ?_) (fun q => absurd ((by rcases hp_3 with ⟨h1, g1⟩ | ⟨h1, g1⟩ <;> rcases hp_7 with ⟨h2, g2⟩ | ⟨h2, g2⟩ <;> first | exact h1.trans h2.symm | (exfalso; omega))) q)
  exact kx H locs hS hX

set_option maxRecDepth 20000 in
theorem gu_L_X9_swapped : GoodIn wsL_law (wsV RL 140 RX9 yX9_swapped uX9_swapped) := goodIn_r _ [980, 981, 982, 2, 983, 608, 609, 2, 527, 168, 169, 24, 528, 610, 170, 1064, 1065, 1066, 1067, 1068, 1069, 1070, 1071, 1072, 1073, 1074, 1075, 1076, 1077, 1078, 1079, 1080, 1081] (by decide +kernel) (by decide +kernel)
set_option maxRecDepth 20000 in
theorem gu_L_X10_swapped : GoodIn wsL_law (wsV RL 143 RX10 yX10_swapped uX10_swapped) := goodIn_r _ [984, 985, 986, 5, 987, 575, 182, 183, 5, 501, 642, 643, 644, 546, 545, 184, 645, 370, 1082, 1083, 1084, 1085, 1086, 1087, 1088, 1089, 1090, 1091, 1092, 1093, 1094, 1095, 1096, 1097, 1098, 1099, 1100, 1101, 1102, 1103, 1104, 1105, 1106, 1107, 1108, 1109, 1110, 1111, 1112, 1113, 1114, 1115, 1116, 1117] (by decide +kernel) (by decide +kernel)
set_option maxHeartbeats 4000000 in
set_option maxRecDepth 100000 in
theorem lc_28 {p : Program} {l : Launch} {e : Env} {s : State} {m : MethodId} {below : List Frame} {meth : Method} {c : Code} {cells slots : Nat} {Q : State → Prop} {b h0 : Nat} {xs : Nat → Int32} {D : va_G} {cI cL cC : ClassId} {t : Nat → Nat} {H : Heap} {locs : List Loc} {ls : Array Slot} (hx : p.tables.exec = Jvm.exec) (hb : c.code = cL_law) (hml : c.maxLocals = 4) (hown : s.vm.findClass RL = some m.cls) (hts : ∀ w ∈ wsL_law, w.before #[Value.ref b] s = true) (hE : EV D cI cL cC s) (hbl : b < h0) (hG : tG D (fF cI cL cC 0 0) t H) (kt : t h0 = 1) (kt2 : t (h0 + 92) = 40) (ht0 : ∀ q : Nat, q < h0 → t q = 0) (uq_gC : ∀ b c : Nat, t b = 2 → t c = 2 → b = c) (uq_gR : ∀ b c : Nat, t b = 40 → t c = 40 → b = c) (hS : cF h0 s.heap H locs) (hX : va_X b 8 xs s H) (hl : lv_has ls 4 [(3, .int 0), (2, .ref (h0 + 92)), (1, .ref h0), (0, .ref b)]) (hcl : cells ≤ 600000) (hsl : slots ≤ 7302250) (kx : ∀ (H1 : Heap) (locs1 : List Loc), cF h0 s.heap H1 locs1 → va_X b 8 xs s H1 → W p l e room_1 s m #[Value.ref b] below meth c H1 locs1 cells slots Q (F0 m 1417 ls [])) : W p l e room_1 s m #[Value.ref b] below meth c H locs cells slots Q (F0 m 1234 ls []) := by
  refine lv_aload_n hx hb dL_law_1234 rfl (lv_at hl 2 rfl) ?_
  refine lv_aload_n hx hb dL_law_1235 rfl (lv_at hl 3 rfl) ?_
  refine lv_iload_n hx hb dL_law_1236 rfl (lv_at hl 0 rfl) ?_
  refine lv_iconst (v := 1) hx hb dL_law_1237 (by decide) ?_
  refine lv_iadd hx hb dL_law_1238 ?_
  refine lv_seti (y := 1) (by decide) ?_
  refine ty_sld hx hb hX (i := 1) (q_in (by decide) (by decide)) dL_law_1239 ?_
  refine lv_seti (y := xs 1) rfl ?_
  refine lv_aload_n hx hb dL_law_1240 rfl (lv_at hl 3 rfl) ?_
  refine lv_pc (pc2 := 1241) rfl ?_
  refine lv_iload_n hx hb dL_law_1241 rfl (lv_at hl 0 rfl) ?_
  refine lv_iconst (v := 2) hx hb dL_law_1242 (by decide) ?_
  refine lv_iadd hx hb dL_law_1243 ?_
  refine lv_seti (y := 2) (by decide) ?_
  refine ty_sld hx hb hX (i := 2) (q_in (by decide) (by decide)) dL_law_1244 ?_
  refine lv_seti (y := xs 2) rfl ?_
  refine lv_aload_n hx hb dL_law_1245 rfl (lv_at hl 3 rfl) ?_
  refine lv_iload_n hx hb dL_law_1246 rfl (lv_at hl 0 rfl) ?_
  refine lv_iconst (v := 3) hx hb dL_law_1247 (by decide) ?_
  refine lv_iadd hx hb dL_law_1248 ?_
  refine lv_seti (y := 3) (by decide) ?_
  refine lv_pc (pc2 := 1249) rfl ?_
  refine ty_sld hx hb hX (i := 3) (q_in (by decide) (by decide)) dL_law_1249 ?_
  refine lv_seti (y := xs 3) rfl ?_
  obtain ⟨_, at_1⟩ := rcv1 hG kt
  refine lw_calll (W.runV (As := [.int (xs 1), .int (xs 2), .int (xs 3)]) (rest := []) ⟨hx, hb, hml, hown, hts⟩ (c_X9_swapped l D t cI cL cC h0 (xs 1) (xs 2) (xs 3) kt) (cwV 3 hts gu_L_X9_swapped rfl rfl rfl (by decide +kernel) ⟨Nat.le_of_ble_eq_true rfl, Nat.le_of_ble_eq_true rfl⟩) (tP_V hG hE at_1 rfl) rfl rfl hl.1 rfl (lv_room (Nat.le_of_ble_eq_true rfl)) dL_law_1250 ⟨hcl, hsl⟩) hS rfl ht0 (fun r_2 H locs hp_3 _ hS o_4 => ?_)
  replace hX := hX.kept (o_4 b (by rw [ht0 b hbl]; rfl))
  have hG2 := tG.keptW (tG.ref hG) o_4 (fun q h => rfl)
  refine lv_aload_n hx hb dL_law_1253 rfl (lv_at hl 1 rfl) ?_
  refine lv_aload_n hx hb dL_law_1254 rfl (lv_at hl 3 rfl) ?_
  refine lv_iload_n hx hb dL_law_1255 rfl (lv_at hl 0 rfl) ?_
  refine lv_iconst (v := 1) hx hb dL_law_1256 (by decide) ?_
  refine lv_iadd hx hb dL_law_1257 ?_
  refine lv_seti (y := 1) (by decide) ?_
  refine ty_sld hx hb hX (i := 1) (q_in (by decide) (by decide)) dL_law_1258 ?_
  refine lv_seti (y := xs 1) rfl ?_
  refine lv_pc (pc2 := 1259) rfl ?_
  refine lv_aload_n hx hb dL_law_1259 rfl (lv_at hl 3 rfl) ?_
  refine lv_iload_n hx hb dL_law_1260 rfl (lv_at hl 0 rfl) ?_
  refine lv_iconst (v := 2) hx hb dL_law_1261 (by decide) ?_
  refine lv_iadd hx hb dL_law_1262 ?_
  refine lv_seti (y := 2) (by decide) ?_
  refine ty_sld hx hb hX (i := 2) (q_in (by decide) (by decide)) dL_law_1263 ?_
  refine lv_seti (y := xs 2) rfl ?_
  refine lv_aload_n hx hb dL_law_1264 rfl (lv_at hl 3 rfl) ?_
  refine lv_iload_n hx hb dL_law_1265 rfl (lv_at hl 0 rfl) ?_
  refine lv_iconst (v := 3) hx hb dL_law_1266 (by decide) ?_
  refine lv_pc (pc2 := 1267) rfl ?_
  refine lv_iadd hx hb dL_law_1267 ?_
  refine lv_seti (y := 3) (by decide) ?_
  refine ty_sld hx hb hX (i := 3) (q_in (by decide) (by decide)) dL_law_1268 ?_
  refine lv_seti (y := xs 3) rfl ?_
  obtain ⟨_, at_5⟩ := rcv40 hG2 (tM2_40 kt2 (by decide))
  refine lw_calll (W.runV (As := [.int (xs 1), .int (xs 2), .int (xs 3)]) (rest := [.long r_2]) ⟨hx, hb, hml, hown, hts⟩ (c_X10_swapped l D (tM2 t) cI cL cC (h0 + 92) (xs 1) (xs 2) (xs 3) (tM2_40 kt2 (by decide))) (cwV 3 hts gu_L_X10_swapped rfl rfl rfl (by decide +kernel) ⟨Nat.le_of_ble_eq_true rfl, Nat.le_of_ble_eq_true rfl⟩) (tP_V hG2 hE at_5 rfl) rfl rfl hl.1 rfl (lv_room (Nat.le_of_ble_eq_true rfl)) dL_law_1269 ⟨hcl, hsl⟩) hS rfl (fun q h => tM2_0 (ht0 q h)) (fun r_6 H locs hp_7 _ hS o_8 => ?_)
  replace hX := hX.kept (o_8 b (by rw [tM2_0 (ht0 b hbl)]; rfl))
  refine W.lcmp hx hb dL_law_1272 ?_
  refine lv_if_eq (tgt := 1417) hx hb dL_law_1273 (by decide) (fun _ => ?_) (fun q => absurd ((lg_cmp_eq _ _).mpr (by rcases hp_3 with ⟨h1, g1⟩ | ⟨h1, g1⟩ <;> rcases hp_7 with ⟨h2, g2⟩ | ⟨h2, g2⟩ <;> first | exact h1.trans h2.symm | (exfalso; omega))) q)
  exact kx H locs hS hX

set_option maxRecDepth 20000 in
theorem gu_L_X9_laySwap : GoodIn wsL_law (wsV RL 144 RX9 yX9_laySwap uX9_laySwap) := goodIn_r _ [988, 989, 990, 2, 991, 24, 1064, 1065, 1066, 1067, 1068, 1069, 1070, 1071, 1072, 1073, 1074, 1075, 1076, 1077, 1078, 1079, 1080, 1081] (by decide +kernel) (by decide +kernel)
set_option maxRecDepth 20000 in
theorem gu_L_X10_laySwap : GoodIn wsL_law (wsV RL 147 RX10 yX10_laySwap uX10_laySwap) := goodIn_r _ [992, 993, 994, 5, 995, 370, 1082, 1083, 1084, 1085, 1086, 1087, 1088, 1089, 1090, 1091, 1092, 1093, 1094, 1095, 1096, 1097, 1098, 1099, 1100, 1101, 1102, 1103, 1104, 1105, 1106, 1107, 1108, 1109, 1110, 1111, 1112, 1113, 1114, 1115, 1116, 1117] (by decide +kernel) (by decide +kernel)
set_option maxHeartbeats 4000000 in
set_option maxRecDepth 100000 in
theorem lc_29 {p : Program} {l : Launch} {e : Env} {s : State} {m : MethodId} {below : List Frame} {meth : Method} {c : Code} {cells slots : Nat} {Q : State → Prop} {b h0 : Nat} {xs : Nat → Int32} {D : va_G} {cI cL cC : ClassId} {t : Nat → Nat} {H : Heap} {locs : List Loc} {ls : Array Slot} (hx : p.tables.exec = Jvm.exec) (hb : c.code = cL_law) (hml : c.maxLocals = 4) (hown : s.vm.findClass RL = some m.cls) (hts : ∀ w ∈ wsL_law, w.before #[Value.ref b] s = true) (hE : EV D cI cL cC s) (hbl : b < h0) (hG : tG D (fF cI cL cC 0 0) t H) (kt : t h0 = 1) (kt2 : t (h0 + 92) = 40) (ht0 : ∀ q : Nat, q < h0 → t q = 0) (uq_gC : ∀ b c : Nat, t b = 2 → t c = 2 → b = c) (uq_gR : ∀ b c : Nat, t b = 40 → t c = 40 → b = c) (hS : cF h0 s.heap H locs) (hX : va_X b 8 xs s H) (hl : lv_has ls 4 [(3, .int 0), (2, .ref (h0 + 92)), (1, .ref h0), (0, .ref b)]) (hcl : cells ≤ 600000) (hsl : slots ≤ 7302250) (kx : ∀ (H1 : Heap) (locs1 : List Loc), cF h0 s.heap H1 locs1 → va_X b 8 xs s H1 → W p l e room_1 s m #[Value.ref b] below meth c H1 locs1 cells slots Q (F0 m 1417 ls [])) : W p l e room_1 s m #[Value.ref b] below meth c H locs cells slots Q (F0 m 1278 ls []) := by
  refine lv_aload_n hx hb dL_law_1278 rfl (lv_at hl 2 rfl) ?_
  obtain ⟨_, at_1⟩ := rcv1 hG kt
  refine lw_calli (W.runV (As := []) (rest := []) ⟨hx, hb, hml, hown, hts⟩ (c_X9_laySwap l D t cI cL cC h0  kt) (cwV 0 hts gu_L_X9_laySwap rfl rfl rfl (by decide +kernel) ⟨Nat.le_of_ble_eq_true rfl, Nat.le_of_ble_eq_true rfl⟩) (tP_V hG hE at_1 rfl) rfl rfl hl.1 rfl (lv_room (Nat.le_of_ble_eq_true rfl)) dL_law_1279 ⟨hcl, hsl⟩) hS rfl ht0 (fun r_2 H locs hp_3 _ hS o_4 => ?_)
  replace hX := hX.kept (o_4 b (by rw [ht0 b hbl]; rfl))
  have hG2 := tG.keptW (tG.ref hG) o_4 (fun q h => rfl)
  refine lv_aload_n hx hb dL_law_1282 rfl (lv_at hl 1 rfl) ?_
  obtain ⟨_, at_5⟩ := rcv40 hG2 (tM2_40 kt2 (by decide))
  refine lw_calli (W.runV (As := []) (rest := [.int r_2]) ⟨hx, hb, hml, hown, hts⟩ (c_X10_laySwap l D (tM2 t) cI cL cC (h0 + 92)  (tM2_40 kt2 (by decide))) (cwV 0 hts gu_L_X10_laySwap rfl rfl rfl (by decide +kernel) ⟨Nat.le_of_ble_eq_true rfl, Nat.le_of_ble_eq_true rfl⟩) (tP_V hG2 hE at_5 rfl) rfl rfl hl.1 rfl (lv_room (Nat.le_of_ble_eq_true rfl)) dL_law_1283 ⟨hcl, hsl⟩) hS rfl (fun q h => tM2_0 (ht0 q h)) (fun r_6 H locs hp_7 _ hS o_8 => ?_)
  replace hX := hX.kept (o_8 b (by rw [tM2_0 (ht0 b hbl)]; rfl))
  refine lv_icmp_eq (tgt := 1417) hx hb dL_law_1286 (by decide) (fun _ => ?_) (fun q => absurd ((hp_3.trans hp_7.symm)) q)
  exact kx H locs hS hX

set_option maxRecDepth 20000 in
theorem gu_L_X9_startB : GoodIn wsL_law (wsV RL 148 RX9 yX9_startB uX9_startB) := goodIn_r _ [996, 997, 998, 2, 999, 530, 223, 2, 680, 168, 169, 531, 532, 533, 224, 170, 534, 23, 1064, 1065, 1066, 1067, 1068, 1069, 1070, 1071, 1072, 1073, 1074, 1075, 1076, 1077, 1078, 1079, 1080, 1081] (by decide +kernel) (by decide +kernel)
set_option maxRecDepth 20000 in
theorem gu_L_X10_startB : GoodIn wsL_law (wsV RL 151 RX10 yX10_startB uX10_startB) := goodIn_r _ [1000, 1001, 1002, 5, 1003, 544, 182, 183, 5, 316, 370, 184, 1082, 1083, 1084, 1085, 1086, 1087, 1088, 1089, 1090, 1091, 1092, 1093, 1094, 1095, 1096, 1097, 1098, 1099, 1100, 1101, 1102, 1103, 1104, 1105, 1106, 1107, 1108, 1109, 1110, 1111, 1112, 1113, 1114, 1115, 1116, 1117] (by decide +kernel) (by decide +kernel)
set_option maxHeartbeats 4000000 in
set_option maxRecDepth 100000 in
theorem lc_30 {p : Program} {l : Launch} {e : Env} {s : State} {m : MethodId} {below : List Frame} {meth : Method} {c : Code} {cells slots : Nat} {Q : State → Prop} {b h0 : Nat} {xs : Nat → Int32} {D : va_G} {cI cL cC : ClassId} {t : Nat → Nat} {H : Heap} {locs : List Loc} {ls : Array Slot} (hx : p.tables.exec = Jvm.exec) (hb : c.code = cL_law) (hml : c.maxLocals = 4) (hown : s.vm.findClass RL = some m.cls) (hts : ∀ w ∈ wsL_law, w.before #[Value.ref b] s = true) (hE : EV D cI cL cC s) (hbl : b < h0) (hG : tG D (fF cI cL cC 0 0) t H) (kt : t h0 = 1) (kt2 : t (h0 + 92) = 40) (ht0 : ∀ q : Nat, q < h0 → t q = 0) (uq_gC : ∀ b c : Nat, t b = 2 → t c = 2 → b = c) (uq_gR : ∀ b c : Nat, t b = 40 → t c = 40 → b = c) (hS : cF h0 s.heap H locs) (hX : va_X b 8 xs s H) (hl : lv_has ls 4 [(3, .int 0), (2, .ref (h0 + 92)), (1, .ref h0), (0, .ref b)]) (hcl : cells ≤ 600000) (hsl : slots ≤ 7302250) (kx : ∀ (H1 : Heap) (locs1 : List Loc), cF h0 s.heap H1 locs1 → va_X b 8 xs s H1 → W p l e room_1 s m #[Value.ref b] below meth c H1 locs1 cells slots Q (F0 m 1417 ls [])) : W p l e room_1 s m #[Value.ref b] below meth c H locs cells slots Q (F0 m 1291 ls []) := by
  refine lv_aload_n hx hb dL_law_1291 rfl (lv_at hl 2 rfl) ?_
  refine lv_aload_n hx hb dL_law_1292 rfl (lv_at hl 3 rfl) ?_
  refine lv_iload_n hx hb dL_law_1293 rfl (lv_at hl 0 rfl) ?_
  refine lv_iconst (v := 1) hx hb dL_law_1294 (by decide) ?_
  refine lv_iadd hx hb dL_law_1295 ?_
  refine lv_seti (y := 1) (by decide) ?_
  refine ty_sld hx hb hX (i := 1) (q_in (by decide) (by decide)) dL_law_1296 ?_
  refine lv_seti (y := xs 1) rfl ?_
  refine lv_aload_n hx hb dL_law_1297 rfl (lv_at hl 3 rfl) ?_
  refine lv_pc (pc2 := 1298) rfl ?_
  refine lv_iload_n hx hb dL_law_1298 rfl (lv_at hl 0 rfl) ?_
  refine lv_iconst (v := 2) hx hb dL_law_1299 (by decide) ?_
  refine lv_iadd hx hb dL_law_1300 ?_
  refine lv_seti (y := 2) (by decide) ?_
  refine ty_sld hx hb hX (i := 2) (q_in (by decide) (by decide)) dL_law_1301 ?_
  refine lv_seti (y := xs 2) rfl ?_
  obtain ⟨_, at_1⟩ := rcv1 hG kt
  refine lw_calli (W.runV (As := [.int (xs 1), .int (xs 2)]) (rest := []) ⟨hx, hb, hml, hown, hts⟩ (c_X9_startB l D t cI cL cC h0 (xs 1) (xs 2) kt) (cwV 2 hts gu_L_X9_startB rfl rfl rfl (by decide +kernel) ⟨Nat.le_of_ble_eq_true rfl, Nat.le_of_ble_eq_true rfl⟩) (tP_V hG hE at_1 rfl) rfl rfl hl.1 rfl (lv_room (Nat.le_of_ble_eq_true rfl)) dL_law_1302 ⟨hcl, hsl⟩) hS rfl ht0 (fun r_2 H locs hp_3 _ hS o_4 => ?_)
  replace hX := hX.kept (o_4 b (by rw [ht0 b hbl]; rfl))
  have hG2 := tG.keptW (tG.ref hG) o_4 (fun q h => rfl)
  refine lv_aload_n hx hb dL_law_1305 rfl (lv_at hl 1 rfl) ?_
  refine lv_aload_n hx hb dL_law_1306 rfl (lv_at hl 3 rfl) ?_
  refine lv_iload_n hx hb dL_law_1307 rfl (lv_at hl 0 rfl) ?_
  refine lv_pc (pc2 := 1308) rfl ?_
  refine lv_iconst (v := 1) hx hb dL_law_1308 (by decide) ?_
  refine lv_iadd hx hb dL_law_1309 ?_
  refine lv_seti (y := 1) (by decide) ?_
  refine ty_sld hx hb hX (i := 1) (q_in (by decide) (by decide)) dL_law_1310 ?_
  refine lv_seti (y := xs 1) rfl ?_
  refine lv_aload_n hx hb dL_law_1311 rfl (lv_at hl 3 rfl) ?_
  refine lv_iload_n hx hb dL_law_1312 rfl (lv_at hl 0 rfl) ?_
  refine lv_iconst (v := 2) hx hb dL_law_1313 (by decide) ?_
  refine lv_iadd hx hb dL_law_1314 ?_
  refine lv_seti (y := 2) (by decide) ?_
  refine ty_sld hx hb hX (i := 2) (q_in (by decide) (by decide)) dL_law_1315 ?_
  refine lv_seti (y := xs 2) rfl ?_
  refine lv_pc (pc2 := 1316) rfl ?_
  obtain ⟨_, at_5⟩ := rcv40 hG2 (tM2_40 kt2 (by decide))
  refine lw_calli (W.runV (As := [.int (xs 1), .int (xs 2)]) (rest := [.int r_2]) ⟨hx, hb, hml, hown, hts⟩ (c_X10_startB l D (tM2 t) cI cL cC (h0 + 92) (xs 1) (xs 2) (tM2_40 kt2 (by decide))) (cwV 2 hts gu_L_X10_startB rfl rfl rfl (by decide +kernel) ⟨Nat.le_of_ble_eq_true rfl, Nat.le_of_ble_eq_true rfl⟩) (tP_V hG2 hE at_5 rfl) rfl rfl hl.1 rfl (lv_room (Nat.le_of_ble_eq_true rfl)) dL_law_1316 ⟨hcl, hsl⟩) hS rfl (fun q h => tM2_0 (ht0 q h)) (fun r_6 H locs hp_7 _ hS o_8 => ?_)
  replace hX := hX.kept (o_8 b (by rw [tM2_0 (ht0 b hbl)]; rfl))
  refine lv_icmp_eq (tgt := 1417) hx hb dL_law_1319 (by decide) (fun _ => ?_) (fun q => absurd ((by rcases hp_3 with ⟨h1, g1⟩ | ⟨h1, g1⟩ <;> rcases hp_7 with ⟨h2, g2⟩ | ⟨h2, g2⟩ <;> first | exact h1.trans h2.symm | (exfalso; omega))) q)
  exact kx H locs hS hX

set_option maxRecDepth 20000 in
theorem gu_L_X9_blame : GoodIn wsL_law (wsV RL 152 RX9 yX9_blame uX9_blame) := goodIn_r _ [1004, 1005, 1006, 2, 1007, 608, 609, 2, 1008, 168, 169, 623, 624, 625, 1009, 610, 170, 626, 23, 1064, 1065, 1066, 1067, 1068, 1069, 1070, 1071, 1072, 1073, 1074, 1075, 1076, 1077, 1078, 1079, 1080, 1081] (by decide +kernel) (by decide +kernel)
set_option maxRecDepth 20000 in
theorem gu_L_X10_blame : GoodIn wsL_law (wsV RL 155 RX10 yX10_blame uX10_blame) := goodIn_r _ [1018, 1019, 1020, 5, 1021, 575, 182, 183, 5, 421, 642, 643, 644, 1023, 1022, 184, 645, 370, 1082, 1083, 1084, 1085, 1086, 1087, 1088, 1089, 1090, 1091, 1092, 1093, 1094, 1095, 1096, 1097, 1098, 1099, 1100, 1101, 1102, 1103, 1104, 1105, 1106, 1107, 1108, 1109, 1110, 1111, 1112, 1113, 1114, 1115, 1116, 1117] (by decide +kernel) (by decide +kernel)
set_option maxHeartbeats 4000000 in
set_option maxRecDepth 100000 in
theorem lc_31 {p : Program} {l : Launch} {e : Env} {s : State} {m : MethodId} {below : List Frame} {meth : Method} {c : Code} {cells slots : Nat} {Q : State → Prop} {b h0 : Nat} {xs : Nat → Int32} {D : va_G} {cI cL cC : ClassId} {t : Nat → Nat} {H : Heap} {locs : List Loc} {ls : Array Slot} (hx : p.tables.exec = Jvm.exec) (hb : c.code = cL_law) (hml : c.maxLocals = 4) (hown : s.vm.findClass RL = some m.cls) (hts : ∀ w ∈ wsL_law, w.before #[Value.ref b] s = true) (hE : EV D cI cL cC s) (hbl : b < h0) (hG : tG D (fF cI cL cC 0 0) t H) (kt : t h0 = 1) (kt2 : t (h0 + 92) = 40) (ht0 : ∀ q : Nat, q < h0 → t q = 0) (uq_gC : ∀ b c : Nat, t b = 2 → t c = 2 → b = c) (uq_gR : ∀ b c : Nat, t b = 40 → t c = 40 → b = c) (hS : cF h0 s.heap H locs) (hX : va_X b 8 xs s H) (hl : lv_has ls 4 [(3, .int 0), (2, .ref (h0 + 92)), (1, .ref h0), (0, .ref b)]) (hcl : cells ≤ 600000) (hsl : slots ≤ 7302250) (kx : ∀ (H1 : Heap) (locs1 : List Loc), cF h0 s.heap H1 locs1 → va_X b 8 xs s H1 → W p l e room_1 s m #[Value.ref b] below meth c H1 locs1 cells slots Q (F0 m 1417 ls [])) : W p l e room_1 s m #[Value.ref b] below meth c H locs cells slots Q (F0 m 1324 ls []) := by
  refine lv_aload_n hx hb dL_law_1324 rfl (lv_at hl 2 rfl) ?_
  refine lv_aload_n hx hb dL_law_1325 rfl (lv_at hl 3 rfl) ?_
  refine lv_iload_n hx hb dL_law_1326 rfl (lv_at hl 0 rfl) ?_
  refine lv_iconst (v := 1) hx hb dL_law_1327 (by decide) ?_
  refine lv_iadd hx hb dL_law_1328 ?_
  refine lv_seti (y := 1) (by decide) ?_
  refine ty_sld hx hb hX (i := 1) (q_in (by decide) (by decide)) dL_law_1329 ?_
  refine lv_seti (y := xs 1) rfl ?_
  refine lv_aload_n hx hb dL_law_1330 rfl (lv_at hl 3 rfl) ?_
  refine lv_pc (pc2 := 1331) rfl ?_
  refine lv_iload_n hx hb dL_law_1331 rfl (lv_at hl 0 rfl) ?_
  refine lv_iconst (v := 2) hx hb dL_law_1332 (by decide) ?_
  refine lv_iadd hx hb dL_law_1333 ?_
  refine lv_seti (y := 2) (by decide) ?_
  refine ty_sld hx hb hX (i := 2) (q_in (by decide) (by decide)) dL_law_1334 ?_
  refine lv_seti (y := xs 2) rfl ?_
  refine lv_aload_n hx hb dL_law_1335 rfl (lv_at hl 3 rfl) ?_
  refine lv_iload_n hx hb dL_law_1336 rfl (lv_at hl 0 rfl) ?_
  refine lv_iconst (v := 3) hx hb dL_law_1337 (by decide) ?_
  refine lv_iadd hx hb dL_law_1338 ?_
  refine lv_seti (y := 3) (by decide) ?_
  refine lv_pc (pc2 := 1339) rfl ?_
  refine ty_sld hx hb hX (i := 3) (q_in (by decide) (by decide)) dL_law_1339 ?_
  refine lv_seti (y := xs 3) rfl ?_
  obtain ⟨_, at_1⟩ := rcv1 hG kt
  refine lw_calll (W.runV (As := [.int (xs 1), .int (xs 2), .int (xs 3)]) (rest := []) ⟨hx, hb, hml, hown, hts⟩ (c_X9_blame l D t cI cL cC h0 (xs 1) (xs 2) (xs 3) kt) (cwV 3 hts gu_L_X9_blame rfl rfl rfl (by decide +kernel) ⟨Nat.le_of_ble_eq_true rfl, Nat.le_of_ble_eq_true rfl⟩) (tP_V hG hE at_1 rfl) rfl rfl hl.1 rfl (lv_room (Nat.le_of_ble_eq_true rfl)) dL_law_1340 ⟨hcl, hsl⟩) hS rfl ht0 (fun r_2 H locs hp_3 _ hS o_4 => ?_)
  replace hX := hX.kept (o_4 b (by rw [ht0 b hbl]; rfl))
  have hG2 := tG.keptW (tG.ref hG) o_4 (fun q h => rfl)
  refine lv_aload_n hx hb dL_law_1343 rfl (lv_at hl 1 rfl) ?_
  refine lv_aload_n hx hb dL_law_1344 rfl (lv_at hl 3 rfl) ?_
  refine lv_iload_n hx hb dL_law_1345 rfl (lv_at hl 0 rfl) ?_
  refine lv_iconst (v := 1) hx hb dL_law_1346 (by decide) ?_
  refine lv_iadd hx hb dL_law_1347 ?_
  refine lv_seti (y := 1) (by decide) ?_
  refine ty_sld hx hb hX (i := 1) (q_in (by decide) (by decide)) dL_law_1348 ?_
  refine lv_seti (y := xs 1) rfl ?_
  refine lv_pc (pc2 := 1349) rfl ?_
  refine lv_aload_n hx hb dL_law_1349 rfl (lv_at hl 3 rfl) ?_
  refine lv_iload_n hx hb dL_law_1350 rfl (lv_at hl 0 rfl) ?_
  refine lv_iconst (v := 2) hx hb dL_law_1351 (by decide) ?_
  refine lv_iadd hx hb dL_law_1352 ?_
  refine lv_seti (y := 2) (by decide) ?_
  refine ty_sld hx hb hX (i := 2) (q_in (by decide) (by decide)) dL_law_1353 ?_
  refine lv_seti (y := xs 2) rfl ?_
  refine lv_aload_n hx hb dL_law_1354 rfl (lv_at hl 3 rfl) ?_
  refine lv_iload_n hx hb dL_law_1355 rfl (lv_at hl 0 rfl) ?_
  refine lv_iconst (v := 3) hx hb dL_law_1356 (by decide) ?_
  refine lv_pc (pc2 := 1357) rfl ?_
  refine lv_iadd hx hb dL_law_1357 ?_
  refine lv_seti (y := 3) (by decide) ?_
  refine ty_sld hx hb hX (i := 3) (q_in (by decide) (by decide)) dL_law_1358 ?_
  refine lv_seti (y := xs 3) rfl ?_
  obtain ⟨_, at_5⟩ := rcv40 hG2 (tM2_40 kt2 (by decide))
  refine lw_calll (W.runV (As := [.int (xs 1), .int (xs 2), .int (xs 3)]) (rest := [.long r_2]) ⟨hx, hb, hml, hown, hts⟩ (c_X10_blame l D (tM2 t) cI cL cC (h0 + 92) (xs 1) (xs 2) (xs 3) (tM2_40 kt2 (by decide))) (cwV 3 hts gu_L_X10_blame rfl rfl rfl (by decide +kernel) ⟨Nat.le_of_ble_eq_true rfl, Nat.le_of_ble_eq_true rfl⟩) (tP_V hG2 hE at_5 rfl) rfl rfl hl.1 rfl (lv_room (Nat.le_of_ble_eq_true rfl)) dL_law_1359 ⟨hcl, hsl⟩) hS rfl (fun q h => tM2_0 (ht0 q h)) (fun r_6 H locs hp_7 _ hS o_8 => ?_)
  replace hX := hX.kept (o_8 b (by rw [tM2_0 (ht0 b hbl)]; rfl))
  refine W.lcmp hx hb dL_law_1362 ?_
  refine lv_if_eq (tgt := 1417) hx hb dL_law_1363 (by decide) (fun _ => ?_) (fun q => absurd ((lg_cmp_eq _ _).mpr (by rcases hp_3 with ⟨h1, g1⟩ | ⟨h1, g1⟩ <;> rcases hp_7 with ⟨h2, g2⟩ | ⟨h2, g2⟩ <;> first | exact h1.trans h2.symm | (exfalso; omega))) q)
  exact kx H locs hS hX

set_option maxRecDepth 20000 in
theorem gu_L_X9_keep : GoodIn wsL_law (wsV RL 156 RX9 yX9_keep uX9_keep) := goodIn_r _ [1028, 1029, 1030, 2, 1031, 23, 1064, 1065, 1066, 1067, 1068, 1069, 1070, 1071, 1072, 1073, 1074, 1075, 1076, 1077, 1078, 1079, 1080, 1081] (by decide +kernel) (by decide +kernel)
set_option maxRecDepth 20000 in
theorem gu_L_X10_keep : GoodIn wsL_law (wsV RL 159 RX10 yX10_keep uX10_keep) := goodIn_r _ [1032, 1033, 1034, 5, 1035, 370, 1082, 1083, 1084, 1085, 1086, 1087, 1088, 1089, 1090, 1091, 1092, 1093, 1094, 1095, 1096, 1097, 1098, 1099, 1100, 1101, 1102, 1103, 1104, 1105, 1106, 1107, 1108, 1109, 1110, 1111, 1112, 1113, 1114, 1115, 1116, 1117] (by decide +kernel) (by decide +kernel)
set_option maxHeartbeats 4000000 in
set_option maxRecDepth 100000 in
theorem lc_32 {p : Program} {l : Launch} {e : Env} {s : State} {m : MethodId} {below : List Frame} {meth : Method} {c : Code} {cells slots : Nat} {Q : State → Prop} {b h0 : Nat} {xs : Nat → Int32} {D : va_G} {cI cL cC : ClassId} {t : Nat → Nat} {H : Heap} {locs : List Loc} {ls : Array Slot} (hx : p.tables.exec = Jvm.exec) (hb : c.code = cL_law) (hml : c.maxLocals = 4) (hown : s.vm.findClass RL = some m.cls) (hts : ∀ w ∈ wsL_law, w.before #[Value.ref b] s = true) (hE : EV D cI cL cC s) (hbl : b < h0) (hG : tG D (fF cI cL cC 0 0) t H) (kt : t h0 = 1) (kt2 : t (h0 + 92) = 40) (ht0 : ∀ q : Nat, q < h0 → t q = 0) (uq_gC : ∀ b c : Nat, t b = 2 → t c = 2 → b = c) (uq_gR : ∀ b c : Nat, t b = 40 → t c = 40 → b = c) (hS : cF h0 s.heap H locs) (hX : va_X b 8 xs s H) (hl : lv_has ls 4 [(3, .int 0), (2, .ref (h0 + 92)), (1, .ref h0), (0, .ref b)]) (hcl : cells ≤ 600000) (hsl : slots ≤ 7302250) (kx : ∀ (H1 : Heap) (locs1 : List Loc), cF h0 s.heap H1 locs1 → va_X b 8 xs s H1 → W p l e room_1 s m #[Value.ref b] below meth c H1 locs1 cells slots Q (F0 m 1417 ls [])) : W p l e room_1 s m #[Value.ref b] below meth c H locs cells slots Q (F0 m 1368 ls []) := by
  refine lv_aload_n hx hb dL_law_1368 rfl (lv_at hl 2 rfl) ?_
  obtain ⟨_, at_1⟩ := rcv1 hG kt
  refine lw_calli (W.runV (As := []) (rest := []) ⟨hx, hb, hml, hown, hts⟩ (c_X9_keep l D t cI cL cC h0  kt) (cwV 0 hts gu_L_X9_keep rfl rfl rfl (by decide +kernel) ⟨Nat.le_of_ble_eq_true rfl, Nat.le_of_ble_eq_true rfl⟩) (tP_V hG hE at_1 rfl) rfl rfl hl.1 rfl (lv_room (Nat.le_of_ble_eq_true rfl)) dL_law_1369 ⟨hcl, hsl⟩) hS rfl ht0 (fun r_2 H locs hp_3 _ hS o_4 => ?_)
  replace hX := hX.kept (o_4 b (by rw [ht0 b hbl]; rfl))
  have hG2 := tG.keptW (tG.ref hG) o_4 (fun q h => rfl)
  refine lv_aload_n hx hb dL_law_1372 rfl (lv_at hl 1 rfl) ?_
  obtain ⟨_, at_5⟩ := rcv40 hG2 (tM2_40 kt2 (by decide))
  refine lw_calli (W.runV (As := []) (rest := [.int r_2]) ⟨hx, hb, hml, hown, hts⟩ (c_X10_keep l D (tM2 t) cI cL cC (h0 + 92)  (tM2_40 kt2 (by decide))) (cwV 0 hts gu_L_X10_keep rfl rfl rfl (by decide +kernel) ⟨Nat.le_of_ble_eq_true rfl, Nat.le_of_ble_eq_true rfl⟩) (tP_V hG2 hE at_5 rfl) rfl rfl hl.1 rfl (lv_room (Nat.le_of_ble_eq_true rfl)) dL_law_1373 ⟨hcl, hsl⟩) hS rfl (fun q h => tM2_0 (ht0 q h)) (fun r_6 H locs hp_7 _ hS o_8 => ?_)
  replace hX := hX.kept (o_8 b (by rw [tM2_0 (ht0 b hbl)]; rfl))
  refine lv_icmp_eq (tgt := 1417) hx hb dL_law_1376 (by decide) (fun _ => ?_) (fun q => absurd ((hp_3.trans hp_7.symm)) q)
  exact kx H locs hS hX

set_option maxRecDepth 20000 in
theorem gu_L_X9_back : GoodIn wsL_law (wsV RL 160 RX9 yX9_back uX9_back) := goodIn_r _ [1036, 1037, 1038, 2, 1039, 39, 168, 169, 2, 170, 1064, 1065, 1066, 1067, 1068, 1069, 1070, 1071, 1072, 1073, 1074, 1075, 1076, 1077, 1078, 1079, 1080, 1081] (by decide +kernel) (by decide +kernel)
set_option maxRecDepth 20000 in
theorem gu_L_X10_back : GoodIn wsL_law (wsV RL 163 RX10 yX10_back uX10_back) := goodIn_r _ [1040, 1041, 1042, 5, 1043, 372, 1082, 1083, 1084, 1085, 1086, 1087, 1088, 1089, 1090, 1091, 1092, 1093, 1094, 1095, 1096, 1097, 1098, 1099, 1100, 1101, 1102, 1103, 1104, 1105, 1106, 1107, 1108, 1109, 1110, 1111, 1112, 1113, 1114, 1115, 1116, 1117] (by decide +kernel) (by decide +kernel)
set_option maxHeartbeats 4000000 in
set_option maxRecDepth 100000 in
theorem lc_33 {p : Program} {l : Launch} {e : Env} {s : State} {m : MethodId} {below : List Frame} {meth : Method} {c : Code} {cells slots : Nat} {Q : State → Prop} {b h0 : Nat} {xs : Nat → Int32} {D : va_G} {cI cL cC : ClassId} {t : Nat → Nat} {H : Heap} {locs : List Loc} {ls : Array Slot} (hx : p.tables.exec = Jvm.exec) (hb : c.code = cL_law) (hml : c.maxLocals = 4) (hown : s.vm.findClass RL = some m.cls) (hts : ∀ w ∈ wsL_law, w.before #[Value.ref b] s = true) (hE : EV D cI cL cC s) (hbl : b < h0) (hG : tG D (fF cI cL cC 0 0) t H) (kt : t h0 = 1) (kt2 : t (h0 + 92) = 40) (ht0 : ∀ q : Nat, q < h0 → t q = 0) (uq_gC : ∀ b c : Nat, t b = 2 → t c = 2 → b = c) (uq_gR : ∀ b c : Nat, t b = 40 → t c = 40 → b = c) (hS : cF h0 s.heap H locs) (hX : va_X b 8 xs s H) (hl : lv_has ls 4 [(3, .int 0), (2, .ref (h0 + 92)), (1, .ref h0), (0, .ref b)]) (hcl : cells ≤ 600000) (hsl : slots ≤ 7302250) (kx : ∀ (H1 : Heap) (locs1 : List Loc), cF h0 s.heap H1 locs1 → va_X b 8 xs s H1 → W p l e room_1 s m #[Value.ref b] below meth c H1 locs1 cells slots Q (F0 m 1417 ls [])) : W p l e room_1 s m #[Value.ref b] below meth c H locs cells slots Q (F0 m 1381 ls []) := by
  refine lv_aload_n hx hb dL_law_1381 rfl (lv_at hl 2 rfl) ?_
  obtain ⟨_, at_1⟩ := rcv1 hG kt
  refine lw_calli (W.runV (As := []) (rest := []) ⟨hx, hb, hml, hown, hts⟩ (c_X9_back l D t cI cL cC h0  kt) (cwV 0 hts gu_L_X9_back rfl rfl rfl (by decide +kernel) ⟨Nat.le_of_ble_eq_true rfl, Nat.le_of_ble_eq_true rfl⟩) (tP_V hG hE at_1 rfl) rfl rfl hl.1 rfl (lv_room (Nat.le_of_ble_eq_true rfl)) dL_law_1382 ⟨hcl, hsl⟩) hS rfl ht0 (fun r_2 H locs hp_3 _ hS o_4 => ?_)
  replace hX := hX.kept (o_4 b (by rw [ht0 b hbl]; rfl))
  have hG2 := tG.keptW (tG.ref hG) o_4 (fun q h => rfl)
  refine lv_aload_n hx hb dL_law_1385 rfl (lv_at hl 1 rfl) ?_
  obtain ⟨_, at_5⟩ := rcv40 hG2 (tM2_40 kt2 (by decide))
  refine lw_calli (W.runV (As := []) (rest := [.int r_2]) ⟨hx, hb, hml, hown, hts⟩ (c_X10_back l D (tM2 t) cI cL cC (h0 + 92)  (tM2_40 kt2 (by decide))) (cwV 0 hts gu_L_X10_back rfl rfl rfl (by decide +kernel) ⟨Nat.le_of_ble_eq_true rfl, Nat.le_of_ble_eq_true rfl⟩) (tP_V hG2 hE at_5 rfl) rfl rfl hl.1 rfl (lv_room (Nat.le_of_ble_eq_true rfl)) dL_law_1386 ⟨hcl, hsl⟩) hS rfl (fun q h => tM2_0 (ht0 q h)) (fun r_6 H locs hp_7 _ hS o_8 => ?_)
  replace hX := hX.kept (o_8 b (by rw [tM2_0 (ht0 b hbl)]; rfl))
  refine lv_icmp_eq (tgt := 1417) hx hb dL_law_1389 (by decide) (fun _ => ?_) (fun q => absurd ((hp_3.trans hp_7.symm)) q)
  exact kx H locs hS hX

set_option maxRecDepth 20000 in
theorem gu_L_X9_count : GoodIn wsL_law (wsV RL 164 RX9 yX9_count uX9_count) := goodIn_r _ [1044, 1045, 1046, 2, 1047, 16, 167, 23, 35, 428, 47, 1048, 1049, 1050, 46, 43, 1052, 1053, 1054, 42, 1056, 1057, 1058, 39, 1051, 711, 712, 713, 714, 110, 1055, 637, 628, 629, 630, 98, 1059, 100, 1064, 1065, 1066, 1067, 1068, 1069, 1070, 1071, 1072, 1073, 1074, 1075, 1076, 1077, 1078, 1079, 1080, 1081, 1118, 1119, 1120, 1121, 1130, 1131, 1132, 1133, 1134, 1135, 1136, 1137, 1142, 1143, 1144, 1145, 1146, 1138, 1139, 1140, 1141] (by decide +kernel) (by decide +kernel)
set_option maxRecDepth 20000 in
theorem gu_L_X10_count : GoodIn wsL_law (wsV RL 167 RX10 yX10_count uX10_count) := goodIn_r _ [1060, 1061, 1062, 5, 1063, 180, 370, 576, 577, 578, 5, 142, 152, 372, 145, 147, 579, 365, 1082, 1083, 1084, 1085, 1086, 1087, 1088, 1089, 1090, 1091, 1092, 1093, 1094, 1095, 1096, 1097, 1098, 1099, 1100, 1101, 1102, 1103, 1104, 1105, 1106, 1107, 1108, 1109, 1110, 1111, 1112, 1113, 1114, 1115, 1116, 1117] (by decide +kernel) (by decide +kernel)
set_option maxHeartbeats 4000000 in
set_option maxRecDepth 100000 in
theorem lc_34 {p : Program} {l : Launch} {e : Env} {s : State} {m : MethodId} {below : List Frame} {meth : Method} {c : Code} {cells slots : Nat} {Q : State → Prop} {b h0 : Nat} {xs : Nat → Int32} {D : va_G} {cI cL cC : ClassId} {t : Nat → Nat} {H : Heap} {locs : List Loc} {ls : Array Slot} (hx : p.tables.exec = Jvm.exec) (hb : c.code = cL_law) (hml : c.maxLocals = 4) (hown : s.vm.findClass RL = some m.cls) (hts : ∀ w ∈ wsL_law, w.before #[Value.ref b] s = true) (hE : EV D cI cL cC s) (hbl : b < h0) (hG : tG D (fF cI cL cC 0 0) t H) (kt : t h0 = 1) (kt2 : t (h0 + 92) = 40) (ht0 : ∀ q : Nat, q < h0 → t q = 0) (uq_gC : ∀ b c : Nat, t b = 2 → t c = 2 → b = c) (uq_gR : ∀ b c : Nat, t b = 40 → t c = 40 → b = c) (hS : cF h0 s.heap H locs) (hX : va_X b 8 xs s H) (hl : lv_has ls 4 [(3, .int 0), (2, .ref (h0 + 92)), (1, .ref h0), (0, .ref b)]) (hcl : cells ≤ 600000) (hsl : slots ≤ 7302250) (kx : ∀ (H1 : Heap) (locs1 : List Loc), cF h0 s.heap H1 locs1 → va_X b 8 xs s H1 → W p l e room_1 s m #[Value.ref b] below meth c H1 locs1 cells slots Q (F0 m 1417 ls [])) : W p l e room_1 s m #[Value.ref b] below meth c H locs cells slots Q (F0 m 1394 ls []) := by
  refine lv_aload_n hx hb dL_law_1394 rfl (lv_at hl 2 rfl) ?_
  refine lv_aload_n hx hb dL_law_1395 rfl (lv_at hl 3 rfl) ?_
  refine lv_iload_n hx hb dL_law_1396 rfl (lv_at hl 0 rfl) ?_
  refine lv_iconst (v := 1) hx hb dL_law_1397 (by decide) ?_
  refine lv_iadd hx hb dL_law_1398 ?_
  refine lv_seti (y := 1) (by decide) ?_
  refine ty_sld hx hb hX (i := 1) (q_in (by decide) (by decide)) dL_law_1399 ?_
  refine lv_seti (y := xs 1) rfl ?_
  obtain ⟨_, at_1⟩ := rcv1 hG kt
  refine lw_calli (W.runV (As := [.int (xs 1)]) (rest := []) ⟨hx, hb, hml, hown, hts⟩ (c_X9_count l D t cI cL cC h0 (xs 1) kt) (cwV 1 hts gu_L_X9_count rfl rfl rfl (by decide +kernel) ⟨Nat.le_of_ble_eq_true rfl, Nat.le_of_ble_eq_true rfl⟩) (tP_V hG hE at_1 rfl) rfl rfl hl.1 rfl (lv_room (Nat.le_of_ble_eq_true rfl)) dL_law_1400 ⟨hcl, hsl⟩) hS rfl ht0 (fun r_2 H locs hp_3 _ hS o_4 => ?_)
  replace hX := hX.kept (o_4 b (by rw [ht0 b hbl]; rfl))
  have hG2 := tG.keptW (tG.ref hG) o_4 (fun q h => rfl)
  refine lv_pc (pc2 := 1403) rfl ?_
  refine lv_aload_n hx hb dL_law_1403 rfl (lv_at hl 1 rfl) ?_
  refine lv_aload_n hx hb dL_law_1404 rfl (lv_at hl 3 rfl) ?_
  refine lv_iload_n hx hb dL_law_1405 rfl (lv_at hl 0 rfl) ?_
  refine lv_iconst (v := 1) hx hb dL_law_1406 (by decide) ?_
  refine lv_iadd hx hb dL_law_1407 ?_
  refine lv_seti (y := 1) (by decide) ?_
  refine ty_sld hx hb hX (i := 1) (q_in (by decide) (by decide)) dL_law_1408 ?_
  refine lv_seti (y := xs 1) rfl ?_
  obtain ⟨_, at_5⟩ := rcv40 hG2 (tM2_40 kt2 (by decide))
  refine lw_calli (W.runV (As := [.int (xs 1)]) (rest := [.int r_2]) ⟨hx, hb, hml, hown, hts⟩ (c_X10_count l D (tM2 t) cI cL cC (h0 + 92) (xs 1) (tM2_40 kt2 (by decide))) (cwV 1 hts gu_L_X10_count rfl rfl rfl (by decide +kernel) ⟨Nat.le_of_ble_eq_true rfl, Nat.le_of_ble_eq_true rfl⟩) (tP_V hG2 hE at_5 rfl) rfl rfl hl.1 rfl (lv_room (Nat.le_of_ble_eq_true rfl)) dL_law_1409 ⟨hcl, hsl⟩) hS rfl (fun q h => tM2_0 (ht0 q h)) (fun r_6 H locs hp_7 _ hS o_8 => ?_)
  replace hX := hX.kept (o_8 b (by rw [tM2_0 (ht0 b hbl)]; rfl))
  refine lv_icmp_eq (tgt := 1417) hx hb dL_law_1412 (by decide) (fun _ => ?_) (fun q => absurd ((by rcases hp_3 with ⟨h1, g1⟩ | ⟨h1, g1⟩ <;> rcases hp_7 with ⟨h2, g2⟩ | ⟨h2, g2⟩ <;> first | exact h1.trans h2.symm | (exfalso; omega))) q)
  exact kx H locs hS hX
