theorem dL_law_1019 : decode code 1019 = .ok (.ireturn, 1) := by decide +kernel
theorem dL_law_1020 : decode code 1020 = .ok (.goto 870, 3) := by decide +kernel
theorem dL_law_1023 : decode code 1023 = .ok (.aload_n 1, 1) := by decide +kernel
theorem dL_law_1024 : decode code 1024 = .ok (.aload_n 0, 1) := by decide +kernel
theorem dL_law_1025 : decode code 1025 = .ok (.iload 4, 2) := by decide +kernel
theorem dL_law_1027 : decode code 1027 = .ok (.iconst 1, 1) := by decide +kernel
theorem dL_law_1028 : decode code 1028 = .ok (.iadd, 1) := by decide +kernel
theorem dL_law_1029 : decode code 1029 = .ok (.iaload, 1) := by decide +kernel
theorem dL_law_1030 : decode code 1030 = .ok (.aload_n 0, 1) := by decide +kernel
theorem dL_law_1031 : decode code 1031 = .ok (.iload 4, 2) := by decide +kernel
theorem dL_law_1033 : decode code 1033 = .ok (.iconst 2, 1) := by decide +kernel
theorem dL_law_1034 : decode code 1034 = .ok (.iadd, 1) := by decide +kernel
theorem dL_law_1035 : decode code 1035 = .ok (.iaload, 1) := by decide +kernel
theorem dL_law_1036 : decode code 1036 = .ok (.aload_n 0, 1) := by decide +kernel
theorem dL_law_1037 : decode code 1037 = .ok (.iload 4, 2) := by decide +kernel
theorem dL_law_1039 : decode code 1039 = .ok (.iconst 3, 1) := by decide +kernel
theorem dL_law_1040 : decode code 1040 = .ok (.iadd, 1) := by decide +kernel
theorem dL_law_1041 : decode code 1041 = .ok (.iaload, 1) := by decide +kernel
theorem dL_law_1042 : decode code 1042 = .ok (.aload_n 0, 1) := by decide +kernel
theorem dL_law_1043 : decode code 1043 = .ok (.iload 4, 2) := by decide +kernel
theorem dL_law_1045 : decode code 1045 = .ok (.iconst 4, 1) := by decide +kernel
theorem dL_law_1046 : decode code 1046 = .ok (.iadd, 1) := by decide +kernel
theorem dL_law_1047 : decode code 1047 = .ok (.iaload, 1) := by decide +kernel
theorem dL_law_1048 : decode code 1048 = .ok (.aload_n 3, 1) := by decide +kernel
theorem dL_law_1049 : decode code 1049 = .ok (.invokestatic 136, 3) := by decide +kernel
theorem dL_law_1052 : decode code 1052 = .ok (.istore 5, 2) := by decide +kernel
theorem dL_law_1054 : decode code 1054 = .ok (.aload_n 2, 1) := by decide +kernel
theorem dL_law_1055 : decode code 1055 = .ok (.aload_n 0, 1) := by decide +kernel
theorem dL_law_1056 : decode code 1056 = .ok (.iload 4, 2) := by decide +kernel
theorem dL_law_1058 : decode code 1058 = .ok (.iconst 1, 1) := by decide +kernel
theorem dL_law_1059 : decode code 1059 = .ok (.iadd, 1) := by decide +kernel
theorem dL_law_1060 : decode code 1060 = .ok (.iaload, 1) := by decide +kernel
theorem dL_law_1061 : decode code 1061 = .ok (.aload_n 0, 1) := by decide +kernel
theorem dL_law_1062 : decode code 1062 = .ok (.iload 4, 2) := by decide +kernel
theorem dL_law_1064 : decode code 1064 = .ok (.iconst 2, 1) := by decide +kernel
theorem dL_law_1065 : decode code 1065 = .ok (.iadd, 1) := by decide +kernel
theorem dL_law_1066 : decode code 1066 = .ok (.iaload, 1) := by decide +kernel
theorem dL_law_1067 : decode code 1067 = .ok (.aload_n 0, 1) := by decide +kernel
theorem dL_law_1068 : decode code 1068 = .ok (.iload 4, 2) := by decide +kernel
theorem dL_law_1070 : decode code 1070 = .ok (.iconst 3, 1) := by decide +kernel
theorem dL_law_1071 : decode code 1071 = .ok (.iadd, 1) := by decide +kernel
theorem dL_law_1072 : decode code 1072 = .ok (.iaload, 1) := by decide +kernel
theorem dL_law_1073 : decode code 1073 = .ok (.aload_n 0, 1) := by decide +kernel
theorem dL_law_1074 : decode code 1074 = .ok (.iload 4, 2) := by decide +kernel
theorem dL_law_1076 : decode code 1076 = .ok (.iconst 4, 1) := by decide +kernel
theorem dL_law_1077 : decode code 1077 = .ok (.iadd, 1) := by decide +kernel
theorem dL_law_1078 : decode code 1078 = .ok (.iaload, 1) := by decide +kernel
theorem dL_law_1079 : decode code 1079 = .ok (.invokevirtual 138, 3) := by decide +kernel
theorem dL_law_1082 : decode code 1082 = .ok (.istore 6, 2) := by decide +kernel
theorem dL_law_1084 : decode code 1084 = .ok (.aload_n 2, 1) := by decide +kernel
theorem dL_law_1085 : decode code 1085 = .ok (.invokevirtual 100, 3) := by decide +kernel
theorem dL_law_1088 : decode code 1088 = .ok (.iload 5, 2) := by decide +kernel
theorem dL_law_1090 : decode code 1090 = .ok (.if_icmp .eq 5, 3) := by decide +kernel
theorem dL_law_1093 : decode code 1093 = .ok (.iconst 0, 1) := by decide +kernel
theorem dL_law_1094 : decode code 1094 = .ok (.ireturn, 1) := by decide +kernel
theorem dL_law_1095 : decode code 1095 = .ok (.iload 5, 2) := by decide +kernel
theorem dL_law_1097 : decode code 1097 = .ok (.ifCond .ne 15, 3) := by decide +kernel
theorem dL_law_1100 : decode code 1100 = .ok (.aload_n 3, 1) := by decide +kernel
theorem dL_law_1101 : decode code 1101 = .ok (.iconst 0, 1) := by decide +kernel
theorem dL_law_1102 : decode code 1102 = .ok (.laload, 1) := by decide +kernel
theorem dL_law_1103 : decode code 1103 = .ok (.iload 6, 2) := by decide +kernel
theorem dL_law_1105 : decode code 1105 = .ok (.i2l, 1) := by decide +kernel
theorem dL_law_1106 : decode code 1106 = .ok (.lcmp, 1) := by decide +kernel
theorem dL_law_1107 : decode code 1107 = .ok (.ifCond .eq 5, 3) := by decide +kernel
theorem dL_law_1110 : decode code 1110 = .ok (.iconst 0, 1) := by decide +kernel
theorem dL_law_1111 : decode code 1111 = .ok (.ireturn, 1) := by decide +kernel
theorem dL_law_1112 : decode code 1112 = .ok (.goto 778, 3) := by decide +kernel
theorem dL_law_1115 : decode code 1115 = .ok (.aload_n 1, 1) := by decide +kernel
theorem dL_law_1116 : decode code 1116 = .ok (.aload_n 0, 1) := by decide +kernel
theorem dL_law_1117 : decode code 1117 = .ok (.iload 4, 2) := by decide +kernel
theorem dL_law_1119 : decode code 1119 = .ok (.iconst 1, 1) := by decide +kernel
theorem dL_law_1120 : decode code 1120 = .ok (.iadd, 1) := by decide +kernel
theorem dL_law_1121 : decode code 1121 = .ok (.iaload, 1) := by decide +kernel
theorem dL_law_1122 : decode code 1122 = .ok (.aload_n 0, 1) := by decide +kernel
theorem dL_law_1123 : decode code 1123 = .ok (.iload 4, 2) := by decide +kernel
theorem dL_law_1125 : decode code 1125 = .ok (.iconst 2, 1) := by decide +kernel
theorem dL_law_1126 : decode code 1126 = .ok (.iadd, 1) := by decide +kernel
theorem dL_law_1127 : decode code 1127 = .ok (.iaload, 1) := by decide +kernel
theorem dL_law_1128 : decode code 1128 = .ok (.aload_n 0, 1) := by decide +kernel
theorem dL_law_1129 : decode code 1129 = .ok (.iload 4, 2) := by decide +kernel
theorem dL_law_1131 : decode code 1131 = .ok (.iconst 3, 1) := by decide +kernel
theorem dL_law_1132 : decode code 1132 = .ok (.iadd, 1) := by decide +kernel
theorem dL_law_1133 : decode code 1133 = .ok (.iaload, 1) := by decide +kernel
theorem dL_law_1134 : decode code 1134 = .ok (.aload_n 0, 1) := by decide +kernel
theorem dL_law_1135 : decode code 1135 = .ok (.iload 4, 2) := by decide +kernel
theorem dL_law_1137 : decode code 1137 = .ok (.iconst 4, 1) := by decide +kernel
theorem dL_law_1138 : decode code 1138 = .ok (.iadd, 1) := by decide +kernel
theorem dL_law_1139 : decode code 1139 = .ok (.iaload, 1) := by decide +kernel
theorem dL_law_1140 : decode code 1140 = .ok (.aload_n 3, 1) := by decide +kernel
theorem dL_law_1141 : decode code 1141 = .ok (.invokestatic 139, 3) := by decide +kernel
theorem dL_law_1144 : decode code 1144 = .ok (.istore 5, 2) := by decide +kernel
theorem dL_law_1146 : decode code 1146 = .ok (.aload_n 2, 1) := by decide +kernel
theorem dL_law_1147 : decode code 1147 = .ok (.aload_n 0, 1) := by decide +kernel
theorem dL_law_1148 : decode code 1148 = .ok (.iload 4, 2) := by decide +kernel
theorem dL_law_1150 : decode code 1150 = .ok (.iconst 1, 1) := by decide +kernel
theorem dL_law_1151 : decode code 1151 = .ok (.iadd, 1) := by decide +kernel
theorem dL_law_1152 : decode code 1152 = .ok (.iaload, 1) := by decide +kernel
theorem dL_law_1153 : decode code 1153 = .ok (.aload_n 0, 1) := by decide +kernel
theorem dL_law_1154 : decode code 1154 = .ok (.iload 4, 2) := by decide +kernel
theorem dL_law_1156 : decode code 1156 = .ok (.iconst 2, 1) := by decide +kernel
theorem dL_law_1157 : decode code 1157 = .ok (.iadd, 1) := by decide +kernel
theorem dL_law_1158 : decode code 1158 = .ok (.iaload, 1) := by decide +kernel
theorem dL_law_1159 : decode code 1159 = .ok (.aload_n 0, 1) := by decide +kernel
theorem dL_law_1160 : decode code 1160 = .ok (.iload 4, 2) := by decide +kernel
theorem dL_law_1162 : decode code 1162 = .ok (.iconst 3, 1) := by decide +kernel
theorem dL_law_1163 : decode code 1163 = .ok (.iadd, 1) := by decide +kernel
theorem dL_law_1164 : decode code 1164 = .ok (.iaload, 1) := by decide +kernel
theorem dL_law_1165 : decode code 1165 = .ok (.aload_n 0, 1) := by decide +kernel
theorem dL_law_1166 : decode code 1166 = .ok (.iload 4, 2) := by decide +kernel
theorem dL_law_1168 : decode code 1168 = .ok (.iconst 4, 1) := by decide +kernel
theorem dL_law_1169 : decode code 1169 = .ok (.iadd, 1) := by decide +kernel
theorem dL_law_1170 : decode code 1170 = .ok (.iaload, 1) := by decide +kernel
theorem dL_law_1171 : decode code 1171 = .ok (.invokevirtual 141, 3) := by decide +kernel
theorem dL_law_1174 : decode code 1174 = .ok (.istore 6, 2) := by decide +kernel
theorem dL_law_1176 : decode code 1176 = .ok (.aload_n 2, 1) := by decide +kernel
theorem dL_law_1177 : decode code 1177 = .ok (.invokevirtual 100, 3) := by decide +kernel
theorem dL_law_1180 : decode code 1180 = .ok (.iload 5, 2) := by decide +kernel
theorem dL_law_1182 : decode code 1182 = .ok (.if_icmp .eq 5, 3) := by decide +kernel
theorem dL_law_1185 : decode code 1185 = .ok (.iconst 0, 1) := by decide +kernel
theorem dL_law_1186 : decode code 1186 = .ok (.ireturn, 1) := by decide +kernel
theorem dL_law_1187 : decode code 1187 = .ok (.iload 5, 2) := by decide +kernel
theorem dL_law_1189 : decode code 1189 = .ok (.ifCond .ne 15, 3) := by decide +kernel
theorem dL_law_1192 : decode code 1192 = .ok (.aload_n 3, 1) := by decide +kernel
theorem dL_law_1193 : decode code 1193 = .ok (.iconst 0, 1) := by decide +kernel
theorem dL_law_1194 : decode code 1194 = .ok (.laload, 1) := by decide +kernel
theorem dL_law_1195 : decode code 1195 = .ok (.iload 6, 2) := by decide +kernel
theorem dL_law_1197 : decode code 1197 = .ok (.i2l, 1) := by decide +kernel
theorem dL_law_1198 : decode code 1198 = .ok (.lcmp, 1) := by decide +kernel
theorem dL_law_1199 : decode code 1199 = .ok (.ifCond .eq 5, 3) := by decide +kernel
theorem dL_law_1202 : decode code 1202 = .ok (.iconst 0, 1) := by decide +kernel
theorem dL_law_1203 : decode code 1203 = .ok (.ireturn, 1) := by decide +kernel
theorem dL_law_1204 : decode code 1204 = .ok (.goto 686, 3) := by decide +kernel
theorem dL_law_1207 : decode code 1207 = .ok (.aload_n 1, 1) := by decide +kernel
theorem dL_law_1208 : decode code 1208 = .ok (.aload_n 0, 1) := by decide +kernel
theorem dL_law_1209 : decode code 1209 = .ok (.iload 4, 2) := by decide +kernel
theorem dL_law_1211 : decode code 1211 = .ok (.iconst 1, 1) := by decide +kernel
theorem dL_law_1212 : decode code 1212 = .ok (.iadd, 1) := by decide +kernel
theorem dL_law_1213 : decode code 1213 = .ok (.iaload, 1) := by decide +kernel
theorem dL_law_1214 : decode code 1214 = .ok (.aload_n 0, 1) := by decide +kernel
theorem dL_law_1215 : decode code 1215 = .ok (.iload 4, 2) := by decide +kernel
theorem dL_law_1217 : decode code 1217 = .ok (.iconst 2, 1) := by decide +kernel
theorem dL_law_1218 : decode code 1218 = .ok (.iadd, 1) := by decide +kernel
theorem dL_law_1219 : decode code 1219 = .ok (.iaload, 1) := by decide +kernel
theorem dL_law_1220 : decode code 1220 = .ok (.aload_n 0, 1) := by decide +kernel
theorem dL_law_1221 : decode code 1221 = .ok (.iload 4, 2) := by decide +kernel
theorem dL_law_1223 : decode code 1223 = .ok (.iconst 3, 1) := by decide +kernel
theorem dL_law_1224 : decode code 1224 = .ok (.iadd, 1) := by decide +kernel
theorem dL_law_1225 : decode code 1225 = .ok (.iaload, 1) := by decide +kernel
theorem dL_law_1226 : decode code 1226 = .ok (.aload_n 3, 1) := by decide +kernel
theorem dL_law_1227 : decode code 1227 = .ok (.invokestatic 142, 3) := by decide +kernel
theorem dL_law_1230 : decode code 1230 = .ok (.istore 5, 2) := by decide +kernel
theorem dL_law_1232 : decode code 1232 = .ok (.aload_n 2, 1) := by decide +kernel
theorem dL_law_1233 : decode code 1233 = .ok (.aload_n 0, 1) := by decide +kernel
theorem dL_law_1234 : decode code 1234 = .ok (.iload 4, 2) := by decide +kernel
theorem dL_law_1236 : decode code 1236 = .ok (.iconst 1, 1) := by decide +kernel
theorem dL_law_1237 : decode code 1237 = .ok (.iadd, 1) := by decide +kernel
theorem dL_law_1238 : decode code 1238 = .ok (.iaload, 1) := by decide +kernel
theorem dL_law_1239 : decode code 1239 = .ok (.aload_n 0, 1) := by decide +kernel
theorem dL_law_1240 : decode code 1240 = .ok (.iload 4, 2) := by decide +kernel
theorem dL_law_1242 : decode code 1242 = .ok (.iconst 2, 1) := by decide +kernel
theorem dL_law_1243 : decode code 1243 = .ok (.iadd, 1) := by decide +kernel
theorem dL_law_1244 : decode code 1244 = .ok (.iaload, 1) := by decide +kernel
theorem dL_law_1245 : decode code 1245 = .ok (.aload_n 0, 1) := by decide +kernel
theorem dL_law_1246 : decode code 1246 = .ok (.iload 4, 2) := by decide +kernel
theorem dL_law_1248 : decode code 1248 = .ok (.iconst 3, 1) := by decide +kernel
theorem dL_law_1249 : decode code 1249 = .ok (.iadd, 1) := by decide +kernel
theorem dL_law_1250 : decode code 1250 = .ok (.iaload, 1) := by decide +kernel
theorem dL_law_1251 : decode code 1251 = .ok (.invokevirtual 144, 3) := by decide +kernel
theorem dL_law_1254 : decode code 1254 = .ok (.lstore 6, 2) := by decide +kernel
theorem dL_law_1256 : decode code 1256 = .ok (.aload_n 2, 1) := by decide +kernel
theorem dL_law_1257 : decode code 1257 = .ok (.invokevirtual 100, 3) := by decide +kernel
theorem dL_law_1260 : decode code 1260 = .ok (.iload 5, 2) := by decide +kernel
theorem dL_law_1262 : decode code 1262 = .ok (.if_icmp .eq 5, 3) := by decide +kernel
theorem dL_law_1265 : decode code 1265 = .ok (.iconst 0, 1) := by decide +kernel
theorem dL_law_1266 : decode code 1266 = .ok (.ireturn, 1) := by decide +kernel
theorem dL_law_1267 : decode code 1267 = .ok (.iload 5, 2) := by decide +kernel
theorem dL_law_1269 : decode code 1269 = .ok (.ifCond .ne 14, 3) := by decide +kernel
theorem dL_law_1272 : decode code 1272 = .ok (.aload_n 3, 1) := by decide +kernel
theorem dL_law_1273 : decode code 1273 = .ok (.iconst 0, 1) := by decide +kernel
theorem dL_law_1274 : decode code 1274 = .ok (.laload, 1) := by decide +kernel
theorem dL_law_1275 : decode code 1275 = .ok (.lload 6, 2) := by decide +kernel
theorem dL_law_1277 : decode code 1277 = .ok (.lcmp, 1) := by decide +kernel
theorem dL_law_1278 : decode code 1278 = .ok (.ifCond .eq 5, 3) := by decide +kernel
theorem dL_law_1281 : decode code 1281 = .ok (.iconst 0, 1) := by decide +kernel
theorem dL_law_1282 : decode code 1282 = .ok (.ireturn, 1) := by decide +kernel
theorem dL_law_1283 : decode code 1283 = .ok (.goto 607, 3) := by decide +kernel
theorem dL_law_1286 : decode code 1286 = .ok (.aload_n 1, 1) := by decide +kernel
theorem dL_law_1287 : decode code 1287 = .ok (.aload_n 0, 1) := by decide +kernel
theorem dL_law_1288 : decode code 1288 = .ok (.iload 4, 2) := by decide +kernel
theorem dL_law_1290 : decode code 1290 = .ok (.iconst 1, 1) := by decide +kernel
theorem dL_law_1291 : decode code 1291 = .ok (.iadd, 1) := by decide +kernel
theorem dL_law_1292 : decode code 1292 = .ok (.iaload, 1) := by decide +kernel
theorem dL_law_1293 : decode code 1293 = .ok (.i2l, 1) := by decide +kernel
theorem dL_law_1294 : decode code 1294 = .ok (.bipush 32, 2) := by decide +kernel
theorem dL_law_1296 : decode code 1296 = .ok (.lshl, 1) := by decide +kernel
theorem dL_law_1297 : decode code 1297 = .ok (.aload_n 0, 1) := by decide +kernel
theorem dL_law_1298 : decode code 1298 = .ok (.iload 4, 2) := by decide +kernel
theorem dL_law_1300 : decode code 1300 = .ok (.iconst 2, 1) := by decide +kernel
theorem dL_law_1301 : decode code 1301 = .ok (.iadd, 1) := by decide +kernel
theorem dL_law_1302 : decode code 1302 = .ok (.iaload, 1) := by decide +kernel
theorem dL_law_1303 : decode code 1303 = .ok (.i2l, 1) := by decide +kernel
theorem dL_law_1304 : decode code 1304 = .ok (.ldc2_w 92, 3) := by decide +kernel
theorem dL_law_1307 : decode code 1307 = .ok (.land, 1) := by decide +kernel
theorem dL_law_1308 : decode code 1308 = .ok (.lor, 1) := by decide +kernel
theorem dL_law_1309 : decode code 1309 = .ok (.aload_n 0, 1) := by decide +kernel
theorem dL_law_1310 : decode code 1310 = .ok (.iload 4, 2) := by decide +kernel
theorem dL_law_1312 : decode code 1312 = .ok (.iconst 3, 1) := by decide +kernel
theorem dL_law_1313 : decode code 1313 = .ok (.iadd, 1) := by decide +kernel
theorem dL_law_1314 : decode code 1314 = .ok (.iaload, 1) := by decide +kernel
theorem dL_law_1315 : decode code 1315 = .ok (.i2l, 1) := by decide +kernel
theorem dL_law_1316 : decode code 1316 = .ok (.bipush 32, 2) := by decide +kernel
theorem dL_law_1318 : decode code 1318 = .ok (.lshl, 1) := by decide +kernel
theorem dL_law_1319 : decode code 1319 = .ok (.aload_n 0, 1) := by decide +kernel
theorem dL_law_1320 : decode code 1320 = .ok (.iload 4, 2) := by decide +kernel
theorem dL_law_1322 : decode code 1322 = .ok (.iconst 4, 1) := by decide +kernel
theorem dL_law_1323 : decode code 1323 = .ok (.iadd, 1) := by decide +kernel
theorem dL_law_1324 : decode code 1324 = .ok (.iaload, 1) := by decide +kernel
theorem dL_law_1325 : decode code 1325 = .ok (.i2l, 1) := by decide +kernel
theorem dL_law_1326 : decode code 1326 = .ok (.ldc2_w 92, 3) := by decide +kernel
theorem dL_law_1329 : decode code 1329 = .ok (.land, 1) := by decide +kernel
theorem dL_law_1330 : decode code 1330 = .ok (.lor, 1) := by decide +kernel
theorem dL_law_1331 : decode code 1331 = .ok (.aload_n 0, 1) := by decide +kernel
theorem dL_law_1332 : decode code 1332 = .ok (.iload 4, 2) := by decide +kernel
theorem dL_law_1334 : decode code 1334 = .ok (.iconst 5, 1) := by decide +kernel
theorem dL_law_1335 : decode code 1335 = .ok (.iadd, 1) := by decide +kernel
theorem dL_law_1336 : decode code 1336 = .ok (.iaload, 1) := by decide +kernel
theorem dL_law_1337 : decode code 1337 = .ok (.invokestatic 145, 3) := by decide +kernel
theorem dL_law_1340 : decode code 1340 = .ok (.istore 5, 2) := by decide +kernel
theorem dL_law_1342 : decode code 1342 = .ok (.aload_n 2, 1) := by decide +kernel
theorem dL_law_1343 : decode code 1343 = .ok (.aload_n 0, 1) := by decide +kernel
theorem dL_law_1344 : decode code 1344 = .ok (.iload 4, 2) := by decide +kernel
theorem dL_law_1346 : decode code 1346 = .ok (.iconst 1, 1) := by decide +kernel
theorem dL_law_1347 : decode code 1347 = .ok (.iadd, 1) := by decide +kernel
theorem dL_law_1348 : decode code 1348 = .ok (.iaload, 1) := by decide +kernel
theorem dL_law_1349 : decode code 1349 = .ok (.i2l, 1) := by decide +kernel
theorem dL_law_1350 : decode code 1350 = .ok (.bipush 32, 2) := by decide +kernel
theorem dL_law_1352 : decode code 1352 = .ok (.lshl, 1) := by decide +kernel
theorem dL_law_1353 : decode code 1353 = .ok (.aload_n 0, 1) := by decide +kernel
theorem dL_law_1354 : decode code 1354 = .ok (.iload 4, 2) := by decide +kernel
theorem dL_law_1356 : decode code 1356 = .ok (.iconst 2, 1) := by decide +kernel
theorem dL_law_1357 : decode code 1357 = .ok (.iadd, 1) := by decide +kernel
theorem dL_law_1358 : decode code 1358 = .ok (.iaload, 1) := by decide +kernel
theorem dL_law_1359 : decode code 1359 = .ok (.i2l, 1) := by decide +kernel
theorem dL_law_1360 : decode code 1360 = .ok (.ldc2_w 92, 3) := by decide +kernel
theorem dL_law_1363 : decode code 1363 = .ok (.land, 1) := by decide +kernel
theorem dL_law_1364 : decode code 1364 = .ok (.lor, 1) := by decide +kernel
theorem dL_law_1365 : decode code 1365 = .ok (.aload_n 0, 1) := by decide +kernel
theorem dL_law_1366 : decode code 1366 = .ok (.iload 4, 2) := by decide +kernel
theorem dL_law_1368 : decode code 1368 = .ok (.iconst 3, 1) := by decide +kernel
theorem dL_law_1369 : decode code 1369 = .ok (.iadd, 1) := by decide +kernel
theorem dL_law_1370 : decode code 1370 = .ok (.iaload, 1) := by decide +kernel
theorem dL_law_1371 : decode code 1371 = .ok (.i2l, 1) := by decide +kernel
theorem dL_law_1372 : decode code 1372 = .ok (.bipush 32, 2) := by decide +kernel
theorem dL_law_1374 : decode code 1374 = .ok (.lshl, 1) := by decide +kernel
theorem dL_law_1375 : decode code 1375 = .ok (.aload_n 0, 1) := by decide +kernel
theorem dL_law_1376 : decode code 1376 = .ok (.iload 4, 2) := by decide +kernel
theorem dL_law_1378 : decode code 1378 = .ok (.iconst 4, 1) := by decide +kernel
theorem dL_law_1379 : decode code 1379 = .ok (.iadd, 1) := by decide +kernel
theorem dL_law_1380 : decode code 1380 = .ok (.iaload, 1) := by decide +kernel
theorem dL_law_1381 : decode code 1381 = .ok (.i2l, 1) := by decide +kernel
theorem dL_law_1382 : decode code 1382 = .ok (.ldc2_w 92, 3) := by decide +kernel
theorem dL_law_1385 : decode code 1385 = .ok (.land, 1) := by decide +kernel
theorem dL_law_1386 : decode code 1386 = .ok (.lor, 1) := by decide +kernel
theorem dL_law_1387 : decode code 1387 = .ok (.aload_n 0, 1) := by decide +kernel
theorem dL_law_1388 : decode code 1388 = .ok (.iload 4, 2) := by decide +kernel
theorem dL_law_1390 : decode code 1390 = .ok (.iconst 5, 1) := by decide +kernel
theorem dL_law_1391 : decode code 1391 = .ok (.iadd, 1) := by decide +kernel
theorem dL_law_1392 : decode code 1392 = .ok (.iaload, 1) := by decide +kernel
theorem dL_law_1393 : decode code 1393 = .ok (.invokevirtual 148, 3) := by decide +kernel
theorem dL_law_1396 : decode code 1396 = .ok (.aload_n 2, 1) := by decide +kernel
theorem dL_law_1397 : decode code 1397 = .ok (.invokevirtual 100, 3) := by decide +kernel
theorem dL_law_1400 : decode code 1400 = .ok (.iload 5, 2) := by decide +kernel
theorem dL_law_1402 : decode code 1402 = .ok (.if_icmp .eq 5, 3) := by decide +kernel
theorem dL_law_1405 : decode code 1405 = .ok (.iconst 0, 1) := by decide +kernel
theorem dL_law_1406 : decode code 1406 = .ok (.ireturn, 1) := by decide +kernel
theorem dL_law_1407 : decode code 1407 = .ok (.goto 483, 3) := by decide +kernel
theorem dL_law_1410 : decode code 1410 = .ok (.aload_n 1, 1) := by decide +kernel
theorem dL_law_1411 : decode code 1411 = .ok (.aload_n 0, 1) := by decide +kernel
theorem dL_law_1412 : decode code 1412 = .ok (.iload 4, 2) := by decide +kernel
theorem dL_law_1414 : decode code 1414 = .ok (.iconst 1, 1) := by decide +kernel
theorem dL_law_1415 : decode code 1415 = .ok (.iadd, 1) := by decide +kernel
theorem dL_law_1416 : decode code 1416 = .ok (.iaload, 1) := by decide +kernel
theorem dL_law_1417 : decode code 1417 = .ok (.aload_n 0, 1) := by decide +kernel
theorem dL_law_1418 : decode code 1418 = .ok (.iload 4, 2) := by decide +kernel
theorem dL_law_1420 : decode code 1420 = .ok (.iconst 2, 1) := by decide +kernel
theorem dL_law_1421 : decode code 1421 = .ok (.iadd, 1) := by decide +kernel
theorem dL_law_1422 : decode code 1422 = .ok (.iaload, 1) := by decide +kernel
theorem dL_law_1423 : decode code 1423 = .ok (.aload_n 0, 1) := by decide +kernel
theorem dL_law_1424 : decode code 1424 = .ok (.iload 4, 2) := by decide +kernel
theorem dL_law_1426 : decode code 1426 = .ok (.iconst 3, 1) := by decide +kernel
theorem dL_law_1427 : decode code 1427 = .ok (.iadd, 1) := by decide +kernel
theorem dL_law_1428 : decode code 1428 = .ok (.iaload, 1) := by decide +kernel
theorem dL_law_1429 : decode code 1429 = .ok (.aload_n 3, 1) := by decide +kernel
theorem dL_law_1430 : decode code 1430 = .ok (.invokestatic 149, 3) := by decide +kernel
theorem dL_law_1433 : decode code 1433 = .ok (.istore 5, 2) := by decide +kernel
theorem dL_law_1435 : decode code 1435 = .ok (.aload_n 2, 1) := by decide +kernel
theorem dL_law_1436 : decode code 1436 = .ok (.aload_n 0, 1) := by decide +kernel
theorem dL_law_1437 : decode code 1437 = .ok (.iload 4, 2) := by decide +kernel
theorem dL_law_1439 : decode code 1439 = .ok (.iconst 1, 1) := by decide +kernel
theorem dL_law_1440 : decode code 1440 = .ok (.iadd, 1) := by decide +kernel
theorem dL_law_1441 : decode code 1441 = .ok (.iaload, 1) := by decide +kernel
theorem dL_law_1442 : decode code 1442 = .ok (.aload_n 0, 1) := by decide +kernel
theorem dL_law_1443 : decode code 1443 = .ok (.iload 4, 2) := by decide +kernel
theorem dL_law_1445 : decode code 1445 = .ok (.iconst 2, 1) := by decide +kernel
theorem dL_law_1446 : decode code 1446 = .ok (.iadd, 1) := by decide +kernel
theorem dL_law_1447 : decode code 1447 = .ok (.iaload, 1) := by decide +kernel
theorem dL_law_1448 : decode code 1448 = .ok (.aload_n 0, 1) := by decide +kernel
theorem dL_law_1449 : decode code 1449 = .ok (.iload 4, 2) := by decide +kernel
theorem dL_law_1451 : decode code 1451 = .ok (.iconst 3, 1) := by decide +kernel
theorem dL_law_1452 : decode code 1452 = .ok (.iadd, 1) := by decide +kernel
theorem dL_law_1453 : decode code 1453 = .ok (.iaload, 1) := by decide +kernel
theorem dL_law_1454 : decode code 1454 = .ok (.invokevirtual 151, 3) := by decide +kernel
theorem dL_law_1457 : decode code 1457 = .ok (.istore 6, 2) := by decide +kernel
theorem dL_law_1459 : decode code 1459 = .ok (.aload_n 2, 1) := by decide +kernel
theorem dL_law_1460 : decode code 1460 = .ok (.invokevirtual 100, 3) := by decide +kernel
theorem dL_law_1463 : decode code 1463 = .ok (.iload 5, 2) := by decide +kernel
theorem dL_law_1465 : decode code 1465 = .ok (.if_icmp .eq 5, 3) := by decide +kernel
theorem dL_law_1468 : decode code 1468 = .ok (.iconst 0, 1) := by decide +kernel
theorem dL_law_1469 : decode code 1469 = .ok (.ireturn, 1) := by decide +kernel
theorem dL_law_1470 : decode code 1470 = .ok (.iload 5, 2) := by decide +kernel
