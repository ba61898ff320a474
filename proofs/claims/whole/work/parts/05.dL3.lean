theorem dL_law_1015 : decode code 1015 = .ok (.iconst 3, 1) := by decide +kernel
theorem dL_law_1016 : decode code 1016 = .ok (.iadd, 1) := by decide +kernel
theorem dL_law_1017 : decode code 1017 = .ok (.iaload, 1) := by decide +kernel
theorem dL_law_1018 : decode code 1018 = .ok (.aload_n 0, 1) := by decide +kernel
theorem dL_law_1019 : decode code 1019 = .ok (.iload 4, 2) := by decide +kernel
theorem dL_law_1021 : decode code 1021 = .ok (.iconst 4, 1) := by decide +kernel
theorem dL_law_1022 : decode code 1022 = .ok (.iadd, 1) := by decide +kernel
theorem dL_law_1023 : decode code 1023 = .ok (.iaload, 1) := by decide +kernel
theorem dL_law_1024 : decode code 1024 = .ok (.aload_n 0, 1) := by decide +kernel
theorem dL_law_1025 : decode code 1025 = .ok (.iload 4, 2) := by decide +kernel
theorem dL_law_1027 : decode code 1027 = .ok (.iconst 5, 1) := by decide +kernel
theorem dL_law_1028 : decode code 1028 = .ok (.iadd, 1) := by decide +kernel
theorem dL_law_1029 : decode code 1029 = .ok (.iaload, 1) := by decide +kernel
theorem dL_law_1030 : decode code 1030 = .ok (.aload_n 3, 1) := by decide +kernel
theorem dL_law_1031 : decode code 1031 = .ok (.invokestatic 136, 3) := by decide +kernel
theorem dL_law_1034 : decode code 1034 = .ok (.istore 5, 2) := by decide +kernel
theorem dL_law_1036 : decode code 1036 = .ok (.aload_n 2, 1) := by decide +kernel
theorem dL_law_1037 : decode code 1037 = .ok (.aload_n 0, 1) := by decide +kernel
theorem dL_law_1038 : decode code 1038 = .ok (.iload 4, 2) := by decide +kernel
theorem dL_law_1040 : decode code 1040 = .ok (.iconst 1, 1) := by decide +kernel
theorem dL_law_1041 : decode code 1041 = .ok (.iadd, 1) := by decide +kernel
theorem dL_law_1042 : decode code 1042 = .ok (.iaload, 1) := by decide +kernel
theorem dL_law_1043 : decode code 1043 = .ok (.aload_n 0, 1) := by decide +kernel
theorem dL_law_1044 : decode code 1044 = .ok (.iload 4, 2) := by decide +kernel
theorem dL_law_1046 : decode code 1046 = .ok (.iconst 2, 1) := by decide +kernel
theorem dL_law_1047 : decode code 1047 = .ok (.iadd, 1) := by decide +kernel
theorem dL_law_1048 : decode code 1048 = .ok (.iaload, 1) := by decide +kernel
theorem dL_law_1049 : decode code 1049 = .ok (.aload_n 0, 1) := by decide +kernel
theorem dL_law_1050 : decode code 1050 = .ok (.iload 4, 2) := by decide +kernel
theorem dL_law_1052 : decode code 1052 = .ok (.iconst 3, 1) := by decide +kernel
theorem dL_law_1053 : decode code 1053 = .ok (.iadd, 1) := by decide +kernel
theorem dL_law_1054 : decode code 1054 = .ok (.iaload, 1) := by decide +kernel
theorem dL_law_1055 : decode code 1055 = .ok (.aload_n 0, 1) := by decide +kernel
theorem dL_law_1056 : decode code 1056 = .ok (.iload 4, 2) := by decide +kernel
theorem dL_law_1058 : decode code 1058 = .ok (.iconst 4, 1) := by decide +kernel
theorem dL_law_1059 : decode code 1059 = .ok (.iadd, 1) := by decide +kernel
theorem dL_law_1060 : decode code 1060 = .ok (.iaload, 1) := by decide +kernel
theorem dL_law_1061 : decode code 1061 = .ok (.aload_n 0, 1) := by decide +kernel
theorem dL_law_1062 : decode code 1062 = .ok (.iload 4, 2) := by decide +kernel
theorem dL_law_1064 : decode code 1064 = .ok (.iconst 5, 1) := by decide +kernel
theorem dL_law_1065 : decode code 1065 = .ok (.iadd, 1) := by decide +kernel
theorem dL_law_1066 : decode code 1066 = .ok (.iaload, 1) := by decide +kernel
theorem dL_law_1067 : decode code 1067 = .ok (.invokevirtual 139, 3) := by decide +kernel
theorem dL_law_1070 : decode code 1070 = .ok (.istore 6, 2) := by decide +kernel
theorem dL_law_1072 : decode code 1072 = .ok (.aload_n 2, 1) := by decide +kernel
theorem dL_law_1073 : decode code 1073 = .ok (.invokevirtual 92, 3) := by decide +kernel
theorem dL_law_1076 : decode code 1076 = .ok (.iload 5, 2) := by decide +kernel
theorem dL_law_1078 : decode code 1078 = .ok (.if_icmp .eq 5, 3) := by decide +kernel
theorem dL_law_1081 : decode code 1081 = .ok (.iconst 0, 1) := by decide +kernel
theorem dL_law_1082 : decode code 1082 = .ok (.ireturn, 1) := by decide +kernel
theorem dL_law_1083 : decode code 1083 = .ok (.iload 5, 2) := by decide +kernel
theorem dL_law_1085 : decode code 1085 = .ok (.ifCond .ne 15, 3) := by decide +kernel
theorem dL_law_1088 : decode code 1088 = .ok (.aload_n 3, 1) := by decide +kernel
theorem dL_law_1089 : decode code 1089 = .ok (.iconst 0, 1) := by decide +kernel
theorem dL_law_1090 : decode code 1090 = .ok (.laload, 1) := by decide +kernel
theorem dL_law_1091 : decode code 1091 = .ok (.iload 6, 2) := by decide +kernel
theorem dL_law_1093 : decode code 1093 = .ok (.i2l, 1) := by decide +kernel
theorem dL_law_1094 : decode code 1094 = .ok (.lcmp, 1) := by decide +kernel
theorem dL_law_1095 : decode code 1095 = .ok (.ifCond .eq 5, 3) := by decide +kernel
theorem dL_law_1098 : decode code 1098 = .ok (.iconst 0, 1) := by decide +kernel
theorem dL_law_1099 : decode code 1099 = .ok (.ireturn, 1) := by decide +kernel
theorem dL_law_1100 : decode code 1100 = .ok (.goto 347, 3) := by decide +kernel
theorem dL_law_1103 : decode code 1103 = .ok (.aload_n 1, 1) := by decide +kernel
theorem dL_law_1104 : decode code 1104 = .ok (.aload_n 0, 1) := by decide +kernel
theorem dL_law_1105 : decode code 1105 = .ok (.iload 4, 2) := by decide +kernel
theorem dL_law_1107 : decode code 1107 = .ok (.iconst 1, 1) := by decide +kernel
theorem dL_law_1108 : decode code 1108 = .ok (.iadd, 1) := by decide +kernel
theorem dL_law_1109 : decode code 1109 = .ok (.iaload, 1) := by decide +kernel
theorem dL_law_1110 : decode code 1110 = .ok (.aload_n 0, 1) := by decide +kernel
theorem dL_law_1111 : decode code 1111 = .ok (.iload 4, 2) := by decide +kernel
theorem dL_law_1113 : decode code 1113 = .ok (.iconst 2, 1) := by decide +kernel
theorem dL_law_1114 : decode code 1114 = .ok (.iadd, 1) := by decide +kernel
theorem dL_law_1115 : decode code 1115 = .ok (.iaload, 1) := by decide +kernel
theorem dL_law_1116 : decode code 1116 = .ok (.invokestatic 140, 3) := by decide +kernel
theorem dL_law_1119 : decode code 1119 = .ok (.istore 5, 2) := by decide +kernel
theorem dL_law_1121 : decode code 1121 = .ok (.aload_n 2, 1) := by decide +kernel
theorem dL_law_1122 : decode code 1122 = .ok (.aload_n 0, 1) := by decide +kernel
theorem dL_law_1123 : decode code 1123 = .ok (.iload 4, 2) := by decide +kernel
theorem dL_law_1125 : decode code 1125 = .ok (.iconst 1, 1) := by decide +kernel
theorem dL_law_1126 : decode code 1126 = .ok (.iadd, 1) := by decide +kernel
theorem dL_law_1127 : decode code 1127 = .ok (.iaload, 1) := by decide +kernel
theorem dL_law_1128 : decode code 1128 = .ok (.aload_n 0, 1) := by decide +kernel
theorem dL_law_1129 : decode code 1129 = .ok (.iload 4, 2) := by decide +kernel
theorem dL_law_1131 : decode code 1131 = .ok (.iconst 2, 1) := by decide +kernel
theorem dL_law_1132 : decode code 1132 = .ok (.iadd, 1) := by decide +kernel
theorem dL_law_1133 : decode code 1133 = .ok (.iaload, 1) := by decide +kernel
theorem dL_law_1134 : decode code 1134 = .ok (.invokevirtual 142, 3) := by decide +kernel
theorem dL_law_1137 : decode code 1137 = .ok (.aload_n 2, 1) := by decide +kernel
theorem dL_law_1138 : decode code 1138 = .ok (.invokevirtual 92, 3) := by decide +kernel
theorem dL_law_1141 : decode code 1141 = .ok (.iload 5, 2) := by decide +kernel
theorem dL_law_1143 : decode code 1143 = .ok (.if_icmp .eq 5, 3) := by decide +kernel
theorem dL_law_1146 : decode code 1146 = .ok (.iconst 0, 1) := by decide +kernel
theorem dL_law_1147 : decode code 1147 = .ok (.ireturn, 1) := by decide +kernel
theorem dL_law_1148 : decode code 1148 = .ok (.goto 299, 3) := by decide +kernel
theorem dL_law_1151 : decode code 1151 = .ok (.aload_n 1, 1) := by decide +kernel
theorem dL_law_1152 : decode code 1152 = .ok (.aload_n 0, 1) := by decide +kernel
theorem dL_law_1153 : decode code 1153 = .ok (.iload 4, 2) := by decide +kernel
theorem dL_law_1155 : decode code 1155 = .ok (.iconst 1, 1) := by decide +kernel
theorem dL_law_1156 : decode code 1156 = .ok (.iadd, 1) := by decide +kernel
theorem dL_law_1157 : decode code 1157 = .ok (.iaload, 1) := by decide +kernel
theorem dL_law_1158 : decode code 1158 = .ok (.aload_n 0, 1) := by decide +kernel
theorem dL_law_1159 : decode code 1159 = .ok (.iload 4, 2) := by decide +kernel
theorem dL_law_1161 : decode code 1161 = .ok (.iconst 2, 1) := by decide +kernel
theorem dL_law_1162 : decode code 1162 = .ok (.iadd, 1) := by decide +kernel
theorem dL_law_1163 : decode code 1163 = .ok (.iaload, 1) := by decide +kernel
theorem dL_law_1164 : decode code 1164 = .ok (.aload_n 3, 1) := by decide +kernel
theorem dL_law_1165 : decode code 1165 = .ok (.invokestatic 143, 3) := by decide +kernel
theorem dL_law_1168 : decode code 1168 = .ok (.istore 5, 2) := by decide +kernel
theorem dL_law_1170 : decode code 1170 = .ok (.aload_n 2, 1) := by decide +kernel
theorem dL_law_1171 : decode code 1171 = .ok (.aload_n 0, 1) := by decide +kernel
theorem dL_law_1172 : decode code 1172 = .ok (.iload 4, 2) := by decide +kernel
theorem dL_law_1174 : decode code 1174 = .ok (.iconst 1, 1) := by decide +kernel
theorem dL_law_1175 : decode code 1175 = .ok (.iadd, 1) := by decide +kernel
theorem dL_law_1176 : decode code 1176 = .ok (.iaload, 1) := by decide +kernel
theorem dL_law_1177 : decode code 1177 = .ok (.aload_n 0, 1) := by decide +kernel
theorem dL_law_1178 : decode code 1178 = .ok (.iload 4, 2) := by decide +kernel
theorem dL_law_1180 : decode code 1180 = .ok (.iconst 2, 1) := by decide +kernel
theorem dL_law_1181 : decode code 1181 = .ok (.iadd, 1) := by decide +kernel
theorem dL_law_1182 : decode code 1182 = .ok (.iaload, 1) := by decide +kernel
theorem dL_law_1183 : decode code 1183 = .ok (.invokevirtual 145, 3) := by decide +kernel
theorem dL_law_1186 : decode code 1186 = .ok (.istore 6, 2) := by decide +kernel
theorem dL_law_1188 : decode code 1188 = .ok (.aload_n 2, 1) := by decide +kernel
theorem dL_law_1189 : decode code 1189 = .ok (.invokevirtual 92, 3) := by decide +kernel
theorem dL_law_1192 : decode code 1192 = .ok (.iload 5, 2) := by decide +kernel
theorem dL_law_1194 : decode code 1194 = .ok (.if_icmp .eq 5, 3) := by decide +kernel
theorem dL_law_1197 : decode code 1197 = .ok (.iconst 0, 1) := by decide +kernel
theorem dL_law_1198 : decode code 1198 = .ok (.ireturn, 1) := by decide +kernel
theorem dL_law_1199 : decode code 1199 = .ok (.iload 5, 2) := by decide +kernel
theorem dL_law_1201 : decode code 1201 = .ok (.ifCond .ne 15, 3) := by decide +kernel
theorem dL_law_1204 : decode code 1204 = .ok (.aload_n 3, 1) := by decide +kernel
theorem dL_law_1205 : decode code 1205 = .ok (.iconst 0, 1) := by decide +kernel
theorem dL_law_1206 : decode code 1206 = .ok (.laload, 1) := by decide +kernel
theorem dL_law_1207 : decode code 1207 = .ok (.iload 6, 2) := by decide +kernel
theorem dL_law_1209 : decode code 1209 = .ok (.i2l, 1) := by decide +kernel
theorem dL_law_1210 : decode code 1210 = .ok (.lcmp, 1) := by decide +kernel
theorem dL_law_1211 : decode code 1211 = .ok (.ifCond .eq 5, 3) := by decide +kernel
theorem dL_law_1214 : decode code 1214 = .ok (.iconst 0, 1) := by decide +kernel
theorem dL_law_1215 : decode code 1215 = .ok (.ireturn, 1) := by decide +kernel
theorem dL_law_1216 : decode code 1216 = .ok (.goto 231, 3) := by decide +kernel
theorem dL_law_1219 : decode code 1219 = .ok (.aload_n 1, 1) := by decide +kernel
theorem dL_law_1220 : decode code 1220 = .ok (.invokevirtual 146, 3) := by decide +kernel
theorem dL_law_1223 : decode code 1223 = .ok (.aload_n 2, 1) := by decide +kernel
theorem dL_law_1224 : decode code 1224 = .ok (.invokevirtual 150, 3) := by decide +kernel
theorem dL_law_1227 : decode code 1227 = .ok (.if_icmp .eq 220, 3) := by decide +kernel
theorem dL_law_1230 : decode code 1230 = .ok (.iconst 0, 1) := by decide +kernel
theorem dL_law_1231 : decode code 1231 = .ok (.ireturn, 1) := by decide +kernel
theorem dL_law_1232 : decode code 1232 = .ok (.aload_n 1, 1) := by decide +kernel
theorem dL_law_1233 : decode code 1233 = .ok (.invokevirtual 151, 3) := by decide +kernel
theorem dL_law_1236 : decode code 1236 = .ok (.aload_n 2, 1) := by decide +kernel
theorem dL_law_1237 : decode code 1237 = .ok (.invokevirtual 154, 3) := by decide +kernel
theorem dL_law_1240 : decode code 1240 = .ok (.if_icmp .eq 207, 3) := by decide +kernel
theorem dL_law_1243 : decode code 1243 = .ok (.iconst 0, 1) := by decide +kernel
theorem dL_law_1244 : decode code 1244 = .ok (.ireturn, 1) := by decide +kernel
theorem dL_law_1245 : decode code 1245 = .ok (.aload_n 1, 1) := by decide +kernel
theorem dL_law_1246 : decode code 1246 = .ok (.aload_n 0, 1) := by decide +kernel
theorem dL_law_1247 : decode code 1247 = .ok (.iload 4, 2) := by decide +kernel
theorem dL_law_1249 : decode code 1249 = .ok (.iconst 1, 1) := by decide +kernel
theorem dL_law_1250 : decode code 1250 = .ok (.iadd, 1) := by decide +kernel
theorem dL_law_1251 : decode code 1251 = .ok (.iaload, 1) := by decide +kernel
theorem dL_law_1252 : decode code 1252 = .ok (.invokestatic 155, 3) := by decide +kernel
theorem dL_law_1255 : decode code 1255 = .ok (.istore 5, 2) := by decide +kernel
theorem dL_law_1257 : decode code 1257 = .ok (.aload_n 2, 1) := by decide +kernel
theorem dL_law_1258 : decode code 1258 = .ok (.aload_n 0, 1) := by decide +kernel
theorem dL_law_1259 : decode code 1259 = .ok (.iload 4, 2) := by decide +kernel
theorem dL_law_1261 : decode code 1261 = .ok (.iconst 1, 1) := by decide +kernel
theorem dL_law_1262 : decode code 1262 = .ok (.iadd, 1) := by decide +kernel
theorem dL_law_1263 : decode code 1263 = .ok (.iaload, 1) := by decide +kernel
theorem dL_law_1264 : decode code 1264 = .ok (.invokevirtual 158, 3) := by decide +kernel
theorem dL_law_1267 : decode code 1267 = .ok (.aload_n 2, 1) := by decide +kernel
theorem dL_law_1268 : decode code 1268 = .ok (.invokevirtual 92, 3) := by decide +kernel
theorem dL_law_1271 : decode code 1271 = .ok (.iload 5, 2) := by decide +kernel
theorem dL_law_1273 : decode code 1273 = .ok (.if_icmp .eq 5, 3) := by decide +kernel
theorem dL_law_1276 : decode code 1276 = .ok (.iconst 0, 1) := by decide +kernel
theorem dL_law_1277 : decode code 1277 = .ok (.ireturn, 1) := by decide +kernel
theorem dL_law_1278 : decode code 1278 = .ok (.goto 169, 3) := by decide +kernel
theorem dL_law_1281 : decode code 1281 = .ok (.aload_n 1, 1) := by decide +kernel
theorem dL_law_1282 : decode code 1282 = .ok (.aload_n 0, 1) := by decide +kernel
theorem dL_law_1283 : decode code 1283 = .ok (.iload 4, 2) := by decide +kernel
theorem dL_law_1285 : decode code 1285 = .ok (.iconst 1, 1) := by decide +kernel
theorem dL_law_1286 : decode code 1286 = .ok (.iadd, 1) := by decide +kernel
theorem dL_law_1287 : decode code 1287 = .ok (.iaload, 1) := by decide +kernel
theorem dL_law_1288 : decode code 1288 = .ok (.invokestatic 159, 3) := by decide +kernel
theorem dL_law_1291 : decode code 1291 = .ok (.istore 5, 2) := by decide +kernel
theorem dL_law_1293 : decode code 1293 = .ok (.aload_n 2, 1) := by decide +kernel
theorem dL_law_1294 : decode code 1294 = .ok (.aload_n 0, 1) := by decide +kernel
theorem dL_law_1295 : decode code 1295 = .ok (.iload 4, 2) := by decide +kernel
theorem dL_law_1297 : decode code 1297 = .ok (.iconst 1, 1) := by decide +kernel
theorem dL_law_1298 : decode code 1298 = .ok (.iadd, 1) := by decide +kernel
theorem dL_law_1299 : decode code 1299 = .ok (.iaload, 1) := by decide +kernel
theorem dL_law_1300 : decode code 1300 = .ok (.invokevirtual 161, 3) := by decide +kernel
theorem dL_law_1303 : decode code 1303 = .ok (.aload_n 2, 1) := by decide +kernel
theorem dL_law_1304 : decode code 1304 = .ok (.invokevirtual 92, 3) := by decide +kernel
theorem dL_law_1307 : decode code 1307 = .ok (.iload 5, 2) := by decide +kernel
theorem dL_law_1309 : decode code 1309 = .ok (.if_icmp .eq 5, 3) := by decide +kernel
theorem dL_law_1312 : decode code 1312 = .ok (.iconst 0, 1) := by decide +kernel
theorem dL_law_1313 : decode code 1313 = .ok (.ireturn, 1) := by decide +kernel
theorem dL_law_1314 : decode code 1314 = .ok (.goto 133, 3) := by decide +kernel
theorem dL_law_1317 : decode code 1317 = .ok (.aload_n 1, 1) := by decide +kernel
theorem dL_law_1318 : decode code 1318 = .ok (.aload_n 0, 1) := by decide +kernel
theorem dL_law_1319 : decode code 1319 = .ok (.iload 4, 2) := by decide +kernel
theorem dL_law_1321 : decode code 1321 = .ok (.iconst 1, 1) := by decide +kernel
theorem dL_law_1322 : decode code 1322 = .ok (.iadd, 1) := by decide +kernel
theorem dL_law_1323 : decode code 1323 = .ok (.iaload, 1) := by decide +kernel
theorem dL_law_1324 : decode code 1324 = .ok (.invokevirtual 162, 3) := by decide +kernel
theorem dL_law_1327 : decode code 1327 = .ok (.aload_n 2, 1) := by decide +kernel
theorem dL_law_1328 : decode code 1328 = .ok (.aload_n 0, 1) := by decide +kernel
theorem dL_law_1329 : decode code 1329 = .ok (.iload 4, 2) := by decide +kernel
theorem dL_law_1331 : decode code 1331 = .ok (.iconst 1, 1) := by decide +kernel
theorem dL_law_1332 : decode code 1332 = .ok (.iadd, 1) := by decide +kernel
theorem dL_law_1333 : decode code 1333 = .ok (.iaload, 1) := by decide +kernel
theorem dL_law_1334 : decode code 1334 = .ok (.invokevirtual 165, 3) := by decide +kernel
theorem dL_law_1337 : decode code 1337 = .ok (.if_icmp .eq 110, 3) := by decide +kernel
theorem dL_law_1340 : decode code 1340 = .ok (.iconst 0, 1) := by decide +kernel
theorem dL_law_1341 : decode code 1341 = .ok (.ireturn, 1) := by decide +kernel
theorem dL_law_1342 : decode code 1342 = .ok (.aload_n 1, 1) := by decide +kernel
theorem dL_law_1343 : decode code 1343 = .ok (.aload_n 0, 1) := by decide +kernel
theorem dL_law_1344 : decode code 1344 = .ok (.iload 4, 2) := by decide +kernel
theorem dL_law_1346 : decode code 1346 = .ok (.iconst 1, 1) := by decide +kernel
theorem dL_law_1347 : decode code 1347 = .ok (.iadd, 1) := by decide +kernel
theorem dL_law_1348 : decode code 1348 = .ok (.iaload, 1) := by decide +kernel
theorem dL_law_1349 : decode code 1349 = .ok (.aload_n 0, 1) := by decide +kernel
theorem dL_law_1350 : decode code 1350 = .ok (.iload 4, 2) := by decide +kernel
theorem dL_law_1352 : decode code 1352 = .ok (.iconst 2, 1) := by decide +kernel
theorem dL_law_1353 : decode code 1353 = .ok (.iadd, 1) := by decide +kernel
theorem dL_law_1354 : decode code 1354 = .ok (.iaload, 1) := by decide +kernel
theorem dL_law_1355 : decode code 1355 = .ok (.aload_n 3, 1) := by decide +kernel
theorem dL_law_1356 : decode code 1356 = .ok (.invokestatic 166, 3) := by decide +kernel
theorem dL_law_1359 : decode code 1359 = .ok (.istore 5, 2) := by decide +kernel
theorem dL_law_1361 : decode code 1361 = .ok (.aload_n 2, 1) := by decide +kernel
theorem dL_law_1362 : decode code 1362 = .ok (.aload_n 0, 1) := by decide +kernel
theorem dL_law_1363 : decode code 1363 = .ok (.iload 4, 2) := by decide +kernel
theorem dL_law_1365 : decode code 1365 = .ok (.iconst 1, 1) := by decide +kernel
theorem dL_law_1366 : decode code 1366 = .ok (.iadd, 1) := by decide +kernel
theorem dL_law_1367 : decode code 1367 = .ok (.iaload, 1) := by decide +kernel
theorem dL_law_1368 : decode code 1368 = .ok (.aload_n 0, 1) := by decide +kernel
theorem dL_law_1369 : decode code 1369 = .ok (.iload 4, 2) := by decide +kernel
theorem dL_law_1371 : decode code 1371 = .ok (.iconst 2, 1) := by decide +kernel
theorem dL_law_1372 : decode code 1372 = .ok (.iadd, 1) := by decide +kernel
theorem dL_law_1373 : decode code 1373 = .ok (.iaload, 1) := by decide +kernel
theorem dL_law_1374 : decode code 1374 = .ok (.invokevirtual 168, 3) := by decide +kernel
theorem dL_law_1377 : decode code 1377 = .ok (.istore 6, 2) := by decide +kernel
theorem dL_law_1379 : decode code 1379 = .ok (.aload_n 2, 1) := by decide +kernel
theorem dL_law_1380 : decode code 1380 = .ok (.invokevirtual 92, 3) := by decide +kernel
theorem dL_law_1383 : decode code 1383 = .ok (.iload 5, 2) := by decide +kernel
theorem dL_law_1385 : decode code 1385 = .ok (.if_icmp .eq 5, 3) := by decide +kernel
theorem dL_law_1388 : decode code 1388 = .ok (.iconst 0, 1) := by decide +kernel
theorem dL_law_1389 : decode code 1389 = .ok (.ireturn, 1) := by decide +kernel
theorem dL_law_1390 : decode code 1390 = .ok (.iload 5, 2) := by decide +kernel
theorem dL_law_1392 : decode code 1392 = .ok (.ifCond .ne 15, 3) := by decide +kernel
theorem dL_law_1395 : decode code 1395 = .ok (.aload_n 3, 1) := by decide +kernel
theorem dL_law_1396 : decode code 1396 = .ok (.iconst 0, 1) := by decide +kernel
theorem dL_law_1397 : decode code 1397 = .ok (.laload, 1) := by decide +kernel
theorem dL_law_1398 : decode code 1398 = .ok (.iload 6, 2) := by decide +kernel
theorem dL_law_1400 : decode code 1400 = .ok (.i2l, 1) := by decide +kernel
theorem dL_law_1401 : decode code 1401 = .ok (.lcmp, 1) := by decide +kernel
theorem dL_law_1402 : decode code 1402 = .ok (.ifCond .eq 5, 3) := by decide +kernel
theorem dL_law_1405 : decode code 1405 = .ok (.iconst 0, 1) := by decide +kernel
theorem dL_law_1406 : decode code 1406 = .ok (.ireturn, 1) := by decide +kernel
theorem dL_law_1407 : decode code 1407 = .ok (.goto 40, 3) := by decide +kernel
theorem dL_law_1410 : decode code 1410 = .ok (.aload_n 1, 1) := by decide +kernel
theorem dL_law_1411 : decode code 1411 = .ok (.aload_n 0, 1) := by decide +kernel
theorem dL_law_1412 : decode code 1412 = .ok (.iload 4, 2) := by decide +kernel
theorem dL_law_1414 : decode code 1414 = .ok (.iconst 1, 1) := by decide +kernel
theorem dL_law_1415 : decode code 1415 = .ok (.iadd, 1) := by decide +kernel
theorem dL_law_1416 : decode code 1416 = .ok (.iaload, 1) := by decide +kernel
theorem dL_law_1417 : decode code 1417 = .ok (.aload_n 0, 1) := by decide +kernel
theorem dL_law_1418 : decode code 1418 = .ok (.iload 4, 2) := by decide +kernel
theorem dL_law_1420 : decode code 1420 = .ok (.iconst 2, 1) := by decide +kernel
theorem dL_law_1421 : decode code 1421 = .ok (.iadd, 1) := by decide +kernel
theorem dL_law_1422 : decode code 1422 = .ok (.iaload, 1) := by decide +kernel
theorem dL_law_1423 : decode code 1423 = .ok (.invokevirtual 169, 3) := by decide +kernel
theorem dL_law_1426 : decode code 1426 = .ok (.aload_n 2, 1) := by decide +kernel
theorem dL_law_1427 : decode code 1427 = .ok (.aload_n 0, 1) := by decide +kernel
theorem dL_law_1428 : decode code 1428 = .ok (.iload 4, 2) := by decide +kernel
theorem dL_law_1430 : decode code 1430 = .ok (.iconst 1, 1) := by decide +kernel
theorem dL_law_1431 : decode code 1431 = .ok (.iadd, 1) := by decide +kernel
theorem dL_law_1432 : decode code 1432 = .ok (.iaload, 1) := by decide +kernel
theorem dL_law_1433 : decode code 1433 = .ok (.aload_n 0, 1) := by decide +kernel
theorem dL_law_1434 : decode code 1434 = .ok (.iload 4, 2) := by decide +kernel
theorem dL_law_1436 : decode code 1436 = .ok (.iconst 2, 1) := by decide +kernel
theorem dL_law_1437 : decode code 1437 = .ok (.iadd, 1) := by decide +kernel
theorem dL_law_1438 : decode code 1438 = .ok (.iaload, 1) := by decide +kernel
theorem dL_law_1439 : decode code 1439 = .ok (.invokevirtual 172, 3) := by decide +kernel
theorem dL_law_1442 : decode code 1442 = .ok (.if_icmp .eq 5, 3) := by decide +kernel
theorem dL_law_1445 : decode code 1445 = .ok (.iconst 0, 1) := by decide +kernel
theorem dL_law_1446 : decode code 1446 = .ok (.ireturn, 1) := by decide +kernel
theorem dL_law_1447 : decode code 1447 = .ok (.iinc 4 6, 3) := by decide +kernel
theorem dL_law_1450 : decode code 1450 = .ok (.goto (-1427), 3) := by decide +kernel
theorem dL_law_1453 : decode code 1453 = .ok (.iconst 1, 1) := by decide +kernel
theorem dL_law_1454 : decode code 1454 = .ok (.ireturn, 1) := by decide +kernel
