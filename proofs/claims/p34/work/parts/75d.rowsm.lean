theorem dL_law_1017 : decode cL_law 1017 = .ok (.isub, 1) := by decide +kernel
theorem dL_law_1018 : decode cL_law 1018 = .ok (.iaload, 1) := by decide +kernel
theorem dL_law_1019 : decode cL_law 1019 = .ok (.invokevirtual 159, 3) := by decide +kernel
theorem dL_law_1022 : decode cL_law 1022 = .ok (.aload 10, 2) := by decide +kernel
theorem dL_law_1024 : decode cL_law 1024 = .ok (.iconst 2, 1) := by decide +kernel
theorem dL_law_1025 : decode cL_law 1025 = .ok (.iaload, 1) := by decide +kernel
theorem dL_law_1026 : decode cL_law 1026 = .ok (.iconst 1, 1) := by decide +kernel
theorem dL_law_1027 : decode cL_law 1027 = .ok (.isub, 1) := by decide +kernel
theorem dL_law_1028 : decode cL_law 1028 = .ok (.if_icmp .eq 927, 3) := by decide +kernel
theorem dL_law_1031 : decode cL_law 1031 = .ok (.iconst 0, 1) := by decide +kernel
theorem dL_law_1032 : decode cL_law 1032 = .ok (.ireturn, 1) := by decide +kernel
theorem dL_law_1033 : decode cL_law 1033 = .ok (.iload 14, 2) := by decide +kernel
theorem dL_law_1035 : decode cL_law 1035 = .ok (.bipush 15, 2) := by decide +kernel
theorem dL_law_1037 : decode cL_law 1037 = .ok (.if_icmp .ne 268, 3) := by decide +kernel
theorem dL_law_1040 : decode cL_law 1040 = .ok (.aload 10, 2) := by decide +kernel
theorem dL_law_1042 : decode cL_law 1042 = .ok (.iconst 3, 1) := by decide +kernel
theorem dL_law_1043 : decode cL_law 1043 = .ok (.iaload, 1) := by decide +kernel
theorem dL_law_1044 : decode cL_law 1044 = .ok (.bipush 8, 2) := by decide +kernel
theorem dL_law_1046 : decode cL_law 1046 = .ok (.if_icmp .ne 6, 3) := by decide +kernel
theorem dL_law_1049 : decode cL_law 1049 = .ok (.goto 937, 3) := by decide +kernel
theorem dL_law_1052 : decode cL_law 1052 = .ok (.iconst 3, 1) := by decide +kernel
theorem dL_law_1053 : decode cL_law 1053 = .ok (.aload 10, 2) := by decide +kernel
theorem dL_law_1055 : decode cL_law 1055 = .ok (.iconst 3, 1) := by decide +kernel
theorem dL_law_1056 : decode cL_law 1056 = .ok (.iaload, 1) := by decide +kernel
theorem dL_law_1057 : decode cL_law 1057 = .ok (.imul, 1) := by decide +kernel
theorem dL_law_1058 : decode cL_law 1058 = .ok (.istore 22, 2) := by decide +kernel
theorem dL_law_1060 : decode cL_law 1060 = .ok (.aload 7, 2) := by decide +kernel
theorem dL_law_1062 : decode cL_law 1062 = .ok (.iload 22, 2) := by decide +kernel
theorem dL_law_1064 : decode cL_law 1064 = .ok (.iload 13, 2) := by decide +kernel
theorem dL_law_1066 : decode cL_law 1066 = .ok (.bipush 64, 2) := by decide +kernel
theorem dL_law_1068 : decode cL_law 1068 = .ok (.invokestatic 152, 3) := by decide +kernel
theorem dL_law_1071 : decode cL_law 1071 = .ok (.iload 13, 2) := by decide +kernel
theorem dL_law_1073 : decode cL_law 1073 = .ok (.bipush 6, 2) := by decide +kernel
theorem dL_law_1075 : decode cL_law 1075 = .ok (.ishr, 1) := by decide +kernel
theorem dL_law_1076 : decode cL_law 1076 = .ok (.bipush 64, 2) := by decide +kernel
theorem dL_law_1078 : decode cL_law 1078 = .ok (.invokestatic 152, 3) := by decide +kernel
theorem dL_law_1081 : decode cL_law 1081 = .ok (.iand, 1) := by decide +kernel
theorem dL_law_1082 : decode cL_law 1082 = .ok (.iastore, 1) := by decide +kernel
theorem dL_law_1083 : decode cL_law 1083 = .ok (.aload 7, 2) := by decide +kernel
theorem dL_law_1085 : decode cL_law 1085 = .ok (.iload 22, 2) := by decide +kernel
theorem dL_law_1087 : decode cL_law 1087 = .ok (.iconst 1, 1) := by decide +kernel
theorem dL_law_1088 : decode cL_law 1088 = .ok (.iadd, 1) := by decide +kernel
theorem dL_law_1089 : decode cL_law 1089 = .ok (.iload 13, 2) := by decide +kernel
theorem dL_law_1091 : decode cL_law 1091 = .ok (.bipush 12, 2) := by decide +kernel
theorem dL_law_1093 : decode cL_law 1093 = .ok (.ishr, 1) := by decide +kernel
theorem dL_law_1094 : decode cL_law 1094 = .ok (.bipush 64, 2) := by decide +kernel
theorem dL_law_1096 : decode cL_law 1096 = .ok (.invokestatic 152, 3) := by decide +kernel
theorem dL_law_1099 : decode cL_law 1099 = .ok (.iload 13, 2) := by decide +kernel
theorem dL_law_1101 : decode cL_law 1101 = .ok (.bipush 18, 2) := by decide +kernel
theorem dL_law_1103 : decode cL_law 1103 = .ok (.ishr, 1) := by decide +kernel
theorem dL_law_1104 : decode cL_law 1104 = .ok (.bipush 64, 2) := by decide +kernel
theorem dL_law_1106 : decode cL_law 1106 = .ok (.invokestatic 152, 3) := by decide +kernel
theorem dL_law_1109 : decode cL_law 1109 = .ok (.iand, 1) := by decide +kernel
theorem dL_law_1110 : decode cL_law 1110 = .ok (.iastore, 1) := by decide +kernel
theorem dL_law_1111 : decode cL_law 1111 = .ok (.aload 7, 2) := by decide +kernel
theorem dL_law_1113 : decode cL_law 1113 = .ok (.iload 22, 2) := by decide +kernel
theorem dL_law_1115 : decode cL_law 1115 = .ok (.iconst 2, 1) := by decide +kernel
theorem dL_law_1116 : decode cL_law 1116 = .ok (.iadd, 1) := by decide +kernel
theorem dL_law_1117 : decode cL_law 1117 = .ok (.iconst 0, 1) := by decide +kernel
theorem dL_law_1118 : decode cL_law 1118 = .ok (.iastore, 1) := by decide +kernel
theorem dL_law_1119 : decode cL_law 1119 = .ok (.iconst 0, 1) := by decide +kernel
theorem dL_law_1120 : decode cL_law 1120 = .ok (.istore 23, 2) := by decide +kernel
theorem dL_law_1122 : decode cL_law 1122 = .ok (.iload 23, 2) := by decide +kernel
theorem dL_law_1124 : decode cL_law 1124 = .ok (.aload 10, 2) := by decide +kernel
theorem dL_law_1126 : decode cL_law 1126 = .ok (.iconst 3, 1) := by decide +kernel
theorem dL_law_1127 : decode cL_law 1127 = .ok (.iaload, 1) := by decide +kernel
theorem dL_law_1128 : decode cL_law 1128 = .ok (.if_icmp .ge 104, 3) := by decide +kernel
theorem dL_law_1131 : decode cL_law 1131 = .ok (.aload 7, 2) := by decide +kernel
theorem dL_law_1133 : decode cL_law 1133 = .ok (.iload 22, 2) := by decide +kernel
theorem dL_law_1135 : decode cL_law 1135 = .ok (.iconst 1, 1) := by decide +kernel
theorem dL_law_1136 : decode cL_law 1136 = .ok (.iadd, 1) := by decide +kernel
theorem dL_law_1137 : decode cL_law 1137 = .ok (.iaload, 1) := by decide +kernel
theorem dL_law_1138 : decode cL_law 1138 = .ok (.aload 7, 2) := by decide +kernel
theorem dL_law_1140 : decode cL_law 1140 = .ok (.iconst 3, 1) := by decide +kernel
theorem dL_law_1141 : decode cL_law 1141 = .ok (.iload 23, 2) := by decide +kernel
theorem dL_law_1143 : decode cL_law 1143 = .ok (.imul, 1) := by decide +kernel
theorem dL_law_1144 : decode cL_law 1144 = .ok (.iaload, 1) := by decide +kernel
theorem dL_law_1145 : decode cL_law 1145 = .ok (.aload 7, 2) := by decide +kernel
theorem dL_law_1147 : decode cL_law 1147 = .ok (.iconst 3, 1) := by decide +kernel
theorem dL_law_1148 : decode cL_law 1148 = .ok (.iload 23, 2) := by decide +kernel
theorem dL_law_1150 : decode cL_law 1150 = .ok (.imul, 1) := by decide +kernel
theorem dL_law_1151 : decode cL_law 1151 = .ok (.iconst 1, 1) := by decide +kernel
theorem dL_law_1152 : decode cL_law 1152 = .ok (.iadd, 1) := by decide +kernel
theorem dL_law_1153 : decode cL_law 1153 = .ok (.iaload, 1) := by decide +kernel
theorem dL_law_1154 : decode cL_law 1154 = .ok (.ior, 1) := by decide +kernel
theorem dL_law_1155 : decode cL_law 1155 = .ok (.iand, 1) := by decide +kernel
theorem dL_law_1156 : decode cL_law 1156 = .ok (.ifCond .ne 21, 3) := by decide +kernel
theorem dL_law_1159 : decode cL_law 1159 = .ok (.aload 7, 2) := by decide +kernel
theorem dL_law_1161 : decode cL_law 1161 = .ok (.iconst 3, 1) := by decide +kernel
theorem dL_law_1162 : decode cL_law 1162 = .ok (.iload 23, 2) := by decide +kernel
theorem dL_law_1164 : decode cL_law 1164 = .ok (.imul, 1) := by decide +kernel
theorem dL_law_1165 : decode cL_law 1165 = .ok (.iconst 1, 1) := by decide +kernel
theorem dL_law_1166 : decode cL_law 1166 = .ok (.iadd, 1) := by decide +kernel
theorem dL_law_1167 : decode cL_law 1167 = .ok (.iaload, 1) := by decide +kernel
theorem dL_law_1168 : decode cL_law 1168 = .ok (.aload 7, 2) := by decide +kernel
theorem dL_law_1170 : decode cL_law 1170 = .ok (.iload 22, 2) := by decide +kernel
theorem dL_law_1172 : decode cL_law 1172 = .ok (.iaload, 1) := by decide +kernel
theorem dL_law_1173 : decode cL_law 1173 = .ok (.iand, 1) := by decide +kernel
theorem dL_law_1174 : decode cL_law 1174 = .ok (.ifCond .eq 7, 3) := by decide +kernel
theorem dL_law_1177 : decode cL_law 1177 = .ok (.iconst 1, 1) := by decide +kernel
theorem dL_law_1178 : decode cL_law 1178 = .ok (.goto 4, 3) := by decide +kernel
theorem dL_law_1181 : decode cL_law 1181 = .ok (.iconst 0, 1) := by decide +kernel
theorem dL_law_1182 : decode cL_law 1182 = .ok (.istore 24, 2) := by decide +kernel
theorem dL_law_1184 : decode cL_law 1184 = .ok (.iload 24, 2) := by decide +kernel
theorem dL_law_1186 : decode cL_law 1186 = .ok (.ifCond .eq 40, 3) := by decide +kernel
theorem dL_law_1189 : decode cL_law 1189 = .ok (.aload 7, 2) := by decide +kernel
theorem dL_law_1191 : decode cL_law 1191 = .ok (.iconst 3, 1) := by decide +kernel
theorem dL_law_1192 : decode cL_law 1192 = .ok (.iload 23, 2) := by decide +kernel
theorem dL_law_1194 : decode cL_law 1194 = .ok (.imul, 1) := by decide +kernel
theorem dL_law_1195 : decode cL_law 1195 = .ok (.iconst 2, 1) := by decide +kernel
theorem dL_law_1196 : decode cL_law 1196 = .ok (.iadd, 1) := by decide +kernel
theorem dL_law_1197 : decode cL_law 1197 = .ok (.iaload, 1) := by decide +kernel
theorem dL_law_1198 : decode cL_law 1198 = .ok (.aload 7, 2) := by decide +kernel
theorem dL_law_1200 : decode cL_law 1200 = .ok (.iload 22, 2) := by decide +kernel
theorem dL_law_1202 : decode cL_law 1202 = .ok (.iconst 2, 1) := by decide +kernel
theorem dL_law_1203 : decode cL_law 1203 = .ok (.iadd, 1) := by decide +kernel
theorem dL_law_1204 : decode cL_law 1204 = .ok (.iaload, 1) := by decide +kernel
theorem dL_law_1205 : decode cL_law 1205 = .ok (.if_icmp .lt 21, 3) := by decide +kernel
theorem dL_law_1208 : decode cL_law 1208 = .ok (.aload 7, 2) := by decide +kernel
theorem dL_law_1210 : decode cL_law 1210 = .ok (.iload 22, 2) := by decide +kernel
theorem dL_law_1212 : decode cL_law 1212 = .ok (.iconst 2, 1) := by decide +kernel
theorem dL_law_1213 : decode cL_law 1213 = .ok (.iadd, 1) := by decide +kernel
theorem dL_law_1214 : decode cL_law 1214 = .ok (.aload 7, 2) := by decide +kernel
theorem dL_law_1216 : decode cL_law 1216 = .ok (.iconst 3, 1) := by decide +kernel
theorem dL_law_1217 : decode cL_law 1217 = .ok (.iload 23, 2) := by decide +kernel
theorem dL_law_1219 : decode cL_law 1219 = .ok (.imul, 1) := by decide +kernel
theorem dL_law_1220 : decode cL_law 1220 = .ok (.iconst 2, 1) := by decide +kernel
theorem dL_law_1221 : decode cL_law 1221 = .ok (.iadd, 1) := by decide +kernel
theorem dL_law_1222 : decode cL_law 1222 = .ok (.iaload, 1) := by decide +kernel
theorem dL_law_1223 : decode cL_law 1223 = .ok (.iconst 1, 1) := by decide +kernel
theorem dL_law_1224 : decode cL_law 1224 = .ok (.iadd, 1) := by decide +kernel
theorem dL_law_1225 : decode cL_law 1225 = .ok (.iastore, 1) := by decide +kernel
theorem dL_law_1226 : decode cL_law 1226 = .ok (.iinc 23 1, 3) := by decide +kernel
theorem dL_law_1229 : decode cL_law 1229 = .ok (.goto (-107), 3) := by decide +kernel
theorem dL_law_1232 : decode cL_law 1232 = .ok (.aload 10, 2) := by decide +kernel
theorem dL_law_1234 : decode cL_law 1234 = .ok (.iconst 3, 1) := by decide +kernel
theorem dL_law_1235 : decode cL_law 1235 = .ok (.dup2, 1) := by decide +kernel
theorem dL_law_1236 : decode cL_law 1236 = .ok (.iaload, 1) := by decide +kernel
theorem dL_law_1237 : decode cL_law 1237 = .ok (.iconst 1, 1) := by decide +kernel
theorem dL_law_1238 : decode cL_law 1238 = .ok (.iadd, 1) := by decide +kernel
theorem dL_law_1239 : decode cL_law 1239 = .ok (.iastore, 1) := by decide +kernel
theorem dL_law_1240 : decode cL_law 1240 = .ok (.aload_n 1, 1) := by decide +kernel
theorem dL_law_1241 : decode cL_law 1241 = .ok (.aload 7, 2) := by decide +kernel
theorem dL_law_1243 : decode cL_law 1243 = .ok (.iload 22, 2) := by decide +kernel
theorem dL_law_1245 : decode cL_law 1245 = .ok (.iaload, 1) := by decide +kernel
theorem dL_law_1246 : decode cL_law 1246 = .ok (.aload 7, 2) := by decide +kernel
theorem dL_law_1248 : decode cL_law 1248 = .ok (.iload 22, 2) := by decide +kernel
theorem dL_law_1250 : decode cL_law 1250 = .ok (.iconst 1, 1) := by decide +kernel
theorem dL_law_1251 : decode cL_law 1251 = .ok (.iadd, 1) := by decide +kernel
theorem dL_law_1252 : decode cL_law 1252 = .ok (.iaload, 1) := by decide +kernel
theorem dL_law_1253 : decode cL_law 1253 = .ok (.invokevirtual 162, 3) := by decide +kernel
theorem dL_law_1256 : decode cL_law 1256 = .ok (.aload 7, 2) := by decide +kernel
theorem dL_law_1258 : decode cL_law 1258 = .ok (.iload 22, 2) := by decide +kernel
theorem dL_law_1260 : decode cL_law 1260 = .ok (.iconst 2, 1) := by decide +kernel
theorem dL_law_1261 : decode cL_law 1261 = .ok (.iadd, 1) := by decide +kernel
theorem dL_law_1262 : decode cL_law 1262 = .ok (.iaload, 1) := by decide +kernel
theorem dL_law_1263 : decode cL_law 1263 = .ok (.if_icmp .ne 37, 3) := by decide +kernel
theorem dL_law_1266 : decode cL_law 1266 = .ok (.aload_n 1, 1) := by decide +kernel
theorem dL_law_1267 : decode cL_law 1267 = .ok (.aload 10, 2) := by decide +kernel
theorem dL_law_1269 : decode cL_law 1269 = .ok (.iconst 3, 1) := by decide +kernel
theorem dL_law_1270 : decode cL_law 1270 = .ok (.iaload, 1) := by decide +kernel
theorem dL_law_1271 : decode cL_law 1271 = .ok (.iconst 1, 1) := by decide +kernel
theorem dL_law_1272 : decode cL_law 1272 = .ok (.isub, 1) := by decide +kernel
theorem dL_law_1273 : decode cL_law 1273 = .ok (.invokevirtual 165, 3) := by decide +kernel
theorem dL_law_1276 : decode cL_law 1276 = .ok (.aload 7, 2) := by decide +kernel
theorem dL_law_1278 : decode cL_law 1278 = .ok (.iload 22, 2) := by decide +kernel
theorem dL_law_1280 : decode cL_law 1280 = .ok (.iconst 2, 1) := by decide +kernel
theorem dL_law_1281 : decode cL_law 1281 = .ok (.iadd, 1) := by decide +kernel
theorem dL_law_1282 : decode cL_law 1282 = .ok (.iaload, 1) := by decide +kernel
theorem dL_law_1283 : decode cL_law 1283 = .ok (.if_icmp .ne 17, 3) := by decide +kernel
theorem dL_law_1286 : decode cL_law 1286 = .ok (.aload_n 1, 1) := by decide +kernel
theorem dL_law_1287 : decode cL_law 1287 = .ok (.invokevirtual 168, 3) := by decide +kernel
theorem dL_law_1290 : decode cL_law 1290 = .ok (.aload 7, 2) := by decide +kernel
theorem dL_law_1292 : decode cL_law 1292 = .ok (.iload 22, 2) := by decide +kernel
theorem dL_law_1294 : decode cL_law 1294 = .ok (.iconst 2, 1) := by decide +kernel
theorem dL_law_1295 : decode cL_law 1295 = .ok (.iadd, 1) := by decide +kernel
theorem dL_law_1296 : decode cL_law 1296 = .ok (.iaload, 1) := by decide +kernel
theorem dL_law_1297 : decode cL_law 1297 = .ok (.if_icmp .gt 5, 3) := by decide +kernel
theorem dL_law_1300 : decode cL_law 1300 = .ok (.iconst 0, 1) := by decide +kernel
theorem dL_law_1301 : decode cL_law 1301 = .ok (.ireturn, 1) := by decide +kernel
theorem dL_law_1302 : decode cL_law 1302 = .ok (.goto 653, 3) := by decide +kernel
theorem dL_law_1305 : decode cL_law 1305 = .ok (.iload 14, 2) := by decide +kernel
theorem dL_law_1307 : decode cL_law 1307 = .ok (.bipush 16, 2) := by decide +kernel
theorem dL_law_1309 : decode cL_law 1309 = .ok (.if_icmp .ne 45, 3) := by decide +kernel
theorem dL_law_1312 : decode cL_law 1312 = .ok (.aload 10, 2) := by decide +kernel
theorem dL_law_1314 : decode cL_law 1314 = .ok (.iconst 4, 1) := by decide +kernel
theorem dL_law_1315 : decode cL_law 1315 = .ok (.iaload, 1) := by decide +kernel
theorem dL_law_1316 : decode cL_law 1316 = .ok (.iconst 1, 1) := by decide +kernel
theorem dL_law_1317 : decode cL_law 1317 = .ok (.if_icmp .ne 17, 3) := by decide +kernel
theorem dL_law_1320 : decode cL_law 1320 = .ok (.aload_n 1, 1) := by decide +kernel
theorem dL_law_1321 : decode cL_law 1321 = .ok (.bipush 10, 2) := by decide +kernel
theorem dL_law_1323 : decode cL_law 1323 = .ok (.iconst 0, 1) := by decide +kernel
theorem dL_law_1324 : decode cL_law 1324 = .ok (.iconst 0, 1) := by decide +kernel
theorem dL_law_1325 : decode cL_law 1325 = .ok (.invokestatic 98, 3) := by decide +kernel
theorem dL_law_1328 : decode cL_law 1328 = .ok (.iconst 3, 1) := by decide +kernel
theorem dL_law_1329 : decode cL_law 1329 = .ok (.if_icmp .eq 657, 3) := by decide +kernel
theorem dL_law_1332 : decode cL_law 1332 = .ok (.iconst 0, 1) := by decide +kernel
theorem dL_law_1333 : decode cL_law 1333 = .ok (.ireturn, 1) := by decide +kernel
theorem dL_law_1334 : decode cL_law 1334 = .ok (.aload_n 1, 1) := by decide +kernel
theorem dL_law_1335 : decode cL_law 1335 = .ok (.invokevirtual 68, 3) := by decide +kernel
theorem dL_law_1338 : decode cL_law 1338 = .ok (.aload_n 2, 1) := by decide +kernel
theorem dL_law_1339 : decode cL_law 1339 = .ok (.aload_n 3, 1) := by decide +kernel
theorem dL_law_1340 : decode cL_law 1340 = .ok (.aload 4, 2) := by decide +kernel
theorem dL_law_1342 : decode cL_law 1342 = .ok (.aload 7, 2) := by decide +kernel
theorem dL_law_1344 : decode cL_law 1344 = .ok (.aload 10, 2) := by decide +kernel
theorem dL_law_1346 : decode cL_law 1346 = .ok (.invokestatic 171, 3) := by decide +kernel
theorem dL_law_1349 : decode cL_law 1349 = .ok (.if_icmp .eq 606, 3) := by decide +kernel
theorem dL_law_1352 : decode cL_law 1352 = .ok (.iconst 0, 1) := by decide +kernel
theorem dL_law_1353 : decode cL_law 1353 = .ok (.ireturn, 1) := by decide +kernel
theorem dL_law_1354 : decode cL_law 1354 = .ok (.iload 14, 2) := by decide +kernel
theorem dL_law_1356 : decode cL_law 1356 = .ok (.bipush 17, 2) := by decide +kernel
theorem dL_law_1358 : decode cL_law 1358 = .ok (.if_icmp .ne 189, 3) := by decide +kernel
theorem dL_law_1361 : decode cL_law 1361 = .ok (.aload 10, 2) := by decide +kernel
theorem dL_law_1363 : decode cL_law 1363 = .ok (.iconst 2, 1) := by decide +kernel
theorem dL_law_1364 : decode cL_law 1364 = .ok (.iaload, 1) := by decide +kernel
theorem dL_law_1365 : decode cL_law 1365 = .ok (.ifCond .ne 7, 3) := by decide +kernel
theorem dL_law_1368 : decode cL_law 1368 = .ok (.iconst 0, 1) := by decide +kernel
theorem dL_law_1369 : decode cL_law 1369 = .ok (.goto 12, 3) := by decide +kernel
theorem dL_law_1372 : decode cL_law 1372 = .ok (.iload 13, 2) := by decide +kernel
theorem dL_law_1374 : decode cL_law 1374 = .ok (.aload 10, 2) := by decide +kernel
theorem dL_law_1376 : decode cL_law 1376 = .ok (.iconst 2, 1) := by decide +kernel
theorem dL_law_1377 : decode cL_law 1377 = .ok (.iaload, 1) := by decide +kernel
theorem dL_law_1378 : decode cL_law 1378 = .ok (.invokestatic 152, 3) := by decide +kernel
theorem dL_law_1381 : decode cL_law 1381 = .ok (.istore 22, 2) := by decide +kernel
theorem dL_law_1383 : decode cL_law 1383 = .ok (.aload 10, 2) := by decide +kernel
theorem dL_law_1385 : decode cL_law 1385 = .ok (.iconst 2, 1) := by decide +kernel
theorem dL_law_1386 : decode cL_law 1386 = .ok (.iaload, 1) := by decide +kernel
theorem dL_law_1387 : decode cL_law 1387 = .ok (.ifCond .eq 11, 3) := by decide +kernel
theorem dL_law_1390 : decode cL_law 1390 = .ok (.aload 10, 2) := by decide +kernel
theorem dL_law_1392 : decode cL_law 1392 = .ok (.iconst 4, 1) := by decide +kernel
theorem dL_law_1393 : decode cL_law 1393 = .ok (.iaload, 1) := by decide +kernel
theorem dL_law_1394 : decode cL_law 1394 = .ok (.iconst 1, 1) := by decide +kernel
theorem dL_law_1395 : decode cL_law 1395 = .ok (.if_icmp .ne 29, 3) := by decide +kernel
theorem dL_law_1398 : decode cL_law 1398 = .ok (.aload_n 1, 1) := by decide +kernel
theorem dL_law_1399 : decode cL_law 1399 = .ok (.bipush 9, 2) := by decide +kernel
theorem dL_law_1401 : decode cL_law 1401 = .ok (.iload 22, 2) := by decide +kernel
theorem dL_law_1403 : decode cL_law 1403 = .ok (.iconst 0, 1) := by decide +kernel
theorem dL_law_1404 : decode cL_law 1404 = .ok (.invokestatic 98, 3) := by decide +kernel
theorem dL_law_1407 : decode cL_law 1407 = .ok (.aload 10, 2) := by decide +kernel
theorem dL_law_1409 : decode cL_law 1409 = .ok (.iconst 2, 1) := by decide +kernel
theorem dL_law_1410 : decode cL_law 1410 = .ok (.iaload, 1) := by decide +kernel
theorem dL_law_1411 : decode cL_law 1411 = .ok (.ifCond .ne 7, 3) := by decide +kernel
theorem dL_law_1414 : decode cL_law 1414 = .ok (.iconst 4, 1) := by decide +kernel
theorem dL_law_1415 : decode cL_law 1415 = .ok (.goto 4, 3) := by decide +kernel
theorem dL_law_1418 : decode cL_law 1418 = .ok (.iconst 3, 1) := by decide +kernel
theorem dL_law_1419 : decode cL_law 1419 = .ok (.if_icmp .eq 567, 3) := by decide +kernel
theorem dL_law_1422 : decode cL_law 1422 = .ok (.iconst 0, 1) := by decide +kernel
theorem dL_law_1423 : decode cL_law 1423 = .ok (.ireturn, 1) := by decide +kernel
theorem dL_law_1424 : decode cL_law 1424 = .ok (.aload 10, 2) := by decide +kernel
theorem dL_law_1426 : decode cL_law 1426 = .ok (.iconst 4, 1) := by decide +kernel
theorem dL_law_1427 : decode cL_law 1427 = .ok (.iconst 1, 1) := by decide +kernel
theorem dL_law_1428 : decode cL_law 1428 = .ok (.iastore, 1) := by decide +kernel
theorem dL_law_1429 : decode cL_law 1429 = .ok (.aload 10, 2) := by decide +kernel
theorem dL_law_1431 : decode cL_law 1431 = .ok (.iconst 5, 1) := by decide +kernel
theorem dL_law_1432 : decode cL_law 1432 = .ok (.iconst 0, 1) := by decide +kernel
theorem dL_law_1433 : decode cL_law 1433 = .ok (.iastore, 1) := by decide +kernel
theorem dL_law_1434 : decode cL_law 1434 = .ok (.aload 10, 2) := by decide +kernel
theorem dL_law_1436 : decode cL_law 1436 = .ok (.bipush 6, 2) := by decide +kernel
theorem dL_law_1438 : decode cL_law 1438 = .ok (.iconst 0, 1) := by decide +kernel
theorem dL_law_1439 : decode cL_law 1439 = .ok (.iastore, 1) := by decide +kernel
theorem dL_law_1440 : decode cL_law 1440 = .ok (.aload 10, 2) := by decide +kernel
theorem dL_law_1442 : decode cL_law 1442 = .ok (.bipush 7, 2) := by decide +kernel
theorem dL_law_1444 : decode cL_law 1444 = .ok (.iconst 0, 1) := by decide +kernel
theorem dL_law_1445 : decode cL_law 1445 = .ok (.iastore, 1) := by decide +kernel
theorem dL_law_1446 : decode cL_law 1446 = .ok (.iconst 0, 1) := by decide +kernel
theorem dL_law_1447 : decode cL_law 1447 = .ok (.istore 23, 2) := by decide +kernel
theorem dL_law_1449 : decode cL_law 1449 = .ok (.iload 23, 2) := by decide +kernel
theorem dL_law_1451 : decode cL_law 1451 = .ok (.aload 10, 2) := by decide +kernel
theorem dL_law_1453 : decode cL_law 1453 = .ok (.iconst 0, 1) := by decide +kernel
theorem dL_law_1454 : decode cL_law 1454 = .ok (.iaload, 1) := by decide +kernel
theorem dL_law_1455 : decode cL_law 1455 = .ok (.if_icmp .ge 73, 3) := by decide +kernel
theorem dL_law_1458 : decode cL_law 1458 = .ok (.iconst 0, 1) := by decide +kernel
theorem dL_law_1459 : decode cL_law 1459 = .ok (.istore 24, 2) := by decide +kernel
theorem dL_law_1461 : decode cL_law 1461 = .ok (.iload 24, 2) := by decide +kernel
theorem dL_law_1463 : decode cL_law 1463 = .ok (.iload 23, 2) := by decide +kernel
theorem dL_law_1465 : decode cL_law 1465 = .ok (.aload_n 2, 1) := by decide +kernel
theorem dL_law_1466 : decode cL_law 1466 = .ok (.invokestatic 10, 3) := by decide +kernel
theorem dL_law_1469 : decode cL_law 1469 = .ok (.if_icmp .ge 53, 3) := by decide +kernel
theorem dL_law_1472 : decode cL_law 1472 = .ok (.aload 5, 2) := by decide +kernel
theorem dL_law_1474 : decode cL_law 1474 = .ok (.iload 23, 2) := by decide +kernel
theorem dL_law_1476 : decode cL_law 1476 = .ok (.iaload, 1) := by decide +kernel
theorem dL_law_1477 : decode cL_law 1477 = .ok (.iload 22, 2) := by decide +kernel
theorem dL_law_1479 : decode cL_law 1479 = .ok (.aload 6, 2) := by decide +kernel
theorem dL_law_1481 : decode cL_law 1481 = .ok (.invokestatic 105, 3) := by decide +kernel
theorem dL_law_1484 : decode cL_law 1484 = .ok (.ifCond .eq 38, 3) := by decide +kernel
theorem dL_law_1487 : decode cL_law 1487 = .ok (.aload 8, 2) := by decide +kernel
theorem dL_law_1489 : decode cL_law 1489 = .ok (.aload 10, 2) := by decide +kernel
theorem dL_law_1491 : decode cL_law 1491 = .ok (.bipush 6, 2) := by decide +kernel
theorem dL_law_1493 : decode cL_law 1493 = .ok (.iaload, 1) := by decide +kernel
theorem dL_law_1494 : decode cL_law 1494 = .ok (.iload 23, 2) := by decide +kernel
