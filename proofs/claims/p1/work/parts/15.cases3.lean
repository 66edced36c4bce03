theorem dL_law_988 : decode cL_law 988 = .ok (.aload_n 1, 1) := by decide +kernel
theorem dL_law_989 : decode cL_law 989 = .ok (.aload_n 0, 1) := by decide +kernel
theorem dL_law_990 : decode cL_law 990 = .ok (.iload 4, 2) := by decide +kernel
theorem dL_law_992 : decode cL_law 992 = .ok (.iconst 1, 1) := by decide +kernel
theorem dL_law_993 : decode cL_law 993 = .ok (.iadd, 1) := by decide +kernel
theorem dL_law_994 : decode cL_law 994 = .ok (.iaload, 1) := by decide +kernel
theorem dL_law_995 : decode cL_law 995 = .ok (.aload_n 3, 1) := by decide +kernel
theorem dL_law_996 : decode cL_law 996 = .ok (.invokestatic 162, 3) := by decide +kernel
theorem dL_law_999 : decode cL_law 999 = .ok (.istore 5, 2) := by decide +kernel
theorem dL_law_1001 : decode cL_law 1001 = .ok (.aload_n 2, 1) := by decide +kernel
theorem dL_law_1002 : decode cL_law 1002 = .ok (.aload_n 0, 1) := by decide +kernel
theorem dL_law_1003 : decode cL_law 1003 = .ok (.iload 4, 2) := by decide +kernel
theorem dL_law_1005 : decode cL_law 1005 = .ok (.iconst 1, 1) := by decide +kernel
theorem dL_law_1006 : decode cL_law 1006 = .ok (.iadd, 1) := by decide +kernel
theorem dL_law_1007 : decode cL_law 1007 = .ok (.iaload, 1) := by decide +kernel
theorem dL_law_1008 : decode cL_law 1008 = .ok (.invokevirtual 164, 3) := by decide +kernel
theorem dL_law_1011 : decode cL_law 1011 = .ok (.istore 6, 2) := by decide +kernel
theorem dL_law_1013 : decode cL_law 1013 = .ok (.aload_n 2, 1) := by decide +kernel
theorem dL_law_1014 : decode cL_law 1014 = .ok (.invokevirtual 113, 3) := by decide +kernel
theorem dL_law_1017 : decode cL_law 1017 = .ok (.iload 5, 2) := by decide +kernel
theorem dL_law_1019 : decode cL_law 1019 = .ok (.if_icmp .eq 5, 3) := by decide +kernel
theorem dL_law_1024 : decode cL_law 1024 = .ok (.iload 5, 2) := by decide +kernel
theorem dL_law_1026 : decode cL_law 1026 = .ok (.ifCond .ne 15, 3) := by decide +kernel
theorem dL_law_1041 : decode cL_law 1041 = .ok (.goto 528, 3) := by decide +kernel
theorem dL_law_1044 : decode cL_law 1044 = .ok (.aload_n 1, 1) := by decide +kernel
theorem dL_law_1045 : decode cL_law 1045 = .ok (.invokevirtual 165, 3) := by decide +kernel
theorem dL_law_1048 : decode cL_law 1048 = .ok (.aload_n 2, 1) := by decide +kernel
theorem dL_law_1049 : decode cL_law 1049 = .ok (.invokevirtual 168, 3) := by decide +kernel
theorem dL_law_1052 : decode cL_law 1052 = .ok (.if_icmp .eq 517, 3) := by decide +kernel
theorem dL_law_1057 : decode cL_law 1057 = .ok (.aload_n 1, 1) := by decide +kernel
theorem dL_law_1058 : decode cL_law 1058 = .ok (.aload_n 3, 1) := by decide +kernel
theorem dL_law_1059 : decode cL_law 1059 = .ok (.invokestatic 169, 3) := by decide +kernel
theorem dL_law_1062 : decode cL_law 1062 = .ok (.istore 5, 2) := by decide +kernel
theorem dL_law_1064 : decode cL_law 1064 = .ok (.aload_n 2, 1) := by decide +kernel
theorem dL_law_1065 : decode cL_law 1065 = .ok (.invokevirtual 171, 3) := by decide +kernel
theorem dL_law_1068 : decode cL_law 1068 = .ok (.istore 6, 2) := by decide +kernel
theorem dL_law_1070 : decode cL_law 1070 = .ok (.aload_n 2, 1) := by decide +kernel
theorem dL_law_1071 : decode cL_law 1071 = .ok (.invokevirtual 113, 3) := by decide +kernel
theorem dL_law_1074 : decode cL_law 1074 = .ok (.iload 5, 2) := by decide +kernel
theorem dL_law_1076 : decode cL_law 1076 = .ok (.if_icmp .eq 5, 3) := by decide +kernel
theorem dL_law_1081 : decode cL_law 1081 = .ok (.iload 5, 2) := by decide +kernel
theorem dL_law_1083 : decode cL_law 1083 = .ok (.ifCond .ne 15, 3) := by decide +kernel
theorem dL_law_1098 : decode cL_law 1098 = .ok (.goto 471, 3) := by decide +kernel
theorem dL_law_1101 : decode cL_law 1101 = .ok (.aload_n 1, 1) := by decide +kernel
theorem dL_law_1102 : decode cL_law 1102 = .ok (.aload_n 0, 1) := by decide +kernel
theorem dL_law_1103 : decode cL_law 1103 = .ok (.iload 4, 2) := by decide +kernel
theorem dL_law_1105 : decode cL_law 1105 = .ok (.iconst 1, 1) := by decide +kernel
theorem dL_law_1106 : decode cL_law 1106 = .ok (.iadd, 1) := by decide +kernel
theorem dL_law_1107 : decode cL_law 1107 = .ok (.iaload, 1) := by decide +kernel
theorem dL_law_1108 : decode cL_law 1108 = .ok (.aload_n 0, 1) := by decide +kernel
theorem dL_law_1109 : decode cL_law 1109 = .ok (.iload 4, 2) := by decide +kernel
theorem dL_law_1111 : decode cL_law 1111 = .ok (.iconst 2, 1) := by decide +kernel
theorem dL_law_1112 : decode cL_law 1112 = .ok (.iadd, 1) := by decide +kernel
theorem dL_law_1113 : decode cL_law 1113 = .ok (.iaload, 1) := by decide +kernel
theorem dL_law_1114 : decode cL_law 1114 = .ok (.aload_n 3, 1) := by decide +kernel
theorem dL_law_1115 : decode cL_law 1115 = .ok (.invokestatic 172, 3) := by decide +kernel
theorem dL_law_1118 : decode cL_law 1118 = .ok (.istore 5, 2) := by decide +kernel
theorem dL_law_1120 : decode cL_law 1120 = .ok (.aload_n 2, 1) := by decide +kernel
theorem dL_law_1121 : decode cL_law 1121 = .ok (.aload_n 0, 1) := by decide +kernel
theorem dL_law_1122 : decode cL_law 1122 = .ok (.iload 4, 2) := by decide +kernel
theorem dL_law_1124 : decode cL_law 1124 = .ok (.iconst 1, 1) := by decide +kernel
theorem dL_law_1125 : decode cL_law 1125 = .ok (.iadd, 1) := by decide +kernel
theorem dL_law_1126 : decode cL_law 1126 = .ok (.iaload, 1) := by decide +kernel
theorem dL_law_1127 : decode cL_law 1127 = .ok (.aload_n 0, 1) := by decide +kernel
theorem dL_law_1128 : decode cL_law 1128 = .ok (.iload 4, 2) := by decide +kernel
theorem dL_law_1130 : decode cL_law 1130 = .ok (.iconst 2, 1) := by decide +kernel
theorem dL_law_1131 : decode cL_law 1131 = .ok (.iadd, 1) := by decide +kernel
theorem dL_law_1132 : decode cL_law 1132 = .ok (.iaload, 1) := by decide +kernel
theorem dL_law_1133 : decode cL_law 1133 = .ok (.invokevirtual 174, 3) := by decide +kernel
theorem dL_law_1136 : decode cL_law 1136 = .ok (.lstore 6, 2) := by decide +kernel
theorem dL_law_1138 : decode cL_law 1138 = .ok (.aload_n 2, 1) := by decide +kernel
theorem dL_law_1139 : decode cL_law 1139 = .ok (.invokevirtual 113, 3) := by decide +kernel
theorem dL_law_1142 : decode cL_law 1142 = .ok (.iload 5, 2) := by decide +kernel
theorem dL_law_1144 : decode cL_law 1144 = .ok (.if_icmp .eq 5, 3) := by decide +kernel
theorem dL_law_1149 : decode cL_law 1149 = .ok (.iload 5, 2) := by decide +kernel
theorem dL_law_1151 : decode cL_law 1151 = .ok (.ifCond .ne 14, 3) := by decide +kernel
theorem dL_law_1165 : decode cL_law 1165 = .ok (.goto 404, 3) := by decide +kernel
theorem dL_law_1168 : decode cL_law 1168 = .ok (.aload_n 1, 1) := by decide +kernel
theorem dL_law_1169 : decode cL_law 1169 = .ok (.aload_n 0, 1) := by decide +kernel
theorem dL_law_1170 : decode cL_law 1170 = .ok (.iload 4, 2) := by decide +kernel
theorem dL_law_1172 : decode cL_law 1172 = .ok (.iconst 1, 1) := by decide +kernel
theorem dL_law_1173 : decode cL_law 1173 = .ok (.iadd, 1) := by decide +kernel
theorem dL_law_1174 : decode cL_law 1174 = .ok (.iaload, 1) := by decide +kernel
theorem dL_law_1175 : decode cL_law 1175 = .ok (.aload_n 0, 1) := by decide +kernel
theorem dL_law_1176 : decode cL_law 1176 = .ok (.iload 4, 2) := by decide +kernel
theorem dL_law_1178 : decode cL_law 1178 = .ok (.iconst 2, 1) := by decide +kernel
theorem dL_law_1179 : decode cL_law 1179 = .ok (.iadd, 1) := by decide +kernel
theorem dL_law_1180 : decode cL_law 1180 = .ok (.iaload, 1) := by decide +kernel
theorem dL_law_1181 : decode cL_law 1181 = .ok (.ifCond .eq 7, 3) := by decide +kernel
theorem dL_law_1184 : decode cL_law 1184 = .ok (.iconst 1, 1) := by decide +kernel
theorem dL_law_1185 : decode cL_law 1185 = .ok (.goto 4, 3) := by decide +kernel
theorem dL_law_1188 : decode cL_law 1188 = .ok (.iconst 0, 1) := by decide +kernel
theorem dL_law_1189 : decode cL_law 1189 = .ok (.aload_n 3, 1) := by decide +kernel
theorem dL_law_1190 : decode cL_law 1190 = .ok (.invokestatic 175, 3) := by decide +kernel
theorem dL_law_1193 : decode cL_law 1193 = .ok (.istore 5, 2) := by decide +kernel
theorem dL_law_1195 : decode cL_law 1195 = .ok (.aload_n 2, 1) := by decide +kernel
theorem dL_law_1196 : decode cL_law 1196 = .ok (.aload_n 0, 1) := by decide +kernel
theorem dL_law_1197 : decode cL_law 1197 = .ok (.iload 4, 2) := by decide +kernel
theorem dL_law_1199 : decode cL_law 1199 = .ok (.iconst 1, 1) := by decide +kernel
theorem dL_law_1200 : decode cL_law 1200 = .ok (.iadd, 1) := by decide +kernel
theorem dL_law_1201 : decode cL_law 1201 = .ok (.iaload, 1) := by decide +kernel
theorem dL_law_1202 : decode cL_law 1202 = .ok (.aload_n 0, 1) := by decide +kernel
theorem dL_law_1203 : decode cL_law 1203 = .ok (.iload 4, 2) := by decide +kernel
theorem dL_law_1205 : decode cL_law 1205 = .ok (.iconst 2, 1) := by decide +kernel
theorem dL_law_1206 : decode cL_law 1206 = .ok (.iadd, 1) := by decide +kernel
theorem dL_law_1207 : decode cL_law 1207 = .ok (.iaload, 1) := by decide +kernel
theorem dL_law_1208 : decode cL_law 1208 = .ok (.ifCond .eq 7, 3) := by decide +kernel
theorem dL_law_1211 : decode cL_law 1211 = .ok (.iconst 1, 1) := by decide +kernel
theorem dL_law_1212 : decode cL_law 1212 = .ok (.goto 4, 3) := by decide +kernel
theorem dL_law_1215 : decode cL_law 1215 = .ok (.iconst 0, 1) := by decide +kernel
theorem dL_law_1216 : decode cL_law 1216 = .ok (.invokevirtual 178, 3) := by decide +kernel
theorem dL_law_1219 : decode cL_law 1219 = .ok (.istore 6, 2) := by decide +kernel
theorem dL_law_1221 : decode cL_law 1221 = .ok (.aload_n 2, 1) := by decide +kernel
theorem dL_law_1222 : decode cL_law 1222 = .ok (.invokevirtual 113, 3) := by decide +kernel
theorem dL_law_1225 : decode cL_law 1225 = .ok (.iload 5, 2) := by decide +kernel
theorem dL_law_1227 : decode cL_law 1227 = .ok (.if_icmp .eq 5, 3) := by decide +kernel
theorem dL_law_1232 : decode cL_law 1232 = .ok (.iload 5, 2) := by decide +kernel
theorem dL_law_1234 : decode cL_law 1234 = .ok (.ifCond .ne 22, 3) := by decide +kernel
theorem dL_law_1256 : decode cL_law 1256 = .ok (.goto 313, 3) := by decide +kernel
theorem dL_law_1259 : decode cL_law 1259 = .ok (.aload_n 1, 1) := by decide +kernel
theorem dL_law_1260 : decode cL_law 1260 = .ok (.aload_n 0, 1) := by decide +kernel
theorem dL_law_1261 : decode cL_law 1261 = .ok (.iload 4, 2) := by decide +kernel
theorem dL_law_1263 : decode cL_law 1263 = .ok (.iconst 1, 1) := by decide +kernel
theorem dL_law_1264 : decode cL_law 1264 = .ok (.iadd, 1) := by decide +kernel
theorem dL_law_1265 : decode cL_law 1265 = .ok (.iaload, 1) := by decide +kernel
theorem dL_law_1266 : decode cL_law 1266 = .ok (.aload_n 3, 1) := by decide +kernel
theorem dL_law_1267 : decode cL_law 1267 = .ok (.invokestatic 179, 3) := by decide +kernel
theorem dL_law_1270 : decode cL_law 1270 = .ok (.istore 5, 2) := by decide +kernel
theorem dL_law_1272 : decode cL_law 1272 = .ok (.aload_n 2, 1) := by decide +kernel
theorem dL_law_1273 : decode cL_law 1273 = .ok (.aload_n 0, 1) := by decide +kernel
theorem dL_law_1274 : decode cL_law 1274 = .ok (.iload 4, 2) := by decide +kernel
theorem dL_law_1276 : decode cL_law 1276 = .ok (.iconst 1, 1) := by decide +kernel
theorem dL_law_1277 : decode cL_law 1277 = .ok (.iadd, 1) := by decide +kernel
theorem dL_law_1278 : decode cL_law 1278 = .ok (.iaload, 1) := by decide +kernel
theorem dL_law_1279 : decode cL_law 1279 = .ok (.invokevirtual 181, 3) := by decide +kernel
theorem dL_law_1282 : decode cL_law 1282 = .ok (.istore 6, 2) := by decide +kernel
theorem dL_law_1284 : decode cL_law 1284 = .ok (.aload_n 2, 1) := by decide +kernel
theorem dL_law_1285 : decode cL_law 1285 = .ok (.invokevirtual 113, 3) := by decide +kernel
theorem dL_law_1288 : decode cL_law 1288 = .ok (.iload 5, 2) := by decide +kernel
theorem dL_law_1290 : decode cL_law 1290 = .ok (.if_icmp .eq 5, 3) := by decide +kernel
theorem dL_law_1295 : decode cL_law 1295 = .ok (.iload 5, 2) := by decide +kernel
theorem dL_law_1297 : decode cL_law 1297 = .ok (.ifCond .ne 15, 3) := by decide +kernel
theorem dL_law_1312 : decode cL_law 1312 = .ok (.goto 257, 3) := by decide +kernel
theorem dL_law_1315 : decode cL_law 1315 = .ok (.aload_n 1, 1) := by decide +kernel
theorem dL_law_1316 : decode cL_law 1316 = .ok (.invokestatic 182, 3) := by decide +kernel
theorem dL_law_1319 : decode cL_law 1319 = .ok (.istore 5, 2) := by decide +kernel
theorem dL_law_1321 : decode cL_law 1321 = .ok (.aload_n 2, 1) := by decide +kernel
theorem dL_law_1322 : decode cL_law 1322 = .ok (.invokevirtual 185, 3) := by decide +kernel
theorem dL_law_1325 : decode cL_law 1325 = .ok (.aload_n 2, 1) := by decide +kernel
theorem dL_law_1326 : decode cL_law 1326 = .ok (.invokevirtual 113, 3) := by decide +kernel
theorem dL_law_1329 : decode cL_law 1329 = .ok (.iload 5, 2) := by decide +kernel
theorem dL_law_1331 : decode cL_law 1331 = .ok (.if_icmp .eq 5, 3) := by decide +kernel
theorem dL_law_1336 : decode cL_law 1336 = .ok (.goto 233, 3) := by decide +kernel
theorem dL_law_1339 : decode cL_law 1339 = .ok (.aload_n 1, 1) := by decide +kernel
theorem dL_law_1340 : decode cL_law 1340 = .ok (.aload_n 3, 1) := by decide +kernel
theorem dL_law_1341 : decode cL_law 1341 = .ok (.invokestatic 186, 3) := by decide +kernel
theorem dL_law_1344 : decode cL_law 1344 = .ok (.istore 5, 2) := by decide +kernel
theorem dL_law_1346 : decode cL_law 1346 = .ok (.aload_n 2, 1) := by decide +kernel
theorem dL_law_1347 : decode cL_law 1347 = .ok (.invokevirtual 188, 3) := by decide +kernel
theorem dL_law_1350 : decode cL_law 1350 = .ok (.istore 6, 2) := by decide +kernel
theorem dL_law_1352 : decode cL_law 1352 = .ok (.aload_n 2, 1) := by decide +kernel
theorem dL_law_1353 : decode cL_law 1353 = .ok (.invokevirtual 113, 3) := by decide +kernel
theorem dL_law_1356 : decode cL_law 1356 = .ok (.iload 5, 2) := by decide +kernel
theorem dL_law_1358 : decode cL_law 1358 = .ok (.if_icmp .eq 5, 3) := by decide +kernel
theorem dL_law_1363 : decode cL_law 1363 = .ok (.iload 5, 2) := by decide +kernel
theorem dL_law_1365 : decode cL_law 1365 = .ok (.ifCond .ne 15, 3) := by decide +kernel
theorem dL_law_1380 : decode cL_law 1380 = .ok (.goto 189, 3) := by decide +kernel
theorem dL_law_1383 : decode cL_law 1383 = .ok (.aload_n 1, 1) := by decide +kernel
theorem dL_law_1384 : decode cL_law 1384 = .ok (.aload_n 3, 1) := by decide +kernel
theorem dL_law_1385 : decode cL_law 1385 = .ok (.invokestatic 189, 3) := by decide +kernel
theorem dL_law_1388 : decode cL_law 1388 = .ok (.istore 5, 2) := by decide +kernel
theorem dL_law_1390 : decode cL_law 1390 = .ok (.aload_n 2, 1) := by decide +kernel
theorem dL_law_1391 : decode cL_law 1391 = .ok (.invokevirtual 191, 3) := by decide +kernel
theorem dL_law_1394 : decode cL_law 1394 = .ok (.lstore 6, 2) := by decide +kernel
theorem dL_law_1396 : decode cL_law 1396 = .ok (.aload_n 2, 1) := by decide +kernel
theorem dL_law_1397 : decode cL_law 1397 = .ok (.invokevirtual 113, 3) := by decide +kernel
theorem dL_law_1400 : decode cL_law 1400 = .ok (.iload 5, 2) := by decide +kernel
theorem dL_law_1402 : decode cL_law 1402 = .ok (.if_icmp .eq 5, 3) := by decide +kernel
theorem dL_law_1407 : decode cL_law 1407 = .ok (.iload 5, 2) := by decide +kernel
theorem dL_law_1409 : decode cL_law 1409 = .ok (.ifCond .ne 14, 3) := by decide +kernel
theorem dL_law_1423 : decode cL_law 1423 = .ok (.goto 146, 3) := by decide +kernel
theorem dL_law_1426 : decode cL_law 1426 = .ok (.aload_n 1, 1) := by decide +kernel
theorem dL_law_1427 : decode cL_law 1427 = .ok (.aload_n 0, 1) := by decide +kernel
theorem dL_law_1428 : decode cL_law 1428 = .ok (.iload 4, 2) := by decide +kernel
theorem dL_law_1430 : decode cL_law 1430 = .ok (.iconst 1, 1) := by decide +kernel
theorem dL_law_1431 : decode cL_law 1431 = .ok (.iadd, 1) := by decide +kernel
theorem dL_law_1432 : decode cL_law 1432 = .ok (.iaload, 1) := by decide +kernel
theorem dL_law_1433 : decode cL_law 1433 = .ok (.aload_n 3, 1) := by decide +kernel
theorem dL_law_1434 : decode cL_law 1434 = .ok (.invokestatic 192, 3) := by decide +kernel
theorem dL_law_1437 : decode cL_law 1437 = .ok (.istore 5, 2) := by decide +kernel
theorem dL_law_1439 : decode cL_law 1439 = .ok (.aload_n 2, 1) := by decide +kernel
theorem dL_law_1440 : decode cL_law 1440 = .ok (.aload_n 0, 1) := by decide +kernel
theorem dL_law_1441 : decode cL_law 1441 = .ok (.iload 4, 2) := by decide +kernel
theorem dL_law_1443 : decode cL_law 1443 = .ok (.iconst 1, 1) := by decide +kernel
theorem dL_law_1444 : decode cL_law 1444 = .ok (.iadd, 1) := by decide +kernel
theorem dL_law_1445 : decode cL_law 1445 = .ok (.iaload, 1) := by decide +kernel
theorem dL_law_1446 : decode cL_law 1446 = .ok (.invokevirtual 194, 3) := by decide +kernel
theorem dL_law_1449 : decode cL_law 1449 = .ok (.istore 6, 2) := by decide +kernel
theorem dL_law_1451 : decode cL_law 1451 = .ok (.aload_n 2, 1) := by decide +kernel
theorem dL_law_1452 : decode cL_law 1452 = .ok (.invokevirtual 113, 3) := by decide +kernel
theorem dL_law_1455 : decode cL_law 1455 = .ok (.iload 5, 2) := by decide +kernel
theorem dL_law_1457 : decode cL_law 1457 = .ok (.if_icmp .eq 5, 3) := by decide +kernel
theorem dL_law_1462 : decode cL_law 1462 = .ok (.iload 5, 2) := by decide +kernel
theorem dL_law_1464 : decode cL_law 1464 = .ok (.ifCond .ne 15, 3) := by decide +kernel
theorem dL_law_1479 : decode cL_law 1479 = .ok (.goto 90, 3) := by decide +kernel
theorem dL_law_1482 : decode cL_law 1482 = .ok (.aload_n 1, 1) := by decide +kernel
theorem dL_law_1483 : decode cL_law 1483 = .ok (.aload_n 3, 1) := by decide +kernel
theorem dL_law_1484 : decode cL_law 1484 = .ok (.invokestatic 195, 3) := by decide +kernel
theorem dL_law_1487 : decode cL_law 1487 = .ok (.istore 5, 2) := by decide +kernel
theorem dL_law_1489 : decode cL_law 1489 = .ok (.aload_n 2, 1) := by decide +kernel
theorem dL_law_1490 : decode cL_law 1490 = .ok (.invokevirtual 197, 3) := by decide +kernel
theorem dL_law_1493 : decode cL_law 1493 = .ok (.istore 6, 2) := by decide +kernel
theorem dL_law_1495 : decode cL_law 1495 = .ok (.aload_n 2, 1) := by decide +kernel
theorem dL_law_1496 : decode cL_law 1496 = .ok (.invokevirtual 113, 3) := by decide +kernel
theorem dL_law_1499 : decode cL_law 1499 = .ok (.iload 5, 2) := by decide +kernel
theorem dL_law_1501 : decode cL_law 1501 = .ok (.if_icmp .eq 5, 3) := by decide +kernel
theorem dL_law_1506 : decode cL_law 1506 = .ok (.iload 5, 2) := by decide +kernel
theorem dL_law_1508 : decode cL_law 1508 = .ok (.ifCond .ne 15, 3) := by decide +kernel
theorem dL_law_1523 : decode cL_law 1523 = .ok (.goto 46, 3) := by decide +kernel
theorem dL_law_1526 : decode cL_law 1526 = .ok (.aload_n 1, 1) := by decide +kernel
theorem dL_law_1527 : decode cL_law 1527 = .ok (.aload_n 3, 1) := by decide +kernel
theorem dL_law_1528 : decode cL_law 1528 = .ok (.invokestatic 198, 3) := by decide +kernel
theorem dL_law_1531 : decode cL_law 1531 = .ok (.istore 5, 2) := by decide +kernel
theorem dL_law_1533 : decode cL_law 1533 = .ok (.aload_n 2, 1) := by decide +kernel
theorem dL_law_1534 : decode cL_law 1534 = .ok (.invokevirtual 200, 3) := by decide +kernel
theorem dL_law_1537 : decode cL_law 1537 = .ok (.lstore 6, 2) := by decide +kernel
theorem dL_law_1539 : decode cL_law 1539 = .ok (.aload_n 2, 1) := by decide +kernel
theorem dL_law_1540 : decode cL_law 1540 = .ok (.invokevirtual 113, 3) := by decide +kernel
theorem dL_law_1543 : decode cL_law 1543 = .ok (.iload 5, 2) := by decide +kernel
theorem dL_law_1545 : decode cL_law 1545 = .ok (.if_icmp .eq 5, 3) := by decide +kernel
theorem dL_law_1550 : decode cL_law 1550 = .ok (.iload 5, 2) := by decide +kernel
theorem dL_law_1552 : decode cL_law 1552 = .ok (.ifCond .ne 14, 3) := by decide +kernel
theorem dL_law_1566 : decode cL_law 1566 = .ok (.goto 3, 3) := by decide +kernel
set_option maxHeartbeats 4000000 in
set_option maxRecDepth 100000 in
theorem lc_optimise_neg {p : Program} {l : Launch} {e : Env} {s : State} {m : MethodId} {below : List Frame} {meth : Method} {c : Code} (hlt : l.stackTraces = false) {b : Nat} {xs : Nat → Int32} (C0 : lw_At p s m meth c b 3 xs) {A : Nat → Prop} (hAA : A = fun q : Nat => s.heap.size ≤ q) {dC : Nat → ClassId} {dI : Nat → Nat → Nat} {tp te : Nat} (hG : gx tp te A s s.heap) {qx rp rt rc r1 r2 r3 r4 a1 a2 a3 a4 a5 a6 a7 t1 t2 t3 t4 t5 t6 t7 c1 c2 c3 c4 c5 c6 c7 qm lp m1 m2 m3 m4 m5 m6 m7 m8 qo : Nat} {k1 k2 k3 k4 k5 k6 k7 ko : ClassId} {H : Heap} {locs : List Loc} (hK : va_K (dC, dI) vwCl [(k1, .int), (k2, .int), (k3, .int), (k4, .long), (k5, .int), (k6, .int), (k7, .int), (ko, .long)] s) (hP : va_P (dC, dI) vwCl [(qx, .inr (8, [.ref rp, .int 0, .ref rt, .ref rc, .int ((-1)), .ref r1, .ref r2, .ref r3, .ref r4, .null, .int 0])), (rp, .inr (6, [.ref a1, .ref a2, .ref a3, .ref a4, .ref a5, .ref a6, .ref a7, .int 0])), (a1, .inl (k1, 1200, .inl (fun _ => 0))), (a2, .inl (k2, 1200, .inl (fun _ => 0))), (a3, .inl (k3, 1200, .inl (fun _ => 0))), (a4, .inl (k4, 1200, .inr (.inl (fun _ => 0)))), (a5, .inl (k5, 1200, .inl (fun _ => 0))), (a6, .inl (k6, 1200, .inl (fun _ => 0))), (a7, .inl (k7, 1200, .inl (fun _ => 0))), (rt, .inr (6, [.ref t1, .ref t2, .ref t3, .ref t4, .ref t5, .ref t6, .ref t7, .int 0])), (rc, .inr (6, [.ref c1, .ref c2, .ref c3, .ref c4, .ref c5, .ref c6, .ref c7, .int 0])), (qm, .inr (17, [.ref lp, .null, .null, .int 0, .int 0, .ref m1, .ref m2, .ref m3, .ref m4, .ref m5, .null, .null, .int 0, .ref m6, .int 0, .int 0, .int 0, .long 0, .null, .ref m7, .ref m8, .int 0, .int 0, .long 0])), (lp, .inr (0, [.int 0, .ref te, .int 0])), (qo, .inl (ko, 1, .inr (.inl (fun _ => 0))))] H) (hD : va_D A [(qx, .inr (8, [.ref rp, .int 0, .ref rt, .ref rc, .int ((-1)), .ref r1, .ref r2, .ref r3, .ref r4, .null, .int 0])), (rp, .inr (6, [.ref a1, .ref a2, .ref a3, .ref a4, .ref a5, .ref a6, .ref a7, .int 0])), (a1, .inl (k1, 1200, .inl (fun _ => 0))), (a2, .inl (k2, 1200, .inl (fun _ => 0))), (a3, .inl (k3, 1200, .inl (fun _ => 0))), (a4, .inl (k4, 1200, .inr (.inl (fun _ => 0)))), (a5, .inl (k5, 1200, .inl (fun _ => 0))), (a6, .inl (k6, 1200, .inl (fun _ => 0))), (a7, .inl (k7, 1200, .inl (fun _ => 0))), (rt, .inr (6, [.ref t1, .ref t2, .ref t3, .ref t4, .ref t5, .ref t6, .ref t7, .int 0])), (rc, .inr (6, [.ref c1, .ref c2, .ref c3, .ref c4, .ref c5, .ref c6, .ref c7, .int 0])), (qm, .inr (17, [.ref lp, .null, .null, .int 0, .int 0, .ref m1, .ref m2, .ref m3, .ref m4, .ref m5, .null, .null, .int 0, .ref m6, .int 0, .int 0, .int 0, .long 0, .null, .ref m7, .ref m8, .int 0, .int 0, .long 0])), (lp, .inr (0, [.int 0, .ref te, .int 0])), (qo, .inl (ko, 1, .inr (.inl (fun _ => 0))))]) (hS : va_S A s.heap H locs) {ls : Array Slot} (hl : lv_has ls 8 [(4, .int 0), (3, .ref qo), (2, .ref qm), (1, .ref qx), (0, .ref b)]) (p1 p2 : Int32) (e1 : xs (1 : Int32).toNatClampNeg = p1) (e2 : xs (2 : Int32).toNatClampNeg = p2) (hv0 : p1 < 0) : W p l e room_1 s m #[Value.ref b] below meth c H locs 89 78003 (lw_Z below #[Value.ref b] s) (F0 m 988 ls []) := by
  obtain ⟨hx, hb, hr, hml, hown, hts0, hX, hbl, hlocks, hgv⟩ := id C0
  have hts : ∀ w ∈ z_law, w.before #[Value.ref b] s = true := fun w h => hts0 w (z_law_in w h)
  have hown : s.vm.findClass RL = some m.cls := hown
  have hA : ∀ q : Nat, s.heap.size ≤ q → A q := fun q h => by rw [hAA]; exact h
  have hbA : ¬ A b := by rw [hAA]; exact Nat.not_le.mpr hbl
  have hP := hP.sub (ws' := [(qx, .inr (8, [.ref rp, .int 0, .ref rt, .ref rc, .int ((-1)), .ref r1, .ref r2, .ref r3, .ref r4, .null, .int 0])), (qm, .inr (17, [.ref lp, .null, .null, .int 0, .int 0, .ref m1, .ref m2, .ref m3, .ref m4, .ref m5, .null, .null, .int 0, .ref m6, .int 0, .int 0, .int 0, .long 0, .null, .ref m7, .ref m8, .int 0, .int 0, .long 0])), (lp, .inr (0, [.int 0, .ref te, .int 0]))]) [0, 11, 12] rfl
  have hD := hD.sub (ws' := [(qx, .inr (8, [.ref rp, .int 0, .ref rt, .ref rc, .int ((-1)), .ref r1, .ref r2, .ref r3, .ref r4, .null, .int 0])), (qm, .inr (17, [.ref lp, .null, .null, .int 0, .int 0, .ref m1, .ref m2, .ref m3, .ref m4, .ref m5, .null, .null, .int 0, .ref m6, .int 0, .int 0, .int 0, .long 0, .null, .ref m7, .ref m8, .int 0, .int 0, .long 0])), (lp, .inr (0, [.int 0, .ref te, .int 0]))]) [0, 11, 12] (by decide) rfl
  have hK := hK.sub (tys' := []) [] rfl
  have hP : va_P (dC, dI) vwCl [(qx, .inr (8, [.ref rp, .int 0, .ref rt, .ref rc, .int ((-1)), .ref r1, .ref r2, .ref r3, .ref r4, .null, .int 0])), (qm, .inr (17, [.ref lp, .null, .null, .int 0, .int 0, .ref m1, .ref m2, .ref m3, .ref m4, .ref m5, .null, .null, .int 0, .ref m6, .int 0, .int 0, .int 0, .long 0, .null, .ref m7, .ref m8, .int 0, .int 0, .long 0])), (lp, .inr (0, [.int 0, .ref te, .int 0]))] H := hP
  have hD : va_D A [(qx, .inr (8, [.ref rp, .int 0, .ref rt, .ref rc, .int ((-1)), .ref r1, .ref r2, .ref r3, .ref r4, .null, .int 0])), (qm, .inr (17, [.ref lp, .null, .null, .int 0, .int 0, .ref m1, .ref m2, .ref m3, .ref m4, .ref m5, .null, .null, .int 0, .ref m6, .int 0, .int 0, .int 0, .long 0, .null, .ref m7, .ref m8, .int 0, .int 0, .long 0])), (lp, .inr (0, [.int 0, .ref te, .int 0]))] := hD
  have hK : va_K (dC, dI) vwCl [] s := hK
  refine lv_aload_n hx hb dL_law_988 rfl (lv_at hl 3 rfl) ?_
  refine lv_aload_n hx hb dL_law_989 rfl (lv_at hl 4 rfl) ?_
  refine lv_iload hx hb dL_law_990 (lv_at hl 0 rfl) ?_
  refine lv_iconst (v := 1) hx hb dL_law_992 (by decide) ?_
  refine lv_iadd hx hb dL_law_993 ?_
  refine lv_topi (fun z_1 ez_1 => ?_)
  obtain rfl : z_1 = 1 := ez_1.trans (by decide)
  refine va_sld hx hb hX hbl hbA hS (by unfold vp_in; decide +kernel) dL_law_994 ?_
  refine lv_topi (fun z_2 ez_2 => ?_)
  obtain rfl : p1 = z_2 := (ez_2.trans e1).symm
  refine lv_aload_n hx hb dL_law_995 rfl (lv_at hl 1 rfl) ?_
  have hPc := hP.sub (ws' := [(qx, .inr (8, [.ref rp, .int 0, .ref rt, .ref rc, .int ((-1)), .ref r1, .ref r2, .ref r3, .ref r4, .null, .int 0]))]) [0] rfl
  have hDc := hD.sub (ws' := [(qx, .inr (8, [.ref rp, .int 0, .ref rt, .ref rc, .int ((-1)), .ref r1, .ref r2, .ref r3, .ref r4, .null, .int 0]))]) [0] (by decide) rfl
  have hKc := hK.sub (tys' := []) [] rfl
  have hFc := va_free (wc := [(qx, .inr (8, [.ref rp, .int 0, .ref rt, .ref rc, .int ((-1)), .ref r1, .ref r2, .ref r3, .ref r4, .null, .int 0]))]) hD hS hA [0] rfl
  refine vx_calli (vx_runSX (As := [.ref qx, .int p1, .ref qo]) (rest := []) ⟨hx, hb, hml, hown, hts⟩ (c_L_optimise_neg l dC dI tp te H.size hlt qx rp rt rc r1 r2 r3 r4 p1 qo hv0) (vx_cwSW 3 hts g_law_162_L_optimise_neg rfl rfl rfl (by decide +kernel) ⟨Nat.le_of_ble_eq_true rfl, Nat.le_of_ble_eq_true rfl⟩) ⟨Pw.blind, Pw.mk hPc hKc hDc hG hS hFc⟩ rfl rfl hl.1 rfl (lv_room (Nat.le_of_ble_eq_true rfl)) dL_law_996 ⟨Nat.le_of_ble_eq_true rfl, Nat.le_of_ble_eq_true rfl⟩) hS (fun q _ h => hFc q h) hFc (fun q _ h => hFc q h) (fun E ce q9 u t9 H1 locs ht hvm hpx hBX hz1 hk1 hS hce hcv hcl => hpx.elim) (fun r u t9 H_3 locs ht hvm hw hB hz1 hk1 hS => ?_)
  have hw : r = 1 := hw
  subst hw
  obtain ⟨hP, hD⟩ := va_join (wr := [(qm, .inr (17, [.ref lp, .null, .null, .int 0, .int 0, .ref m1, .ref m2, .ref m3, .ref m4, .ref m5, .null, .null, .int 0, .ref m6, .int 0, .int 0, .int 0, .long 0, .null, .ref m7, .ref m8, .int 0, .int 0, .long 0])), (lp, .inr (0, [.int 0, .ref te, .int 0]))]) (w1 := []) hP hD [0] [1, 2] rfl rfl (by decide) (by decide) hk1 hFc va_P.nil va_D.nil
  have hK := hK.sub (tys' := []) [] rfl
  have hP : va_P (dC, dI) vwCl [(qm, .inr (17, [.ref lp, .null, .null, .int 0, .int 0, .ref m1, .ref m2, .ref m3, .ref m4, .ref m5, .null, .null, .int 0, .ref m6, .int 0, .int 0, .int 0, .long 0, .null, .ref m7, .ref m8, .int 0, .int 0, .long 0])), (lp, .inr (0, [.int 0, .ref te, .int 0]))] H_3 := hP
  have hD : va_D A [(qm, .inr (17, [.ref lp, .null, .null, .int 0, .int 0, .ref m1, .ref m2, .ref m3, .ref m4, .ref m5, .null, .null, .int 0, .ref m6, .int 0, .int 0, .int 0, .long 0, .null, .ref m7, .ref m8, .int 0, .int 0, .long 0])), (lp, .inr (0, [.int 0, .ref te, .int 0]))] := hD
  have hK : va_K (dC, dI) vwCl [] s := hK
  refine W.widen (k := 90) (n := 78009) (Nat.le_of_ble_eq_true rfl) (Nat.le_of_ble_eq_true rfl) ?_
  refine lv_istore (lv' := [(5, .int 1), (4, .int 0), (3, .ref qo), (2, .ref qm), (1, .ref qx), (0, .ref b)]) hx hb dL_law_999 hl (by decide) rfl (fun ls hl => ?_)
  refine lv_aload_n hx hb dL_law_1001 rfl (lv_at hl 3 rfl) ?_
  refine lv_aload_n hx hb dL_law_1002 rfl (lv_at hl 5 rfl) ?_
  refine lv_iload hx hb dL_law_1003 (lv_at hl 1 rfl) ?_
  refine lv_iconst (v := 1) hx hb dL_law_1005 (by decide) ?_
  refine lv_iadd hx hb dL_law_1006 ?_
  refine lv_topi (fun z_5 ez_5 => ?_)
  obtain rfl : z_5 = 1 := ez_5.trans (by decide)
  refine va_sld hx hb hX hbl hbA hS (by unfold vp_in; decide +kernel) dL_law_1007 ?_
  refine lv_topi (fun z_6 ez_6 => ?_)
  obtain rfl : p1 = z_6 := (ez_6.trans e1).symm
  have hPc := hP.sub (ws' := [(qm, .inr (17, [.ref lp, .null, .null, .int 0, .int 0, .ref m1, .ref m2, .ref m3, .ref m4, .ref m5, .null, .null, .int 0, .ref m6, .int 0, .int 0, .int 0, .long 0, .null, .ref m7, .ref m8, .int 0, .int 0, .long 0])), (lp, .inr (0, [.int 0, .ref te, .int 0]))]) [0, 1] rfl
  have hDc := hD.sub (ws' := [(qm, .inr (17, [.ref lp, .null, .null, .int 0, .int 0, .ref m1, .ref m2, .ref m3, .ref m4, .ref m5, .null, .null, .int 0, .ref m6, .int 0, .int 0, .int 0, .long 0, .null, .ref m7, .ref m8, .int 0, .int 0, .long 0])), (lp, .inr (0, [.int 0, .ref te, .int 0]))]) [0, 1] (by decide) rfl
  have hKc := hK.sub (tys' := []) [] rfl
  have hFc := va_free (wc := [(qm, .inr (17, [.ref lp, .null, .null, .int 0, .int 0, .ref m1, .ref m2, .ref m3, .ref m4, .ref m5, .null, .null, .int 0, .ref m6, .int 0, .int 0, .int 0, .long 0, .null, .ref m7, .ref m8, .int 0, .int 0, .long 0])), (lp, .inr (0, [.int 0, .ref te, .int 0]))]) hD hS hA [0, 1] rfl
  refine va_calli (va_runV (As := [.int p1]) (rest := []) ⟨hx, hb, hml, hown, hts⟩ (c_M_optimise_neg l dC dI tp te H_3.size qm lp m1 m2 m3 m4 m5 m6 m7 m8 p1 hv0) (cwV 1 hts g_law_164_M_optimise_neg rfl rfl rfl (by decide +kernel) ⟨Nat.le_of_ble_eq_true rfl, Nat.le_of_ble_eq_true rfl⟩) ⟨Pw.blind, va_recv hKc hPc (ci := 17) (q0 := 0) rfl rfl, Pw.mk hPc hKc hDc hG hS hFc⟩ rfl rfl hl.1 rfl (lv_room (Nat.le_of_ble_eq_true rfl)) dL_law_1008 ⟨Nat.le_of_ble_eq_true rfl, Nat.le_of_ble_eq_true rfl⟩) hS (fun q _ h => hFc q h) hFc (fun r u t9 H_7 locs ht hvm hw hB hz1 hk1 hS => ?_)
  have hw : r = 0 := hw
  subst hw
  obtain ⟨hP1, hK1, hD1⟩ := hB
  rw [ht] at hP1
  have hK1 := va_K.moved hvm.symm hK1
  obtain ⟨hP, hD⟩ := va_join (wr := []) (w1 := [(qm, .inr (17, [.ref lp, .null, .null, .int 0, .int 1, .ref m1, .ref m2, .ref m3, .ref m4, .ref m5, .null, .null, .int 0, .ref m6, .int 0, .int 0, .int 0, .long 0, .null, .ref m7, .ref m8, .int 0, .int 0, .long 0]))]) hP hD [0, 1] [] rfl rfl (by decide) (by decide) hk1 hFc hP1 hD1
  have hK := (hK.sub (tys' := []) [] rfl).app hK1
  have hP : va_P (dC, dI) vwCl [(qm, .inr (17, [.ref lp, .null, .null, .int 0, .int 1, .ref m1, .ref m2, .ref m3, .ref m4, .ref m5, .null, .null, .int 0, .ref m6, .int 0, .int 0, .int 0, .long 0, .null, .ref m7, .ref m8, .int 0, .int 0, .long 0]))] H_7 := hP
  have hD : va_D A [(qm, .inr (17, [.ref lp, .null, .null, .int 0, .int 1, .ref m1, .ref m2, .ref m3, .ref m4, .ref m5, .null, .null, .int 0, .ref m6, .int 0, .int 0, .int 0, .long 0, .null, .ref m7, .ref m8, .int 0, .int 0, .long 0]))] := hD
  have hK : va_K (dC, dI) vwCl [] s := hK
  refine W.widen (k := 90) (n := 78009) (Nat.le_of_ble_eq_true rfl) (Nat.le_of_ble_eq_true rfl) ?_
  refine lv_istore (lv' := [(6, .int 0), (5, .int 1), (4, .int 0), (3, .ref qo), (2, .ref qm), (1, .ref qx), (0, .ref b)]) hx hb dL_law_1011 hl (by decide) rfl (fun ls hl => ?_)
  refine lv_aload_n hx hb dL_law_1013 rfl (lv_at hl 4 rfl) ?_
  have hPc := hP.sub (ws' := [(qm, .inr (17, [.ref lp, .null, .null, .int 0, .int 1, .ref m1, .ref m2, .ref m3, .ref m4, .ref m5, .null, .null, .int 0, .ref m6, .int 0, .int 0, .int 0, .long 0, .null, .ref m7, .ref m8, .int 0, .int 0, .long 0]))]) [0] rfl
  have hDc := hD.sub (ws' := [(qm, .inr (17, [.ref lp, .null, .null, .int 0, .int 1, .ref m1, .ref m2, .ref m3, .ref m4, .ref m5, .null, .null, .int 0, .ref m6, .int 0, .int 0, .int 0, .long 0, .null, .ref m7, .ref m8, .int 0, .int 0, .long 0]))]) [0] (by decide) rfl
  have hKc := hK.sub (tys' := []) [] rfl
  have hFc := va_free (wc := [(qm, .inr (17, [.ref lp, .null, .null, .int 0, .int 1, .ref m1, .ref m2, .ref m3, .ref m4, .ref m5, .null, .null, .int 0, .ref m6, .int 0, .int 0, .int 0, .long 0, .null, .ref m7, .ref m8, .int 0, .int 0, .long 0]))]) hD hS hA [0] rfl
  refine va_calli (va_runV (As := []) (rest := []) ⟨hx, hb, hml, hown, hts⟩ (c_thrown l dC dI tp te H_7.size qm lp m1 m2 m3 m4 m5 m6 m7 m8 1) (cwV 0 hts g_law_113_thrown rfl rfl rfl (by decide +kernel) ⟨Nat.le_of_ble_eq_true rfl, Nat.le_of_ble_eq_true rfl⟩) ⟨Pw.blind, va_recv hKc hPc (ci := 17) (q0 := 0) rfl rfl, Pw.mk hPc hKc hDc hG hS hFc⟩ rfl rfl hl.1 rfl (lv_room (Nat.le_of_ble_eq_true rfl)) dL_law_1014 ⟨Nat.le_of_ble_eq_true rfl, Nat.le_of_ble_eq_true rfl⟩) hS (fun q _ h => hFc q h) hFc (fun r u t9 H_9 locs ht hvm hw hB hz1 hk1 hS => ?_)
  have hw : r = 1 := hw
  subst hw
  obtain ⟨hP1, hK1, hD1⟩ := hB
  rw [ht] at hP1
  have hK1 := va_K.moved hvm.symm hK1
  obtain ⟨hP, hD⟩ := va_join (wr := []) (w1 := [(qm, .inr (17, [.ref lp, .null, .null, .int 0, .int 1, .ref m1, .ref m2, .ref m3, .ref m4, .ref m5, .null, .null, .int 0, .ref m6, .int 0, .int 0, .int 0, .long 0, .null, .ref m7, .ref m8, .int 0, .int 0, .long 0]))]) hP hD [0] [] rfl rfl (by decide) (by decide) hk1 hFc hP1 hD1
  have hK := (hK.sub (tys' := []) [] rfl).app hK1
  have hP : va_P (dC, dI) vwCl [(qm, .inr (17, [.ref lp, .null, .null, .int 0, .int 1, .ref m1, .ref m2, .ref m3, .ref m4, .ref m5, .null, .null, .int 0, .ref m6, .int 0, .int 0, .int 0, .long 0, .null, .ref m7, .ref m8, .int 0, .int 0, .long 0]))] H_9 := hP
  have hD : va_D A [(qm, .inr (17, [.ref lp, .null, .null, .int 0, .int 1, .ref m1, .ref m2, .ref m3, .ref m4, .ref m5, .null, .null, .int 0, .ref m6, .int 0, .int 0, .int 0, .long 0, .null, .ref m7, .ref m8, .int 0, .int 0, .long 0]))] := hD
  have hK : va_K (dC, dI) vwCl [] s := hK
  refine W.widen (k := 90) (n := 78009) (Nat.le_of_ble_eq_true rfl) (Nat.le_of_ble_eq_true rfl) ?_
  refine lv_iload hx hb dL_law_1017 (lv_at hl 1 rfl) ?_
  refine lv_icmp_eq (tgt := 1024) hx hb dL_law_1019 (by decide) (fun c9 => ?_) (fun c9 => absurd (by decide) c9)
  refine lv_iload hx hb dL_law_1024 (lv_at hl 1 rfl) ?_
  refine lv_if_ne (tgt := 1041) hx hb dL_law_1026 (by decide) (fun c9 => ?_) (fun c9 => absurd c9 (by decide))
  refine lv_goto (tgt := 1569) hx hb dL_law_1041 (by decide) ?_
  exact lc_next C0 hAA hS (lv_sub hl [6, 2] rfl) (Nat.le_of_ble_eq_true rfl) (Nat.le_of_ble_eq_true rfl)
set_option maxHeartbeats 4000000 in
set_option maxRecDepth 100000 in
theorem lc_optimise_big {p : Program} {l : Launch} {e : Env} {s : State} {m : MethodId} {below : List Frame} {meth : Method} {c : Code} (hlt : l.stackTraces = false) {b : Nat} {xs : Nat → Int32} (C0 : lw_At p s m meth c b 3 xs) {A : Nat → Prop} (hAA : A = fun q : Nat => s.heap.size ≤ q) {dC : Nat → ClassId} {dI : Nat → Nat → Nat} {tp te : Nat} (hG : gx tp te A s s.heap) {qx rp rt rc r1 r2 r3 r4 a1 a2 a3 a4 a5 a6 a7 t1 t2 t3 t4 t5 t6 t7 c1 c2 c3 c4 c5 c6 c7 qm lp m1 m2 m3 m4 m5 m6 m7 m8 qo : Nat} {k1 k2 k3 k4 k5 k6 k7 ko : ClassId} {H : Heap} {locs : List Loc} (hK : va_K (dC, dI) vwCl [(k1, .int), (k2, .int), (k3, .int), (k4, .long), (k5, .int), (k6, .int), (k7, .int), (ko, .long)] s) (hP : va_P (dC, dI) vwCl [(qx, .inr (8, [.ref rp, .int 0, .ref rt, .ref rc, .int ((-1)), .ref r1, .ref r2, .ref r3, .ref r4, .null, .int 0])), (rp, .inr (6, [.ref a1, .ref a2, .ref a3, .ref a4, .ref a5, .ref a6, .ref a7, .int 0])), (a1, .inl (k1, 1200, .inl (fun _ => 0))), (a2, .inl (k2, 1200, .inl (fun _ => 0))), (a3, .inl (k3, 1200, .inl (fun _ => 0))), (a4, .inl (k4, 1200, .inr (.inl (fun _ => 0)))), (a5, .inl (k5, 1200, .inl (fun _ => 0))), (a6, .inl (k6, 1200, .inl (fun _ => 0))), (a7, .inl (k7, 1200, .inl (fun _ => 0))), (rt, .inr (6, [.ref t1, .ref t2, .ref t3, .ref t4, .ref t5, .ref t6, .ref t7, .int 0])), (rc, .inr (6, [.ref c1, .ref c2, .ref c3, .ref c4, .ref c5, .ref c6, .ref c7, .int 0])), (qm, .inr (17, [.ref lp, .null, .null, .int 0, .int 0, .ref m1, .ref m2, .ref m3, .ref m4, .ref m5, .null, .null, .int 0, .ref m6, .int 0, .int 0, .int 0, .long 0, .null, .ref m7, .ref m8, .int 0, .int 0, .long 0])), (lp, .inr (0, [.int 0, .ref te, .int 0])), (qo, .inl (ko, 1, .inr (.inl (fun _ => 0))))] H) (hD : va_D A [(qx, .inr (8, [.ref rp, .int 0, .ref rt, .ref rc, .int ((-1)), .ref r1, .ref r2, .ref r3, .ref r4, .null, .int 0])), (rp, .inr (6, [.ref a1, .ref a2, .ref a3, .ref a4, .ref a5, .ref a6, .ref a7, .int 0])), (a1, .inl (k1, 1200, .inl (fun _ => 0))), (a2, .inl (k2, 1200, .inl (fun _ => 0))), (a3, .inl (k3, 1200, .inl (fun _ => 0))), (a4, .inl (k4, 1200, .inr (.inl (fun _ => 0)))), (a5, .inl (k5, 1200, .inl (fun _ => 0))), (a6, .inl (k6, 1200, .inl (fun _ => 0))), (a7, .inl (k7, 1200, .inl (fun _ => 0))), (rt, .inr (6, [.ref t1, .ref t2, .ref t3, .ref t4, .ref t5, .ref t6, .ref t7, .int 0])), (rc, .inr (6, [.ref c1, .ref c2, .ref c3, .ref c4, .ref c5, .ref c6, .ref c7, .int 0])), (qm, .inr (17, [.ref lp, .null, .null, .int 0, .int 0, .ref m1, .ref m2, .ref m3, .ref m4, .ref m5, .null, .null, .int 0, .ref m6, .int 0, .int 0, .int 0, .long 0, .null, .ref m7, .ref m8, .int 0, .int 0, .long 0])), (lp, .inr (0, [.int 0, .ref te, .int 0])), (qo, .inl (ko, 1, .inr (.inl (fun _ => 0))))]) (hS : va_S A s.heap H locs) {ls : Array Slot} (hl : lv_has ls 8 [(4, .int 0), (3, .ref qo), (2, .ref qm), (1, .ref qx), (0, .ref b)]) (p1 p2 : Int32) (e1 : xs (1 : Int32).toNatClampNeg = p1) (e2 : xs (2 : Int32).toNatClampNeg = p2) (hv0 : ¬ p1 < 0) (hv1 : ¬ p1 ≤ 15) : W p l e room_1 s m #[Value.ref b] below meth c H locs 89 78003 (lw_Z below #[Value.ref b] s) (F0 m 988 ls []) := by
  obtain ⟨hx, hb, hr, hml, hown, hts0, hX, hbl, hlocks, hgv⟩ := id C0
  have hts : ∀ w ∈ z_law, w.before #[Value.ref b] s = true := fun w h => hts0 w (z_law_in w h)
  have hown : s.vm.findClass RL = some m.cls := hown
  have hA : ∀ q : Nat, s.heap.size ≤ q → A q := fun q h => by rw [hAA]; exact h
  have hbA : ¬ A b := by rw [hAA]; exact Nat.not_le.mpr hbl
  have hP := hP.sub (ws' := [(qx, .inr (8, [.ref rp, .int 0, .ref rt, .ref rc, .int ((-1)), .ref r1, .ref r2, .ref r3, .ref r4, .null, .int 0])), (qm, .inr (17, [.ref lp, .null, .null, .int 0, .int 0, .ref m1, .ref m2, .ref m3, .ref m4, .ref m5, .null, .null, .int 0, .ref m6, .int 0, .int 0, .int 0, .long 0, .null, .ref m7, .ref m8, .int 0, .int 0, .long 0])), (lp, .inr (0, [.int 0, .ref te, .int 0]))]) [0, 11, 12] rfl
  have hD := hD.sub (ws' := [(qx, .inr (8, [.ref rp, .int 0, .ref rt, .ref rc, .int ((-1)), .ref r1, .ref r2, .ref r3, .ref r4, .null, .int 0])), (qm, .inr (17, [.ref lp, .null, .null, .int 0, .int 0, .ref m1, .ref m2, .ref m3, .ref m4, .ref m5, .null, .null, .int 0, .ref m6, .int 0, .int 0, .int 0, .long 0, .null, .ref m7, .ref m8, .int 0, .int 0, .long 0])), (lp, .inr (0, [.int 0, .ref te, .int 0]))]) [0, 11, 12] (by decide) rfl
  have hK := hK.sub (tys' := []) [] rfl
  have hP : va_P (dC, dI) vwCl [(qx, .inr (8, [.ref rp, .int 0, .ref rt, .ref rc, .int ((-1)), .ref r1, .ref r2, .ref r3, .ref r4, .null, .int 0])), (qm, .inr (17, [.ref lp, .null, .null, .int 0, .int 0, .ref m1, .ref m2, .ref m3, .ref m4, .ref m5, .null, .null, .int 0, .ref m6, .int 0, .int 0, .int 0, .long 0, .null, .ref m7, .ref m8, .int 0, .int 0, .long 0])), (lp, .inr (0, [.int 0, .ref te, .int 0]))] H := hP
  have hD : va_D A [(qx, .inr (8, [.ref rp, .int 0, .ref rt, .ref rc, .int ((-1)), .ref r1, .ref r2, .ref r3, .ref r4, .null, .int 0])), (qm, .inr (17, [.ref lp, .null, .null, .int 0, .int 0, .ref m1, .ref m2, .ref m3, .ref m4, .ref m5, .null, .null, .int 0, .ref m6, .int 0, .int 0, .int 0, .long 0, .null, .ref m7, .ref m8, .int 0, .int 0, .long 0])), (lp, .inr (0, [.int 0, .ref te, .int 0]))] := hD
  have hK : va_K (dC, dI) vwCl [] s := hK
  refine lv_aload_n hx hb dL_law_988 rfl (lv_at hl 3 rfl) ?_
  refine lv_aload_n hx hb dL_law_989 rfl (lv_at hl 4 rfl) ?_
  refine lv_iload hx hb dL_law_990 (lv_at hl 0 rfl) ?_
  refine lv_iconst (v := 1) hx hb dL_law_992 (by decide) ?_
  refine lv_iadd hx hb dL_law_993 ?_
  refine lv_topi (fun z_1 ez_1 => ?_)
  obtain rfl : z_1 = 1 := ez_1.trans (by decide)
  refine va_sld hx hb hX hbl hbA hS (by unfold vp_in; decide +kernel) dL_law_994 ?_
  refine lv_topi (fun z_2 ez_2 => ?_)
  obtain rfl : p1 = z_2 := (ez_2.trans e1).symm
  refine lv_aload_n hx hb dL_law_995 rfl (lv_at hl 1 rfl) ?_
  have hPc := hP.sub (ws' := [(qx, .inr (8, [.ref rp, .int 0, .ref rt, .ref rc, .int ((-1)), .ref r1, .ref r2, .ref r3, .ref r4, .null, .int 0]))]) [0] rfl
  have hDc := hD.sub (ws' := [(qx, .inr (8, [.ref rp, .int 0, .ref rt, .ref rc, .int ((-1)), .ref r1, .ref r2, .ref r3, .ref r4, .null, .int 0]))]) [0] (by decide) rfl
  have hKc := hK.sub (tys' := []) [] rfl
  have hFc := va_free (wc := [(qx, .inr (8, [.ref rp, .int 0, .ref rt, .ref rc, .int ((-1)), .ref r1, .ref r2, .ref r3, .ref r4, .null, .int 0]))]) hD hS hA [0] rfl
  refine vx_calli (vx_runSX (As := [.ref qx, .int p1, .ref qo]) (rest := []) ⟨hx, hb, hml, hown, hts⟩ (c_L_optimise_big l dC dI tp te H.size hlt qx rp rt rc r1 r2 r3 r4 p1 qo hv0 hv1) (vx_cwSW 3 hts g_law_162_L_optimise_big rfl rfl rfl (by decide +kernel) ⟨Nat.le_of_ble_eq_true rfl, Nat.le_of_ble_eq_true rfl⟩) ⟨Pw.blind, Pw.mk hPc hKc hDc hG hS hFc⟩ rfl rfl hl.1 rfl (lv_room (Nat.le_of_ble_eq_true rfl)) dL_law_996 ⟨Nat.le_of_ble_eq_true rfl, Nat.le_of_ble_eq_true rfl⟩) hS (fun q _ h => hFc q h) hFc (fun q _ h => hFc q h) (fun E ce q9 u t9 H1 locs ht hvm hpx hBX hz1 hk1 hS hce hcv hcl => hpx.elim) (fun r u t9 H_3 locs ht hvm hw hB hz1 hk1 hS => ?_)
  have hw : r = 1 := hw
  subst hw
  obtain ⟨hP, hD⟩ := va_join (wr := [(qm, .inr (17, [.ref lp, .null, .null, .int 0, .int 0, .ref m1, .ref m2, .ref m3, .ref m4, .ref m5, .null, .null, .int 0, .ref m6, .int 0, .int 0, .int 0, .long 0, .null, .ref m7, .ref m8, .int 0, .int 0, .long 0])), (lp, .inr (0, [.int 0, .ref te, .int 0]))]) (w1 := []) hP hD [0] [1, 2] rfl rfl (by decide) (by decide) hk1 hFc va_P.nil va_D.nil
  have hK := hK.sub (tys' := []) [] rfl
  have hP : va_P (dC, dI) vwCl [(qm, .inr (17, [.ref lp, .null, .null, .int 0, .int 0, .ref m1, .ref m2, .ref m3, .ref m4, .ref m5, .null, .null, .int 0, .ref m6, .int 0, .int 0, .int 0, .long 0, .null, .ref m7, .ref m8, .int 0, .int 0, .long 0])), (lp, .inr (0, [.int 0, .ref te, .int 0]))] H_3 := hP
  have hD : va_D A [(qm, .inr (17, [.ref lp, .null, .null, .int 0, .int 0, .ref m1, .ref m2, .ref m3, .ref m4, .ref m5, .null, .null, .int 0, .ref m6, .int 0, .int 0, .int 0, .long 0, .null, .ref m7, .ref m8, .int 0, .int 0, .long 0])), (lp, .inr (0, [.int 0, .ref te, .int 0]))] := hD
  have hK : va_K (dC, dI) vwCl [] s := hK
  refine W.widen (k := 90) (n := 78009) (Nat.le_of_ble_eq_true rfl) (Nat.le_of_ble_eq_true rfl) ?_
  refine lv_istore (lv' := [(5, .int 1), (4, .int 0), (3, .ref qo), (2, .ref qm), (1, .ref qx), (0, .ref b)]) hx hb dL_law_999 hl (by decide) rfl (fun ls hl => ?_)
  refine lv_aload_n hx hb dL_law_1001 rfl (lv_at hl 3 rfl) ?_
  refine lv_aload_n hx hb dL_law_1002 rfl (lv_at hl 5 rfl) ?_
  refine lv_iload hx hb dL_law_1003 (lv_at hl 1 rfl) ?_
  refine lv_iconst (v := 1) hx hb dL_law_1005 (by decide) ?_
  refine lv_iadd hx hb dL_law_1006 ?_
  refine lv_topi (fun z_5 ez_5 => ?_)
  obtain rfl : z_5 = 1 := ez_5.trans (by decide)
  refine va_sld hx hb hX hbl hbA hS (by unfold vp_in; decide +kernel) dL_law_1007 ?_
  refine lv_topi (fun z_6 ez_6 => ?_)
  obtain rfl : p1 = z_6 := (ez_6.trans e1).symm
  have hPc := hP.sub (ws' := [(qm, .inr (17, [.ref lp, .null, .null, .int 0, .int 0, .ref m1, .ref m2, .ref m3, .ref m4, .ref m5, .null, .null, .int 0, .ref m6, .int 0, .int 0, .int 0, .long 0, .null, .ref m7, .ref m8, .int 0, .int 0, .long 0])), (lp, .inr (0, [.int 0, .ref te, .int 0]))]) [0, 1] rfl
  have hDc := hD.sub (ws' := [(qm, .inr (17, [.ref lp, .null, .null, .int 0, .int 0, .ref m1, .ref m2, .ref m3, .ref m4, .ref m5, .null, .null, .int 0, .ref m6, .int 0, .int 0, .int 0, .long 0, .null, .ref m7, .ref m8, .int 0, .int 0, .long 0])), (lp, .inr (0, [.int 0, .ref te, .int 0]))]) [0, 1] (by decide) rfl
  have hKc := hK.sub (tys' := []) [] rfl
  have hFc := va_free (wc := [(qm, .inr (17, [.ref lp, .null, .null, .int 0, .int 0, .ref m1, .ref m2, .ref m3, .ref m4, .ref m5, .null, .null, .int 0, .ref m6, .int 0, .int 0, .int 0, .long 0, .null, .ref m7, .ref m8, .int 0, .int 0, .long 0])), (lp, .inr (0, [.int 0, .ref te, .int 0]))]) hD hS hA [0, 1] rfl
  refine va_calli (va_runV (As := [.int p1]) (rest := []) ⟨hx, hb, hml, hown, hts⟩ (c_M_optimise_big l dC dI tp te H_3.size qm lp m1 m2 m3 m4 m5 m6 m7 m8 p1 hv0 hv1) (cwV 1 hts g_law_164_M_optimise_big rfl rfl rfl (by decide +kernel) ⟨Nat.le_of_ble_eq_true rfl, Nat.le_of_ble_eq_true rfl⟩) ⟨Pw.blind, va_recv hKc hPc (ci := 17) (q0 := 0) rfl rfl, Pw.mk hPc hKc hDc hG hS hFc⟩ rfl rfl hl.1 rfl (lv_room (Nat.le_of_ble_eq_true rfl)) dL_law_1008 ⟨Nat.le_of_ble_eq_true rfl, Nat.le_of_ble_eq_true rfl⟩) hS (fun q _ h => hFc q h) hFc (fun r u t9 H_7 locs ht hvm hw hB hz1 hk1 hS => ?_)
  have hw : r = 0 := hw
  subst hw
  obtain ⟨hP1, hK1, hD1⟩ := hB
  rw [ht] at hP1
  have hK1 := va_K.moved hvm.symm hK1
  obtain ⟨hP, hD⟩ := va_join (wr := []) (w1 := [(qm, .inr (17, [.ref lp, .null, .null, .int 0, .int 1, .ref m1, .ref m2, .ref m3, .ref m4, .ref m5, .null, .null, .int 0, .ref m6, .int 0, .int 0, .int 0, .long 0, .null, .ref m7, .ref m8, .int 0, .int 0, .long 0]))]) hP hD [0, 1] [] rfl rfl (by decide) (by decide) hk1 hFc hP1 hD1
  have hK := (hK.sub (tys' := []) [] rfl).app hK1
  have hP : va_P (dC, dI) vwCl [(qm, .inr (17, [.ref lp, .null, .null, .int 0, .int 1, .ref m1, .ref m2, .ref m3, .ref m4, .ref m5, .null, .null, .int 0, .ref m6, .int 0, .int 0, .int 0, .long 0, .null, .ref m7, .ref m8, .int 0, .int 0, .long 0]))] H_7 := hP
  have hD : va_D A [(qm, .inr (17, [.ref lp, .null, .null, .int 0, .int 1, .ref m1, .ref m2, .ref m3, .ref m4, .ref m5, .null, .null, .int 0, .ref m6, .int 0, .int 0, .int 0, .long 0, .null, .ref m7, .ref m8, .int 0, .int 0, .long 0]))] := hD
  have hK : va_K (dC, dI) vwCl [] s := hK
  refine W.widen (k := 90) (n := 78009) (Nat.le_of_ble_eq_true rfl) (Nat.le_of_ble_eq_true rfl) ?_
  refine lv_istore (lv' := [(6, .int 0), (5, .int 1), (4, .int 0), (3, .ref qo), (2, .ref qm), (1, .ref qx), (0, .ref b)]) hx hb dL_law_1011 hl (by decide) rfl (fun ls hl => ?_)
  refine lv_aload_n hx hb dL_law_1013 rfl (lv_at hl 4 rfl) ?_
  have hPc := hP.sub (ws' := [(qm, .inr (17, [.ref lp, .null, .null, .int 0, .int 1, .ref m1, .ref m2, .ref m3, .ref m4, .ref m5, .null, .null, .int 0, .ref m6, .int 0, .int 0, .int 0, .long 0, .null, .ref m7, .ref m8, .int 0, .int 0, .long 0]))]) [0] rfl
  have hDc := hD.sub (ws' := [(qm, .inr (17, [.ref lp, .null, .null, .int 0, .int 1, .ref m1, .ref m2, .ref m3, .ref m4, .ref m5, .null, .null, .int 0, .ref m6, .int 0, .int 0, .int 0, .long 0, .null, .ref m7, .ref m8, .int 0, .int 0, .long 0]))]) [0] (by decide) rfl
  have hKc := hK.sub (tys' := []) [] rfl
  have hFc := va_free (wc := [(qm, .inr (17, [.ref lp, .null, .null, .int 0, .int 1, .ref m1, .ref m2, .ref m3, .ref m4, .ref m5, .null, .null, .int 0, .ref m6, .int 0, .int 0, .int 0, .long 0, .null, .ref m7, .ref m8, .int 0, .int 0, .long 0]))]) hD hS hA [0] rfl
  refine va_calli (va_runV (As := []) (rest := []) ⟨hx, hb, hml, hown, hts⟩ (c_thrown l dC dI tp te H_7.size qm lp m1 m2 m3 m4 m5 m6 m7 m8 1) (cwV 0 hts g_law_113_thrown rfl rfl rfl (by decide +kernel) ⟨Nat.le_of_ble_eq_true rfl, Nat.le_of_ble_eq_true rfl⟩) ⟨Pw.blind, va_recv hKc hPc (ci := 17) (q0 := 0) rfl rfl, Pw.mk hPc hKc hDc hG hS hFc⟩ rfl rfl hl.1 rfl (lv_room (Nat.le_of_ble_eq_true rfl)) dL_law_1014 ⟨Nat.le_of_ble_eq_true rfl, Nat.le_of_ble_eq_true rfl⟩) hS (fun q _ h => hFc q h) hFc (fun r u t9 H_9 locs ht hvm hw hB hz1 hk1 hS => ?_)
  have hw : r = 1 := hw
  subst hw
  obtain ⟨hP1, hK1, hD1⟩ := hB
  rw [ht] at hP1
  have hK1 := va_K.moved hvm.symm hK1
  obtain ⟨hP, hD⟩ := va_join (wr := []) (w1 := [(qm, .inr (17, [.ref lp, .null, .null, .int 0, .int 1, .ref m1, .ref m2, .ref m3, .ref m4, .ref m5, .null, .null, .int 0, .ref m6, .int 0, .int 0, .int 0, .long 0, .null, .ref m7, .ref m8, .int 0, .int 0, .long 0]))]) hP hD [0] [] rfl rfl (by decide) (by decide) hk1 hFc hP1 hD1
  have hK := (hK.sub (tys' := []) [] rfl).app hK1
  have hP : va_P (dC, dI) vwCl [(qm, .inr (17, [.ref lp, .null, .null, .int 0, .int 1, .ref m1, .ref m2, .ref m3, .ref m4, .ref m5, .null, .null, .int 0, .ref m6, .int 0, .int 0, .int 0, .long 0, .null, .ref m7, .ref m8, .int 0, .int 0, .long 0]))] H_9 := hP
  have hD : va_D A [(qm, .inr (17, [.ref lp, .null, .null, .int 0, .int 1, .ref m1, .ref m2, .ref m3, .ref m4, .ref m5, .null, .null, .int 0, .ref m6, .int 0, .int 0, .int 0, .long 0, .null, .ref m7, .ref m8, .int 0, .int 0, .long 0]))] := hD
  have hK : va_K (dC, dI) vwCl [] s := hK
  refine W.widen (k := 90) (n := 78009) (Nat.le_of_ble_eq_true rfl) (Nat.le_of_ble_eq_true rfl) ?_
  refine lv_iload hx hb dL_law_1017 (lv_at hl 1 rfl) ?_
  refine lv_icmp_eq (tgt := 1024) hx hb dL_law_1019 (by decide) (fun c9 => ?_) (fun c9 => absurd (by decide) c9)
  refine lv_iload hx hb dL_law_1024 (lv_at hl 1 rfl) ?_
  refine lv_if_ne (tgt := 1041) hx hb dL_law_1026 (by decide) (fun c9 => ?_) (fun c9 => absurd c9 (by decide))
  refine lv_goto (tgt := 1569) hx hb dL_law_1041 (by decide) ?_
  exact lc_next C0 hAA hS (lv_sub hl [6, 2] rfl) (Nat.le_of_ble_eq_true rfl) (Nat.le_of_ble_eq_true rfl)
set_option maxHeartbeats 4000000 in
set_option maxRecDepth 100000 in
theorem lc_optimise_ok {p : Program} {l : Launch} {e : Env} {s : State} {m : MethodId} {below : List Frame} {meth : Method} {c : Code} (hlt : l.stackTraces = false) {b : Nat} {xs : Nat → Int32} (C0 : lw_At p s m meth c b 3 xs) {A : Nat → Prop} (hAA : A = fun q : Nat => s.heap.size ≤ q) {dC : Nat → ClassId} {dI : Nat → Nat → Nat} {tp te : Nat} (hG : gx tp te A s s.heap) {qx rp rt rc r1 r2 r3 r4 a1 a2 a3 a4 a5 a6 a7 t1 t2 t3 t4 t5 t6 t7 c1 c2 c3 c4 c5 c6 c7 qm lp m1 m2 m3 m4 m5 m6 m7 m8 qo : Nat} {k1 k2 k3 k4 k5 k6 k7 ko : ClassId} {H : Heap} {locs : List Loc} (hK : va_K (dC, dI) vwCl [(k1, .int), (k2, .int), (k3, .int), (k4, .long), (k5, .int), (k6, .int), (k7, .int), (ko, .long)] s) (hP : va_P (dC, dI) vwCl [(qx, .inr (8, [.ref rp, .int 0, .ref rt, .ref rc, .int ((-1)), .ref r1, .ref r2, .ref r3, .ref r4, .null, .int 0])), (rp, .inr (6, [.ref a1, .ref a2, .ref a3, .ref a4, .ref a5, .ref a6, .ref a7, .int 0])), (a1, .inl (k1, 1200, .inl (fun _ => 0))), (a2, .inl (k2, 1200, .inl (fun _ => 0))), (a3, .inl (k3, 1200, .inl (fun _ => 0))), (a4, .inl (k4, 1200, .inr (.inl (fun _ => 0)))), (a5, .inl (k5, 1200, .inl (fun _ => 0))), (a6, .inl (k6, 1200, .inl (fun _ => 0))), (a7, .inl (k7, 1200, .inl (fun _ => 0))), (rt, .inr (6, [.ref t1, .ref t2, .ref t3, .ref t4, .ref t5, .ref t6, .ref t7, .int 0])), (rc, .inr (6, [.ref c1, .ref c2, .ref c3, .ref c4, .ref c5, .ref c6, .ref c7, .int 0])), (qm, .inr (17, [.ref lp, .null, .null, .int 0, .int 0, .ref m1, .ref m2, .ref m3, .ref m4, .ref m5, .null, .null, .int 0, .ref m6, .int 0, .int 0, .int 0, .long 0, .null, .ref m7, .ref m8, .int 0, .int 0, .long 0])), (lp, .inr (0, [.int 0, .ref te, .int 0])), (qo, .inl (ko, 1, .inr (.inl (fun _ => 0))))] H) (hD : va_D A [(qx, .inr (8, [.ref rp, .int 0, .ref rt, .ref rc, .int ((-1)), .ref r1, .ref r2, .ref r3, .ref r4, .null, .int 0])), (rp, .inr (6, [.ref a1, .ref a2, .ref a3, .ref a4, .ref a5, .ref a6, .ref a7, .int 0])), (a1, .inl (k1, 1200, .inl (fun _ => 0))), (a2, .inl (k2, 1200, .inl (fun _ => 0))), (a3, .inl (k3, 1200, .inl (fun _ => 0))), (a4, .inl (k4, 1200, .inr (.inl (fun _ => 0)))), (a5, .inl (k5, 1200, .inl (fun _ => 0))), (a6, .inl (k6, 1200, .inl (fun _ => 0))), (a7, .inl (k7, 1200, .inl (fun _ => 0))), (rt, .inr (6, [.ref t1, .ref t2, .ref t3, .ref t4, .ref t5, .ref t6, .ref t7, .int 0])), (rc, .inr (6, [.ref c1, .ref c2, .ref c3, .ref c4, .ref c5, .ref c6, .ref c7, .int 0])), (qm, .inr (17, [.ref lp, .null, .null, .int 0, .int 0, .ref m1, .ref m2, .ref m3, .ref m4, .ref m5, .null, .null, .int 0, .ref m6, .int 0, .int 0, .int 0, .long 0, .null, .ref m7, .ref m8, .int 0, .int 0, .long 0])), (lp, .inr (0, [.int 0, .ref te, .int 0])), (qo, .inl (ko, 1, .inr (.inl (fun _ => 0))))]) (hS : va_S A s.heap H locs) {ls : Array Slot} (hl : lv_has ls 8 [(4, .int 0), (3, .ref qo), (2, .ref qm), (1, .ref qx), (0, .ref b)]) (p1 p2 : Int32) (e1 : xs (1 : Int32).toNatClampNeg = p1) (e2 : xs (2 : Int32).toNatClampNeg = p2) (hv0 : ¬ p1 < 0) (hv1 : p1 ≤ 15) : W p l e room_1 s m #[Value.ref b] below meth c H locs 89 78003 (lw_Z below #[Value.ref b] s) (F0 m 988 ls []) := by
  obtain ⟨hx, hb, hr, hml, hown, hts0, hX, hbl, hlocks, hgv⟩ := id C0
  have hts : ∀ w ∈ z_law, w.before #[Value.ref b] s = true := fun w h => hts0 w (z_law_in w h)
  have hown : s.vm.findClass RL = some m.cls := hown
  have hA : ∀ q : Nat, s.heap.size ≤ q → A q := fun q h => by rw [hAA]; exact h
  have hbA : ¬ A b := by rw [hAA]; exact Nat.not_le.mpr hbl
  have hP := hP.sub (ws' := [(qx, .inr (8, [.ref rp, .int 0, .ref rt, .ref rc, .int ((-1)), .ref r1, .ref r2, .ref r3, .ref r4, .null, .int 0])), (qm, .inr (17, [.ref lp, .null, .null, .int 0, .int 0, .ref m1, .ref m2, .ref m3, .ref m4, .ref m5, .null, .null, .int 0, .ref m6, .int 0, .int 0, .int 0, .long 0, .null, .ref m7, .ref m8, .int 0, .int 0, .long 0])), (lp, .inr (0, [.int 0, .ref te, .int 0]))]) [0, 11, 12] rfl
  have hD := hD.sub (ws' := [(qx, .inr (8, [.ref rp, .int 0, .ref rt, .ref rc, .int ((-1)), .ref r1, .ref r2, .ref r3, .ref r4, .null, .int 0])), (qm, .inr (17, [.ref lp, .null, .null, .int 0, .int 0, .ref m1, .ref m2, .ref m3, .ref m4, .ref m5, .null, .null, .int 0, .ref m6, .int 0, .int 0, .int 0, .long 0, .null, .ref m7, .ref m8, .int 0, .int 0, .long 0])), (lp, .inr (0, [.int 0, .ref te, .int 0]))]) [0, 11, 12] (by decide) rfl
  have hK := hK.sub (tys' := []) [] rfl
  have hP : va_P (dC, dI) vwCl [(qx, .inr (8, [.ref rp, .int 0, .ref rt, .ref rc, .int ((-1)), .ref r1, .ref r2, .ref r3, .ref r4, .null, .int 0])), (qm, .inr (17, [.ref lp, .null, .null, .int 0, .int 0, .ref m1, .ref m2, .ref m3, .ref m4, .ref m5, .null, .null, .int 0, .ref m6, .int 0, .int 0, .int 0, .long 0, .null, .ref m7, .ref m8, .int 0, .int 0, .long 0])), (lp, .inr (0, [.int 0, .ref te, .int 0]))] H := hP
  have hD : va_D A [(qx, .inr (8, [.ref rp, .int 0, .ref rt, .ref rc, .int ((-1)), .ref r1, .ref r2, .ref r3, .ref r4, .null, .int 0])), (qm, .inr (17, [.ref lp, .null, .null, .int 0, .int 0, .ref m1, .ref m2, .ref m3, .ref m4, .ref m5, .null, .null, .int 0, .ref m6, .int 0, .int 0, .int 0, .long 0, .null, .ref m7, .ref m8, .int 0, .int 0, .long 0])), (lp, .inr (0, [.int 0, .ref te, .int 0]))] := hD
  have hK : va_K (dC, dI) vwCl [] s := hK
  refine lv_aload_n hx hb dL_law_988 rfl (lv_at hl 3 rfl) ?_
  refine lv_aload_n hx hb dL_law_989 rfl (lv_at hl 4 rfl) ?_
  refine lv_iload hx hb dL_law_990 (lv_at hl 0 rfl) ?_
  refine lv_iconst (v := 1) hx hb dL_law_992 (by decide) ?_
  refine lv_iadd hx hb dL_law_993 ?_
  refine lv_topi (fun z_1 ez_1 => ?_)
  obtain rfl : z_1 = 1 := ez_1.trans (by decide)
  refine va_sld hx hb hX hbl hbA hS (by unfold vp_in; decide +kernel) dL_law_994 ?_
  refine lv_topi (fun z_2 ez_2 => ?_)
  obtain rfl : p1 = z_2 := (ez_2.trans e1).symm
  refine lv_aload_n hx hb dL_law_995 rfl (lv_at hl 1 rfl) ?_
  have hPc := hP.sub (ws' := [(qx, .inr (8, [.ref rp, .int 0, .ref rt, .ref rc, .int ((-1)), .ref r1, .ref r2, .ref r3, .ref r4, .null, .int 0]))]) [0] rfl
  have hDc := hD.sub (ws' := [(qx, .inr (8, [.ref rp, .int 0, .ref rt, .ref rc, .int ((-1)), .ref r1, .ref r2, .ref r3, .ref r4, .null, .int 0]))]) [0] (by decide) rfl
  have hKc := hK.sub (tys' := []) [] rfl
  have hFc := va_free (wc := [(qx, .inr (8, [.ref rp, .int 0, .ref rt, .ref rc, .int ((-1)), .ref r1, .ref r2, .ref r3, .ref r4, .null, .int 0]))]) hD hS hA [0] rfl
  refine vx_calli (vx_runSX (As := [.ref qx, .int p1, .ref qo]) (rest := []) ⟨hx, hb, hml, hown, hts⟩ (c_L_optimise_ok l dC dI tp te H.size hlt qx rp rt rc r1 r2 r3 r4 p1 qo hv0 hv1) (vx_cwSW 3 hts g_law_162_L_optimise_ok rfl rfl rfl (by decide +kernel) ⟨Nat.le_of_ble_eq_true rfl, Nat.le_of_ble_eq_true rfl⟩) ⟨Pw.blind, Pw.mk hPc hKc hDc hG hS hFc⟩ rfl rfl hl.1 rfl (lv_room (Nat.le_of_ble_eq_true rfl)) dL_law_996 ⟨Nat.le_of_ble_eq_true rfl, Nat.le_of_ble_eq_true rfl⟩) hS (fun q _ h => hFc q h) hFc (fun q _ h => hFc q h) (fun E ce q9 u t9 H1 locs ht hvm hpx hBX hz1 hk1 hS hce hcv hcl => hpx.elim) (fun r u t9 H_3 locs ht hvm hw hB hz1 hk1 hS => ?_)
  have hw : r = 2 := hw
  subst hw
  obtain ⟨hP, hD⟩ := va_join (wr := [(qm, .inr (17, [.ref lp, .null, .null, .int 0, .int 0, .ref m1, .ref m2, .ref m3, .ref m4, .ref m5, .null, .null, .int 0, .ref m6, .int 0, .int 0, .int 0, .long 0, .null, .ref m7, .ref m8, .int 0, .int 0, .long 0])), (lp, .inr (0, [.int 0, .ref te, .int 0]))]) (w1 := []) hP hD [0] [1, 2] rfl rfl (by decide) (by decide) hk1 hFc va_P.nil va_D.nil
  have hK := hK.sub (tys' := []) [] rfl
  have hP : va_P (dC, dI) vwCl [(qm, .inr (17, [.ref lp, .null, .null, .int 0, .int 0, .ref m1, .ref m2, .ref m3, .ref m4, .ref m5, .null, .null, .int 0, .ref m6, .int 0, .int 0, .int 0, .long 0, .null, .ref m7, .ref m8, .int 0, .int 0, .long 0])), (lp, .inr (0, [.int 0, .ref te, .int 0]))] H_3 := hP
  have hD : va_D A [(qm, .inr (17, [.ref lp, .null, .null, .int 0, .int 0, .ref m1, .ref m2, .ref m3, .ref m4, .ref m5, .null, .null, .int 0, .ref m6, .int 0, .int 0, .int 0, .long 0, .null, .ref m7, .ref m8, .int 0, .int 0, .long 0])), (lp, .inr (0, [.int 0, .ref te, .int 0]))] := hD
  have hK : va_K (dC, dI) vwCl [] s := hK
  refine W.widen (k := 90) (n := 78009) (Nat.le_of_ble_eq_true rfl) (Nat.le_of_ble_eq_true rfl) ?_
  refine lv_istore (lv' := [(5, .int 2), (4, .int 0), (3, .ref qo), (2, .ref qm), (1, .ref qx), (0, .ref b)]) hx hb dL_law_999 hl (by decide) rfl (fun ls hl => ?_)
  refine lv_aload_n hx hb dL_law_1001 rfl (lv_at hl 3 rfl) ?_
  refine lv_aload_n hx hb dL_law_1002 rfl (lv_at hl 5 rfl) ?_
  refine lv_iload hx hb dL_law_1003 (lv_at hl 1 rfl) ?_
  refine lv_iconst (v := 1) hx hb dL_law_1005 (by decide) ?_
  refine lv_iadd hx hb dL_law_1006 ?_
  refine lv_topi (fun z_5 ez_5 => ?_)
  obtain rfl : z_5 = 1 := ez_5.trans (by decide)
  refine va_sld hx hb hX hbl hbA hS (by unfold vp_in; decide +kernel) dL_law_1007 ?_
  refine lv_topi (fun z_6 ez_6 => ?_)
  obtain rfl : p1 = z_6 := (ez_6.trans e1).symm
  have hPc := hP.sub (ws' := [(qm, .inr (17, [.ref lp, .null, .null, .int 0, .int 0, .ref m1, .ref m2, .ref m3, .ref m4, .ref m5, .null, .null, .int 0, .ref m6, .int 0, .int 0, .int 0, .long 0, .null, .ref m7, .ref m8, .int 0, .int 0, .long 0])), (lp, .inr (0, [.int 0, .ref te, .int 0]))]) [0, 1] rfl
  have hDc := hD.sub (ws' := [(qm, .inr (17, [.ref lp, .null, .null, .int 0, .int 0, .ref m1, .ref m2, .ref m3, .ref m4, .ref m5, .null, .null, .int 0, .ref m6, .int 0, .int 0, .int 0, .long 0, .null, .ref m7, .ref m8, .int 0, .int 0, .long 0])), (lp, .inr (0, [.int 0, .ref te, .int 0]))]) [0, 1] (by decide) rfl
  have hKc := hK.sub (tys' := []) [] rfl
  have hFc := va_free (wc := [(qm, .inr (17, [.ref lp, .null, .null, .int 0, .int 0, .ref m1, .ref m2, .ref m3, .ref m4, .ref m5, .null, .null, .int 0, .ref m6, .int 0, .int 0, .int 0, .long 0, .null, .ref m7, .ref m8, .int 0, .int 0, .long 0])), (lp, .inr (0, [.int 0, .ref te, .int 0]))]) hD hS hA [0, 1] rfl
  refine va_calli (va_runV (As := [.int p1]) (rest := []) ⟨hx, hb, hml, hown, hts⟩ (c_M_optimise_ok l dC dI tp te H_3.size qm lp m1 m2 m3 m4 m5 m6 m7 m8 p1 hv0 hv1) (cwV 1 hts g_law_164_M_optimise_ok rfl rfl rfl (by decide +kernel) ⟨Nat.le_of_ble_eq_true rfl, Nat.le_of_ble_eq_true rfl⟩) ⟨Pw.blind, va_recv hKc hPc (ci := 17) (q0 := 0) rfl rfl, Pw.mk hPc hKc hDc hG hS hFc⟩ rfl rfl hl.1 rfl (lv_room (Nat.le_of_ble_eq_true rfl)) dL_law_1008 ⟨Nat.le_of_ble_eq_true rfl, Nat.le_of_ble_eq_true rfl⟩) hS (fun q _ h => hFc q h) hFc (fun r u t9 H_7 locs ht hvm hw hB hz1 hk1 hS => ?_)
  have hw : r = 0 := hw
  subst hw
  obtain ⟨hP1, hK1, hD1⟩ := hB
  rw [ht] at hP1
  have hK1 := va_K.moved hvm.symm hK1
  obtain ⟨hP, hD⟩ := va_join (wr := []) (w1 := [(qm, .inr (17, [.ref lp, .null, .null, .int 0, .int 2, .ref m1, .ref m2, .ref m3, .ref m4, .ref m5, .null, .null, .int 0, .ref m6, .int 0, .int 0, .int 0, .long 0, .null, .ref m7, .ref m8, .int 0, .int 0, .long 0]))]) hP hD [0, 1] [] rfl rfl (by decide) (by decide) hk1 hFc hP1 hD1
  have hK := (hK.sub (tys' := []) [] rfl).app hK1
  have hP : va_P (dC, dI) vwCl [(qm, .inr (17, [.ref lp, .null, .null, .int 0, .int 2, .ref m1, .ref m2, .ref m3, .ref m4, .ref m5, .null, .null, .int 0, .ref m6, .int 0, .int 0, .int 0, .long 0, .null, .ref m7, .ref m8, .int 0, .int 0, .long 0]))] H_7 := hP
  have hD : va_D A [(qm, .inr (17, [.ref lp, .null, .null, .int 0, .int 2, .ref m1, .ref m2, .ref m3, .ref m4, .ref m5, .null, .null, .int 0, .ref m6, .int 0, .int 0, .int 0, .long 0, .null, .ref m7, .ref m8, .int 0, .int 0, .long 0]))] := hD
  have hK : va_K (dC, dI) vwCl [] s := hK
  refine W.widen (k := 90) (n := 78009) (Nat.le_of_ble_eq_true rfl) (Nat.le_of_ble_eq_true rfl) ?_
  refine lv_istore (lv' := [(6, .int 0), (5, .int 2), (4, .int 0), (3, .ref qo), (2, .ref qm), (1, .ref qx), (0, .ref b)]) hx hb dL_law_1011 hl (by decide) rfl (fun ls hl => ?_)
  refine lv_aload_n hx hb dL_law_1013 rfl (lv_at hl 4 rfl) ?_
  have hPc := hP.sub (ws' := [(qm, .inr (17, [.ref lp, .null, .null, .int 0, .int 2, .ref m1, .ref m2, .ref m3, .ref m4, .ref m5, .null, .null, .int 0, .ref m6, .int 0, .int 0, .int 0, .long 0, .null, .ref m7, .ref m8, .int 0, .int 0, .long 0]))]) [0] rfl
  have hDc := hD.sub (ws' := [(qm, .inr (17, [.ref lp, .null, .null, .int 0, .int 2, .ref m1, .ref m2, .ref m3, .ref m4, .ref m5, .null, .null, .int 0, .ref m6, .int 0, .int 0, .int 0, .long 0, .null, .ref m7, .ref m8, .int 0, .int 0, .long 0]))]) [0] (by decide) rfl
  have hKc := hK.sub (tys' := []) [] rfl
  have hFc := va_free (wc := [(qm, .inr (17, [.ref lp, .null, .null, .int 0, .int 2, .ref m1, .ref m2, .ref m3, .ref m4, .ref m5, .null, .null, .int 0, .ref m6, .int 0, .int 0, .int 0, .long 0, .null, .ref m7, .ref m8, .int 0, .int 0, .long 0]))]) hD hS hA [0] rfl
  refine va_calli (va_runV (As := []) (rest := []) ⟨hx, hb, hml, hown, hts⟩ (c_thrown l dC dI tp te H_7.size qm lp m1 m2 m3 m4 m5 m6 m7 m8 2) (cwV 0 hts g_law_113_thrown rfl rfl rfl (by decide +kernel) ⟨Nat.le_of_ble_eq_true rfl, Nat.le_of_ble_eq_true rfl⟩) ⟨Pw.blind, va_recv hKc hPc (ci := 17) (q0 := 0) rfl rfl, Pw.mk hPc hKc hDc hG hS hFc⟩ rfl rfl hl.1 rfl (lv_room (Nat.le_of_ble_eq_true rfl)) dL_law_1014 ⟨Nat.le_of_ble_eq_true rfl, Nat.le_of_ble_eq_true rfl⟩) hS (fun q _ h => hFc q h) hFc (fun r u t9 H_9 locs ht hvm hw hB hz1 hk1 hS => ?_)
  have hw : r = 2 := hw
  subst hw
  obtain ⟨hP1, hK1, hD1⟩ := hB
  rw [ht] at hP1
  have hK1 := va_K.moved hvm.symm hK1
  obtain ⟨hP, hD⟩ := va_join (wr := []) (w1 := [(qm, .inr (17, [.ref lp, .null, .null, .int 0, .int 2, .ref m1, .ref m2, .ref m3, .ref m4, .ref m5, .null, .null, .int 0, .ref m6, .int 0, .int 0, .int 0, .long 0, .null, .ref m7, .ref m8, .int 0, .int 0, .long 0]))]) hP hD [0] [] rfl rfl (by decide) (by decide) hk1 hFc hP1 hD1
  have hK := (hK.sub (tys' := []) [] rfl).app hK1
  have hP : va_P (dC, dI) vwCl [(qm, .inr (17, [.ref lp, .null, .null, .int 0, .int 2, .ref m1, .ref m2, .ref m3, .ref m4, .ref m5, .null, .null, .int 0, .ref m6, .int 0, .int 0, .int 0, .long 0, .null, .ref m7, .ref m8, .int 0, .int 0, .long 0]))] H_9 := hP
  have hD : va_D A [(qm, .inr (17, [.ref lp, .null, .null, .int 0, .int 2, .ref m1, .ref m2, .ref m3, .ref m4, .ref m5, .null, .null, .int 0, .ref m6, .int 0, .int 0, .int 0, .long 0, .null, .ref m7, .ref m8, .int 0, .int 0, .long 0]))] := hD
  have hK : va_K (dC, dI) vwCl [] s := hK
  refine W.widen (k := 90) (n := 78009) (Nat.le_of_ble_eq_true rfl) (Nat.le_of_ble_eq_true rfl) ?_
  refine lv_iload hx hb dL_law_1017 (lv_at hl 1 rfl) ?_
  refine lv_icmp_eq (tgt := 1024) hx hb dL_law_1019 (by decide) (fun c9 => ?_) (fun c9 => absurd (by decide) c9)
  refine lv_iload hx hb dL_law_1024 (lv_at hl 1 rfl) ?_
  refine lv_if_ne (tgt := 1041) hx hb dL_law_1026 (by decide) (fun c9 => ?_) (fun c9 => absurd c9 (by decide))
  refine lv_goto (tgt := 1569) hx hb dL_law_1041 (by decide) ?_
  exact lc_next C0 hAA hS (lv_sub hl [6, 2] rfl) (Nat.le_of_ble_eq_true rfl) (Nat.le_of_ble_eq_true rfl)
set_option maxHeartbeats 4000000 in
set_option maxRecDepth 100000 in
theorem lc_size {p : Program} {l : Launch} {e : Env} {s : State} {m : MethodId} {below : List Frame} {meth : Method} {c : Code} (hlt : l.stackTraces = false) {b : Nat} {xs : Nat → Int32} (C0 : lw_At p s m meth c b 3 xs) {A : Nat → Prop} (hAA : A = fun q : Nat => s.heap.size ≤ q) {dC : Nat → ClassId} {dI : Nat → Nat → Nat} {tp te : Nat} (hG : gx tp te A s s.heap) {qx rp rt rc r1 r2 r3 r4 a1 a2 a3 a4 a5 a6 a7 t1 t2 t3 t4 t5 t6 t7 c1 c2 c3 c4 c5 c6 c7 qm lp m1 m2 m3 m4 m5 m6 m7 m8 qo : Nat} {k1 k2 k3 k4 k5 k6 k7 ko : ClassId} {H : Heap} {locs : List Loc} (hK : va_K (dC, dI) vwCl [(k1, .int), (k2, .int), (k3, .int), (k4, .long), (k5, .int), (k6, .int), (k7, .int), (ko, .long)] s) (hP : va_P (dC, dI) vwCl [(qx, .inr (8, [.ref rp, .int 0, .ref rt, .ref rc, .int ((-1)), .ref r1, .ref r2, .ref r3, .ref r4, .null, .int 0])), (rp, .inr (6, [.ref a1, .ref a2, .ref a3, .ref a4, .ref a5, .ref a6, .ref a7, .int 0])), (a1, .inl (k1, 1200, .inl (fun _ => 0))), (a2, .inl (k2, 1200, .inl (fun _ => 0))), (a3, .inl (k3, 1200, .inl (fun _ => 0))), (a4, .inl (k4, 1200, .inr (.inl (fun _ => 0)))), (a5, .inl (k5, 1200, .inl (fun _ => 0))), (a6, .inl (k6, 1200, .inl (fun _ => 0))), (a7, .inl (k7, 1200, .inl (fun _ => 0))), (rt, .inr (6, [.ref t1, .ref t2, .ref t3, .ref t4, .ref t5, .ref t6, .ref t7, .int 0])), (rc, .inr (6, [.ref c1, .ref c2, .ref c3, .ref c4, .ref c5, .ref c6, .ref c7, .int 0])), (qm, .inr (17, [.ref lp, .null, .null, .int 0, .int 0, .ref m1, .ref m2, .ref m3, .ref m4, .ref m5, .null, .null, .int 0, .ref m6, .int 0, .int 0, .int 0, .long 0, .null, .ref m7, .ref m8, .int 0, .int 0, .long 0])), (lp, .inr (0, [.int 0, .ref te, .int 0])), (qo, .inl (ko, 1, .inr (.inl (fun _ => 0))))] H) (hD : va_D A [(qx, .inr (8, [.ref rp, .int 0, .ref rt, .ref rc, .int ((-1)), .ref r1, .ref r2, .ref r3, .ref r4, .null, .int 0])), (rp, .inr (6, [.ref a1, .ref a2, .ref a3, .ref a4, .ref a5, .ref a6, .ref a7, .int 0])), (a1, .inl (k1, 1200, .inl (fun _ => 0))), (a2, .inl (k2, 1200, .inl (fun _ => 0))), (a3, .inl (k3, 1200, .inl (fun _ => 0))), (a4, .inl (k4, 1200, .inr (.inl (fun _ => 0)))), (a5, .inl (k5, 1200, .inl (fun _ => 0))), (a6, .inl (k6, 1200, .inl (fun _ => 0))), (a7, .inl (k7, 1200, .inl (fun _ => 0))), (rt, .inr (6, [.ref t1, .ref t2, .ref t3, .ref t4, .ref t5, .ref t6, .ref t7, .int 0])), (rc, .inr (6, [.ref c1, .ref c2, .ref c3, .ref c4, .ref c5, .ref c6, .ref c7, .int 0])), (qm, .inr (17, [.ref lp, .null, .null, .int 0, .int 0, .ref m1, .ref m2, .ref m3, .ref m4, .ref m5, .null, .null, .int 0, .ref m6, .int 0, .int 0, .int 0, .long 0, .null, .ref m7, .ref m8, .int 0, .int 0, .long 0])), (lp, .inr (0, [.int 0, .ref te, .int 0])), (qo, .inl (ko, 1, .inr (.inl (fun _ => 0))))]) (hS : va_S A s.heap H locs) {ls : Array Slot} (hl : lv_has ls 8 [(4, .int 0), (3, .ref qo), (2, .ref qm), (1, .ref qx), (0, .ref b)]) (p1 p2 : Int32) (e1 : xs (1 : Int32).toNatClampNeg = p1) (e2 : xs (2 : Int32).toNatClampNeg = p2)  : W p l e room_1 s m #[Value.ref b] below meth c H locs 89 78003 (lw_Z below #[Value.ref b] s) (F0 m 1044 ls []) := by
  obtain ⟨hx, hb, hr, hml, hown, hts0, hX, hbl, hlocks, hgv⟩ := id C0
  have hts : ∀ w ∈ z_law, w.before #[Value.ref b] s = true := fun w h => hts0 w (z_law_in w h)
  have hown : s.vm.findClass RL = some m.cls := hown
  have hA : ∀ q : Nat, s.heap.size ≤ q → A q := fun q h => by rw [hAA]; exact h
  have hbA : ¬ A b := by rw [hAA]; exact Nat.not_le.mpr hbl
  have hP := hP.sub (ws' := [(qx, .inr (8, [.ref rp, .int 0, .ref rt, .ref rc, .int ((-1)), .ref r1, .ref r2, .ref r3, .ref r4, .null, .int 0])), (rc, .inr (6, [.ref c1, .ref c2, .ref c3, .ref c4, .ref c5, .ref c6, .ref c7, .int 0])), (qm, .inr (17, [.ref lp, .null, .null, .int 0, .int 0, .ref m1, .ref m2, .ref m3, .ref m4, .ref m5, .null, .null, .int 0, .ref m6, .int 0, .int 0, .int 0, .long 0, .null, .ref m7, .ref m8, .int 0, .int 0, .long 0])), (lp, .inr (0, [.int 0, .ref te, .int 0]))]) [0, 10, 11, 12] rfl
  have hD := hD.sub (ws' := [(qx, .inr (8, [.ref rp, .int 0, .ref rt, .ref rc, .int ((-1)), .ref r1, .ref r2, .ref r3, .ref r4, .null, .int 0])), (rc, .inr (6, [.ref c1, .ref c2, .ref c3, .ref c4, .ref c5, .ref c6, .ref c7, .int 0])), (qm, .inr (17, [.ref lp, .null, .null, .int 0, .int 0, .ref m1, .ref m2, .ref m3, .ref m4, .ref m5, .null, .null, .int 0, .ref m6, .int 0, .int 0, .int 0, .long 0, .null, .ref m7, .ref m8, .int 0, .int 0, .long 0])), (lp, .inr (0, [.int 0, .ref te, .int 0]))]) [0, 10, 11, 12] (by decide) rfl
  have hK := hK.sub (tys' := []) [] rfl
  have hP : va_P (dC, dI) vwCl [(qx, .inr (8, [.ref rp, .int 0, .ref rt, .ref rc, .int ((-1)), .ref r1, .ref r2, .ref r3, .ref r4, .null, .int 0])), (rc, .inr (6, [.ref c1, .ref c2, .ref c3, .ref c4, .ref c5, .ref c6, .ref c7, .int 0])), (qm, .inr (17, [.ref lp, .null, .null, .int 0, .int 0, .ref m1, .ref m2, .ref m3, .ref m4, .ref m5, .null, .null, .int 0, .ref m6, .int 0, .int 0, .int 0, .long 0, .null, .ref m7, .ref m8, .int 0, .int 0, .long 0])), (lp, .inr (0, [.int 0, .ref te, .int 0]))] H := hP
  have hD : va_D A [(qx, .inr (8, [.ref rp, .int 0, .ref rt, .ref rc, .int ((-1)), .ref r1, .ref r2, .ref r3, .ref r4, .null, .int 0])), (rc, .inr (6, [.ref c1, .ref c2, .ref c3, .ref c4, .ref c5, .ref c6, .ref c7, .int 0])), (qm, .inr (17, [.ref lp, .null, .null, .int 0, .int 0, .ref m1, .ref m2, .ref m3, .ref m4, .ref m5, .null, .null, .int 0, .ref m6, .int 0, .int 0, .int 0, .long 0, .null, .ref m7, .ref m8, .int 0, .int 0, .long 0])), (lp, .inr (0, [.int 0, .ref te, .int 0]))] := hD
  have hK : va_K (dC, dI) vwCl [] s := hK
  refine lv_aload_n hx hb dL_law_1044 rfl (lv_at hl 3 rfl) ?_
  have hPc := hP.sub (ws' := [(qx, .inr (8, [.ref rp, .int 0, .ref rt, .ref rc, .int ((-1)), .ref r1, .ref r2, .ref r3, .ref r4, .null, .int 0])), (rc, .inr (6, [.ref c1, .ref c2, .ref c3, .ref c4, .ref c5, .ref c6, .ref c7, .int 0]))]) [0, 1] rfl
  have hDc := hD.sub (ws' := [(qx, .inr (8, [.ref rp, .int 0, .ref rt, .ref rc, .int ((-1)), .ref r1, .ref r2, .ref r3, .ref r4, .null, .int 0])), (rc, .inr (6, [.ref c1, .ref c2, .ref c3, .ref c4, .ref c5, .ref c6, .ref c7, .int 0]))]) [0, 1] (by decide) rfl
  have hKc := hK.sub (tys' := []) [] rfl
  have hFc := va_free (wc := [(qx, .inr (8, [.ref rp, .int 0, .ref rt, .ref rc, .int ((-1)), .ref r1, .ref r2, .ref r3, .ref r4, .null, .int 0])), (rc, .inr (6, [.ref c1, .ref c2, .ref c3, .ref c4, .ref c5, .ref c6, .ref c7, .int 0]))]) hD hS hA [0, 1] rfl
  refine va_calli (va_runV (As := []) (rest := []) ⟨hx, hb, hml, hown, hts⟩ (c_X_size l dC dI tp te H.size qx rp rt rc r1 r2 r3 r4 c1 c2 c3 c4 c5 c6 c7) (cwV 0 hts g_law_165_X_size rfl rfl rfl (by decide +kernel) ⟨Nat.le_of_ble_eq_true rfl, Nat.le_of_ble_eq_true rfl⟩) ⟨Pw.blind, va_recv hKc hPc (ci := 8) (q0 := 0) rfl rfl, Pw.mk hPc hKc hDc hG hS hFc⟩ rfl rfl hl.1 rfl (lv_room (Nat.le_of_ble_eq_true rfl)) dL_law_1045 ⟨Nat.le_of_ble_eq_true rfl, Nat.le_of_ble_eq_true rfl⟩) hS (fun q _ h => hFc q h) hFc (fun r u t9 H_1 locs ht hvm hw hB hz1 hk1 hS => ?_)
  have hw : r = 0 := hw
  subst hw
  obtain ⟨hP, hD⟩ := va_join (wr := [(qm, .inr (17, [.ref lp, .null, .null, .int 0, .int 0, .ref m1, .ref m2, .ref m3, .ref m4, .ref m5, .null, .null, .int 0, .ref m6, .int 0, .int 0, .int 0, .long 0, .null, .ref m7, .ref m8, .int 0, .int 0, .long 0])), (lp, .inr (0, [.int 0, .ref te, .int 0]))]) (w1 := []) hP hD [0, 1] [2, 3] rfl rfl (by decide) (by decide) hk1 hFc va_P.nil va_D.nil
  have hK := hK.sub (tys' := []) [] rfl
  have hP : va_P (dC, dI) vwCl [(qm, .inr (17, [.ref lp, .null, .null, .int 0, .int 0, .ref m1, .ref m2, .ref m3, .ref m4, .ref m5, .null, .null, .int 0, .ref m6, .int 0, .int 0, .int 0, .long 0, .null, .ref m7, .ref m8, .int 0, .int 0, .long 0])), (lp, .inr (0, [.int 0, .ref te, .int 0]))] H_1 := hP
  have hD : va_D A [(qm, .inr (17, [.ref lp, .null, .null, .int 0, .int 0, .ref m1, .ref m2, .ref m3, .ref m4, .ref m5, .null, .null, .int 0, .ref m6, .int 0, .int 0, .int 0, .long 0, .null, .ref m7, .ref m8, .int 0, .int 0, .long 0])), (lp, .inr (0, [.int 0, .ref te, .int 0]))] := hD
  have hK : va_K (dC, dI) vwCl [] s := hK
  refine W.widen (k := 89) (n := 78003) (Nat.le_of_ble_eq_true rfl) (Nat.le_of_ble_eq_true rfl) ?_
  refine lv_aload_n hx hb dL_law_1048 rfl (lv_at hl 2 rfl) ?_
  have hPc := hP.sub (ws' := [(qm, .inr (17, [.ref lp, .null, .null, .int 0, .int 0, .ref m1, .ref m2, .ref m3, .ref m4, .ref m5, .null, .null, .int 0, .ref m6, .int 0, .int 0, .int 0, .long 0, .null, .ref m7, .ref m8, .int 0, .int 0, .long 0])), (lp, .inr (0, [.int 0, .ref te, .int 0]))]) [0, 1] rfl
  have hDc := hD.sub (ws' := [(qm, .inr (17, [.ref lp, .null, .null, .int 0, .int 0, .ref m1, .ref m2, .ref m3, .ref m4, .ref m5, .null, .null, .int 0, .ref m6, .int 0, .int 0, .int 0, .long 0, .null, .ref m7, .ref m8, .int 0, .int 0, .long 0])), (lp, .inr (0, [.int 0, .ref te, .int 0]))]) [0, 1] (by decide) rfl
  have hKc := hK.sub (tys' := []) [] rfl
  have hFc := va_free (wc := [(qm, .inr (17, [.ref lp, .null, .null, .int 0, .int 0, .ref m1, .ref m2, .ref m3, .ref m4, .ref m5, .null, .null, .int 0, .ref m6, .int 0, .int 0, .int 0, .long 0, .null, .ref m7, .ref m8, .int 0, .int 0, .long 0])), (lp, .inr (0, [.int 0, .ref te, .int 0]))]) hD hS hA [0, 1] rfl
  refine va_calli (va_runV (As := []) (rest := [.int 0]) ⟨hx, hb, hml, hown, hts⟩ (c_M_size l dC dI tp te H_1.size qm lp m1 m2 m3 m4 m5 m6 m7 m8) (cwV 0 hts g_law_168_M_size rfl rfl rfl (by decide +kernel) ⟨Nat.le_of_ble_eq_true rfl, Nat.le_of_ble_eq_true rfl⟩) ⟨Pw.blind, va_recv hKc hPc (ci := 17) (q0 := 0) rfl rfl, Pw.mk hPc hKc hDc hG hS hFc⟩ rfl rfl hl.1 rfl (lv_room (Nat.le_of_ble_eq_true rfl)) dL_law_1049 ⟨Nat.le_of_ble_eq_true rfl, Nat.le_of_ble_eq_true rfl⟩) hS (fun q _ h => hFc q h) hFc (fun r u t9 H_3 locs ht hvm hw hB hz1 hk1 hS => ?_)
  have hw : r = 0 := hw
  subst hw
  obtain ⟨hP1, hK1, hD1⟩ := hB
  rw [ht] at hP1
  have hK1 := va_K.moved hvm.symm hK1
  obtain ⟨hP, hD⟩ := va_join (wr := []) (w1 := [(qm, .inr (17, [.ref lp, .null, .null, .int 0, .int 0, .ref m1, .ref m2, .ref m3, .ref m4, .ref m5, .null, .null, .int 0, .ref m6, .int 0, .int 0, .int 0, .long 0, .null, .ref m7, .ref m8, .int 0, .int 0, .long 0]))]) hP hD [0, 1] [] rfl rfl (by decide) (by decide) hk1 hFc hP1 hD1
  have hK := (hK.sub (tys' := []) [] rfl).app hK1
  have hP : va_P (dC, dI) vwCl [(qm, .inr (17, [.ref lp, .null, .null, .int 0, .int 0, .ref m1, .ref m2, .ref m3, .ref m4, .ref m5, .null, .null, .int 0, .ref m6, .int 0, .int 0, .int 0, .long 0, .null, .ref m7, .ref m8, .int 0, .int 0, .long 0]))] H_3 := hP
  have hD : va_D A [(qm, .inr (17, [.ref lp, .null, .null, .int 0, .int 0, .ref m1, .ref m2, .ref m3, .ref m4, .ref m5, .null, .null, .int 0, .ref m6, .int 0, .int 0, .int 0, .long 0, .null, .ref m7, .ref m8, .int 0, .int 0, .long 0]))] := hD
  have hK : va_K (dC, dI) vwCl [] s := hK
  refine W.widen (k := 89) (n := 78003) (Nat.le_of_ble_eq_true rfl) (Nat.le_of_ble_eq_true rfl) ?_
  refine lv_icmp_eq (tgt := 1569) hx hb dL_law_1052 (by decide) (fun c9 => ?_) (fun c9 => absurd (by decide) c9)
  exact lc_next C0 hAA hS (lv_sub hl [4, 0] rfl) (Nat.le_of_ble_eq_true rfl) (Nat.le_of_ble_eq_true rfl)
set_option maxHeartbeats 4000000 in
set_option maxRecDepth 100000 in
theorem lc_orders {p : Program} {l : Launch} {e : Env} {s : State} {m : MethodId} {below : List Frame} {meth : Method} {c : Code} (hlt : l.stackTraces = false) {b : Nat} {xs : Nat → Int32} (C0 : lw_At p s m meth c b 3 xs) {A : Nat → Prop} (hAA : A = fun q : Nat => s.heap.size ≤ q) {dC : Nat → ClassId} {dI : Nat → Nat → Nat} {tp te : Nat} (hG : gx tp te A s s.heap) {qx rp rt rc r1 r2 r3 r4 a1 a2 a3 a4 a5 a6 a7 t1 t2 t3 t4 t5 t6 t7 c1 c2 c3 c4 c5 c6 c7 qm lp m1 m2 m3 m4 m5 m6 m7 m8 qo : Nat} {k1 k2 k3 k4 k5 k6 k7 ko : ClassId} {H : Heap} {locs : List Loc} (hK : va_K (dC, dI) vwCl [(k1, .int), (k2, .int), (k3, .int), (k4, .long), (k5, .int), (k6, .int), (k7, .int), (ko, .long)] s) (hP : va_P (dC, dI) vwCl [(qx, .inr (8, [.ref rp, .int 0, .ref rt, .ref rc, .int ((-1)), .ref r1, .ref r2, .ref r3, .ref r4, .null, .int 0])), (rp, .inr (6, [.ref a1, .ref a2, .ref a3, .ref a4, .ref a5, .ref a6, .ref a7, .int 0])), (a1, .inl (k1, 1200, .inl (fun _ => 0))), (a2, .inl (k2, 1200, .inl (fun _ => 0))), (a3, .inl (k3, 1200, .inl (fun _ => 0))), (a4, .inl (k4, 1200, .inr (.inl (fun _ => 0)))), (a5, .inl (k5, 1200, .inl (fun _ => 0))), (a6, .inl (k6, 1200, .inl (fun _ => 0))), (a7, .inl (k7, 1200, .inl (fun _ => 0))), (rt, .inr (6, [.ref t1, .ref t2, .ref t3, .ref t4, .ref t5, .ref t6, .ref t7, .int 0])), (rc, .inr (6, [.ref c1, .ref c2, .ref c3, .ref c4, .ref c5, .ref c6, .ref c7, .int 0])), (qm, .inr (17, [.ref lp, .null, .null, .int 0, .int 0, .ref m1, .ref m2, .ref m3, .ref m4, .ref m5, .null, .null, .int 0, .ref m6, .int 0, .int 0, .int 0, .long 0, .null, .ref m7, .ref m8, .int 0, .int 0, .long 0])), (lp, .inr (0, [.int 0, .ref te, .int 0])), (qo, .inl (ko, 1, .inr (.inl (fun _ => 0))))] H) (hD : va_D A [(qx, .inr (8, [.ref rp, .int 0, .ref rt, .ref rc, .int ((-1)), .ref r1, .ref r2, .ref r3, .ref r4, .null, .int 0])), (rp, .inr (6, [.ref a1, .ref a2, .ref a3, .ref a4, .ref a5, .ref a6, .ref a7, .int 0])), (a1, .inl (k1, 1200, .inl (fun _ => 0))), (a2, .inl (k2, 1200, .inl (fun _ => 0))), (a3, .inl (k3, 1200, .inl (fun _ => 0))), (a4, .inl (k4, 1200, .inr (.inl (fun _ => 0)))), (a5, .inl (k5, 1200, .inl (fun _ => 0))), (a6, .inl (k6, 1200, .inl (fun _ => 0))), (a7, .inl (k7, 1200, .inl (fun _ => 0))), (rt, .inr (6, [.ref t1, .ref t2, .ref t3, .ref t4, .ref t5, .ref t6, .ref t7, .int 0])), (rc, .inr (6, [.ref c1, .ref c2, .ref c3, .ref c4, .ref c5, .ref c6, .ref c7, .int 0])), (qm, .inr (17, [.ref lp, .null, .null, .int 0, .int 0, .ref m1, .ref m2, .ref m3, .ref m4, .ref m5, .null, .null, .int 0, .ref m6, .int 0, .int 0, .int 0, .long 0, .null, .ref m7, .ref m8, .int 0, .int 0, .long 0])), (lp, .inr (0, [.int 0, .ref te, .int 0])), (qo, .inl (ko, 1, .inr (.inl (fun _ => 0))))]) (hS : va_S A s.heap H locs) {ls : Array Slot} (hl : lv_has ls 8 [(4, .int 0), (3, .ref qo), (2, .ref qm), (1, .ref qx), (0, .ref b)]) (p1 p2 : Int32) (e1 : xs (1 : Int32).toNatClampNeg = p1) (e2 : xs (2 : Int32).toNatClampNeg = p2)  : W p l e room_1 s m #[Value.ref b] below meth c H locs 89 78003 (lw_Z below #[Value.ref b] s) (F0 m 1057 ls []) := by
  obtain ⟨hx, hb, hr, hml, hown, hts0, hX, hbl, hlocks, hgv⟩ := id C0
  have hts : ∀ w ∈ z_law, w.before #[Value.ref b] s = true := fun w h => hts0 w (z_law_in w h)
  have hown : s.vm.findClass RL = some m.cls := hown
  have hA : ∀ q : Nat, s.heap.size ≤ q → A q := fun q h => by rw [hAA]; exact h
  have hbA : ¬ A b := by rw [hAA]; exact Nat.not_le.mpr hbl
  have hP := hP.sub (ws' := [(qx, .inr (8, [.ref rp, .int 0, .ref rt, .ref rc, .int ((-1)), .ref r1, .ref r2, .ref r3, .ref r4, .null, .int 0])), (qm, .inr (17, [.ref lp, .null, .null, .int 0, .int 0, .ref m1, .ref m2, .ref m3, .ref m4, .ref m5, .null, .null, .int 0, .ref m6, .int 0, .int 0, .int 0, .long 0, .null, .ref m7, .ref m8, .int 0, .int 0, .long 0])), (lp, .inr (0, [.int 0, .ref te, .int 0]))]) [0, 11, 12] rfl
  have hD := hD.sub (ws' := [(qx, .inr (8, [.ref rp, .int 0, .ref rt, .ref rc, .int ((-1)), .ref r1, .ref r2, .ref r3, .ref r4, .null, .int 0])), (qm, .inr (17, [.ref lp, .null, .null, .int 0, .int 0, .ref m1, .ref m2, .ref m3, .ref m4, .ref m5, .null, .null, .int 0, .ref m6, .int 0, .int 0, .int 0, .long 0, .null, .ref m7, .ref m8, .int 0, .int 0, .long 0])), (lp, .inr (0, [.int 0, .ref te, .int 0]))]) [0, 11, 12] (by decide) rfl
  have hK := hK.sub (tys' := []) [] rfl
  have hP : va_P (dC, dI) vwCl [(qx, .inr (8, [.ref rp, .int 0, .ref rt, .ref rc, .int ((-1)), .ref r1, .ref r2, .ref r3, .ref r4, .null, .int 0])), (qm, .inr (17, [.ref lp, .null, .null, .int 0, .int 0, .ref m1, .ref m2, .ref m3, .ref m4, .ref m5, .null, .null, .int 0, .ref m6, .int 0, .int 0, .int 0, .long 0, .null, .ref m7, .ref m8, .int 0, .int 0, .long 0])), (lp, .inr (0, [.int 0, .ref te, .int 0]))] H := hP
  have hD : va_D A [(qx, .inr (8, [.ref rp, .int 0, .ref rt, .ref rc, .int ((-1)), .ref r1, .ref r2, .ref r3, .ref r4, .null, .int 0])), (qm, .inr (17, [.ref lp, .null, .null, .int 0, .int 0, .ref m1, .ref m2, .ref m3, .ref m4, .ref m5, .null, .null, .int 0, .ref m6, .int 0, .int 0, .int 0, .long 0, .null, .ref m7, .ref m8, .int 0, .int 0, .long 0])), (lp, .inr (0, [.int 0, .ref te, .int 0]))] := hD
  have hK : va_K (dC, dI) vwCl [] s := hK
  refine lv_aload_n hx hb dL_law_1057 rfl (lv_at hl 3 rfl) ?_
  refine lv_aload_n hx hb dL_law_1058 rfl (lv_at hl 1 rfl) ?_
  have hPc := hP.sub (ws' := [(qx, .inr (8, [.ref rp, .int 0, .ref rt, .ref rc, .int ((-1)), .ref r1, .ref r2, .ref r3, .ref r4, .null, .int 0]))]) [0] rfl
  have hDc := hD.sub (ws' := [(qx, .inr (8, [.ref rp, .int 0, .ref rt, .ref rc, .int ((-1)), .ref r1, .ref r2, .ref r3, .ref r4, .null, .int 0]))]) [0] (by decide) rfl
  have hKc := hK.sub (tys' := []) [] rfl
  have hFc := va_free (wc := [(qx, .inr (8, [.ref rp, .int 0, .ref rt, .ref rc, .int ((-1)), .ref r1, .ref r2, .ref r3, .ref r4, .null, .int 0]))]) hD hS hA [0] rfl
  refine vx_calli (vx_runSX (As := [.ref qx, .ref qo]) (rest := []) ⟨hx, hb, hml, hown, hts⟩ (c_L_orders l dC dI tp te H.size hlt qx rp rt rc r1 r2 r3 r4 qo) (vx_cwSW 2 hts g_law_169_L_orders rfl rfl rfl (by decide +kernel) ⟨Nat.le_of_ble_eq_true rfl, Nat.le_of_ble_eq_true rfl⟩) ⟨Pw.blind, Pw.mk hPc hKc hDc hG hS hFc⟩ rfl rfl hl.1 rfl (lv_room (Nat.le_of_ble_eq_true rfl)) dL_law_1059 ⟨Nat.le_of_ble_eq_true rfl, Nat.le_of_ble_eq_true rfl⟩) hS (fun q _ h => hFc q h) hFc (fun q _ h => hFc q h) (fun E ce q9 u t9 H1 locs ht hvm hpx hBX hz1 hk1 hS hce hcv hcl => hpx.elim) (fun r u t9 H_1 locs ht hvm hw hB hz1 hk1 hS => ?_)
  have hw : r = 1 := hw
  subst hw
  obtain ⟨hP, hD⟩ := va_join (wr := [(qm, .inr (17, [.ref lp, .null, .null, .int 0, .int 0, .ref m1, .ref m2, .ref m3, .ref m4, .ref m5, .null, .null, .int 0, .ref m6, .int 0, .int 0, .int 0, .long 0, .null, .ref m7, .ref m8, .int 0, .int 0, .long 0])), (lp, .inr (0, [.int 0, .ref te, .int 0]))]) (w1 := []) hP hD [0] [1, 2] rfl rfl (by decide) (by decide) hk1 hFc va_P.nil va_D.nil
  have hK := hK.sub (tys' := []) [] rfl
  have hP : va_P (dC, dI) vwCl [(qm, .inr (17, [.ref lp, .null, .null, .int 0, .int 0, .ref m1, .ref m2, .ref m3, .ref m4, .ref m5, .null, .null, .int 0, .ref m6, .int 0, .int 0, .int 0, .long 0, .null, .ref m7, .ref m8, .int 0, .int 0, .long 0])), (lp, .inr (0, [.int 0, .ref te, .int 0]))] H_1 := hP
  have hD : va_D A [(qm, .inr (17, [.ref lp, .null, .null, .int 0, .int 0, .ref m1, .ref m2, .ref m3, .ref m4, .ref m5, .null, .null, .int 0, .ref m6, .int 0, .int 0, .int 0, .long 0, .null, .ref m7, .ref m8, .int 0, .int 0, .long 0])), (lp, .inr (0, [.int 0, .ref te, .int 0]))] := hD
  have hK : va_K (dC, dI) vwCl [] s := hK
  refine W.widen (k := 90) (n := 78009) (Nat.le_of_ble_eq_true rfl) (Nat.le_of_ble_eq_true rfl) ?_
  refine lv_istore (lv' := [(5, .int 1), (4, .int 0), (3, .ref qo), (2, .ref qm), (1, .ref qx), (0, .ref b)]) hx hb dL_law_1062 hl (by decide) rfl (fun ls hl => ?_)
  refine lv_aload_n hx hb dL_law_1064 rfl (lv_at hl 3 rfl) ?_
  have hPc := hP.sub (ws' := [(qm, .inr (17, [.ref lp, .null, .null, .int 0, .int 0, .ref m1, .ref m2, .ref m3, .ref m4, .ref m5, .null, .null, .int 0, .ref m6, .int 0, .int 0, .int 0, .long 0, .null, .ref m7, .ref m8, .int 0, .int 0, .long 0])), (lp, .inr (0, [.int 0, .ref te, .int 0]))]) [0, 1] rfl
  have hDc := hD.sub (ws' := [(qm, .inr (17, [.ref lp, .null, .null, .int 0, .int 0, .ref m1, .ref m2, .ref m3, .ref m4, .ref m5, .null, .null, .int 0, .ref m6, .int 0, .int 0, .int 0, .long 0, .null, .ref m7, .ref m8, .int 0, .int 0, .long 0])), (lp, .inr (0, [.int 0, .ref te, .int 0]))]) [0, 1] (by decide) rfl
  have hKc := hK.sub (tys' := []) [] rfl
  have hFc := va_free (wc := [(qm, .inr (17, [.ref lp, .null, .null, .int 0, .int 0, .ref m1, .ref m2, .ref m3, .ref m4, .ref m5, .null, .null, .int 0, .ref m6, .int 0, .int 0, .int 0, .long 0, .null, .ref m7, .ref m8, .int 0, .int 0, .long 0])), (lp, .inr (0, [.int 0, .ref te, .int 0]))]) hD hS hA [0, 1] rfl
  refine va_calli (va_runV (As := []) (rest := []) ⟨hx, hb, hml, hown, hts⟩ (c_M_orders l dC dI tp te H_1.size qm lp m1 m2 m3 m4 m5 m6 m7 m8) (cwV 0 hts g_law_171_M_orders rfl rfl rfl (by decide +kernel) ⟨Nat.le_of_ble_eq_true rfl, Nat.le_of_ble_eq_true rfl⟩) ⟨Pw.blind, va_recv hKc hPc (ci := 17) (q0 := 0) rfl rfl, Pw.mk hPc hKc hDc hG hS hFc⟩ rfl rfl hl.1 rfl (lv_room (Nat.le_of_ble_eq_true rfl)) dL_law_1065 ⟨Nat.le_of_ble_eq_true rfl, Nat.le_of_ble_eq_true rfl⟩) hS (fun q _ h => hFc q h) hFc (fun r u t9 H_3 locs ht hvm hw hB hz1 hk1 hS => ?_)
  have hw : r = 0 := hw
  subst hw
  obtain ⟨hP1, hK1, hD1⟩ := hB
  rw [ht] at hP1
  have hK1 := va_K.moved hvm.symm hK1
  obtain ⟨hP, hD⟩ := va_join (wr := []) (w1 := [(qm, .inr (17, [.ref lp, .null, .null, .int 0, .int 1, .ref m1, .ref m2, .ref m3, .ref m4, .ref m5, .null, .null, .int 0, .ref m6, .int 0, .int 0, .int 0, .long 0, .null, .ref m7, .ref m8, .int 0, .int 0, .long 0]))]) hP hD [0, 1] [] rfl rfl (by decide) (by decide) hk1 hFc hP1 hD1
  have hK := (hK.sub (tys' := []) [] rfl).app hK1
  have hP : va_P (dC, dI) vwCl [(qm, .inr (17, [.ref lp, .null, .null, .int 0, .int 1, .ref m1, .ref m2, .ref m3, .ref m4, .ref m5, .null, .null, .int 0, .ref m6, .int 0, .int 0, .int 0, .long 0, .null, .ref m7, .ref m8, .int 0, .int 0, .long 0]))] H_3 := hP
  have hD : va_D A [(qm, .inr (17, [.ref lp, .null, .null, .int 0, .int 1, .ref m1, .ref m2, .ref m3, .ref m4, .ref m5, .null, .null, .int 0, .ref m6, .int 0, .int 0, .int 0, .long 0, .null, .ref m7, .ref m8, .int 0, .int 0, .long 0]))] := hD
  have hK : va_K (dC, dI) vwCl [] s := hK
  refine W.widen (k := 90) (n := 78009) (Nat.le_of_ble_eq_true rfl) (Nat.le_of_ble_eq_true rfl) ?_
  refine lv_istore (lv' := [(6, .int 0), (5, .int 1), (4, .int 0), (3, .ref qo), (2, .ref qm), (1, .ref qx), (0, .ref b)]) hx hb dL_law_1068 hl (by decide) rfl (fun ls hl => ?_)
  refine lv_aload_n hx hb dL_law_1070 rfl (lv_at hl 4 rfl) ?_
  have hPc := hP.sub (ws' := [(qm, .inr (17, [.ref lp, .null, .null, .int 0, .int 1, .ref m1, .ref m2, .ref m3, .ref m4, .ref m5, .null, .null, .int 0, .ref m6, .int 0, .int 0, .int 0, .long 0, .null, .ref m7, .ref m8, .int 0, .int 0, .long 0]))]) [0] rfl
  have hDc := hD.sub (ws' := [(qm, .inr (17, [.ref lp, .null, .null, .int 0, .int 1, .ref m1, .ref m2, .ref m3, .ref m4, .ref m5, .null, .null, .int 0, .ref m6, .int 0, .int 0, .int 0, .long 0, .null, .ref m7, .ref m8, .int 0, .int 0, .long 0]))]) [0] (by decide) rfl
  have hKc := hK.sub (tys' := []) [] rfl
  have hFc := va_free (wc := [(qm, .inr (17, [.ref lp, .null, .null, .int 0, .int 1, .ref m1, .ref m2, .ref m3, .ref m4, .ref m5, .null, .null, .int 0, .ref m6, .int 0, .int 0, .int 0, .long 0, .null, .ref m7, .ref m8, .int 0, .int 0, .long 0]))]) hD hS hA [0] rfl
  refine va_calli (va_runV (As := []) (rest := []) ⟨hx, hb, hml, hown, hts⟩ (c_thrown l dC dI tp te H_3.size qm lp m1 m2 m3 m4 m5 m6 m7 m8 1) (cwV 0 hts g_law_113_thrown rfl rfl rfl (by decide +kernel) ⟨Nat.le_of_ble_eq_true rfl, Nat.le_of_ble_eq_true rfl⟩) ⟨Pw.blind, va_recv hKc hPc (ci := 17) (q0 := 0) rfl rfl, Pw.mk hPc hKc hDc hG hS hFc⟩ rfl rfl hl.1 rfl (lv_room (Nat.le_of_ble_eq_true rfl)) dL_law_1071 ⟨Nat.le_of_ble_eq_true rfl, Nat.le_of_ble_eq_true rfl⟩) hS (fun q _ h => hFc q h) hFc (fun r u t9 H_5 locs ht hvm hw hB hz1 hk1 hS => ?_)
  have hw : r = 1 := hw
  subst hw
  obtain ⟨hP1, hK1, hD1⟩ := hB
  rw [ht] at hP1
  have hK1 := va_K.moved hvm.symm hK1
  obtain ⟨hP, hD⟩ := va_join (wr := []) (w1 := [(qm, .inr (17, [.ref lp, .null, .null, .int 0, .int 1, .ref m1, .ref m2, .ref m3, .ref m4, .ref m5, .null, .null, .int 0, .ref m6, .int 0, .int 0, .int 0, .long 0, .null, .ref m7, .ref m8, .int 0, .int 0, .long 0]))]) hP hD [0] [] rfl rfl (by decide) (by decide) hk1 hFc hP1 hD1
  have hK := (hK.sub (tys' := []) [] rfl).app hK1
  have hP : va_P (dC, dI) vwCl [(qm, .inr (17, [.ref lp, .null, .null, .int 0, .int 1, .ref m1, .ref m2, .ref m3, .ref m4, .ref m5, .null, .null, .int 0, .ref m6, .int 0, .int 0, .int 0, .long 0, .null, .ref m7, .ref m8, .int 0, .int 0, .long 0]))] H_5 := hP
  have hD : va_D A [(qm, .inr (17, [.ref lp, .null, .null, .int 0, .int 1, .ref m1, .ref m2, .ref m3, .ref m4, .ref m5, .null, .null, .int 0, .ref m6, .int 0, .int 0, .int 0, .long 0, .null, .ref m7, .ref m8, .int 0, .int 0, .long 0]))] := hD
  have hK : va_K (dC, dI) vwCl [] s := hK
  refine W.widen (k := 90) (n := 78009) (Nat.le_of_ble_eq_true rfl) (Nat.le_of_ble_eq_true rfl) ?_
  refine lv_iload hx hb dL_law_1074 (lv_at hl 1 rfl) ?_
  refine lv_icmp_eq (tgt := 1081) hx hb dL_law_1076 (by decide) (fun c9 => ?_) (fun c9 => absurd (by decide) c9)
  refine lv_iload hx hb dL_law_1081 (lv_at hl 1 rfl) ?_
  refine lv_if_ne (tgt := 1098) hx hb dL_law_1083 (by decide) (fun c9 => ?_) (fun c9 => absurd c9 (by decide))
  refine lv_goto (tgt := 1569) hx hb dL_law_1098 (by decide) ?_
  exact lc_next C0 hAA hS (lv_sub hl [6, 2] rfl) (Nat.le_of_ble_eq_true rfl) (Nat.le_of_ble_eq_true rfl)
set_option maxHeartbeats 4000000 in
set_option maxRecDepth 100000 in
theorem lc_order {p : Program} {l : Launch} {e : Env} {s : State} {m : MethodId} {below : List Frame} {meth : Method} {c : Code} (hlt : l.stackTraces = false) {b : Nat} {xs : Nat → Int32} (C0 : lw_At p s m meth c b 3 xs) {A : Nat → Prop} (hAA : A = fun q : Nat => s.heap.size ≤ q) {dC : Nat → ClassId} {dI : Nat → Nat → Nat} {tp te : Nat} (hG : gx tp te A s s.heap) {qx rp rt rc r1 r2 r3 r4 a1 a2 a3 a4 a5 a6 a7 t1 t2 t3 t4 t5 t6 t7 c1 c2 c3 c4 c5 c6 c7 qm lp m1 m2 m3 m4 m5 m6 m7 m8 qo : Nat} {k1 k2 k3 k4 k5 k6 k7 ko : ClassId} {H : Heap} {locs : List Loc} (hK : va_K (dC, dI) vwCl [(k1, .int), (k2, .int), (k3, .int), (k4, .long), (k5, .int), (k6, .int), (k7, .int), (ko, .long)] s) (hP : va_P (dC, dI) vwCl [(qx, .inr (8, [.ref rp, .int 0, .ref rt, .ref rc, .int ((-1)), .ref r1, .ref r2, .ref r3, .ref r4, .null, .int 0])), (rp, .inr (6, [.ref a1, .ref a2, .ref a3, .ref a4, .ref a5, .ref a6, .ref a7, .int 0])), (a1, .inl (k1, 1200, .inl (fun _ => 0))), (a2, .inl (k2, 1200, .inl (fun _ => 0))), (a3, .inl (k3, 1200, .inl (fun _ => 0))), (a4, .inl (k4, 1200, .inr (.inl (fun _ => 0)))), (a5, .inl (k5, 1200, .inl (fun _ => 0))), (a6, .inl (k6, 1200, .inl (fun _ => 0))), (a7, .inl (k7, 1200, .inl (fun _ => 0))), (rt, .inr (6, [.ref t1, .ref t2, .ref t3, .ref t4, .ref t5, .ref t6, .ref t7, .int 0])), (rc, .inr (6, [.ref c1, .ref c2, .ref c3, .ref c4, .ref c5, .ref c6, .ref c7, .int 0])), (qm, .inr (17, [.ref lp, .null, .null, .int 0, .int 0, .ref m1, .ref m2, .ref m3, .ref m4, .ref m5, .null, .null, .int 0, .ref m6, .int 0, .int 0, .int 0, .long 0, .null, .ref m7, .ref m8, .int 0, .int 0, .long 0])), (lp, .inr (0, [.int 0, .ref te, .int 0])), (qo, .inl (ko, 1, .inr (.inl (fun _ => 0))))] H) (hD : va_D A [(qx, .inr (8, [.ref rp, .int 0, .ref rt, .ref rc, .int ((-1)), .ref r1, .ref r2, .ref r3, .ref r4, .null, .int 0])), (rp, .inr (6, [.ref a1, .ref a2, .ref a3, .ref a4, .ref a5, .ref a6, .ref a7, .int 0])), (a1, .inl (k1, 1200, .inl (fun _ => 0))), (a2, .inl (k2, 1200, .inl (fun _ => 0))), (a3, .inl (k3, 1200, .inl (fun _ => 0))), (a4, .inl (k4, 1200, .inr (.inl (fun _ => 0)))), (a5, .inl (k5, 1200, .inl (fun _ => 0))), (a6, .inl (k6, 1200, .inl (fun _ => 0))), (a7, .inl (k7, 1200, .inl (fun _ => 0))), (rt, .inr (6, [.ref t1, .ref t2, .ref t3, .ref t4, .ref t5, .ref t6, .ref t7, .int 0])), (rc, .inr (6, [.ref c1, .ref c2, .ref c3, .ref c4, .ref c5, .ref c6, .ref c7, .int 0])), (qm, .inr (17, [.ref lp, .null, .null, .int 0, .int 0, .ref m1, .ref m2, .ref m3, .ref m4, .ref m5, .null, .null, .int 0, .ref m6, .int 0, .int 0, .int 0, .long 0, .null, .ref m7, .ref m8, .int 0, .int 0, .long 0])), (lp, .inr (0, [.int 0, .ref te, .int 0])), (qo, .inl (ko, 1, .inr (.inl (fun _ => 0))))]) (hS : va_S A s.heap H locs) {ls : Array Slot} (hl : lv_has ls 8 [(4, .int 0), (3, .ref qo), (2, .ref qm), (1, .ref qx), (0, .ref b)]) (p1 p2 : Int32) (e1 : xs (1 : Int32).toNatClampNeg = p1) (e2 : xs (2 : Int32).toNatClampNeg = p2)  : W p l e room_1 s m #[Value.ref b] below meth c H locs 89 78003 (lw_Z below #[Value.ref b] s) (F0 m 1101 ls []) := by
  obtain ⟨hx, hb, hr, hml, hown, hts0, hX, hbl, hlocks, hgv⟩ := id C0
  have hts : ∀ w ∈ z_law, w.before #[Value.ref b] s = true := fun w h => hts0 w (z_law_in w h)
  have hown : s.vm.findClass RL = some m.cls := hown
  have hA : ∀ q : Nat, s.heap.size ≤ q → A q := fun q h => by rw [hAA]; exact h
  have hbA : ¬ A b := by rw [hAA]; exact Nat.not_le.mpr hbl
  have hP := hP.sub (ws' := [(qx, .inr (8, [.ref rp, .int 0, .ref rt, .ref rc, .int ((-1)), .ref r1, .ref r2, .ref r3, .ref r4, .null, .int 0])), (qm, .inr (17, [.ref lp, .null, .null, .int 0, .int 0, .ref m1, .ref m2, .ref m3, .ref m4, .ref m5, .null, .null, .int 0, .ref m6, .int 0, .int 0, .int 0, .long 0, .null, .ref m7, .ref m8, .int 0, .int 0, .long 0])), (lp, .inr (0, [.int 0, .ref te, .int 0]))]) [0, 11, 12] rfl
  have hD := hD.sub (ws' := [(qx, .inr (8, [.ref rp, .int 0, .ref rt, .ref rc, .int ((-1)), .ref r1, .ref r2, .ref r3, .ref r4, .null, .int 0])), (qm, .inr (17, [.ref lp, .null, .null, .int 0, .int 0, .ref m1, .ref m2, .ref m3, .ref m4, .ref m5, .null, .null, .int 0, .ref m6, .int 0, .int 0, .int 0, .long 0, .null, .ref m7, .ref m8, .int 0, .int 0, .long 0])), (lp, .inr (0, [.int 0, .ref te, .int 0]))]) [0, 11, 12] (by decide) rfl
  have hK := hK.sub (tys' := []) [] rfl
  have hP : va_P (dC, dI) vwCl [(qx, .inr (8, [.ref rp, .int 0, .ref rt, .ref rc, .int ((-1)), .ref r1, .ref r2, .ref r3, .ref r4, .null, .int 0])), (qm, .inr (17, [.ref lp, .null, .null, .int 0, .int 0, .ref m1, .ref m2, .ref m3, .ref m4, .ref m5, .null, .null, .int 0, .ref m6, .int 0, .int 0, .int 0, .long 0, .null, .ref m7, .ref m8, .int 0, .int 0, .long 0])), (lp, .inr (0, [.int 0, .ref te, .int 0]))] H := hP
  have hD : va_D A [(qx, .inr (8, [.ref rp, .int 0, .ref rt, .ref rc, .int ((-1)), .ref r1, .ref r2, .ref r3, .ref r4, .null, .int 0])), (qm, .inr (17, [.ref lp, .null, .null, .int 0, .int 0, .ref m1, .ref m2, .ref m3, .ref m4, .ref m5, .null, .null, .int 0, .ref m6, .int 0, .int 0, .int 0, .long 0, .null, .ref m7, .ref m8, .int 0, .int 0, .long 0])), (lp, .inr (0, [.int 0, .ref te, .int 0]))] := hD
  have hK : va_K (dC, dI) vwCl [] s := hK
  refine lv_aload_n hx hb dL_law_1101 rfl (lv_at hl 3 rfl) ?_
  refine lv_aload_n hx hb dL_law_1102 rfl (lv_at hl 4 rfl) ?_
  refine lv_iload hx hb dL_law_1103 (lv_at hl 0 rfl) ?_
  refine lv_iconst (v := 1) hx hb dL_law_1105 (by decide) ?_
  refine lv_iadd hx hb dL_law_1106 ?_
  refine lv_topi (fun z_1 ez_1 => ?_)
  obtain rfl : z_1 = 1 := ez_1.trans (by decide)
  refine va_sld hx hb hX hbl hbA hS (by unfold vp_in; decide +kernel) dL_law_1107 ?_
  refine lv_topi (fun z_2 ez_2 => ?_)
  obtain rfl : p1 = z_2 := (ez_2.trans e1).symm
  refine lv_aload_n hx hb dL_law_1108 rfl (lv_at hl 4 rfl) ?_
  refine lv_iload hx hb dL_law_1109 (lv_at hl 0 rfl) ?_
  refine lv_iconst (v := 2) hx hb dL_law_1111 (by decide) ?_
  refine lv_iadd hx hb dL_law_1112 ?_
  refine lv_topi (fun z_3 ez_3 => ?_)
  obtain rfl : z_3 = 2 := ez_3.trans (by decide)
  refine va_sld hx hb hX hbl hbA hS (by unfold vp_in; decide +kernel) dL_law_1113 ?_
  refine lv_topi (fun z_4 ez_4 => ?_)
  obtain rfl : p2 = z_4 := (ez_4.trans e2).symm
  refine lv_aload_n hx hb dL_law_1114 rfl (lv_at hl 1 rfl) ?_
  have hPc := hP.sub (ws' := [(qx, .inr (8, [.ref rp, .int 0, .ref rt, .ref rc, .int ((-1)), .ref r1, .ref r2, .ref r3, .ref r4, .null, .int 0]))]) [0] rfl
  have hDc := hD.sub (ws' := [(qx, .inr (8, [.ref rp, .int 0, .ref rt, .ref rc, .int ((-1)), .ref r1, .ref r2, .ref r3, .ref r4, .null, .int 0]))]) [0] (by decide) rfl
  have hKc := hK.sub (tys' := []) [] rfl
  have hFc := va_free (wc := [(qx, .inr (8, [.ref rp, .int 0, .ref rt, .ref rc, .int ((-1)), .ref r1, .ref r2, .ref r3, .ref r4, .null, .int 0]))]) hD hS hA [0] rfl
  refine vx_calli (vx_runSX (As := [.ref qx, .int p1, .int p2, .ref qo]) (rest := []) ⟨hx, hb, hml, hown, hts⟩ (c_L_order l dC dI tp te H.size hlt qx rp rt rc r1 r2 r3 r4 p1 p2 qo) (vx_cwSW 4 hts g_law_172_L_order rfl rfl rfl (by decide +kernel) ⟨Nat.le_of_ble_eq_true rfl, Nat.le_of_ble_eq_true rfl⟩) ⟨Pw.blind, Pw.mk hPc hKc hDc hG hS hFc⟩ rfl rfl hl.1 rfl (lv_room (Nat.le_of_ble_eq_true rfl)) dL_law_1115 ⟨Nat.le_of_ble_eq_true rfl, Nat.le_of_ble_eq_true rfl⟩) hS (fun q _ h => hFc q h) hFc (fun q _ h => hFc q h) (fun E ce q9 u t9 H1 locs ht hvm hpx hBX hz1 hk1 hS hce hcv hcl => hpx.elim) (fun r u t9 H_5 locs ht hvm hw hB hz1 hk1 hS => ?_)
  have hw : r = 1 := hw
  subst hw
  obtain ⟨hP, hD⟩ := va_join (wr := [(qm, .inr (17, [.ref lp, .null, .null, .int 0, .int 0, .ref m1, .ref m2, .ref m3, .ref m4, .ref m5, .null, .null, .int 0, .ref m6, .int 0, .int 0, .int 0, .long 0, .null, .ref m7, .ref m8, .int 0, .int 0, .long 0])), (lp, .inr (0, [.int 0, .ref te, .int 0]))]) (w1 := []) hP hD [0] [1, 2] rfl rfl (by decide) (by decide) hk1 hFc va_P.nil va_D.nil
  have hK := hK.sub (tys' := []) [] rfl
  have hP : va_P (dC, dI) vwCl [(qm, .inr (17, [.ref lp, .null, .null, .int 0, .int 0, .ref m1, .ref m2, .ref m3, .ref m4, .ref m5, .null, .null, .int 0, .ref m6, .int 0, .int 0, .int 0, .long 0, .null, .ref m7, .ref m8, .int 0, .int 0, .long 0])), (lp, .inr (0, [.int 0, .ref te, .int 0]))] H_5 := hP
  have hD : va_D A [(qm, .inr (17, [.ref lp, .null, .null, .int 0, .int 0, .ref m1, .ref m2, .ref m3, .ref m4, .ref m5, .null, .null, .int 0, .ref m6, .int 0, .int 0, .int 0, .long 0, .null, .ref m7, .ref m8, .int 0, .int 0, .long 0])), (lp, .inr (0, [.int 0, .ref te, .int 0]))] := hD
  have hK : va_K (dC, dI) vwCl [] s := hK
  refine W.widen (k := 90) (n := 78009) (Nat.le_of_ble_eq_true rfl) (Nat.le_of_ble_eq_true rfl) ?_
  refine lv_istore (lv' := [(5, .int 1), (4, .int 0), (3, .ref qo), (2, .ref qm), (1, .ref qx), (0, .ref b)]) hx hb dL_law_1118 hl (by decide) rfl (fun ls hl => ?_)
  refine lv_aload_n hx hb dL_law_1120 rfl (lv_at hl 3 rfl) ?_
  refine lv_aload_n hx hb dL_law_1121 rfl (lv_at hl 5 rfl) ?_
  refine lv_iload hx hb dL_law_1122 (lv_at hl 1 rfl) ?_
  refine lv_iconst (v := 1) hx hb dL_law_1124 (by decide) ?_
  refine lv_iadd hx hb dL_law_1125 ?_
  refine lv_topi (fun z_7 ez_7 => ?_)
  obtain rfl : z_7 = 1 := ez_7.trans (by decide)
  refine va_sld hx hb hX hbl hbA hS (by unfold vp_in; decide +kernel) dL_law_1126 ?_
  refine lv_topi (fun z_8 ez_8 => ?_)
  obtain rfl : p1 = z_8 := (ez_8.trans e1).symm
  refine lv_aload_n hx hb dL_law_1127 rfl (lv_at hl 5 rfl) ?_
  refine lv_iload hx hb dL_law_1128 (lv_at hl 1 rfl) ?_
  refine lv_iconst (v := 2) hx hb dL_law_1130 (by decide) ?_
  refine lv_iadd hx hb dL_law_1131 ?_
  refine lv_topi (fun z_9 ez_9 => ?_)
  obtain rfl : z_9 = 2 := ez_9.trans (by decide)
  refine va_sld hx hb hX hbl hbA hS (by unfold vp_in; decide +kernel) dL_law_1132 ?_
  refine lv_topi (fun z_10 ez_10 => ?_)
  obtain rfl : p2 = z_10 := (ez_10.trans e2).symm
  have hPc := hP.sub (ws' := [(qm, .inr (17, [.ref lp, .null, .null, .int 0, .int 0, .ref m1, .ref m2, .ref m3, .ref m4, .ref m5, .null, .null, .int 0, .ref m6, .int 0, .int 0, .int 0, .long 0, .null, .ref m7, .ref m8, .int 0, .int 0, .long 0])), (lp, .inr (0, [.int 0, .ref te, .int 0]))]) [0, 1] rfl
  have hDc := hD.sub (ws' := [(qm, .inr (17, [.ref lp, .null, .null, .int 0, .int 0, .ref m1, .ref m2, .ref m3, .ref m4, .ref m5, .null, .null, .int 0, .ref m6, .int 0, .int 0, .int 0, .long 0, .null, .ref m7, .ref m8, .int 0, .int 0, .long 0])), (lp, .inr (0, [.int 0, .ref te, .int 0]))]) [0, 1] (by decide) rfl
  have hKc := hK.sub (tys' := []) [] rfl
  have hFc := va_free (wc := [(qm, .inr (17, [.ref lp, .null, .null, .int 0, .int 0, .ref m1, .ref m2, .ref m3, .ref m4, .ref m5, .null, .null, .int 0, .ref m6, .int 0, .int 0, .int 0, .long 0, .null, .ref m7, .ref m8, .int 0, .int 0, .long 0])), (lp, .inr (0, [.int 0, .ref te, .int 0]))]) hD hS hA [0, 1] rfl
  refine va_calll (va_runV (As := [.int p1, .int p2]) (rest := []) ⟨hx, hb, hml, hown, hts⟩ (c_M_order l dC dI tp te H_5.size qm lp m1 m2 m3 m4 m5 m6 m7 m8 p1 p2) (cwV 2 hts g_law_174_M_order rfl rfl rfl (by decide +kernel) ⟨Nat.le_of_ble_eq_true rfl, Nat.le_of_ble_eq_true rfl⟩) ⟨Pw.blind, va_recv hKc hPc (ci := 17) (q0 := 0) rfl rfl, Pw.mk hPc hKc hDc hG hS hFc⟩ rfl rfl hl.1 rfl (lv_room (Nat.le_of_ble_eq_true rfl)) dL_law_1133 ⟨Nat.le_of_ble_eq_true rfl, Nat.le_of_ble_eq_true rfl⟩) hS (fun q _ h => hFc q h) hFc (fun r u t9 H_11 locs ht hvm hw hB hz1 hk1 hS => ?_)
  have hw : r = 0 := hw
  subst hw
  obtain ⟨hP1, hK1, hD1⟩ := hB
  rw [ht] at hP1
  have hK1 := va_K.moved hvm.symm hK1
  obtain ⟨hP, hD⟩ := va_join (wr := []) (w1 := [(qm, .inr (17, [.ref lp, .null, .null, .int 0, .int 1, .ref m1, .ref m2, .ref m3, .ref m4, .ref m5, .null, .null, .int 0, .ref m6, .int 0, .int 0, .int 0, .long 0, .null, .ref m7, .ref m8, .int 0, .int 0, .long 0]))]) hP hD [0, 1] [] rfl rfl (by decide) (by decide) hk1 hFc hP1 hD1
  have hK := (hK.sub (tys' := []) [] rfl).app hK1
  have hP : va_P (dC, dI) vwCl [(qm, .inr (17, [.ref lp, .null, .null, .int 0, .int 1, .ref m1, .ref m2, .ref m3, .ref m4, .ref m5, .null, .null, .int 0, .ref m6, .int 0, .int 0, .int 0, .long 0, .null, .ref m7, .ref m8, .int 0, .int 0, .long 0]))] H_11 := hP
  have hD : va_D A [(qm, .inr (17, [.ref lp, .null, .null, .int 0, .int 1, .ref m1, .ref m2, .ref m3, .ref m4, .ref m5, .null, .null, .int 0, .ref m6, .int 0, .int 0, .int 0, .long 0, .null, .ref m7, .ref m8, .int 0, .int 0, .long 0]))] := hD
  have hK : va_K (dC, dI) vwCl [] s := hK
  refine W.widen (k := 90) (n := 78009) (Nat.le_of_ble_eq_true rfl) (Nat.le_of_ble_eq_true rfl) ?_
  refine lv_lstore (lv' := [(6, .long 0), (5, .int 1), (4, .int 0), (3, .ref qo), (2, .ref qm), (1, .ref qx), (0, .ref b)]) hx hb dL_law_1136 hl (by decide) rfl (fun ls hl => ?_)
  refine lv_aload_n hx hb dL_law_1138 rfl (lv_at hl 4 rfl) ?_
  have hPc := hP.sub (ws' := [(qm, .inr (17, [.ref lp, .null, .null, .int 0, .int 1, .ref m1, .ref m2, .ref m3, .ref m4, .ref m5, .null, .null, .int 0, .ref m6, .int 0, .int 0, .int 0, .long 0, .null, .ref m7, .ref m8, .int 0, .int 0, .long 0]))]) [0] rfl
  have hDc := hD.sub (ws' := [(qm, .inr (17, [.ref lp, .null, .null, .int 0, .int 1, .ref m1, .ref m2, .ref m3, .ref m4, .ref m5, .null, .null, .int 0, .ref m6, .int 0, .int 0, .int 0, .long 0, .null, .ref m7, .ref m8, .int 0, .int 0, .long 0]))]) [0] (by decide) rfl
  have hKc := hK.sub (tys' := []) [] rfl
  have hFc := va_free (wc := [(qm, .inr (17, [.ref lp, .null, .null, .int 0, .int 1, .ref m1, .ref m2, .ref m3, .ref m4, .ref m5, .null, .null, .int 0, .ref m6, .int 0, .int 0, .int 0, .long 0, .null, .ref m7, .ref m8, .int 0, .int 0, .long 0]))]) hD hS hA [0] rfl
  refine va_calli (va_runV (As := []) (rest := []) ⟨hx, hb, hml, hown, hts⟩ (c_thrown l dC dI tp te H_11.size qm lp m1 m2 m3 m4 m5 m6 m7 m8 1) (cwV 0 hts g_law_113_thrown rfl rfl rfl (by decide +kernel) ⟨Nat.le_of_ble_eq_true rfl, Nat.le_of_ble_eq_true rfl⟩) ⟨Pw.blind, va_recv hKc hPc (ci := 17) (q0 := 0) rfl rfl, Pw.mk hPc hKc hDc hG hS hFc⟩ rfl rfl hl.1 rfl (lv_room (Nat.le_of_ble_eq_true rfl)) dL_law_1139 ⟨Nat.le_of_ble_eq_true rfl, Nat.le_of_ble_eq_true rfl⟩) hS (fun q _ h => hFc q h) hFc (fun r u t9 H_13 locs ht hvm hw hB hz1 hk1 hS => ?_)
  have hw : r = 1 := hw
  subst hw
  obtain ⟨hP1, hK1, hD1⟩ := hB
  rw [ht] at hP1
  have hK1 := va_K.moved hvm.symm hK1
  obtain ⟨hP, hD⟩ := va_join (wr := []) (w1 := [(qm, .inr (17, [.ref lp, .null, .null, .int 0, .int 1, .ref m1, .ref m2, .ref m3, .ref m4, .ref m5, .null, .null, .int 0, .ref m6, .int 0, .int 0, .int 0, .long 0, .null, .ref m7, .ref m8, .int 0, .int 0, .long 0]))]) hP hD [0] [] rfl rfl (by decide) (by decide) hk1 hFc hP1 hD1
  have hK := (hK.sub (tys' := []) [] rfl).app hK1
  have hP : va_P (dC, dI) vwCl [(qm, .inr (17, [.ref lp, .null, .null, .int 0, .int 1, .ref m1, .ref m2, .ref m3, .ref m4, .ref m5, .null, .null, .int 0, .ref m6, .int 0, .int 0, .int 0, .long 0, .null, .ref m7, .ref m8, .int 0, .int 0, .long 0]))] H_13 := hP
  have hD : va_D A [(qm, .inr (17, [.ref lp, .null, .null, .int 0, .int 1, .ref m1, .ref m2, .ref m3, .ref m4, .ref m5, .null, .null, .int 0, .ref m6, .int 0, .int 0, .int 0, .long 0, .null, .ref m7, .ref m8, .int 0, .int 0, .long 0]))] := hD
  have hK : va_K (dC, dI) vwCl [] s := hK
  refine W.widen (k := 90) (n := 78009) (Nat.le_of_ble_eq_true rfl) (Nat.le_of_ble_eq_true rfl) ?_
  refine lv_iload hx hb dL_law_1142 (lv_at hl 1 rfl) ?_
  refine lv_icmp_eq (tgt := 1149) hx hb dL_law_1144 (by decide) (fun c9 => ?_) (fun c9 => absurd (by decide) c9)
  refine lv_iload hx hb dL_law_1149 (lv_at hl 1 rfl) ?_
  refine lv_if_ne (tgt := 1165) hx hb dL_law_1151 (by decide) (fun c9 => ?_) (fun c9 => absurd c9 (by decide))
  refine lv_goto (tgt := 1569) hx hb dL_law_1165 (by decide) ?_
  exact lc_next C0 hAA hS (lv_sub hl [6, 2] rfl) (Nat.le_of_ble_eq_true rfl) (Nat.le_of_ble_eq_true rfl)
set_option maxHeartbeats 4000000 in
set_option maxRecDepth 100000 in
theorem lc_stop {p : Program} {l : Launch} {e : Env} {s : State} {m : MethodId} {below : List Frame} {meth : Method} {c : Code} (hlt : l.stackTraces = false) {b : Nat} {xs : Nat → Int32} (C0 : lw_At p s m meth c b 3 xs) {A : Nat → Prop} (hAA : A = fun q : Nat => s.heap.size ≤ q) {dC : Nat → ClassId} {dI : Nat → Nat → Nat} {tp te : Nat} (hG : gx tp te A s s.heap) {qx rp rt rc r1 r2 r3 r4 a1 a2 a3 a4 a5 a6 a7 t1 t2 t3 t4 t5 t6 t7 c1 c2 c3 c4 c5 c6 c7 qm lp m1 m2 m3 m4 m5 m6 m7 m8 qo : Nat} {k1 k2 k3 k4 k5 k6 k7 ko : ClassId} {H : Heap} {locs : List Loc} (hK : va_K (dC, dI) vwCl [(k1, .int), (k2, .int), (k3, .int), (k4, .long), (k5, .int), (k6, .int), (k7, .int), (ko, .long)] s) (hP : va_P (dC, dI) vwCl [(qx, .inr (8, [.ref rp, .int 0, .ref rt, .ref rc, .int ((-1)), .ref r1, .ref r2, .ref r3, .ref r4, .null, .int 0])), (rp, .inr (6, [.ref a1, .ref a2, .ref a3, .ref a4, .ref a5, .ref a6, .ref a7, .int 0])), (a1, .inl (k1, 1200, .inl (fun _ => 0))), (a2, .inl (k2, 1200, .inl (fun _ => 0))), (a3, .inl (k3, 1200, .inl (fun _ => 0))), (a4, .inl (k4, 1200, .inr (.inl (fun _ => 0)))), (a5, .inl (k5, 1200, .inl (fun _ => 0))), (a6, .inl (k6, 1200, .inl (fun _ => 0))), (a7, .inl (k7, 1200, .inl (fun _ => 0))), (rt, .inr (6, [.ref t1, .ref t2, .ref t3, .ref t4, .ref t5, .ref t6, .ref t7, .int 0])), (rc, .inr (6, [.ref c1, .ref c2, .ref c3, .ref c4, .ref c5, .ref c6, .ref c7, .int 0])), (qm, .inr (17, [.ref lp, .null, .null, .int 0, .int 0, .ref m1, .ref m2, .ref m3, .ref m4, .ref m5, .null, .null, .int 0, .ref m6, .int 0, .int 0, .int 0, .long 0, .null, .ref m7, .ref m8, .int 0, .int 0, .long 0])), (lp, .inr (0, [.int 0, .ref te, .int 0])), (qo, .inl (ko, 1, .inr (.inl (fun _ => 0))))] H) (hD : va_D A [(qx, .inr (8, [.ref rp, .int 0, .ref rt, .ref rc, .int ((-1)), .ref r1, .ref r2, .ref r3, .ref r4, .null, .int 0])), (rp, .inr (6, [.ref a1, .ref a2, .ref a3, .ref a4, .ref a5, .ref a6, .ref a7, .int 0])), (a1, .inl (k1, 1200, .inl (fun _ => 0))), (a2, .inl (k2, 1200, .inl (fun _ => 0))), (a3, .inl (k3, 1200, .inl (fun _ => 0))), (a4, .inl (k4, 1200, .inr (.inl (fun _ => 0)))), (a5, .inl (k5, 1200, .inl (fun _ => 0))), (a6, .inl (k6, 1200, .inl (fun _ => 0))), (a7, .inl (k7, 1200, .inl (fun _ => 0))), (rt, .inr (6, [.ref t1, .ref t2, .ref t3, .ref t4, .ref t5, .ref t6, .ref t7, .int 0])), (rc, .inr (6, [.ref c1, .ref c2, .ref c3, .ref c4, .ref c5, .ref c6, .ref c7, .int 0])), (qm, .inr (17, [.ref lp, .null, .null, .int 0, .int 0, .ref m1, .ref m2, .ref m3, .ref m4, .ref m5, .null, .null, .int 0, .ref m6, .int 0, .int 0, .int 0, .long 0, .null, .ref m7, .ref m8, .int 0, .int 0, .long 0])), (lp, .inr (0, [.int 0, .ref te, .int 0])), (qo, .inl (ko, 1, .inr (.inl (fun _ => 0))))]) (hS : va_S A s.heap H locs) {ls : Array Slot} (hl : lv_has ls 8 [(4, .int 0), (3, .ref qo), (2, .ref qm), (1, .ref qx), (0, .ref b)]) (p1 p2 : Int32) (e1 : xs (1 : Int32).toNatClampNeg = p1) (e2 : xs (2 : Int32).toNatClampNeg = p2)  : W p l e room_1 s m #[Value.ref b] below meth c H locs 89 78003 (lw_Z below #[Value.ref b] s) (F0 m 1168 ls []) := by
  obtain ⟨hx, hb, hr, hml, hown, hts0, hX, hbl, hlocks, hgv⟩ := id C0
  have hts : ∀ w ∈ z_law, w.before #[Value.ref b] s = true := fun w h => hts0 w (z_law_in w h)
  have hown : s.vm.findClass RL = some m.cls := hown
  have hA : ∀ q : Nat, s.heap.size ≤ q → A q := fun q h => by rw [hAA]; exact h
  have hbA : ¬ A b := by rw [hAA]; exact Nat.not_le.mpr hbl
  have hP := hP.sub (ws' := [(qx, .inr (8, [.ref rp, .int 0, .ref rt, .ref rc, .int ((-1)), .ref r1, .ref r2, .ref r3, .ref r4, .null, .int 0])), (qm, .inr (17, [.ref lp, .null, .null, .int 0, .int 0, .ref m1, .ref m2, .ref m3, .ref m4, .ref m5, .null, .null, .int 0, .ref m6, .int 0, .int 0, .int 0, .long 0, .null, .ref m7, .ref m8, .int 0, .int 0, .long 0])), (lp, .inr (0, [.int 0, .ref te, .int 0]))]) [0, 11, 12] rfl
  have hD := hD.sub (ws' := [(qx, .inr (8, [.ref rp, .int 0, .ref rt, .ref rc, .int ((-1)), .ref r1, .ref r2, .ref r3, .ref r4, .null, .int 0])), (qm, .inr (17, [.ref lp, .null, .null, .int 0, .int 0, .ref m1, .ref m2, .ref m3, .ref m4, .ref m5, .null, .null, .int 0, .ref m6, .int 0, .int 0, .int 0, .long 0, .null, .ref m7, .ref m8, .int 0, .int 0, .long 0])), (lp, .inr (0, [.int 0, .ref te, .int 0]))]) [0, 11, 12] (by decide) rfl
  have hK := hK.sub (tys' := []) [] rfl
  have hP : va_P (dC, dI) vwCl [(qx, .inr (8, [.ref rp, .int 0, .ref rt, .ref rc, .int ((-1)), .ref r1, .ref r2, .ref r3, .ref r4, .null, .int 0])), (qm, .inr (17, [.ref lp, .null, .null, .int 0, .int 0, .ref m1, .ref m2, .ref m3, .ref m4, .ref m5, .null, .null, .int 0, .ref m6, .int 0, .int 0, .int 0, .long 0, .null, .ref m7, .ref m8, .int 0, .int 0, .long 0])), (lp, .inr (0, [.int 0, .ref te, .int 0]))] H := hP
  have hD : va_D A [(qx, .inr (8, [.ref rp, .int 0, .ref rt, .ref rc, .int ((-1)), .ref r1, .ref r2, .ref r3, .ref r4, .null, .int 0])), (qm, .inr (17, [.ref lp, .null, .null, .int 0, .int 0, .ref m1, .ref m2, .ref m3, .ref m4, .ref m5, .null, .null, .int 0, .ref m6, .int 0, .int 0, .int 0, .long 0, .null, .ref m7, .ref m8, .int 0, .int 0, .long 0])), (lp, .inr (0, [.int 0, .ref te, .int 0]))] := hD
  have hK : va_K (dC, dI) vwCl [] s := hK
  refine lv_aload_n hx hb dL_law_1168 rfl (lv_at hl 3 rfl) ?_
  refine lv_aload_n hx hb dL_law_1169 rfl (lv_at hl 4 rfl) ?_
  refine lv_iload hx hb dL_law_1170 (lv_at hl 0 rfl) ?_
  refine lv_iconst (v := 1) hx hb dL_law_1172 (by decide) ?_
  refine lv_iadd hx hb dL_law_1173 ?_
  refine lv_topi (fun z_1 ez_1 => ?_)
  obtain rfl : z_1 = 1 := ez_1.trans (by decide)
  refine va_sld hx hb hX hbl hbA hS (by unfold vp_in; decide +kernel) dL_law_1174 ?_
  refine lv_topi (fun z_2 ez_2 => ?_)
  obtain rfl : p1 = z_2 := (ez_2.trans e1).symm
  refine lv_aload_n hx hb dL_law_1175 rfl (lv_at hl 4 rfl) ?_
  refine lv_iload hx hb dL_law_1176 (lv_at hl 0 rfl) ?_
  refine lv_iconst (v := 2) hx hb dL_law_1178 (by decide) ?_
  refine lv_iadd hx hb dL_law_1179 ?_
  refine lv_topi (fun z_3 ez_3 => ?_)
  obtain rfl : z_3 = 2 := ez_3.trans (by decide)
  refine va_sld hx hb hX hbl hbA hS (by unfold vp_in; decide +kernel) dL_law_1180 ?_
  refine lv_topi (fun z_4 ez_4 => ?_)
  obtain rfl : p2 = z_4 := (ez_4.trans e2).symm
  refine lv_if_eq (tgt := 1188) hx hb dL_law_1181 (by decide) (fun c_5 => ?_) (fun c_5 => ?_)
  · skip
    refine lv_iconst (v := 0) hx hb dL_law_1188 (by decide) ?_
    refine lv_aload_n hx hb dL_law_1189 rfl (lv_at hl 1 rfl) ?_
    have hPc := hP.sub (ws' := [(qx, .inr (8, [.ref rp, .int 0, .ref rt, .ref rc, .int ((-1)), .ref r1, .ref r2, .ref r3, .ref r4, .null, .int 0]))]) [0] rfl
    have hDc := hD.sub (ws' := [(qx, .inr (8, [.ref rp, .int 0, .ref rt, .ref rc, .int ((-1)), .ref r1, .ref r2, .ref r3, .ref r4, .null, .int 0]))]) [0] (by decide) rfl
    have hKc := hK.sub (tys' := []) [] rfl
    have hFc := va_free (wc := [(qx, .inr (8, [.ref rp, .int 0, .ref rt, .ref rc, .int ((-1)), .ref r1, .ref r2, .ref r3, .ref r4, .null, .int 0]))]) hD hS hA [0] rfl
    refine vx_calli (vx_runSX (As := [.ref qx, .int p1, .int 0, .ref qo]) (rest := []) ⟨hx, hb, hml, hown, hts⟩ (c_L_stop l dC dI tp te H.size hlt qx rp rt rc r1 r2 r3 r4 p1 0 qo) (vx_cwSW 4 hts g_law_175_L_stop rfl rfl rfl (by decide +kernel) ⟨Nat.le_of_ble_eq_true rfl, Nat.le_of_ble_eq_true rfl⟩) ⟨Pw.blind, Pw.mk hPc hKc hDc hG hS hFc⟩ rfl rfl hl.1 rfl (lv_room (Nat.le_of_ble_eq_true rfl)) dL_law_1190 ⟨Nat.le_of_ble_eq_true rfl, Nat.le_of_ble_eq_true rfl⟩) hS (fun q _ h => hFc q h) hFc (fun q _ h => hFc q h) (fun E ce q9 u t9 H1 locs ht hvm hpx hBX hz1 hk1 hS hce hcv hcl => hpx.elim) (fun r u t9 H_6 locs ht hvm hw hB hz1 hk1 hS => ?_)
    have hw : r = 1 := hw
    subst hw
    obtain ⟨hP, hD⟩ := va_join (wr := [(qm, .inr (17, [.ref lp, .null, .null, .int 0, .int 0, .ref m1, .ref m2, .ref m3, .ref m4, .ref m5, .null, .null, .int 0, .ref m6, .int 0, .int 0, .int 0, .long 0, .null, .ref m7, .ref m8, .int 0, .int 0, .long 0])), (lp, .inr (0, [.int 0, .ref te, .int 0]))]) (w1 := []) hP hD [0] [1, 2] rfl rfl (by decide) (by decide) hk1 hFc va_P.nil va_D.nil
    have hK := hK.sub (tys' := []) [] rfl
    have hP : va_P (dC, dI) vwCl [(qm, .inr (17, [.ref lp, .null, .null, .int 0, .int 0, .ref m1, .ref m2, .ref m3, .ref m4, .ref m5, .null, .null, .int 0, .ref m6, .int 0, .int 0, .int 0, .long 0, .null, .ref m7, .ref m8, .int 0, .int 0, .long 0])), (lp, .inr (0, [.int 0, .ref te, .int 0]))] H_6 := hP
    have hD : va_D A [(qm, .inr (17, [.ref lp, .null, .null, .int 0, .int 0, .ref m1, .ref m2, .ref m3, .ref m4, .ref m5, .null, .null, .int 0, .ref m6, .int 0, .int 0, .int 0, .long 0, .null, .ref m7, .ref m8, .int 0, .int 0, .long 0])), (lp, .inr (0, [.int 0, .ref te, .int 0]))] := hD
    have hK : va_K (dC, dI) vwCl [] s := hK
    refine W.widen (k := 90) (n := 78009) (Nat.le_of_ble_eq_true rfl) (Nat.le_of_ble_eq_true rfl) ?_
    refine lv_istore (lv' := [(5, .int 1), (4, .int 0), (3, .ref qo), (2, .ref qm), (1, .ref qx), (0, .ref b)]) hx hb dL_law_1193 hl (by decide) rfl (fun ls hl => ?_)
    refine lv_aload_n hx hb dL_law_1195 rfl (lv_at hl 3 rfl) ?_
    refine lv_aload_n hx hb dL_law_1196 rfl (lv_at hl 5 rfl) ?_
    refine lv_iload hx hb dL_law_1197 (lv_at hl 1 rfl) ?_
    refine lv_iconst (v := 1) hx hb dL_law_1199 (by decide) ?_
    refine lv_iadd hx hb dL_law_1200 ?_
    refine lv_topi (fun z_8 ez_8 => ?_)
    obtain rfl : z_8 = 1 := ez_8.trans (by decide)
    refine va_sld hx hb hX hbl hbA hS (by unfold vp_in; decide +kernel) dL_law_1201 ?_
    refine lv_topi (fun z_9 ez_9 => ?_)
    obtain rfl : p1 = z_9 := (ez_9.trans e1).symm
    refine lv_aload_n hx hb dL_law_1202 rfl (lv_at hl 5 rfl) ?_
    refine lv_iload hx hb dL_law_1203 (lv_at hl 1 rfl) ?_
    refine lv_iconst (v := 2) hx hb dL_law_1205 (by decide) ?_
    refine lv_iadd hx hb dL_law_1206 ?_
    refine lv_topi (fun z_10 ez_10 => ?_)
    obtain rfl : z_10 = 2 := ez_10.trans (by decide)
    refine va_sld hx hb hX hbl hbA hS (by unfold vp_in; decide +kernel) dL_law_1207 ?_
    refine lv_topi (fun z_11 ez_11 => ?_)
    obtain rfl : p2 = z_11 := (ez_11.trans e2).symm
    refine lv_if_eq (tgt := 1215) hx hb dL_law_1208 (by decide) (fun c9 => ?_) (fun c9 => absurd c_5 c9)
    refine lv_iconst (v := 0) hx hb dL_law_1215 (by decide) ?_
    have hPc := hP.sub (ws' := [(qm, .inr (17, [.ref lp, .null, .null, .int 0, .int 0, .ref m1, .ref m2, .ref m3, .ref m4, .ref m5, .null, .null, .int 0, .ref m6, .int 0, .int 0, .int 0, .long 0, .null, .ref m7, .ref m8, .int 0, .int 0, .long 0])), (lp, .inr (0, [.int 0, .ref te, .int 0]))]) [0, 1] rfl
    have hDc := hD.sub (ws' := [(qm, .inr (17, [.ref lp, .null, .null, .int 0, .int 0, .ref m1, .ref m2, .ref m3, .ref m4, .ref m5, .null, .null, .int 0, .ref m6, .int 0, .int 0, .int 0, .long 0, .null, .ref m7, .ref m8, .int 0, .int 0, .long 0])), (lp, .inr (0, [.int 0, .ref te, .int 0]))]) [0, 1] (by decide) rfl
    have hKc := hK.sub (tys' := []) [] rfl
    have hFc := va_free (wc := [(qm, .inr (17, [.ref lp, .null, .null, .int 0, .int 0, .ref m1, .ref m2, .ref m3, .ref m4, .ref m5, .null, .null, .int 0, .ref m6, .int 0, .int 0, .int 0, .long 0, .null, .ref m7, .ref m8, .int 0, .int 0, .long 0])), (lp, .inr (0, [.int 0, .ref te, .int 0]))]) hD hS hA [0, 1] rfl
    refine va_calli (va_runV (As := [.int p1, .int 0]) (rest := []) ⟨hx, hb, hml, hown, hts⟩ (c_M_stop l dC dI tp te H_6.size qm lp m1 m2 m3 m4 m5 m6 m7 m8 p1 0) (cwV 2 hts g_law_178_M_stop rfl rfl rfl (by decide +kernel) ⟨Nat.le_of_ble_eq_true rfl, Nat.le_of_ble_eq_true rfl⟩) ⟨Pw.blind, va_recv hKc hPc (ci := 17) (q0 := 0) rfl rfl, Pw.mk hPc hKc hDc hG hS hFc⟩ rfl rfl hl.1 rfl (lv_room (Nat.le_of_ble_eq_true rfl)) dL_law_1216 ⟨Nat.le_of_ble_eq_true rfl, Nat.le_of_ble_eq_true rfl⟩) hS (fun q _ h => hFc q h) hFc (fun r u t9 H_12 locs ht hvm hw hB hz1 hk1 hS => ?_)
    have hw : r = 0 := hw
    subst hw
    obtain ⟨hP1, hK1, hD1⟩ := hB
    rw [ht] at hP1
    have hK1 := va_K.moved hvm.symm hK1
    obtain ⟨hP, hD⟩ := va_join (wr := []) (w1 := [(qm, .inr (17, [.ref lp, .null, .null, .int 0, .int 1, .ref m1, .ref m2, .ref m3, .ref m4, .ref m5, .null, .null, .int 0, .ref m6, .int 0, .int 0, .int 0, .long 0, .null, .ref m7, .ref m8, .int 0, .int 0, .long 0]))]) hP hD [0, 1] [] rfl rfl (by decide) (by decide) hk1 hFc hP1 hD1
    have hK := (hK.sub (tys' := []) [] rfl).app hK1
    have hP : va_P (dC, dI) vwCl [(qm, .inr (17, [.ref lp, .null, .null, .int 0, .int 1, .ref m1, .ref m2, .ref m3, .ref m4, .ref m5, .null, .null, .int 0, .ref m6, .int 0, .int 0, .int 0, .long 0, .null, .ref m7, .ref m8, .int 0, .int 0, .long 0]))] H_12 := hP
    have hD : va_D A [(qm, .inr (17, [.ref lp, .null, .null, .int 0, .int 1, .ref m1, .ref m2, .ref m3, .ref m4, .ref m5, .null, .null, .int 0, .ref m6, .int 0, .int 0, .int 0, .long 0, .null, .ref m7, .ref m8, .int 0, .int 0, .long 0]))] := hD
    have hK : va_K (dC, dI) vwCl [] s := hK
    refine W.widen (k := 90) (n := 78009) (Nat.le_of_ble_eq_true rfl) (Nat.le_of_ble_eq_true rfl) ?_
    refine lv_istore (lv' := [(6, .int 0), (5, .int 1), (4, .int 0), (3, .ref qo), (2, .ref qm), (1, .ref qx), (0, .ref b)]) hx hb dL_law_1219 hl (by decide) rfl (fun ls hl => ?_)
    refine lv_aload_n hx hb dL_law_1221 rfl (lv_at hl 4 rfl) ?_
    have hPc := hP.sub (ws' := [(qm, .inr (17, [.ref lp, .null, .null, .int 0, .int 1, .ref m1, .ref m2, .ref m3, .ref m4, .ref m5, .null, .null, .int 0, .ref m6, .int 0, .int 0, .int 0, .long 0, .null, .ref m7, .ref m8, .int 0, .int 0, .long 0]))]) [0] rfl
    have hDc := hD.sub (ws' := [(qm, .inr (17, [.ref lp, .null, .null, .int 0, .int 1, .ref m1, .ref m2, .ref m3, .ref m4, .ref m5, .null, .null, .int 0, .ref m6, .int 0, .int 0, .int 0, .long 0, .null, .ref m7, .ref m8, .int 0, .int 0, .long 0]))]) [0] (by decide) rfl
    have hKc := hK.sub (tys' := []) [] rfl
    have hFc := va_free (wc := [(qm, .inr (17, [.ref lp, .null, .null, .int 0, .int 1, .ref m1, .ref m2, .ref m3, .ref m4, .ref m5, .null, .null, .int 0, .ref m6, .int 0, .int 0, .int 0, .long 0, .null, .ref m7, .ref m8, .int 0, .int 0, .long 0]))]) hD hS hA [0] rfl
    refine va_calli (va_runV (As := []) (rest := []) ⟨hx, hb, hml, hown, hts⟩ (c_thrown l dC dI tp te H_12.size qm lp m1 m2 m3 m4 m5 m6 m7 m8 1) (cwV 0 hts g_law_113_thrown rfl rfl rfl (by decide +kernel) ⟨Nat.le_of_ble_eq_true rfl, Nat.le_of_ble_eq_true rfl⟩) ⟨Pw.blind, va_recv hKc hPc (ci := 17) (q0 := 0) rfl rfl, Pw.mk hPc hKc hDc hG hS hFc⟩ rfl rfl hl.1 rfl (lv_room (Nat.le_of_ble_eq_true rfl)) dL_law_1222 ⟨Nat.le_of_ble_eq_true rfl, Nat.le_of_ble_eq_true rfl⟩) hS (fun q _ h => hFc q h) hFc (fun r u t9 H_14 locs ht hvm hw hB hz1 hk1 hS => ?_)
    have hw : r = 1 := hw
    subst hw
    obtain ⟨hP1, hK1, hD1⟩ := hB
    rw [ht] at hP1
    have hK1 := va_K.moved hvm.symm hK1
    obtain ⟨hP, hD⟩ := va_join (wr := []) (w1 := [(qm, .inr (17, [.ref lp, .null, .null, .int 0, .int 1, .ref m1, .ref m2, .ref m3, .ref m4, .ref m5, .null, .null, .int 0, .ref m6, .int 0, .int 0, .int 0, .long 0, .null, .ref m7, .ref m8, .int 0, .int 0, .long 0]))]) hP hD [0] [] rfl rfl (by decide) (by decide) hk1 hFc hP1 hD1
    have hK := (hK.sub (tys' := []) [] rfl).app hK1
    have hP : va_P (dC, dI) vwCl [(qm, .inr (17, [.ref lp, .null, .null, .int 0, .int 1, .ref m1, .ref m2, .ref m3, .ref m4, .ref m5, .null, .null, .int 0, .ref m6, .int 0, .int 0, .int 0, .long 0, .null, .ref m7, .ref m8, .int 0, .int 0, .long 0]))] H_14 := hP
    have hD : va_D A [(qm, .inr (17, [.ref lp, .null, .null, .int 0, .int 1, .ref m1, .ref m2, .ref m3, .ref m4, .ref m5, .null, .null, .int 0, .ref m6, .int 0, .int 0, .int 0, .long 0, .null, .ref m7, .ref m8, .int 0, .int 0, .long 0]))] := hD
    have hK : va_K (dC, dI) vwCl [] s := hK
    refine W.widen (k := 90) (n := 78009) (Nat.le_of_ble_eq_true rfl) (Nat.le_of_ble_eq_true rfl) ?_
    refine lv_iload hx hb dL_law_1225 (lv_at hl 1 rfl) ?_
    refine lv_icmp_eq (tgt := 1232) hx hb dL_law_1227 (by decide) (fun c9 => ?_) (fun c9 => absurd (by decide) c9)
    refine lv_iload hx hb dL_law_1232 (lv_at hl 1 rfl) ?_
    refine lv_if_ne (tgt := 1256) hx hb dL_law_1234 (by decide) (fun c9 => ?_) (fun c9 => absurd c9 (by decide))
    refine lv_goto (tgt := 1569) hx hb dL_law_1256 (by decide) ?_
    exact lc_next C0 hAA hS (lv_sub hl [6, 2] rfl) (Nat.le_of_ble_eq_true rfl) (Nat.le_of_ble_eq_true rfl)
  · skip
    refine lv_iconst (v := 1) hx hb dL_law_1184 (by decide) ?_
    refine lv_goto (tgt := 1189) hx hb dL_law_1185 (by decide) ?_
    refine lv_aload_n hx hb dL_law_1189 rfl (lv_at hl 1 rfl) ?_
    have hPc := hP.sub (ws' := [(qx, .inr (8, [.ref rp, .int 0, .ref rt, .ref rc, .int ((-1)), .ref r1, .ref r2, .ref r3, .ref r4, .null, .int 0]))]) [0] rfl
    have hDc := hD.sub (ws' := [(qx, .inr (8, [.ref rp, .int 0, .ref rt, .ref rc, .int ((-1)), .ref r1, .ref r2, .ref r3, .ref r4, .null, .int 0]))]) [0] (by decide) rfl
    have hKc := hK.sub (tys' := []) [] rfl
    have hFc := va_free (wc := [(qx, .inr (8, [.ref rp, .int 0, .ref rt, .ref rc, .int ((-1)), .ref r1, .ref r2, .ref r3, .ref r4, .null, .int 0]))]) hD hS hA [0] rfl
    refine vx_calli (vx_runSX (As := [.ref qx, .int p1, .int 1, .ref qo]) (rest := []) ⟨hx, hb, hml, hown, hts⟩ (c_L_stop l dC dI tp te H.size hlt qx rp rt rc r1 r2 r3 r4 p1 1 qo) (vx_cwSW 4 hts g_law_175_L_stop rfl rfl rfl (by decide +kernel) ⟨Nat.le_of_ble_eq_true rfl, Nat.le_of_ble_eq_true rfl⟩) ⟨Pw.blind, Pw.mk hPc hKc hDc hG hS hFc⟩ rfl rfl hl.1 rfl (lv_room (Nat.le_of_ble_eq_true rfl)) dL_law_1190 ⟨Nat.le_of_ble_eq_true rfl, Nat.le_of_ble_eq_true rfl⟩) hS (fun q _ h => hFc q h) hFc (fun q _ h => hFc q h) (fun E ce q9 u t9 H1 locs ht hvm hpx hBX hz1 hk1 hS hce hcv hcl => hpx.elim) (fun r u t9 H_16 locs ht hvm hw hB hz1 hk1 hS => ?_)
    have hw : r = 1 := hw
    subst hw
    obtain ⟨hP, hD⟩ := va_join (wr := [(qm, .inr (17, [.ref lp, .null, .null, .int 0, .int 0, .ref m1, .ref m2, .ref m3, .ref m4, .ref m5, .null, .null, .int 0, .ref m6, .int 0, .int 0, .int 0, .long 0, .null, .ref m7, .ref m8, .int 0, .int 0, .long 0])), (lp, .inr (0, [.int 0, .ref te, .int 0]))]) (w1 := []) hP hD [0] [1, 2] rfl rfl (by decide) (by decide) hk1 hFc va_P.nil va_D.nil
    have hK := hK.sub (tys' := []) [] rfl
    have hP : va_P (dC, dI) vwCl [(qm, .inr (17, [.ref lp, .null, .null, .int 0, .int 0, .ref m1, .ref m2, .ref m3, .ref m4, .ref m5, .null, .null, .int 0, .ref m6, .int 0, .int 0, .int 0, .long 0, .null, .ref m7, .ref m8, .int 0, .int 0, .long 0])), (lp, .inr (0, [.int 0, .ref te, .int 0]))] H_16 := hP
    have hD : va_D A [(qm, .inr (17, [.ref lp, .null, .null, .int 0, .int 0, .ref m1, .ref m2, .ref m3, .ref m4, .ref m5, .null, .null, .int 0, .ref m6, .int 0, .int 0, .int 0, .long 0, .null, .ref m7, .ref m8, .int 0, .int 0, .long 0])), (lp, .inr (0, [.int 0, .ref te, .int 0]))] := hD
    have hK : va_K (dC, dI) vwCl [] s := hK
    refine W.widen (k := 90) (n := 78009) (Nat.le_of_ble_eq_true rfl) (Nat.le_of_ble_eq_true rfl) ?_
    refine lv_istore (lv' := [(5, .int 1), (4, .int 0), (3, .ref qo), (2, .ref qm), (1, .ref qx), (0, .ref b)]) hx hb dL_law_1193 hl (by decide) rfl (fun ls hl => ?_)
    refine lv_aload_n hx hb dL_law_1195 rfl (lv_at hl 3 rfl) ?_
    refine lv_aload_n hx hb dL_law_1196 rfl (lv_at hl 5 rfl) ?_
    refine lv_iload hx hb dL_law_1197 (lv_at hl 1 rfl) ?_
    refine lv_iconst (v := 1) hx hb dL_law_1199 (by decide) ?_
    refine lv_iadd hx hb dL_law_1200 ?_
    refine lv_topi (fun z_18 ez_18 => ?_)
    obtain rfl : z_18 = 1 := ez_18.trans (by decide)
    refine va_sld hx hb hX hbl hbA hS (by unfold vp_in; decide +kernel) dL_law_1201 ?_
    refine lv_topi (fun z_19 ez_19 => ?_)
    obtain rfl : p1 = z_19 := (ez_19.trans e1).symm
    refine lv_aload_n hx hb dL_law_1202 rfl (lv_at hl 5 rfl) ?_
    refine lv_iload hx hb dL_law_1203 (lv_at hl 1 rfl) ?_
    refine lv_iconst (v := 2) hx hb dL_law_1205 (by decide) ?_
    refine lv_iadd hx hb dL_law_1206 ?_
    refine lv_topi (fun z_20 ez_20 => ?_)
    obtain rfl : z_20 = 2 := ez_20.trans (by decide)
    refine va_sld hx hb hX hbl hbA hS (by unfold vp_in; decide +kernel) dL_law_1207 ?_
    refine lv_topi (fun z_21 ez_21 => ?_)
    obtain rfl : p2 = z_21 := (ez_21.trans e2).symm
    refine lv_if_eq (tgt := 1215) hx hb dL_law_1208 (by decide) (fun c9 => absurd c9 c_5) (fun c9 => ?_)
    refine lv_iconst (v := 1) hx hb dL_law_1211 (by decide) ?_
    refine lv_goto (tgt := 1216) hx hb dL_law_1212 (by decide) ?_
    have hPc := hP.sub (ws' := [(qm, .inr (17, [.ref lp, .null, .null, .int 0, .int 0, .ref m1, .ref m2, .ref m3, .ref m4, .ref m5, .null, .null, .int 0, .ref m6, .int 0, .int 0, .int 0, .long 0, .null, .ref m7, .ref m8, .int 0, .int 0, .long 0])), (lp, .inr (0, [.int 0, .ref te, .int 0]))]) [0, 1] rfl
    have hDc := hD.sub (ws' := [(qm, .inr (17, [.ref lp, .null, .null, .int 0, .int 0, .ref m1, .ref m2, .ref m3, .ref m4, .ref m5, .null, .null, .int 0, .ref m6, .int 0, .int 0, .int 0, .long 0, .null, .ref m7, .ref m8, .int 0, .int 0, .long 0])), (lp, .inr (0, [.int 0, .ref te, .int 0]))]) [0, 1] (by decide) rfl
    have hKc := hK.sub (tys' := []) [] rfl
    have hFc := va_free (wc := [(qm, .inr (17, [.ref lp, .null, .null, .int 0, .int 0, .ref m1, .ref m2, .ref m3, .ref m4, .ref m5, .null, .null, .int 0, .ref m6, .int 0, .int 0, .int 0, .long 0, .null, .ref m7, .ref m8, .int 0, .int 0, .long 0])), (lp, .inr (0, [.int 0, .ref te, .int 0]))]) hD hS hA [0, 1] rfl
    refine va_calli (va_runV (As := [.int p1, .int 1]) (rest := []) ⟨hx, hb, hml, hown, hts⟩ (c_M_stop l dC dI tp te H_16.size qm lp m1 m2 m3 m4 m5 m6 m7 m8 p1 1) (cwV 2 hts g_law_178_M_stop rfl rfl rfl (by decide +kernel) ⟨Nat.le_of_ble_eq_true rfl, Nat.le_of_ble_eq_true rfl⟩) ⟨Pw.blind, va_recv hKc hPc (ci := 17) (q0 := 0) rfl rfl, Pw.mk hPc hKc hDc hG hS hFc⟩ rfl rfl hl.1 rfl (lv_room (Nat.le_of_ble_eq_true rfl)) dL_law_1216 ⟨Nat.le_of_ble_eq_true rfl, Nat.le_of_ble_eq_true rfl⟩) hS (fun q _ h => hFc q h) hFc (fun r u t9 H_22 locs ht hvm hw hB hz1 hk1 hS => ?_)
    have hw : r = 0 := hw
    subst hw
    obtain ⟨hP1, hK1, hD1⟩ := hB
    rw [ht] at hP1
    have hK1 := va_K.moved hvm.symm hK1
    obtain ⟨hP, hD⟩ := va_join (wr := []) (w1 := [(qm, .inr (17, [.ref lp, .null, .null, .int 0, .int 1, .ref m1, .ref m2, .ref m3, .ref m4, .ref m5, .null, .null, .int 0, .ref m6, .int 0, .int 0, .int 0, .long 0, .null, .ref m7, .ref m8, .int 0, .int 0, .long 0]))]) hP hD [0, 1] [] rfl rfl (by decide) (by decide) hk1 hFc hP1 hD1
    have hK := (hK.sub (tys' := []) [] rfl).app hK1
    have hP : va_P (dC, dI) vwCl [(qm, .inr (17, [.ref lp, .null, .null, .int 0, .int 1, .ref m1, .ref m2, .ref m3, .ref m4, .ref m5, .null, .null, .int 0, .ref m6, .int 0, .int 0, .int 0, .long 0, .null, .ref m7, .ref m8, .int 0, .int 0, .long 0]))] H_22 := hP
    have hD : va_D A [(qm, .inr (17, [.ref lp, .null, .null, .int 0, .int 1, .ref m1, .ref m2, .ref m3, .ref m4, .ref m5, .null, .null, .int 0, .ref m6, .int 0, .int 0, .int 0, .long 0, .null, .ref m7, .ref m8, .int 0, .int 0, .long 0]))] := hD
    have hK : va_K (dC, dI) vwCl [] s := hK
    refine W.widen (k := 90) (n := 78009) (Nat.le_of_ble_eq_true rfl) (Nat.le_of_ble_eq_true rfl) ?_
    refine lv_istore (lv' := [(6, .int 0), (5, .int 1), (4, .int 0), (3, .ref qo), (2, .ref qm), (1, .ref qx), (0, .ref b)]) hx hb dL_law_1219 hl (by decide) rfl (fun ls hl => ?_)
    refine lv_aload_n hx hb dL_law_1221 rfl (lv_at hl 4 rfl) ?_
    have hPc := hP.sub (ws' := [(qm, .inr (17, [.ref lp, .null, .null, .int 0, .int 1, .ref m1, .ref m2, .ref m3, .ref m4, .ref m5, .null, .null, .int 0, .ref m6, .int 0, .int 0, .int 0, .long 0, .null, .ref m7, .ref m8, .int 0, .int 0, .long 0]))]) [0] rfl
    have hDc := hD.sub (ws' := [(qm, .inr (17, [.ref lp, .null, .null, .int 0, .int 1, .ref m1, .ref m2, .ref m3, .ref m4, .ref m5, .null, .null, .int 0, .ref m6, .int 0, .int 0, .int 0, .long 0, .null, .ref m7, .ref m8, .int 0, .int 0, .long 0]))]) [0] (by decide) rfl
    have hKc := hK.sub (tys' := []) [] rfl
    have hFc := va_free (wc := [(qm, .inr (17, [.ref lp, .null, .null, .int 0, .int 1, .ref m1, .ref m2, .ref m3, .ref m4, .ref m5, .null, .null, .int 0, .ref m6, .int 0, .int 0, .int 0, .long 0, .null, .ref m7, .ref m8, .int 0, .int 0, .long 0]))]) hD hS hA [0] rfl
    refine va_calli (va_runV (As := []) (rest := []) ⟨hx, hb, hml, hown, hts⟩ (c_thrown l dC dI tp te H_22.size qm lp m1 m2 m3 m4 m5 m6 m7 m8 1) (cwV 0 hts g_law_113_thrown rfl rfl rfl (by decide +kernel) ⟨Nat.le_of_ble_eq_true rfl, Nat.le_of_ble_eq_true rfl⟩) ⟨Pw.blind, va_recv hKc hPc (ci := 17) (q0 := 0) rfl rfl, Pw.mk hPc hKc hDc hG hS hFc⟩ rfl rfl hl.1 rfl (lv_room (Nat.le_of_ble_eq_true rfl)) dL_law_1222 ⟨Nat.le_of_ble_eq_true rfl, Nat.le_of_ble_eq_true rfl⟩) hS (fun q _ h => hFc q h) hFc (fun r u t9 H_24 locs ht hvm hw hB hz1 hk1 hS => ?_)
    have hw : r = 1 := hw
    subst hw
    obtain ⟨hP1, hK1, hD1⟩ := hB
    rw [ht] at hP1
    have hK1 := va_K.moved hvm.symm hK1
    obtain ⟨hP, hD⟩ := va_join (wr := []) (w1 := [(qm, .inr (17, [.ref lp, .null, .null, .int 0, .int 1, .ref m1, .ref m2, .ref m3, .ref m4, .ref m5, .null, .null, .int 0, .ref m6, .int 0, .int 0, .int 0, .long 0, .null, .ref m7, .ref m8, .int 0, .int 0, .long 0]))]) hP hD [0] [] rfl rfl (by decide) (by decide) hk1 hFc hP1 hD1
    have hK := (hK.sub (tys' := []) [] rfl).app hK1
    have hP : va_P (dC, dI) vwCl [(qm, .inr (17, [.ref lp, .null, .null, .int 0, .int 1, .ref m1, .ref m2, .ref m3, .ref m4, .ref m5, .null, .null, .int 0, .ref m6, .int 0, .int 0, .int 0, .long 0, .null, .ref m7, .ref m8, .int 0, .int 0, .long 0]))] H_24 := hP
    have hD : va_D A [(qm, .inr (17, [.ref lp, .null, .null, .int 0, .int 1, .ref m1, .ref m2, .ref m3, .ref m4, .ref m5, .null, .null, .int 0, .ref m6, .int 0, .int 0, .int 0, .long 0, .null, .ref m7, .ref m8, .int 0, .int 0, .long 0]))] := hD
    have hK : va_K (dC, dI) vwCl [] s := hK
    refine W.widen (k := 90) (n := 78009) (Nat.le_of_ble_eq_true rfl) (Nat.le_of_ble_eq_true rfl) ?_
    refine lv_iload hx hb dL_law_1225 (lv_at hl 1 rfl) ?_
    refine lv_icmp_eq (tgt := 1232) hx hb dL_law_1227 (by decide) (fun c9 => ?_) (fun c9 => absurd (by decide) c9)
    refine lv_iload hx hb dL_law_1232 (lv_at hl 1 rfl) ?_
    refine lv_if_ne (tgt := 1256) hx hb dL_law_1234 (by decide) (fun c9 => ?_) (fun c9 => absurd c9 (by decide))
    refine lv_goto (tgt := 1569) hx hb dL_law_1256 (by decide) ?_
    exact lc_next C0 hAA hS (lv_sub hl [6, 2] rfl) (Nat.le_of_ble_eq_true rfl) (Nat.le_of_ble_eq_true rfl)
set_option maxHeartbeats 4000000 in
set_option maxRecDepth 100000 in
theorem lc_go_neg {p : Program} {l : Launch} {e : Env} {s : State} {m : MethodId} {below : List Frame} {meth : Method} {c : Code} (hlt : l.stackTraces = false) {b : Nat} {xs : Nat → Int32} (C0 : lw_At p s m meth c b 3 xs) {A : Nat → Prop} (hAA : A = fun q : Nat => s.heap.size ≤ q) {dC : Nat → ClassId} {dI : Nat → Nat → Nat} {tp te : Nat} (hG : gx tp te A s s.heap) {qx rp rt rc r1 r2 r3 r4 a1 a2 a3 a4 a5 a6 a7 t1 t2 t3 t4 t5 t6 t7 c1 c2 c3 c4 c5 c6 c7 qm lp m1 m2 m3 m4 m5 m6 m7 m8 qo : Nat} {k1 k2 k3 k4 k5 k6 k7 ko : ClassId} {H : Heap} {locs : List Loc} (hK : va_K (dC, dI) vwCl [(k1, .int), (k2, .int), (k3, .int), (k4, .long), (k5, .int), (k6, .int), (k7, .int), (ko, .long)] s) (hP : va_P (dC, dI) vwCl [(qx, .inr (8, [.ref rp, .int 0, .ref rt, .ref rc, .int ((-1)), .ref r1, .ref r2, .ref r3, .ref r4, .null, .int 0])), (rp, .inr (6, [.ref a1, .ref a2, .ref a3, .ref a4, .ref a5, .ref a6, .ref a7, .int 0])), (a1, .inl (k1, 1200, .inl (fun _ => 0))), (a2, .inl (k2, 1200, .inl (fun _ => 0))), (a3, .inl (k3, 1200, .inl (fun _ => 0))), (a4, .inl (k4, 1200, .inr (.inl (fun _ => 0)))), (a5, .inl (k5, 1200, .inl (fun _ => 0))), (a6, .inl (k6, 1200, .inl (fun _ => 0))), (a7, .inl (k7, 1200, .inl (fun _ => 0))), (rt, .inr (6, [.ref t1, .ref t2, .ref t3, .ref t4, .ref t5, .ref t6, .ref t7, .int 0])), (rc, .inr (6, [.ref c1, .ref c2, .ref c3, .ref c4, .ref c5, .ref c6, .ref c7, .int 0])), (qm, .inr (17, [.ref lp, .null, .null, .int 0, .int 0, .ref m1, .ref m2, .ref m3, .ref m4, .ref m5, .null, .null, .int 0, .ref m6, .int 0, .int 0, .int 0, .long 0, .null, .ref m7, .ref m8, .int 0, .int 0, .long 0])), (lp, .inr (0, [.int 0, .ref te, .int 0])), (qo, .inl (ko, 1, .inr (.inl (fun _ => 0))))] H) (hD : va_D A [(qx, .inr (8, [.ref rp, .int 0, .ref rt, .ref rc, .int ((-1)), .ref r1, .ref r2, .ref r3, .ref r4, .null, .int 0])), (rp, .inr (6, [.ref a1, .ref a2, .ref a3, .ref a4, .ref a5, .ref a6, .ref a7, .int 0])), (a1, .inl (k1, 1200, .inl (fun _ => 0))), (a2, .inl (k2, 1200, .inl (fun _ => 0))), (a3, .inl (k3, 1200, .inl (fun _ => 0))), (a4, .inl (k4, 1200, .inr (.inl (fun _ => 0)))), (a5, .inl (k5, 1200, .inl (fun _ => 0))), (a6, .inl (k6, 1200, .inl (fun _ => 0))), (a7, .inl (k7, 1200, .inl (fun _ => 0))), (rt, .inr (6, [.ref t1, .ref t2, .ref t3, .ref t4, .ref t5, .ref t6, .ref t7, .int 0])), (rc, .inr (6, [.ref c1, .ref c2, .ref c3, .ref c4, .ref c5, .ref c6, .ref c7, .int 0])), (qm, .inr (17, [.ref lp, .null, .null, .int 0, .int 0, .ref m1, .ref m2, .ref m3, .ref m4, .ref m5, .null, .null, .int 0, .ref m6, .int 0, .int 0, .int 0, .long 0, .null, .ref m7, .ref m8, .int 0, .int 0, .long 0])), (lp, .inr (0, [.int 0, .ref te, .int 0])), (qo, .inl (ko, 1, .inr (.inl (fun _ => 0))))]) (hS : va_S A s.heap H locs) {ls : Array Slot} (hl : lv_has ls 8 [(4, .int 0), (3, .ref qo), (2, .ref qm), (1, .ref qx), (0, .ref b)]) (p1 p2 : Int32) (e1 : xs (1 : Int32).toNatClampNeg = p1) (e2 : xs (2 : Int32).toNatClampNeg = p2) (hv0 : p1 < 1) : W p l e room_1 s m #[Value.ref b] below meth c H locs 89 78003 (lw_Z below #[Value.ref b] s) (F0 m 1259 ls []) := by
  obtain ⟨hx, hb, hr, hml, hown, hts0, hX, hbl, hlocks, hgv⟩ := id C0
  have hts : ∀ w ∈ z_law, w.before #[Value.ref b] s = true := fun w h => hts0 w (z_law_in w h)
  have hown : s.vm.findClass RL = some m.cls := hown
  have hA : ∀ q : Nat, s.heap.size ≤ q → A q := fun q h => by rw [hAA]; exact h
  have hbA : ¬ A b := by rw [hAA]; exact Nat.not_le.mpr hbl
  have hP := hP.sub (ws' := [(qx, .inr (8, [.ref rp, .int 0, .ref rt, .ref rc, .int ((-1)), .ref r1, .ref r2, .ref r3, .ref r4, .null, .int 0])), (qm, .inr (17, [.ref lp, .null, .null, .int 0, .int 0, .ref m1, .ref m2, .ref m3, .ref m4, .ref m5, .null, .null, .int 0, .ref m6, .int 0, .int 0, .int 0, .long 0, .null, .ref m7, .ref m8, .int 0, .int 0, .long 0])), (lp, .inr (0, [.int 0, .ref te, .int 0]))]) [0, 11, 12] rfl
  have hD := hD.sub (ws' := [(qx, .inr (8, [.ref rp, .int 0, .ref rt, .ref rc, .int ((-1)), .ref r1, .ref r2, .ref r3, .ref r4, .null, .int 0])), (qm, .inr (17, [.ref lp, .null, .null, .int 0, .int 0, .ref m1, .ref m2, .ref m3, .ref m4, .ref m5, .null, .null, .int 0, .ref m6, .int 0, .int 0, .int 0, .long 0, .null, .ref m7, .ref m8, .int 0, .int 0, .long 0])), (lp, .inr (0, [.int 0, .ref te, .int 0]))]) [0, 11, 12] (by decide) rfl
  have hK := hK.sub (tys' := []) [] rfl
  have hP : va_P (dC, dI) vwCl [(qx, .inr (8, [.ref rp, .int 0, .ref rt, .ref rc, .int ((-1)), .ref r1, .ref r2, .ref r3, .ref r4, .null, .int 0])), (qm, .inr (17, [.ref lp, .null, .null, .int 0, .int 0, .ref m1, .ref m2, .ref m3, .ref m4, .ref m5, .null, .null, .int 0, .ref m6, .int 0, .int 0, .int 0, .long 0, .null, .ref m7, .ref m8, .int 0, .int 0, .long 0])), (lp, .inr (0, [.int 0, .ref te, .int 0]))] H := hP
  have hD : va_D A [(qx, .inr (8, [.ref rp, .int 0, .ref rt, .ref rc, .int ((-1)), .ref r1, .ref r2, .ref r3, .ref r4, .null, .int 0])), (qm, .inr (17, [.ref lp, .null, .null, .int 0, .int 0, .ref m1, .ref m2, .ref m3, .ref m4, .ref m5, .null, .null, .int 0, .ref m6, .int 0, .int 0, .int 0, .long 0, .null, .ref m7, .ref m8, .int 0, .int 0, .long 0])), (lp, .inr (0, [.int 0, .ref te, .int 0]))] := hD
  have hK : va_K (dC, dI) vwCl [] s := hK
  refine lv_aload_n hx hb dL_law_1259 rfl (lv_at hl 3 rfl) ?_
  refine lv_aload_n hx hb dL_law_1260 rfl (lv_at hl 4 rfl) ?_
  refine lv_iload hx hb dL_law_1261 (lv_at hl 0 rfl) ?_
  refine lv_iconst (v := 1) hx hb dL_law_1263 (by decide) ?_
  refine lv_iadd hx hb dL_law_1264 ?_
  refine lv_topi (fun z_1 ez_1 => ?_)
  obtain rfl : z_1 = 1 := ez_1.trans (by decide)
  refine va_sld hx hb hX hbl hbA hS (by unfold vp_in; decide +kernel) dL_law_1265 ?_
  refine lv_topi (fun z_2 ez_2 => ?_)
  obtain rfl : p1 = z_2 := (ez_2.trans e1).symm
  refine lv_aload_n hx hb dL_law_1266 rfl (lv_at hl 1 rfl) ?_
  have hPc := hP.sub (ws' := [(qx, .inr (8, [.ref rp, .int 0, .ref rt, .ref rc, .int ((-1)), .ref r1, .ref r2, .ref r3, .ref r4, .null, .int 0]))]) [0] rfl
  have hDc := hD.sub (ws' := [(qx, .inr (8, [.ref rp, .int 0, .ref rt, .ref rc, .int ((-1)), .ref r1, .ref r2, .ref r3, .ref r4, .null, .int 0]))]) [0] (by decide) rfl
  have hKc := hK.sub (tys' := []) [] rfl
  have hFc := va_free (wc := [(qx, .inr (8, [.ref rp, .int 0, .ref rt, .ref rc, .int ((-1)), .ref r1, .ref r2, .ref r3, .ref r4, .null, .int 0]))]) hD hS hA [0] rfl
  refine vx_calli (vx_runSX (As := [.ref qx, .int p1, .ref qo]) (rest := []) ⟨hx, hb, hml, hown, hts⟩ (c_L_go_neg l dC dI tp te H.size hlt qx rp rt rc r1 r2 r3 r4 p1 qo hv0) (vx_cwSW 3 hts g_law_179_L_go_neg rfl rfl rfl (by decide +kernel) ⟨Nat.le_of_ble_eq_true rfl, Nat.le_of_ble_eq_true rfl⟩) ⟨Pw.blind, Pw.mk hPc hKc hDc hG hS hFc⟩ rfl rfl hl.1 rfl (lv_room (Nat.le_of_ble_eq_true rfl)) dL_law_1267 ⟨Nat.le_of_ble_eq_true rfl, Nat.le_of_ble_eq_true rfl⟩) hS (fun q _ h => hFc q h) hFc (fun q _ h => hFc q h) (fun E ce q9 u t9 H1 locs ht hvm hpx hBX hz1 hk1 hS hce hcv hcl => hpx.elim) (fun r u t9 H_3 locs ht hvm hw hB hz1 hk1 hS => ?_)
  have hw : r = 1 := hw
  subst hw
  obtain ⟨hP, hD⟩ := va_join (wr := [(qm, .inr (17, [.ref lp, .null, .null, .int 0, .int 0, .ref m1, .ref m2, .ref m3, .ref m4, .ref m5, .null, .null, .int 0, .ref m6, .int 0, .int 0, .int 0, .long 0, .null, .ref m7, .ref m8, .int 0, .int 0, .long 0])), (lp, .inr (0, [.int 0, .ref te, .int 0]))]) (w1 := []) hP hD [0] [1, 2] rfl rfl (by decide) (by decide) hk1 hFc va_P.nil va_D.nil
  have hK := hK.sub (tys' := []) [] rfl
  have hP : va_P (dC, dI) vwCl [(qm, .inr (17, [.ref lp, .null, .null, .int 0, .int 0, .ref m1, .ref m2, .ref m3, .ref m4, .ref m5, .null, .null, .int 0, .ref m6, .int 0, .int 0, .int 0, .long 0, .null, .ref m7, .ref m8, .int 0, .int 0, .long 0])), (lp, .inr (0, [.int 0, .ref te, .int 0]))] H_3 := hP
  have hD : va_D A [(qm, .inr (17, [.ref lp, .null, .null, .int 0, .int 0, .ref m1, .ref m2, .ref m3, .ref m4, .ref m5, .null, .null, .int 0, .ref m6, .int 0, .int 0, .int 0, .long 0, .null, .ref m7, .ref m8, .int 0, .int 0, .long 0])), (lp, .inr (0, [.int 0, .ref te, .int 0]))] := hD
  have hK : va_K (dC, dI) vwCl [] s := hK
  refine W.widen (k := 90) (n := 78009) (Nat.le_of_ble_eq_true rfl) (Nat.le_of_ble_eq_true rfl) ?_
  refine lv_istore (lv' := [(5, .int 1), (4, .int 0), (3, .ref qo), (2, .ref qm), (1, .ref qx), (0, .ref b)]) hx hb dL_law_1270 hl (by decide) rfl (fun ls hl => ?_)
  refine lv_aload_n hx hb dL_law_1272 rfl (lv_at hl 3 rfl) ?_
  refine lv_aload_n hx hb dL_law_1273 rfl (lv_at hl 5 rfl) ?_
  refine lv_iload hx hb dL_law_1274 (lv_at hl 1 rfl) ?_
  refine lv_iconst (v := 1) hx hb dL_law_1276 (by decide) ?_
  refine lv_iadd hx hb dL_law_1277 ?_
  refine lv_topi (fun z_5 ez_5 => ?_)
  obtain rfl : z_5 = 1 := ez_5.trans (by decide)
  refine va_sld hx hb hX hbl hbA hS (by unfold vp_in; decide +kernel) dL_law_1278 ?_
  refine lv_topi (fun z_6 ez_6 => ?_)
  obtain rfl : p1 = z_6 := (ez_6.trans e1).symm
  have hPc := hP.sub (ws' := [(qm, .inr (17, [.ref lp, .null, .null, .int 0, .int 0, .ref m1, .ref m2, .ref m3, .ref m4, .ref m5, .null, .null, .int 0, .ref m6, .int 0, .int 0, .int 0, .long 0, .null, .ref m7, .ref m8, .int 0, .int 0, .long 0])), (lp, .inr (0, [.int 0, .ref te, .int 0]))]) [0, 1] rfl
  have hDc := hD.sub (ws' := [(qm, .inr (17, [.ref lp, .null, .null, .int 0, .int 0, .ref m1, .ref m2, .ref m3, .ref m4, .ref m5, .null, .null, .int 0, .ref m6, .int 0, .int 0, .int 0, .long 0, .null, .ref m7, .ref m8, .int 0, .int 0, .long 0])), (lp, .inr (0, [.int 0, .ref te, .int 0]))]) [0, 1] (by decide) rfl
  have hKc := hK.sub (tys' := []) [] rfl
  have hFc := va_free (wc := [(qm, .inr (17, [.ref lp, .null, .null, .int 0, .int 0, .ref m1, .ref m2, .ref m3, .ref m4, .ref m5, .null, .null, .int 0, .ref m6, .int 0, .int 0, .int 0, .long 0, .null, .ref m7, .ref m8, .int 0, .int 0, .long 0])), (lp, .inr (0, [.int 0, .ref te, .int 0]))]) hD hS hA [0, 1] rfl
  refine va_calli (va_runV (As := [.int p1]) (rest := []) ⟨hx, hb, hml, hown, hts⟩ (c_M_go_neg l dC dI tp te H_3.size qm lp m1 m2 m3 m4 m5 m6 m7 m8 p1 hv0) (cwV 1 hts g_law_181_M_go_neg rfl rfl rfl (by decide +kernel) ⟨Nat.le_of_ble_eq_true rfl, Nat.le_of_ble_eq_true rfl⟩) ⟨Pw.blind, va_recv hKc hPc (ci := 17) (q0 := 0) rfl rfl, Pw.mk hPc hKc hDc hG hS hFc⟩ rfl rfl hl.1 rfl (lv_room (Nat.le_of_ble_eq_true rfl)) dL_law_1279 ⟨Nat.le_of_ble_eq_true rfl, Nat.le_of_ble_eq_true rfl⟩) hS (fun q _ h => hFc q h) hFc (fun r u t9 H_7 locs ht hvm hw hB hz1 hk1 hS => ?_)
  have hw : r = 0 := hw
  subst hw
  obtain ⟨hP1, hK1, hD1⟩ := hB
  rw [ht] at hP1
  have hK1 := va_K.moved hvm.symm hK1
  obtain ⟨hP, hD⟩ := va_join (wr := []) (w1 := [(qm, .inr (17, [.ref lp, .null, .null, .int 0, .int 1, .ref m1, .ref m2, .ref m3, .ref m4, .ref m5, .null, .null, .int 0, .ref m6, .int 0, .int 0, .int 0, .long 0, .null, .ref m7, .ref m8, .int 0, .int 0, .long 0]))]) hP hD [0, 1] [] rfl rfl (by decide) (by decide) hk1 hFc hP1 hD1
  have hK := (hK.sub (tys' := []) [] rfl).app hK1
  have hP : va_P (dC, dI) vwCl [(qm, .inr (17, [.ref lp, .null, .null, .int 0, .int 1, .ref m1, .ref m2, .ref m3, .ref m4, .ref m5, .null, .null, .int 0, .ref m6, .int 0, .int 0, .int 0, .long 0, .null, .ref m7, .ref m8, .int 0, .int 0, .long 0]))] H_7 := hP
  have hD : va_D A [(qm, .inr (17, [.ref lp, .null, .null, .int 0, .int 1, .ref m1, .ref m2, .ref m3, .ref m4, .ref m5, .null, .null, .int 0, .ref m6, .int 0, .int 0, .int 0, .long 0, .null, .ref m7, .ref m8, .int 0, .int 0, .long 0]))] := hD
  have hK : va_K (dC, dI) vwCl [] s := hK
  refine W.widen (k := 90) (n := 78009) (Nat.le_of_ble_eq_true rfl) (Nat.le_of_ble_eq_true rfl) ?_
  refine lv_istore (lv' := [(6, .int 0), (5, .int 1), (4, .int 0), (3, .ref qo), (2, .ref qm), (1, .ref qx), (0, .ref b)]) hx hb dL_law_1282 hl (by decide) rfl (fun ls hl => ?_)
  refine lv_aload_n hx hb dL_law_1284 rfl (lv_at hl 4 rfl) ?_
  have hPc := hP.sub (ws' := [(qm, .inr (17, [.ref lp, .null, .null, .int 0, .int 1, .ref m1, .ref m2, .ref m3, .ref m4, .ref m5, .null, .null, .int 0, .ref m6, .int 0, .int 0, .int 0, .long 0, .null, .ref m7, .ref m8, .int 0, .int 0, .long 0]))]) [0] rfl
  have hDc := hD.sub (ws' := [(qm, .inr (17, [.ref lp, .null, .null, .int 0, .int 1, .ref m1, .ref m2, .ref m3, .ref m4, .ref m5, .null, .null, .int 0, .ref m6, .int 0, .int 0, .int 0, .long 0, .null, .ref m7, .ref m8, .int 0, .int 0, .long 0]))]) [0] (by decide) rfl
  have hKc := hK.sub (tys' := []) [] rfl
  have hFc := va_free (wc := [(qm, .inr (17, [.ref lp, .null, .null, .int 0, .int 1, .ref m1, .ref m2, .ref m3, .ref m4, .ref m5, .null, .null, .int 0, .ref m6, .int 0, .int 0, .int 0, .long 0, .null, .ref m7, .ref m8, .int 0, .int 0, .long 0]))]) hD hS hA [0] rfl
  refine va_calli (va_runV (As := []) (rest := []) ⟨hx, hb, hml, hown, hts⟩ (c_thrown l dC dI tp te H_7.size qm lp m1 m2 m3 m4 m5 m6 m7 m8 1) (cwV 0 hts g_law_113_thrown rfl rfl rfl (by decide +kernel) ⟨Nat.le_of_ble_eq_true rfl, Nat.le_of_ble_eq_true rfl⟩) ⟨Pw.blind, va_recv hKc hPc (ci := 17) (q0 := 0) rfl rfl, Pw.mk hPc hKc hDc hG hS hFc⟩ rfl rfl hl.1 rfl (lv_room (Nat.le_of_ble_eq_true rfl)) dL_law_1285 ⟨Nat.le_of_ble_eq_true rfl, Nat.le_of_ble_eq_true rfl⟩) hS (fun q _ h => hFc q h) hFc (fun r u t9 H_9 locs ht hvm hw hB hz1 hk1 hS => ?_)
  have hw : r = 1 := hw
  subst hw
  obtain ⟨hP1, hK1, hD1⟩ := hB
  rw [ht] at hP1
  have hK1 := va_K.moved hvm.symm hK1
  obtain ⟨hP, hD⟩ := va_join (wr := []) (w1 := [(qm, .inr (17, [.ref lp, .null, .null, .int 0, .int 1, .ref m1, .ref m2, .ref m3, .ref m4, .ref m5, .null, .null, .int 0, .ref m6, .int 0, .int 0, .int 0, .long 0, .null, .ref m7, .ref m8, .int 0, .int 0, .long 0]))]) hP hD [0] [] rfl rfl (by decide) (by decide) hk1 hFc hP1 hD1
  have hK := (hK.sub (tys' := []) [] rfl).app hK1
  have hP : va_P (dC, dI) vwCl [(qm, .inr (17, [.ref lp, .null, .null, .int 0, .int 1, .ref m1, .ref m2, .ref m3, .ref m4, .ref m5, .null, .null, .int 0, .ref m6, .int 0, .int 0, .int 0, .long 0, .null, .ref m7, .ref m8, .int 0, .int 0, .long 0]))] H_9 := hP
  have hD : va_D A [(qm, .inr (17, [.ref lp, .null, .null, .int 0, .int 1, .ref m1, .ref m2, .ref m3, .ref m4, .ref m5, .null, .null, .int 0, .ref m6, .int 0, .int 0, .int 0, .long 0, .null, .ref m7, .ref m8, .int 0, .int 0, .long 0]))] := hD
  have hK : va_K (dC, dI) vwCl [] s := hK
  refine W.widen (k := 90) (n := 78009) (Nat.le_of_ble_eq_true rfl) (Nat.le_of_ble_eq_true rfl) ?_
  refine lv_iload hx hb dL_law_1288 (lv_at hl 1 rfl) ?_
  refine lv_icmp_eq (tgt := 1295) hx hb dL_law_1290 (by decide) (fun c9 => ?_) (fun c9 => absurd (by decide) c9)
  refine lv_iload hx hb dL_law_1295 (lv_at hl 1 rfl) ?_
  refine lv_if_ne (tgt := 1312) hx hb dL_law_1297 (by decide) (fun c9 => ?_) (fun c9 => absurd c9 (by decide))
  refine lv_goto (tgt := 1569) hx hb dL_law_1312 (by decide) ?_
  exact lc_next C0 hAA hS (lv_sub hl [6, 2] rfl) (Nat.le_of_ble_eq_true rfl) (Nat.le_of_ble_eq_true rfl)
set_option maxHeartbeats 4000000 in
set_option maxRecDepth 100000 in
theorem lc_go_big {p : Program} {l : Launch} {e : Env} {s : State} {m : MethodId} {below : List Frame} {meth : Method} {c : Code} (hlt : l.stackTraces = false) {b : Nat} {xs : Nat → Int32} (C0 : lw_At p s m meth c b 3 xs) {A : Nat → Prop} (hAA : A = fun q : Nat => s.heap.size ≤ q) {dC : Nat → ClassId} {dI : Nat → Nat → Nat} {tp te : Nat} (hG : gx tp te A s s.heap) {qx rp rt rc r1 r2 r3 r4 a1 a2 a3 a4 a5 a6 a7 t1 t2 t3 t4 t5 t6 t7 c1 c2 c3 c4 c5 c6 c7 qm lp m1 m2 m3 m4 m5 m6 m7 m8 qo : Nat} {k1 k2 k3 k4 k5 k6 k7 ko : ClassId} {H : Heap} {locs : List Loc} (hK : va_K (dC, dI) vwCl [(k1, .int), (k2, .int), (k3, .int), (k4, .long), (k5, .int), (k6, .int), (k7, .int), (ko, .long)] s) (hP : va_P (dC, dI) vwCl [(qx, .inr (8, [.ref rp, .int 0, .ref rt, .ref rc, .int ((-1)), .ref r1, .ref r2, .ref r3, .ref r4, .null, .int 0])), (rp, .inr (6, [.ref a1, .ref a2, .ref a3, .ref a4, .ref a5, .ref a6, .ref a7, .int 0])), (a1, .inl (k1, 1200, .inl (fun _ => 0))), (a2, .inl (k2, 1200, .inl (fun _ => 0))), (a3, .inl (k3, 1200, .inl (fun _ => 0))), (a4, .inl (k4, 1200, .inr (.inl (fun _ => 0)))), (a5, .inl (k5, 1200, .inl (fun _ => 0))), (a6, .inl (k6, 1200, .inl (fun _ => 0))), (a7, .inl (k7, 1200, .inl (fun _ => 0))), (rt, .inr (6, [.ref t1, .ref t2, .ref t3, .ref t4, .ref t5, .ref t6, .ref t7, .int 0])), (rc, .inr (6, [.ref c1, .ref c2, .ref c3, .ref c4, .ref c5, .ref c6, .ref c7, .int 0])), (qm, .inr (17, [.ref lp, .null, .null, .int 0, .int 0, .ref m1, .ref m2, .ref m3, .ref m4, .ref m5, .null, .null, .int 0, .ref m6, .int 0, .int 0, .int 0, .long 0, .null, .ref m7, .ref m8, .int 0, .int 0, .long 0])), (lp, .inr (0, [.int 0, .ref te, .int 0])), (qo, .inl (ko, 1, .inr (.inl (fun _ => 0))))] H) (hD : va_D A [(qx, .inr (8, [.ref rp, .int 0, .ref rt, .ref rc, .int ((-1)), .ref r1, .ref r2, .ref r3, .ref r4, .null, .int 0])), (rp, .inr (6, [.ref a1, .ref a2, .ref a3, .ref a4, .ref a5, .ref a6, .ref a7, .int 0])), (a1, .inl (k1, 1200, .inl (fun _ => 0))), (a2, .inl (k2, 1200, .inl (fun _ => 0))), (a3, .inl (k3, 1200, .inl (fun _ => 0))), (a4, .inl (k4, 1200, .inr (.inl (fun _ => 0)))), (a5, .inl (k5, 1200, .inl (fun _ => 0))), (a6, .inl (k6, 1200, .inl (fun _ => 0))), (a7, .inl (k7, 1200, .inl (fun _ => 0))), (rt, .inr (6, [.ref t1, .ref t2, .ref t3, .ref t4, .ref t5, .ref t6, .ref t7, .int 0])), (rc, .inr (6, [.ref c1, .ref c2, .ref c3, .ref c4, .ref c5, .ref c6, .ref c7, .int 0])), (qm, .inr (17, [.ref lp, .null, .null, .int 0, .int 0, .ref m1, .ref m2, .ref m3, .ref m4, .ref m5, .null, .null, .int 0, .ref m6, .int 0, .int 0, .int 0, .long 0, .null, .ref m7, .ref m8, .int 0, .int 0, .long 0])), (lp, .inr (0, [.int 0, .ref te, .int 0])), (qo, .inl (ko, 1, .inr (.inl (fun _ => 0))))]) (hS : va_S A s.heap H locs) {ls : Array Slot} (hl : lv_has ls 8 [(4, .int 0), (3, .ref qo), (2, .ref qm), (1, .ref qx), (0, .ref b)]) (p1 p2 : Int32) (e1 : xs (1 : Int32).toNatClampNeg = p1) (e2 : xs (2 : Int32).toNatClampNeg = p2) (hv0 : ¬ p1 < 1) (hv1 : ¬ p1 ≤ 2000) : W p l e room_1 s m #[Value.ref b] below meth c H locs 89 78003 (lw_Z below #[Value.ref b] s) (F0 m 1259 ls []) := by
  obtain ⟨hx, hb, hr, hml, hown, hts0, hX, hbl, hlocks, hgv⟩ := id C0
  have hts : ∀ w ∈ z_law, w.before #[Value.ref b] s = true := fun w h => hts0 w (z_law_in w h)
  have hown : s.vm.findClass RL = some m.cls := hown
  have hA : ∀ q : Nat, s.heap.size ≤ q → A q := fun q h => by rw [hAA]; exact h
  have hbA : ¬ A b := by rw [hAA]; exact Nat.not_le.mpr hbl
  have hP := hP.sub (ws' := [(qx, .inr (8, [.ref rp, .int 0, .ref rt, .ref rc, .int ((-1)), .ref r1, .ref r2, .ref r3, .ref r4, .null, .int 0])), (qm, .inr (17, [.ref lp, .null, .null, .int 0, .int 0, .ref m1, .ref m2, .ref m3, .ref m4, .ref m5, .null, .null, .int 0, .ref m6, .int 0, .int 0, .int 0, .long 0, .null, .ref m7, .ref m8, .int 0, .int 0, .long 0])), (lp, .inr (0, [.int 0, .ref te, .int 0]))]) [0, 11, 12] rfl
  have hD := hD.sub (ws' := [(qx, .inr (8, [.ref rp, .int 0, .ref rt, .ref rc, .int ((-1)), .ref r1, .ref r2, .ref r3, .ref r4, .null, .int 0])), (qm, .inr (17, [.ref lp, .null, .null, .int 0, .int 0, .ref m1, .ref m2, .ref m3, .ref m4, .ref m5, .null, .null, .int 0, .ref m6, .int 0, .int 0, .int 0, .long 0, .null, .ref m7, .ref m8, .int 0, .int 0, .long 0])), (lp, .inr (0, [.int 0, .ref te, .int 0]))]) [0, 11, 12] (by decide) rfl
  have hK := hK.sub (tys' := []) [] rfl
  have hP : va_P (dC, dI) vwCl [(qx, .inr (8, [.ref rp, .int 0, .ref rt, .ref rc, .int ((-1)), .ref r1, .ref r2, .ref r3, .ref r4, .null, .int 0])), (qm, .inr (17, [.ref lp, .null, .null, .int 0, .int 0, .ref m1, .ref m2, .ref m3, .ref m4, .ref m5, .null, .null, .int 0, .ref m6, .int 0, .int 0, .int 0, .long 0, .null, .ref m7, .ref m8, .int 0, .int 0, .long 0])), (lp, .inr (0, [.int 0, .ref te, .int 0]))] H := hP
  have hD : va_D A [(qx, .inr (8, [.ref rp, .int 0, .ref rt, .ref rc, .int ((-1)), .ref r1, .ref r2, .ref r3, .ref r4, .null, .int 0])), (qm, .inr (17, [.ref lp, .null, .null, .int 0, .int 0, .ref m1, .ref m2, .ref m3, .ref m4, .ref m5, .null, .null, .int 0, .ref m6, .int 0, .int 0, .int 0, .long 0, .null, .ref m7, .ref m8, .int 0, .int 0, .long 0])), (lp, .inr (0, [.int 0, .ref te, .int 0]))] := hD
  have hK : va_K (dC, dI) vwCl [] s := hK
  refine lv_aload_n hx hb dL_law_1259 rfl (lv_at hl 3 rfl) ?_
  refine lv_aload_n hx hb dL_law_1260 rfl (lv_at hl 4 rfl) ?_
  refine lv_iload hx hb dL_law_1261 (lv_at hl 0 rfl) ?_
  refine lv_iconst (v := 1) hx hb dL_law_1263 (by decide) ?_
  refine lv_iadd hx hb dL_law_1264 ?_
  refine lv_topi (fun z_1 ez_1 => ?_)
  obtain rfl : z_1 = 1 := ez_1.trans (by decide)
  refine va_sld hx hb hX hbl hbA hS (by unfold vp_in; decide +kernel) dL_law_1265 ?_
  refine lv_topi (fun z_2 ez_2 => ?_)
  obtain rfl : p1 = z_2 := (ez_2.trans e1).symm
  refine lv_aload_n hx hb dL_law_1266 rfl (lv_at hl 1 rfl) ?_
  have hPc := hP.sub (ws' := [(qx, .inr (8, [.ref rp, .int 0, .ref rt, .ref rc, .int ((-1)), .ref r1, .ref r2, .ref r3, .ref r4, .null, .int 0]))]) [0] rfl
  have hDc := hD.sub (ws' := [(qx, .inr (8, [.ref rp, .int 0, .ref rt, .ref rc, .int ((-1)), .ref r1, .ref r2, .ref r3, .ref r4, .null, .int 0]))]) [0] (by decide) rfl
  have hKc := hK.sub (tys' := []) [] rfl
  have hFc := va_free (wc := [(qx, .inr (8, [.ref rp, .int 0, .ref rt, .ref rc, .int ((-1)), .ref r1, .ref r2, .ref r3, .ref r4, .null, .int 0]))]) hD hS hA [0] rfl
  refine vx_calli (vx_runSX (As := [.ref qx, .int p1, .ref qo]) (rest := []) ⟨hx, hb, hml, hown, hts⟩ (c_L_go_big l dC dI tp te H.size hlt qx rp rt rc r1 r2 r3 r4 p1 qo hv0 hv1) (vx_cwSW 3 hts g_law_179_L_go_big rfl rfl rfl (by decide +kernel) ⟨Nat.le_of_ble_eq_true rfl, Nat.le_of_ble_eq_true rfl⟩) ⟨Pw.blind, Pw.mk hPc hKc hDc hG hS hFc⟩ rfl rfl hl.1 rfl (lv_room (Nat.le_of_ble_eq_true rfl)) dL_law_1267 ⟨Nat.le_of_ble_eq_true rfl, Nat.le_of_ble_eq_true rfl⟩) hS (fun q _ h => hFc q h) hFc (fun q _ h => hFc q h) (fun E ce q9 u t9 H1 locs ht hvm hpx hBX hz1 hk1 hS hce hcv hcl => hpx.elim) (fun r u t9 H_3 locs ht hvm hw hB hz1 hk1 hS => ?_)
  have hw : r = 1 := hw
  subst hw
  obtain ⟨hP, hD⟩ := va_join (wr := [(qm, .inr (17, [.ref lp, .null, .null, .int 0, .int 0, .ref m1, .ref m2, .ref m3, .ref m4, .ref m5, .null, .null, .int 0, .ref m6, .int 0, .int 0, .int 0, .long 0, .null, .ref m7, .ref m8, .int 0, .int 0, .long 0])), (lp, .inr (0, [.int 0, .ref te, .int 0]))]) (w1 := []) hP hD [0] [1, 2] rfl rfl (by decide) (by decide) hk1 hFc va_P.nil va_D.nil
  have hK := hK.sub (tys' := []) [] rfl
  have hP : va_P (dC, dI) vwCl [(qm, .inr (17, [.ref lp, .null, .null, .int 0, .int 0, .ref m1, .ref m2, .ref m3, .ref m4, .ref m5, .null, .null, .int 0, .ref m6, .int 0, .int 0, .int 0, .long 0, .null, .ref m7, .ref m8, .int 0, .int 0, .long 0])), (lp, .inr (0, [.int 0, .ref te, .int 0]))] H_3 := hP
  have hD : va_D A [(qm, .inr (17, [.ref lp, .null, .null, .int 0, .int 0, .ref m1, .ref m2, .ref m3, .ref m4, .ref m5, .null, .null, .int 0, .ref m6, .int 0, .int 0, .int 0, .long 0, .null, .ref m7, .ref m8, .int 0, .int 0, .long 0])), (lp, .inr (0, [.int 0, .ref te, .int 0]))] := hD
  have hK : va_K (dC, dI) vwCl [] s := hK
  refine W.widen (k := 90) (n := 78009) (Nat.le_of_ble_eq_true rfl) (Nat.le_of_ble_eq_true rfl) ?_
  refine lv_istore (lv' := [(5, .int 1), (4, .int 0), (3, .ref qo), (2, .ref qm), (1, .ref qx), (0, .ref b)]) hx hb dL_law_1270 hl (by decide) rfl (fun ls hl => ?_)
  refine lv_aload_n hx hb dL_law_1272 rfl (lv_at hl 3 rfl) ?_
  refine lv_aload_n hx hb dL_law_1273 rfl (lv_at hl 5 rfl) ?_
  refine lv_iload hx hb dL_law_1274 (lv_at hl 1 rfl) ?_
  refine lv_iconst (v := 1) hx hb dL_law_1276 (by decide) ?_
  refine lv_iadd hx hb dL_law_1277 ?_
  refine lv_topi (fun z_5 ez_5 => ?_)
  obtain rfl : z_5 = 1 := ez_5.trans (by decide)
  refine va_sld hx hb hX hbl hbA hS (by unfold vp_in; decide +kernel) dL_law_1278 ?_
  refine lv_topi (fun z_6 ez_6 => ?_)
  obtain rfl : p1 = z_6 := (ez_6.trans e1).symm
  have hPc := hP.sub (ws' := [(qm, .inr (17, [.ref lp, .null, .null, .int 0, .int 0, .ref m1, .ref m2, .ref m3, .ref m4, .ref m5, .null, .null, .int 0, .ref m6, .int 0, .int 0, .int 0, .long 0, .null, .ref m7, .ref m8, .int 0, .int 0, .long 0])), (lp, .inr (0, [.int 0, .ref te, .int 0]))]) [0, 1] rfl
  have hDc := hD.sub (ws' := [(qm, .inr (17, [.ref lp, .null, .null, .int 0, .int 0, .ref m1, .ref m2, .ref m3, .ref m4, .ref m5, .null, .null, .int 0, .ref m6, .int 0, .int 0, .int 0, .long 0, .null, .ref m7, .ref m8, .int 0, .int 0, .long 0])), (lp, .inr (0, [.int 0, .ref te, .int 0]))]) [0, 1] (by decide) rfl
  have hKc := hK.sub (tys' := []) [] rfl
  have hFc := va_free (wc := [(qm, .inr (17, [.ref lp, .null, .null, .int 0, .int 0, .ref m1, .ref m2, .ref m3, .ref m4, .ref m5, .null, .null, .int 0, .ref m6, .int 0, .int 0, .int 0, .long 0, .null, .ref m7, .ref m8, .int 0, .int 0, .long 0])), (lp, .inr (0, [.int 0, .ref te, .int 0]))]) hD hS hA [0, 1] rfl
  refine va_calli (va_runV (As := [.int p1]) (rest := []) ⟨hx, hb, hml, hown, hts⟩ (c_M_go_big l dC dI tp te H_3.size qm lp m1 m2 m3 m4 m5 m6 m7 m8 p1 hv0 hv1) (cwV 1 hts g_law_181_M_go_big rfl rfl rfl (by decide +kernel) ⟨Nat.le_of_ble_eq_true rfl, Nat.le_of_ble_eq_true rfl⟩) ⟨Pw.blind, va_recv hKc hPc (ci := 17) (q0 := 0) rfl rfl, Pw.mk hPc hKc hDc hG hS hFc⟩ rfl rfl hl.1 rfl (lv_room (Nat.le_of_ble_eq_true rfl)) dL_law_1279 ⟨Nat.le_of_ble_eq_true rfl, Nat.le_of_ble_eq_true rfl⟩) hS (fun q _ h => hFc q h) hFc (fun r u t9 H_7 locs ht hvm hw hB hz1 hk1 hS => ?_)
  have hw : r = 0 := hw
  subst hw
  obtain ⟨hP1, hK1, hD1⟩ := hB
  rw [ht] at hP1
  have hK1 := va_K.moved hvm.symm hK1
  obtain ⟨hP, hD⟩ := va_join (wr := []) (w1 := [(qm, .inr (17, [.ref lp, .null, .null, .int 0, .int 1, .ref m1, .ref m2, .ref m3, .ref m4, .ref m5, .null, .null, .int 0, .ref m6, .int 0, .int 0, .int 0, .long 0, .null, .ref m7, .ref m8, .int 0, .int 0, .long 0]))]) hP hD [0, 1] [] rfl rfl (by decide) (by decide) hk1 hFc hP1 hD1
  have hK := (hK.sub (tys' := []) [] rfl).app hK1
  have hP : va_P (dC, dI) vwCl [(qm, .inr (17, [.ref lp, .null, .null, .int 0, .int 1, .ref m1, .ref m2, .ref m3, .ref m4, .ref m5, .null, .null, .int 0, .ref m6, .int 0, .int 0, .int 0, .long 0, .null, .ref m7, .ref m8, .int 0, .int 0, .long 0]))] H_7 := hP
  have hD : va_D A [(qm, .inr (17, [.ref lp, .null, .null, .int 0, .int 1, .ref m1, .ref m2, .ref m3, .ref m4, .ref m5, .null, .null, .int 0, .ref m6, .int 0, .int 0, .int 0, .long 0, .null, .ref m7, .ref m8, .int 0, .int 0, .long 0]))] := hD
  have hK : va_K (dC, dI) vwCl [] s := hK
  refine W.widen (k := 90) (n := 78009) (Nat.le_of_ble_eq_true rfl) (Nat.le_of_ble_eq_true rfl) ?_
  refine lv_istore (lv' := [(6, .int 0), (5, .int 1), (4, .int 0), (3, .ref qo), (2, .ref qm), (1, .ref qx), (0, .ref b)]) hx hb dL_law_1282 hl (by decide) rfl (fun ls hl => ?_)
  refine lv_aload_n hx hb dL_law_1284 rfl (lv_at hl 4 rfl) ?_
  have hPc := hP.sub (ws' := [(qm, .inr (17, [.ref lp, .null, .null, .int 0, .int 1, .ref m1, .ref m2, .ref m3, .ref m4, .ref m5, .null, .null, .int 0, .ref m6, .int 0, .int 0, .int 0, .long 0, .null, .ref m7, .ref m8, .int 0, .int 0, .long 0]))]) [0] rfl
  have hDc := hD.sub (ws' := [(qm, .inr (17, [.ref lp, .null, .null, .int 0, .int 1, .ref m1, .ref m2, .ref m3, .ref m4, .ref m5, .null, .null, .int 0, .ref m6, .int 0, .int 0, .int 0, .long 0, .null, .ref m7, .ref m8, .int 0, .int 0, .long 0]))]) [0] (by decide) rfl
  have hKc := hK.sub (tys' := []) [] rfl
  have hFc := va_free (wc := [(qm, .inr (17, [.ref lp, .null, .null, .int 0, .int 1, .ref m1, .ref m2, .ref m3, .ref m4, .ref m5, .null, .null, .int 0, .ref m6, .int 0, .int 0, .int 0, .long 0, .null, .ref m7, .ref m8, .int 0, .int 0, .long 0]))]) hD hS hA [0] rfl
  refine va_calli (va_runV (As := []) (rest := []) ⟨hx, hb, hml, hown, hts⟩ (c_thrown l dC dI tp te H_7.size qm lp m1 m2 m3 m4 m5 m6 m7 m8 1) (cwV 0 hts g_law_113_thrown rfl rfl rfl (by decide +kernel) ⟨Nat.le_of_ble_eq_true rfl, Nat.le_of_ble_eq_true rfl⟩) ⟨Pw.blind, va_recv hKc hPc (ci := 17) (q0 := 0) rfl rfl, Pw.mk hPc hKc hDc hG hS hFc⟩ rfl rfl hl.1 rfl (lv_room (Nat.le_of_ble_eq_true rfl)) dL_law_1285 ⟨Nat.le_of_ble_eq_true rfl, Nat.le_of_ble_eq_true rfl⟩) hS (fun q _ h => hFc q h) hFc (fun r u t9 H_9 locs ht hvm hw hB hz1 hk1 hS => ?_)
  have hw : r = 1 := hw
  subst hw
  obtain ⟨hP1, hK1, hD1⟩ := hB
  rw [ht] at hP1
  have hK1 := va_K.moved hvm.symm hK1
  obtain ⟨hP, hD⟩ := va_join (wr := []) (w1 := [(qm, .inr (17, [.ref lp, .null, .null, .int 0, .int 1, .ref m1, .ref m2, .ref m3, .ref m4, .ref m5, .null, .null, .int 0, .ref m6, .int 0, .int 0, .int 0, .long 0, .null, .ref m7, .ref m8, .int 0, .int 0, .long 0]))]) hP hD [0] [] rfl rfl (by decide) (by decide) hk1 hFc hP1 hD1
  have hK := (hK.sub (tys' := []) [] rfl).app hK1
  have hP : va_P (dC, dI) vwCl [(qm, .inr (17, [.ref lp, .null, .null, .int 0, .int 1, .ref m1, .ref m2, .ref m3, .ref m4, .ref m5, .null, .null, .int 0, .ref m6, .int 0, .int 0, .int 0, .long 0, .null, .ref m7, .ref m8, .int 0, .int 0, .long 0]))] H_9 := hP
  have hD : va_D A [(qm, .inr (17, [.ref lp, .null, .null, .int 0, .int 1, .ref m1, .ref m2, .ref m3, .ref m4, .ref m5, .null, .null, .int 0, .ref m6, .int 0, .int 0, .int 0, .long 0, .null, .ref m7, .ref m8, .int 0, .int 0, .long 0]))] := hD
  have hK : va_K (dC, dI) vwCl [] s := hK
  refine W.widen (k := 90) (n := 78009) (Nat.le_of_ble_eq_true rfl) (Nat.le_of_ble_eq_true rfl) ?_
  refine lv_iload hx hb dL_law_1288 (lv_at hl 1 rfl) ?_
  refine lv_icmp_eq (tgt := 1295) hx hb dL_law_1290 (by decide) (fun c9 => ?_) (fun c9 => absurd (by decide) c9)
  refine lv_iload hx hb dL_law_1295 (lv_at hl 1 rfl) ?_
  refine lv_if_ne (tgt := 1312) hx hb dL_law_1297 (by decide) (fun c9 => ?_) (fun c9 => absurd c9 (by decide))
  refine lv_goto (tgt := 1569) hx hb dL_law_1312 (by decide) ?_
  exact lc_next C0 hAA hS (lv_sub hl [6, 2] rfl) (Nat.le_of_ble_eq_true rfl) (Nat.le_of_ble_eq_true rfl)
set_option maxHeartbeats 4000000 in
set_option maxRecDepth 100000 in
theorem lc_go_ok {p : Program} {l : Launch} {e : Env} {s : State} {m : MethodId} {below : List Frame} {meth : Method} {c : Code} (hlt : l.stackTraces = false) {b : Nat} {xs : Nat → Int32} (C0 : lw_At p s m meth c b 3 xs) {A : Nat → Prop} (hAA : A = fun q : Nat => s.heap.size ≤ q) {dC : Nat → ClassId} {dI : Nat → Nat → Nat} {tp te : Nat} (hG : gx tp te A s s.heap) {qx rp rt rc r1 r2 r3 r4 a1 a2 a3 a4 a5 a6 a7 t1 t2 t3 t4 t5 t6 t7 c1 c2 c3 c4 c5 c6 c7 qm lp m1 m2 m3 m4 m5 m6 m7 m8 qo : Nat} {k1 k2 k3 k4 k5 k6 k7 ko : ClassId} {H : Heap} {locs : List Loc} (hK : va_K (dC, dI) vwCl [(k1, .int), (k2, .int), (k3, .int), (k4, .long), (k5, .int), (k6, .int), (k7, .int), (ko, .long)] s) (hP : va_P (dC, dI) vwCl [(qx, .inr (8, [.ref rp, .int 0, .ref rt, .ref rc, .int ((-1)), .ref r1, .ref r2, .ref r3, .ref r4, .null, .int 0])), (rp, .inr (6, [.ref a1, .ref a2, .ref a3, .ref a4, .ref a5, .ref a6, .ref a7, .int 0])), (a1, .inl (k1, 1200, .inl (fun _ => 0))), (a2, .inl (k2, 1200, .inl (fun _ => 0))), (a3, .inl (k3, 1200, .inl (fun _ => 0))), (a4, .inl (k4, 1200, .inr (.inl (fun _ => 0)))), (a5, .inl (k5, 1200, .inl (fun _ => 0))), (a6, .inl (k6, 1200, .inl (fun _ => 0))), (a7, .inl (k7, 1200, .inl (fun _ => 0))), (rt, .inr (6, [.ref t1, .ref t2, .ref t3, .ref t4, .ref t5, .ref t6, .ref t7, .int 0])), (rc, .inr (6, [.ref c1, .ref c2, .ref c3, .ref c4, .ref c5, .ref c6, .ref c7, .int 0])), (qm, .inr (17, [.ref lp, .null, .null, .int 0, .int 0, .ref m1, .ref m2, .ref m3, .ref m4, .ref m5, .null, .null, .int 0, .ref m6, .int 0, .int 0, .int 0, .long 0, .null, .ref m7, .ref m8, .int 0, .int 0, .long 0])), (lp, .inr (0, [.int 0, .ref te, .int 0])), (qo, .inl (ko, 1, .inr (.inl (fun _ => 0))))] H) (hD : va_D A [(qx, .inr (8, [.ref rp, .int 0, .ref rt, .ref rc, .int ((-1)), .ref r1, .ref r2, .ref r3, .ref r4, .null, .int 0])), (rp, .inr (6, [.ref a1, .ref a2, .ref a3, .ref a4, .ref a5, .ref a6, .ref a7, .int 0])), (a1, .inl (k1, 1200, .inl (fun _ => 0))), (a2, .inl (k2, 1200, .inl (fun _ => 0))), (a3, .inl (k3, 1200, .inl (fun _ => 0))), (a4, .inl (k4, 1200, .inr (.inl (fun _ => 0)))), (a5, .inl (k5, 1200, .inl (fun _ => 0))), (a6, .inl (k6, 1200, .inl (fun _ => 0))), (a7, .inl (k7, 1200, .inl (fun _ => 0))), (rt, .inr (6, [.ref t1, .ref t2, .ref t3, .ref t4, .ref t5, .ref t6, .ref t7, .int 0])), (rc, .inr (6, [.ref c1, .ref c2, .ref c3, .ref c4, .ref c5, .ref c6, .ref c7, .int 0])), (qm, .inr (17, [.ref lp, .null, .null, .int 0, .int 0, .ref m1, .ref m2, .ref m3, .ref m4, .ref m5, .null, .null, .int 0, .ref m6, .int 0, .int 0, .int 0, .long 0, .null, .ref m7, .ref m8, .int 0, .int 0, .long 0])), (lp, .inr (0, [.int 0, .ref te, .int 0])), (qo, .inl (ko, 1, .inr (.inl (fun _ => 0))))]) (hS : va_S A s.heap H locs) {ls : Array Slot} (hl : lv_has ls 8 [(4, .int 0), (3, .ref qo), (2, .ref qm), (1, .ref qx), (0, .ref b)]) (p1 p2 : Int32) (e1 : xs (1 : Int32).toNatClampNeg = p1) (e2 : xs (2 : Int32).toNatClampNeg = p2) (hv0 : ¬ p1 < 1) (hv1 : p1 ≤ 2000) : W p l e room_1 s m #[Value.ref b] below meth c H locs 89 78003 (lw_Z below #[Value.ref b] s) (F0 m 1259 ls []) := by
  obtain ⟨hx, hb, hr, hml, hown, hts0, hX, hbl, hlocks, hgv⟩ := id C0
  have hts : ∀ w ∈ z_law, w.before #[Value.ref b] s = true := fun w h => hts0 w (z_law_in w h)
  have hown : s.vm.findClass RL = some m.cls := hown
  have hA : ∀ q : Nat, s.heap.size ≤ q → A q := fun q h => by rw [hAA]; exact h
  have hbA : ¬ A b := by rw [hAA]; exact Nat.not_le.mpr hbl
  have hP := hP.sub (ws' := [(qx, .inr (8, [.ref rp, .int 0, .ref rt, .ref rc, .int ((-1)), .ref r1, .ref r2, .ref r3, .ref r4, .null, .int 0])), (qm, .inr (17, [.ref lp, .null, .null, .int 0, .int 0, .ref m1, .ref m2, .ref m3, .ref m4, .ref m5, .null, .null, .int 0, .ref m6, .int 0, .int 0, .int 0, .long 0, .null, .ref m7, .ref m8, .int 0, .int 0, .long 0])), (lp, .inr (0, [.int 0, .ref te, .int 0]))]) [0, 11, 12] rfl
  have hD := hD.sub (ws' := [(qx, .inr (8, [.ref rp, .int 0, .ref rt, .ref rc, .int ((-1)), .ref r1, .ref r2, .ref r3, .ref r4, .null, .int 0])), (qm, .inr (17, [.ref lp, .null, .null, .int 0, .int 0, .ref m1, .ref m2, .ref m3, .ref m4, .ref m5, .null, .null, .int 0, .ref m6, .int 0, .int 0, .int 0, .long 0, .null, .ref m7, .ref m8, .int 0, .int 0, .long 0])), (lp, .inr (0, [.int 0, .ref te, .int 0]))]) [0, 11, 12] (by decide) rfl
  have hK := hK.sub (tys' := []) [] rfl
  have hP : va_P (dC, dI) vwCl [(qx, .inr (8, [.ref rp, .int 0, .ref rt, .ref rc, .int ((-1)), .ref r1, .ref r2, .ref r3, .ref r4, .null, .int 0])), (qm, .inr (17, [.ref lp, .null, .null, .int 0, .int 0, .ref m1, .ref m2, .ref m3, .ref m4, .ref m5, .null, .null, .int 0, .ref m6, .int 0, .int 0, .int 0, .long 0, .null, .ref m7, .ref m8, .int 0, .int 0, .long 0])), (lp, .inr (0, [.int 0, .ref te, .int 0]))] H := hP
  have hD : va_D A [(qx, .inr (8, [.ref rp, .int 0, .ref rt, .ref rc, .int ((-1)), .ref r1, .ref r2, .ref r3, .ref r4, .null, .int 0])), (qm, .inr (17, [.ref lp, .null, .null, .int 0, .int 0, .ref m1, .ref m2, .ref m3, .ref m4, .ref m5, .null, .null, .int 0, .ref m6, .int 0, .int 0, .int 0, .long 0, .null, .ref m7, .ref m8, .int 0, .int 0, .long 0])), (lp, .inr (0, [.int 0, .ref te, .int 0]))] := hD
  have hK : va_K (dC, dI) vwCl [] s := hK
  refine lv_aload_n hx hb dL_law_1259 rfl (lv_at hl 3 rfl) ?_
  refine lv_aload_n hx hb dL_law_1260 rfl (lv_at hl 4 rfl) ?_
  refine lv_iload hx hb dL_law_1261 (lv_at hl 0 rfl) ?_
  refine lv_iconst (v := 1) hx hb dL_law_1263 (by decide) ?_
  refine lv_iadd hx hb dL_law_1264 ?_
  refine lv_topi (fun z_1 ez_1 => ?_)
  obtain rfl : z_1 = 1 := ez_1.trans (by decide)
  refine va_sld hx hb hX hbl hbA hS (by unfold vp_in; decide +kernel) dL_law_1265 ?_
  refine lv_topi (fun z_2 ez_2 => ?_)
  obtain rfl : p1 = z_2 := (ez_2.trans e1).symm
  refine lv_aload_n hx hb dL_law_1266 rfl (lv_at hl 1 rfl) ?_
  have hPc := hP.sub (ws' := [(qx, .inr (8, [.ref rp, .int 0, .ref rt, .ref rc, .int ((-1)), .ref r1, .ref r2, .ref r3, .ref r4, .null, .int 0]))]) [0] rfl
  have hDc := hD.sub (ws' := [(qx, .inr (8, [.ref rp, .int 0, .ref rt, .ref rc, .int ((-1)), .ref r1, .ref r2, .ref r3, .ref r4, .null, .int 0]))]) [0] (by decide) rfl
  have hKc := hK.sub (tys' := []) [] rfl
  have hFc := va_free (wc := [(qx, .inr (8, [.ref rp, .int 0, .ref rt, .ref rc, .int ((-1)), .ref r1, .ref r2, .ref r3, .ref r4, .null, .int 0]))]) hD hS hA [0] rfl
  refine vx_calli (vx_runSX (As := [.ref qx, .int p1, .ref qo]) (rest := []) ⟨hx, hb, hml, hown, hts⟩ (c_L_go_ok l dC dI tp te H.size hlt qx rp rt rc r1 r2 r3 r4 p1 qo hv0 hv1) (vx_cwSW 3 hts g_law_179_L_go_ok rfl rfl rfl (by decide +kernel) ⟨Nat.le_of_ble_eq_true rfl, Nat.le_of_ble_eq_true rfl⟩) ⟨Pw.blind, Pw.mk hPc hKc hDc hG hS hFc⟩ rfl rfl hl.1 rfl (lv_room (Nat.le_of_ble_eq_true rfl)) dL_law_1267 ⟨Nat.le_of_ble_eq_true rfl, Nat.le_of_ble_eq_true rfl⟩) hS (fun q _ h => hFc q h) hFc (fun q _ h => hFc q h) (fun E ce q9 u t9 H1 locs ht hvm hpx hBX hz1 hk1 hS hce hcv hcl => hpx.elim) (fun r u t9 H_3 locs ht hvm hw hB hz1 hk1 hS => ?_)
  have hw : r = 2 := hw
  subst hw
  obtain ⟨hP, hD⟩ := va_join (wr := [(qm, .inr (17, [.ref lp, .null, .null, .int 0, .int 0, .ref m1, .ref m2, .ref m3, .ref m4, .ref m5, .null, .null, .int 0, .ref m6, .int 0, .int 0, .int 0, .long 0, .null, .ref m7, .ref m8, .int 0, .int 0, .long 0])), (lp, .inr (0, [.int 0, .ref te, .int 0]))]) (w1 := []) hP hD [0] [1, 2] rfl rfl (by decide) (by decide) hk1 hFc va_P.nil va_D.nil
  have hK := hK.sub (tys' := []) [] rfl
  have hP : va_P (dC, dI) vwCl [(qm, .inr (17, [.ref lp, .null, .null, .int 0, .int 0, .ref m1, .ref m2, .ref m3, .ref m4, .ref m5, .null, .null, .int 0, .ref m6, .int 0, .int 0, .int 0, .long 0, .null, .ref m7, .ref m8, .int 0, .int 0, .long 0])), (lp, .inr (0, [.int 0, .ref te, .int 0]))] H_3 := hP
  have hD : va_D A [(qm, .inr (17, [.ref lp, .null, .null, .int 0, .int 0, .ref m1, .ref m2, .ref m3, .ref m4, .ref m5, .null, .null, .int 0, .ref m6, .int 0, .int 0, .int 0, .long 0, .null, .ref m7, .ref m8, .int 0, .int 0, .long 0])), (lp, .inr (0, [.int 0, .ref te, .int 0]))] := hD
  have hK : va_K (dC, dI) vwCl [] s := hK
  refine W.widen (k := 90) (n := 78009) (Nat.le_of_ble_eq_true rfl) (Nat.le_of_ble_eq_true rfl) ?_
  refine lv_istore (lv' := [(5, .int 2), (4, .int 0), (3, .ref qo), (2, .ref qm), (1, .ref qx), (0, .ref b)]) hx hb dL_law_1270 hl (by decide) rfl (fun ls hl => ?_)
  refine lv_aload_n hx hb dL_law_1272 rfl (lv_at hl 3 rfl) ?_
  refine lv_aload_n hx hb dL_law_1273 rfl (lv_at hl 5 rfl) ?_
  refine lv_iload hx hb dL_law_1274 (lv_at hl 1 rfl) ?_
  refine lv_iconst (v := 1) hx hb dL_law_1276 (by decide) ?_
  refine lv_iadd hx hb dL_law_1277 ?_
  refine lv_topi (fun z_5 ez_5 => ?_)
  obtain rfl : z_5 = 1 := ez_5.trans (by decide)
  refine va_sld hx hb hX hbl hbA hS (by unfold vp_in; decide +kernel) dL_law_1278 ?_
  refine lv_topi (fun z_6 ez_6 => ?_)
  obtain rfl : p1 = z_6 := (ez_6.trans e1).symm
  have hPc := hP.sub (ws' := [(qm, .inr (17, [.ref lp, .null, .null, .int 0, .int 0, .ref m1, .ref m2, .ref m3, .ref m4, .ref m5, .null, .null, .int 0, .ref m6, .int 0, .int 0, .int 0, .long 0, .null, .ref m7, .ref m8, .int 0, .int 0, .long 0])), (lp, .inr (0, [.int 0, .ref te, .int 0]))]) [0, 1] rfl
  have hDc := hD.sub (ws' := [(qm, .inr (17, [.ref lp, .null, .null, .int 0, .int 0, .ref m1, .ref m2, .ref m3, .ref m4, .ref m5, .null, .null, .int 0, .ref m6, .int 0, .int 0, .int 0, .long 0, .null, .ref m7, .ref m8, .int 0, .int 0, .long 0])), (lp, .inr (0, [.int 0, .ref te, .int 0]))]) [0, 1] (by decide) rfl
  have hKc := hK.sub (tys' := []) [] rfl
  have hFc := va_free (wc := [(qm, .inr (17, [.ref lp, .null, .null, .int 0, .int 0, .ref m1, .ref m2, .ref m3, .ref m4, .ref m5, .null, .null, .int 0, .ref m6, .int 0, .int 0, .int 0, .long 0, .null, .ref m7, .ref m8, .int 0, .int 0, .long 0])), (lp, .inr (0, [.int 0, .ref te, .int 0]))]) hD hS hA [0, 1] rfl
  refine va_calli (va_runV (As := [.int p1]) (rest := []) ⟨hx, hb, hml, hown, hts⟩ (c_M_go_ok l dC dI tp te H_3.size qm lp m1 m2 m3 m4 m5 m6 m7 m8 p1 hv0 hv1) (cwV 1 hts g_law_181_M_go_ok rfl rfl rfl (by decide +kernel) ⟨Nat.le_of_ble_eq_true rfl, Nat.le_of_ble_eq_true rfl⟩) ⟨Pw.blind, va_recv hKc hPc (ci := 17) (q0 := 0) rfl rfl, Pw.mk hPc hKc hDc hG hS hFc⟩ rfl rfl hl.1 rfl (lv_room (Nat.le_of_ble_eq_true rfl)) dL_law_1279 ⟨Nat.le_of_ble_eq_true rfl, Nat.le_of_ble_eq_true rfl⟩) hS (fun q _ h => hFc q h) hFc (fun r u t9 H_7 locs ht hvm hw hB hz1 hk1 hS => ?_)
  have hw : r = 0 := hw
  subst hw
  obtain ⟨hP1, hK1, hD1⟩ := hB
  rw [ht] at hP1
  have hK1 := va_K.moved hvm.symm hK1
  obtain ⟨hP, hD⟩ := va_join (wr := []) (w1 := [(qm, .inr (17, [.ref lp, .null, .null, .int 0, .int 2, .ref m1, .ref m2, .ref m3, .ref m4, .ref m5, .null, .null, .int 0, .ref m6, .int 0, .int 0, .int 0, .long 0, .null, .ref m7, .ref m8, .int 0, .int 0, .long 0]))]) hP hD [0, 1] [] rfl rfl (by decide) (by decide) hk1 hFc hP1 hD1
  have hK := (hK.sub (tys' := []) [] rfl).app hK1
  have hP : va_P (dC, dI) vwCl [(qm, .inr (17, [.ref lp, .null, .null, .int 0, .int 2, .ref m1, .ref m2, .ref m3, .ref m4, .ref m5, .null, .null, .int 0, .ref m6, .int 0, .int 0, .int 0, .long 0, .null, .ref m7, .ref m8, .int 0, .int 0, .long 0]))] H_7 := hP
  have hD : va_D A [(qm, .inr (17, [.ref lp, .null, .null, .int 0, .int 2, .ref m1, .ref m2, .ref m3, .ref m4, .ref m5, .null, .null, .int 0, .ref m6, .int 0, .int 0, .int 0, .long 0, .null, .ref m7, .ref m8, .int 0, .int 0, .long 0]))] := hD
  have hK : va_K (dC, dI) vwCl [] s := hK
  refine W.widen (k := 90) (n := 78009) (Nat.le_of_ble_eq_true rfl) (Nat.le_of_ble_eq_true rfl) ?_
  refine lv_istore (lv' := [(6, .int 0), (5, .int 2), (4, .int 0), (3, .ref qo), (2, .ref qm), (1, .ref qx), (0, .ref b)]) hx hb dL_law_1282 hl (by decide) rfl (fun ls hl => ?_)
  refine lv_aload_n hx hb dL_law_1284 rfl (lv_at hl 4 rfl) ?_
  have hPc := hP.sub (ws' := [(qm, .inr (17, [.ref lp, .null, .null, .int 0, .int 2, .ref m1, .ref m2, .ref m3, .ref m4, .ref m5, .null, .null, .int 0, .ref m6, .int 0, .int 0, .int 0, .long 0, .null, .ref m7, .ref m8, .int 0, .int 0, .long 0]))]) [0] rfl
  have hDc := hD.sub (ws' := [(qm, .inr (17, [.ref lp, .null, .null, .int 0, .int 2, .ref m1, .ref m2, .ref m3, .ref m4, .ref m5, .null, .null, .int 0, .ref m6, .int 0, .int 0, .int 0, .long 0, .null, .ref m7, .ref m8, .int 0, .int 0, .long 0]))]) [0] (by decide) rfl
  have hKc := hK.sub (tys' := []) [] rfl
  have hFc := va_free (wc := [(qm, .inr (17, [.ref lp, .null, .null, .int 0, .int 2, .ref m1, .ref m2, .ref m3, .ref m4, .ref m5, .null, .null, .int 0, .ref m6, .int 0, .int 0, .int 0, .long 0, .null, .ref m7, .ref m8, .int 0, .int 0, .long 0]))]) hD hS hA [0] rfl
  refine va_calli (va_runV (As := []) (rest := []) ⟨hx, hb, hml, hown, hts⟩ (c_thrown l dC dI tp te H_7.size qm lp m1 m2 m3 m4 m5 m6 m7 m8 2) (cwV 0 hts g_law_113_thrown rfl rfl rfl (by decide +kernel) ⟨Nat.le_of_ble_eq_true rfl, Nat.le_of_ble_eq_true rfl⟩) ⟨Pw.blind, va_recv hKc hPc (ci := 17) (q0 := 0) rfl rfl, Pw.mk hPc hKc hDc hG hS hFc⟩ rfl rfl hl.1 rfl (lv_room (Nat.le_of_ble_eq_true rfl)) dL_law_1285 ⟨Nat.le_of_ble_eq_true rfl, Nat.le_of_ble_eq_true rfl⟩) hS (fun q _ h => hFc q h) hFc (fun r u t9 H_9 locs ht hvm hw hB hz1 hk1 hS => ?_)
  have hw : r = 2 := hw
  subst hw
  obtain ⟨hP1, hK1, hD1⟩ := hB
  rw [ht] at hP1
  have hK1 := va_K.moved hvm.symm hK1
  obtain ⟨hP, hD⟩ := va_join (wr := []) (w1 := [(qm, .inr (17, [.ref lp, .null, .null, .int 0, .int 2, .ref m1, .ref m2, .ref m3, .ref m4, .ref m5, .null, .null, .int 0, .ref m6, .int 0, .int 0, .int 0, .long 0, .null, .ref m7, .ref m8, .int 0, .int 0, .long 0]))]) hP hD [0] [] rfl rfl (by decide) (by decide) hk1 hFc hP1 hD1
  have hK := (hK.sub (tys' := []) [] rfl).app hK1
  have hP : va_P (dC, dI) vwCl [(qm, .inr (17, [.ref lp, .null, .null, .int 0, .int 2, .ref m1, .ref m2, .ref m3, .ref m4, .ref m5, .null, .null, .int 0, .ref m6, .int 0, .int 0, .int 0, .long 0, .null, .ref m7, .ref m8, .int 0, .int 0, .long 0]))] H_9 := hP
  have hD : va_D A [(qm, .inr (17, [.ref lp, .null, .null, .int 0, .int 2, .ref m1, .ref m2, .ref m3, .ref m4, .ref m5, .null, .null, .int 0, .ref m6, .int 0, .int 0, .int 0, .long 0, .null, .ref m7, .ref m8, .int 0, .int 0, .long 0]))] := hD
  have hK : va_K (dC, dI) vwCl [] s := hK
  refine W.widen (k := 90) (n := 78009) (Nat.le_of_ble_eq_true rfl) (Nat.le_of_ble_eq_true rfl) ?_
  refine lv_iload hx hb dL_law_1288 (lv_at hl 1 rfl) ?_
  refine lv_icmp_eq (tgt := 1295) hx hb dL_law_1290 (by decide) (fun c9 => ?_) (fun c9 => absurd (by decide) c9)
  refine lv_iload hx hb dL_law_1295 (lv_at hl 1 rfl) ?_
  refine lv_if_ne (tgt := 1312) hx hb dL_law_1297 (by decide) (fun c9 => ?_) (fun c9 => absurd c9 (by decide))
  refine lv_goto (tgt := 1569) hx hb dL_law_1312 (by decide) ?_
  exact lc_next C0 hAA hS (lv_sub hl [6, 2] rfl) (Nat.le_of_ble_eq_true rfl) (Nat.le_of_ble_eq_true rfl)
set_option maxHeartbeats 4000000 in
set_option maxRecDepth 100000 in
theorem lc_again {p : Program} {l : Launch} {e : Env} {s : State} {m : MethodId} {below : List Frame} {meth : Method} {c : Code} (hlt : l.stackTraces = false) {b : Nat} {xs : Nat → Int32} (C0 : lw_At p s m meth c b 3 xs) {A : Nat → Prop} (hAA : A = fun q : Nat => s.heap.size ≤ q) {dC : Nat → ClassId} {dI : Nat → Nat → Nat} {tp te : Nat} (hG : gx tp te A s s.heap) {qx rp rt rc r1 r2 r3 r4 a1 a2 a3 a4 a5 a6 a7 t1 t2 t3 t4 t5 t6 t7 c1 c2 c3 c4 c5 c6 c7 qm lp m1 m2 m3 m4 m5 m6 m7 m8 qo : Nat} {k1 k2 k3 k4 k5 k6 k7 ko : ClassId} {H : Heap} {locs : List Loc} (hK : va_K (dC, dI) vwCl [(k1, .int), (k2, .int), (k3, .int), (k4, .long), (k5, .int), (k6, .int), (k7, .int), (ko, .long)] s) (hP : va_P (dC, dI) vwCl [(qx, .inr (8, [.ref rp, .int 0, .ref rt, .ref rc, .int ((-1)), .ref r1, .ref r2, .ref r3, .ref r4, .null, .int 0])), (rp, .inr (6, [.ref a1, .ref a2, .ref a3, .ref a4, .ref a5, .ref a6, .ref a7, .int 0])), (a1, .inl (k1, 1200, .inl (fun _ => 0))), (a2, .inl (k2, 1200, .inl (fun _ => 0))), (a3, .inl (k3, 1200, .inl (fun _ => 0))), (a4, .inl (k4, 1200, .inr (.inl (fun _ => 0)))), (a5, .inl (k5, 1200, .inl (fun _ => 0))), (a6, .inl (k6, 1200, .inl (fun _ => 0))), (a7, .inl (k7, 1200, .inl (fun _ => 0))), (rt, .inr (6, [.ref t1, .ref t2, .ref t3, .ref t4, .ref t5, .ref t6, .ref t7, .int 0])), (rc, .inr (6, [.ref c1, .ref c2, .ref c3, .ref c4, .ref c5, .ref c6, .ref c7, .int 0])), (qm, .inr (17, [.ref lp, .null, .null, .int 0, .int 0, .ref m1, .ref m2, .ref m3, .ref m4, .ref m5, .null, .null, .int 0, .ref m6, .int 0, .int 0, .int 0, .long 0, .null, .ref m7, .ref m8, .int 0, .int 0, .long 0])), (lp, .inr (0, [.int 0, .ref te, .int 0])), (qo, .inl (ko, 1, .inr (.inl (fun _ => 0))))] H) (hD : va_D A [(qx, .inr (8, [.ref rp, .int 0, .ref rt, .ref rc, .int ((-1)), .ref r1, .ref r2, .ref r3, .ref r4, .null, .int 0])), (rp, .inr (6, [.ref a1, .ref a2, .ref a3, .ref a4, .ref a5, .ref a6, .ref a7, .int 0])), (a1, .inl (k1, 1200, .inl (fun _ => 0))), (a2, .inl (k2, 1200, .inl (fun _ => 0))), (a3, .inl (k3, 1200, .inl (fun _ => 0))), (a4, .inl (k4, 1200, .inr (.inl (fun _ => 0)))), (a5, .inl (k5, 1200, .inl (fun _ => 0))), (a6, .inl (k6, 1200, .inl (fun _ => 0))), (a7, .inl (k7, 1200, .inl (fun _ => 0))), (rt, .inr (6, [.ref t1, .ref t2, .ref t3, .ref t4, .ref t5, .ref t6, .ref t7, .int 0])), (rc, .inr (6, [.ref c1, .ref c2, .ref c3, .ref c4, .ref c5, .ref c6, .ref c7, .int 0])), (qm, .inr (17, [.ref lp, .null, .null, .int 0, .int 0, .ref m1, .ref m2, .ref m3, .ref m4, .ref m5, .null, .null, .int 0, .ref m6, .int 0, .int 0, .int 0, .long 0, .null, .ref m7, .ref m8, .int 0, .int 0, .long 0])), (lp, .inr (0, [.int 0, .ref te, .int 0])), (qo, .inl (ko, 1, .inr (.inl (fun _ => 0))))]) (hS : va_S A s.heap H locs) {ls : Array Slot} (hl : lv_has ls 8 [(4, .int 0), (3, .ref qo), (2, .ref qm), (1, .ref qx), (0, .ref b)]) (p1 p2 : Int32) (e1 : xs (1 : Int32).toNatClampNeg = p1) (e2 : xs (2 : Int32).toNatClampNeg = p2)  : W p l e room_1 s m #[Value.ref b] below meth c H locs 89 78003 (lw_Z below #[Value.ref b] s) (F0 m 1315 ls []) := by
  obtain ⟨hx, hb, hr, hml, hown, hts0, hX, hbl, hlocks, hgv⟩ := id C0
  have hts : ∀ w ∈ z_law, w.before #[Value.ref b] s = true := fun w h => hts0 w (z_law_in w h)
  have hown : s.vm.findClass RL = some m.cls := hown
  have hA : ∀ q : Nat, s.heap.size ≤ q → A q := fun q h => by rw [hAA]; exact h
  have hbA : ¬ A b := by rw [hAA]; exact Nat.not_le.mpr hbl
  have hP := hP.sub (ws' := [(qx, .inr (8, [.ref rp, .int 0, .ref rt, .ref rc, .int ((-1)), .ref r1, .ref r2, .ref r3, .ref r4, .null, .int 0])), (qm, .inr (17, [.ref lp, .null, .null, .int 0, .int 0, .ref m1, .ref m2, .ref m3, .ref m4, .ref m5, .null, .null, .int 0, .ref m6, .int 0, .int 0, .int 0, .long 0, .null, .ref m7, .ref m8, .int 0, .int 0, .long 0])), (lp, .inr (0, [.int 0, .ref te, .int 0]))]) [0, 11, 12] rfl
  have hD := hD.sub (ws' := [(qx, .inr (8, [.ref rp, .int 0, .ref rt, .ref rc, .int ((-1)), .ref r1, .ref r2, .ref r3, .ref r4, .null, .int 0])), (qm, .inr (17, [.ref lp, .null, .null, .int 0, .int 0, .ref m1, .ref m2, .ref m3, .ref m4, .ref m5, .null, .null, .int 0, .ref m6, .int 0, .int 0, .int 0, .long 0, .null, .ref m7, .ref m8, .int 0, .int 0, .long 0])), (lp, .inr (0, [.int 0, .ref te, .int 0]))]) [0, 11, 12] (by decide) rfl
  have hK := hK.sub (tys' := []) [] rfl
  have hP : va_P (dC, dI) vwCl [(qx, .inr (8, [.ref rp, .int 0, .ref rt, .ref rc, .int ((-1)), .ref r1, .ref r2, .ref r3, .ref r4, .null, .int 0])), (qm, .inr (17, [.ref lp, .null, .null, .int 0, .int 0, .ref m1, .ref m2, .ref m3, .ref m4, .ref m5, .null, .null, .int 0, .ref m6, .int 0, .int 0, .int 0, .long 0, .null, .ref m7, .ref m8, .int 0, .int 0, .long 0])), (lp, .inr (0, [.int 0, .ref te, .int 0]))] H := hP
  have hD : va_D A [(qx, .inr (8, [.ref rp, .int 0, .ref rt, .ref rc, .int ((-1)), .ref r1, .ref r2, .ref r3, .ref r4, .null, .int 0])), (qm, .inr (17, [.ref lp, .null, .null, .int 0, .int 0, .ref m1, .ref m2, .ref m3, .ref m4, .ref m5, .null, .null, .int 0, .ref m6, .int 0, .int 0, .int 0, .long 0, .null, .ref m7, .ref m8, .int 0, .int 0, .long 0])), (lp, .inr (0, [.int 0, .ref te, .int 0]))] := hD
  have hK : va_K (dC, dI) vwCl [] s := hK
  refine lv_aload_n hx hb dL_law_1315 rfl (lv_at hl 3 rfl) ?_
  have hPc := hP.sub (ws' := [(qx, .inr (8, [.ref rp, .int 0, .ref rt, .ref rc, .int ((-1)), .ref r1, .ref r2, .ref r3, .ref r4, .null, .int 0]))]) [0] rfl
  have hDc := hD.sub (ws' := [(qx, .inr (8, [.ref rp, .int 0, .ref rt, .ref rc, .int ((-1)), .ref r1, .ref r2, .ref r3, .ref r4, .null, .int 0]))]) [0] (by decide) rfl
  have hKc := hK.sub (tys' := []) [] rfl
  have hFc := va_free (wc := [(qx, .inr (8, [.ref rp, .int 0, .ref rt, .ref rc, .int ((-1)), .ref r1, .ref r2, .ref r3, .ref r4, .null, .int 0]))]) hD hS hA [0] rfl
  refine vx_calli (vx_runSX (As := [.ref qx]) (rest := []) ⟨hx, hb, hml, hown, hts⟩ (c_L_again l dC dI tp te H.size hlt qx rp rt rc r1 r2 r3 r4) (vx_cwSW 1 hts g_law_182_L_again rfl rfl rfl (by decide +kernel) ⟨Nat.le_of_ble_eq_true rfl, Nat.le_of_ble_eq_true rfl⟩) ⟨Pw.blind, Pw.mk hPc hKc hDc hG hS hFc⟩ rfl rfl hl.1 rfl (lv_room (Nat.le_of_ble_eq_true rfl)) dL_law_1316 ⟨Nat.le_of_ble_eq_true rfl, Nat.le_of_ble_eq_true rfl⟩) hS (fun q _ h => hFc q h) hFc (fun q _ h => hFc q h) (fun E ce q9 u t9 H1 locs ht hvm hpx hBX hz1 hk1 hS hce hcv hcl => hpx.elim) (fun r u t9 H_1 locs ht hvm hw hB hz1 hk1 hS => ?_)
  have hw : r = 1 := hw
  subst hw
  obtain ⟨hP, hD⟩ := va_join (wr := [(qm, .inr (17, [.ref lp, .null, .null, .int 0, .int 0, .ref m1, .ref m2, .ref m3, .ref m4, .ref m5, .null, .null, .int 0, .ref m6, .int 0, .int 0, .int 0, .long 0, .null, .ref m7, .ref m8, .int 0, .int 0, .long 0])), (lp, .inr (0, [.int 0, .ref te, .int 0]))]) (w1 := []) hP hD [0] [1, 2] rfl rfl (by decide) (by decide) hk1 hFc va_P.nil va_D.nil
  have hK := hK.sub (tys' := []) [] rfl
  have hP : va_P (dC, dI) vwCl [(qm, .inr (17, [.ref lp, .null, .null, .int 0, .int 0, .ref m1, .ref m2, .ref m3, .ref m4, .ref m5, .null, .null, .int 0, .ref m6, .int 0, .int 0, .int 0, .long 0, .null, .ref m7, .ref m8, .int 0, .int 0, .long 0])), (lp, .inr (0, [.int 0, .ref te, .int 0]))] H_1 := hP
  have hD : va_D A [(qm, .inr (17, [.ref lp, .null, .null, .int 0, .int 0, .ref m1, .ref m2, .ref m3, .ref m4, .ref m5, .null, .null, .int 0, .ref m6, .int 0, .int 0, .int 0, .long 0, .null, .ref m7, .ref m8, .int 0, .int 0, .long 0])), (lp, .inr (0, [.int 0, .ref te, .int 0]))] := hD
  have hK : va_K (dC, dI) vwCl [] s := hK
  refine W.widen (k := 90) (n := 78009) (Nat.le_of_ble_eq_true rfl) (Nat.le_of_ble_eq_true rfl) ?_
  refine lv_istore (lv' := [(5, .int 1), (4, .int 0), (3, .ref qo), (2, .ref qm), (1, .ref qx), (0, .ref b)]) hx hb dL_law_1319 hl (by decide) rfl (fun ls hl => ?_)
  refine lv_aload_n hx hb dL_law_1321 rfl (lv_at hl 3 rfl) ?_
  have hPc := hP.sub (ws' := [(qm, .inr (17, [.ref lp, .null, .null, .int 0, .int 0, .ref m1, .ref m2, .ref m3, .ref m4, .ref m5, .null, .null, .int 0, .ref m6, .int 0, .int 0, .int 0, .long 0, .null, .ref m7, .ref m8, .int 0, .int 0, .long 0])), (lp, .inr (0, [.int 0, .ref te, .int 0]))]) [0, 1] rfl
  have hDc := hD.sub (ws' := [(qm, .inr (17, [.ref lp, .null, .null, .int 0, .int 0, .ref m1, .ref m2, .ref m3, .ref m4, .ref m5, .null, .null, .int 0, .ref m6, .int 0, .int 0, .int 0, .long 0, .null, .ref m7, .ref m8, .int 0, .int 0, .long 0])), (lp, .inr (0, [.int 0, .ref te, .int 0]))]) [0, 1] (by decide) rfl
  have hKc := hK.sub (tys' := []) [] rfl
  have hFc := va_free (wc := [(qm, .inr (17, [.ref lp, .null, .null, .int 0, .int 0, .ref m1, .ref m2, .ref m3, .ref m4, .ref m5, .null, .null, .int 0, .ref m6, .int 0, .int 0, .int 0, .long 0, .null, .ref m7, .ref m8, .int 0, .int 0, .long 0])), (lp, .inr (0, [.int 0, .ref te, .int 0]))]) hD hS hA [0, 1] rfl
  refine va_callv (va_runV (As := []) (rest := []) ⟨hx, hb, hml, hown, hts⟩ (c_M_again l dC dI tp te H_1.size qm lp m1 m2 m3 m4 m5 m6 m7 m8) (cwV 0 hts g_law_185_M_again rfl rfl rfl (by decide +kernel) ⟨Nat.le_of_ble_eq_true rfl, Nat.le_of_ble_eq_true rfl⟩) ⟨Pw.blind, va_recv hKc hPc (ci := 17) (q0 := 0) rfl rfl, Pw.mk hPc hKc hDc hG hS hFc⟩ rfl rfl hl.1 rfl (lv_room (Nat.le_of_ble_eq_true rfl)) dL_law_1322 ⟨Nat.le_of_ble_eq_true rfl, Nat.le_of_ble_eq_true rfl⟩) hS (fun q _ h => hFc q h) hFc (fun u t9 H_3 locs ht hvm hw hB hz1 hk1 hS => ?_)
  obtain ⟨hP1, hK1, hD1⟩ := hB
  rw [ht] at hP1
  have hK1 := va_K.moved hvm.symm hK1
  obtain ⟨hP, hD⟩ := va_join (wr := []) (w1 := [(qm, .inr (17, [.ref lp, .null, .null, .int 0, .int 1, .ref m1, .ref m2, .ref m3, .ref m4, .ref m5, .null, .null, .int 0, .ref m6, .int 0, .int 0, .int 0, .long 0, .null, .ref m7, .ref m8, .int 0, .int 0, .long 0]))]) hP hD [0, 1] [] rfl rfl (by decide) (by decide) hk1 hFc hP1 hD1
  have hK := (hK.sub (tys' := []) [] rfl).app hK1
  have hP : va_P (dC, dI) vwCl [(qm, .inr (17, [.ref lp, .null, .null, .int 0, .int 1, .ref m1, .ref m2, .ref m3, .ref m4, .ref m5, .null, .null, .int 0, .ref m6, .int 0, .int 0, .int 0, .long 0, .null, .ref m7, .ref m8, .int 0, .int 0, .long 0]))] H_3 := hP
  have hD : va_D A [(qm, .inr (17, [.ref lp, .null, .null, .int 0, .int 1, .ref m1, .ref m2, .ref m3, .ref m4, .ref m5, .null, .null, .int 0, .ref m6, .int 0, .int 0, .int 0, .long 0, .null, .ref m7, .ref m8, .int 0, .int 0, .long 0]))] := hD
  have hK : va_K (dC, dI) vwCl [] s := hK
  refine W.widen (k := 90) (n := 78009) (Nat.le_of_ble_eq_true rfl) (Nat.le_of_ble_eq_true rfl) ?_
  refine lv_aload_n hx hb dL_law_1325 rfl (lv_at hl 3 rfl) ?_
  have hPc := hP.sub (ws' := [(qm, .inr (17, [.ref lp, .null, .null, .int 0, .int 1, .ref m1, .ref m2, .ref m3, .ref m4, .ref m5, .null, .null, .int 0, .ref m6, .int 0, .int 0, .int 0, .long 0, .null, .ref m7, .ref m8, .int 0, .int 0, .long 0]))]) [0] rfl
  have hDc := hD.sub (ws' := [(qm, .inr (17, [.ref lp, .null, .null, .int 0, .int 1, .ref m1, .ref m2, .ref m3, .ref m4, .ref m5, .null, .null, .int 0, .ref m6, .int 0, .int 0, .int 0, .long 0, .null, .ref m7, .ref m8, .int 0, .int 0, .long 0]))]) [0] (by decide) rfl
  have hKc := hK.sub (tys' := []) [] rfl
  have hFc := va_free (wc := [(qm, .inr (17, [.ref lp, .null, .null, .int 0, .int 1, .ref m1, .ref m2, .ref m3, .ref m4, .ref m5, .null, .null, .int 0, .ref m6, .int 0, .int 0, .int 0, .long 0, .null, .ref m7, .ref m8, .int 0, .int 0, .long 0]))]) hD hS hA [0] rfl
  refine va_calli (va_runV (As := []) (rest := []) ⟨hx, hb, hml, hown, hts⟩ (c_thrown l dC dI tp te H_3.size qm lp m1 m2 m3 m4 m5 m6 m7 m8 1) (cwV 0 hts g_law_113_thrown rfl rfl rfl (by decide +kernel) ⟨Nat.le_of_ble_eq_true rfl, Nat.le_of_ble_eq_true rfl⟩) ⟨Pw.blind, va_recv hKc hPc (ci := 17) (q0 := 0) rfl rfl, Pw.mk hPc hKc hDc hG hS hFc⟩ rfl rfl hl.1 rfl (lv_room (Nat.le_of_ble_eq_true rfl)) dL_law_1326 ⟨Nat.le_of_ble_eq_true rfl, Nat.le_of_ble_eq_true rfl⟩) hS (fun q _ h => hFc q h) hFc (fun r u t9 H_5 locs ht hvm hw hB hz1 hk1 hS => ?_)
  have hw : r = 1 := hw
  subst hw
  obtain ⟨hP1, hK1, hD1⟩ := hB
  rw [ht] at hP1
  have hK1 := va_K.moved hvm.symm hK1
  obtain ⟨hP, hD⟩ := va_join (wr := []) (w1 := [(qm, .inr (17, [.ref lp, .null, .null, .int 0, .int 1, .ref m1, .ref m2, .ref m3, .ref m4, .ref m5, .null, .null, .int 0, .ref m6, .int 0, .int 0, .int 0, .long 0, .null, .ref m7, .ref m8, .int 0, .int 0, .long 0]))]) hP hD [0] [] rfl rfl (by decide) (by decide) hk1 hFc hP1 hD1
  have hK := (hK.sub (tys' := []) [] rfl).app hK1
  have hP : va_P (dC, dI) vwCl [(qm, .inr (17, [.ref lp, .null, .null, .int 0, .int 1, .ref m1, .ref m2, .ref m3, .ref m4, .ref m5, .null, .null, .int 0, .ref m6, .int 0, .int 0, .int 0, .long 0, .null, .ref m7, .ref m8, .int 0, .int 0, .long 0]))] H_5 := hP
  have hD : va_D A [(qm, .inr (17, [.ref lp, .null, .null, .int 0, .int 1, .ref m1, .ref m2, .ref m3, .ref m4, .ref m5, .null, .null, .int 0, .ref m6, .int 0, .int 0, .int 0, .long 0, .null, .ref m7, .ref m8, .int 0, .int 0, .long 0]))] := hD
  have hK : va_K (dC, dI) vwCl [] s := hK
  refine W.widen (k := 90) (n := 78009) (Nat.le_of_ble_eq_true rfl) (Nat.le_of_ble_eq_true rfl) ?_
  refine lv_iload hx hb dL_law_1329 (lv_at hl 0 rfl) ?_
  refine lv_icmp_eq (tgt := 1336) hx hb dL_law_1331 (by decide) (fun c9 => ?_) (fun c9 => absurd (by decide) c9)
  refine lv_goto (tgt := 1569) hx hb dL_law_1336 (by decide) ?_
  exact lc_next C0 hAA hS (lv_sub hl [5, 1] rfl) (Nat.le_of_ble_eq_true rfl) (Nat.le_of_ble_eq_true rfl)
set_option maxHeartbeats 4000000 in
set_option maxRecDepth 100000 in
theorem lc_state {p : Program} {l : Launch} {e : Env} {s : State} {m : MethodId} {below : List Frame} {meth : Method} {c : Code} (hlt : l.stackTraces = false) {b : Nat} {xs : Nat → Int32} (C0 : lw_At p s m meth c b 3 xs) {A : Nat → Prop} (hAA : A = fun q : Nat => s.heap.size ≤ q) {dC : Nat → ClassId} {dI : Nat → Nat → Nat} {tp te : Nat} (hG : gx tp te A s s.heap) {qx rp rt rc r1 r2 r3 r4 a1 a2 a3 a4 a5 a6 a7 t1 t2 t3 t4 t5 t6 t7 c1 c2 c3 c4 c5 c6 c7 qm lp m1 m2 m3 m4 m5 m6 m7 m8 qo : Nat} {k1 k2 k3 k4 k5 k6 k7 ko : ClassId} {H : Heap} {locs : List Loc} (hK : va_K (dC, dI) vwCl [(k1, .int), (k2, .int), (k3, .int), (k4, .long), (k5, .int), (k6, .int), (k7, .int), (ko, .long)] s) (hP : va_P (dC, dI) vwCl [(qx, .inr (8, [.ref rp, .int 0, .ref rt, .ref rc, .int ((-1)), .ref r1, .ref r2, .ref r3, .ref r4, .null, .int 0])), (rp, .inr (6, [.ref a1, .ref a2, .ref a3, .ref a4, .ref a5, .ref a6, .ref a7, .int 0])), (a1, .inl (k1, 1200, .inl (fun _ => 0))), (a2, .inl (k2, 1200, .inl (fun _ => 0))), (a3, .inl (k3, 1200, .inl (fun _ => 0))), (a4, .inl (k4, 1200, .inr (.inl (fun _ => 0)))), (a5, .inl (k5, 1200, .inl (fun _ => 0))), (a6, .inl (k6, 1200, .inl (fun _ => 0))), (a7, .inl (k7, 1200, .inl (fun _ => 0))), (rt, .inr (6, [.ref t1, .ref t2, .ref t3, .ref t4, .ref t5, .ref t6, .ref t7, .int 0])), (rc, .inr (6, [.ref c1, .ref c2, .ref c3, .ref c4, .ref c5, .ref c6, .ref c7, .int 0])), (qm, .inr (17, [.ref lp, .null, .null, .int 0, .int 0, .ref m1, .ref m2, .ref m3, .ref m4, .ref m5, .null, .null, .int 0, .ref m6, .int 0, .int 0, .int 0, .long 0, .null, .ref m7, .ref m8, .int 0, .int 0, .long 0])), (lp, .inr (0, [.int 0, .ref te, .int 0])), (qo, .inl (ko, 1, .inr (.inl (fun _ => 0))))] H) (hD : va_D A [(qx, .inr (8, [.ref rp, .int 0, .ref rt, .ref rc, .int ((-1)), .ref r1, .ref r2, .ref r3, .ref r4, .null, .int 0])), (rp, .inr (6, [.ref a1, .ref a2, .ref a3, .ref a4, .ref a5, .ref a6, .ref a7, .int 0])), (a1, .inl (k1, 1200, .inl (fun _ => 0))), (a2, .inl (k2, 1200, .inl (fun _ => 0))), (a3, .inl (k3, 1200, .inl (fun _ => 0))), (a4, .inl (k4, 1200, .inr (.inl (fun _ => 0)))), (a5, .inl (k5, 1200, .inl (fun _ => 0))), (a6, .inl (k6, 1200, .inl (fun _ => 0))), (a7, .inl (k7, 1200, .inl (fun _ => 0))), (rt, .inr (6, [.ref t1, .ref t2, .ref t3, .ref t4, .ref t5, .ref t6, .ref t7, .int 0])), (rc, .inr (6, [.ref c1, .ref c2, .ref c3, .ref c4, .ref c5, .ref c6, .ref c7, .int 0])), (qm, .inr (17, [.ref lp, .null, .null, .int 0, .int 0, .ref m1, .ref m2, .ref m3, .ref m4, .ref m5, .null, .null, .int 0, .ref m6, .int 0, .int 0, .int 0, .long 0, .null, .ref m7, .ref m8, .int 0, .int 0, .long 0])), (lp, .inr (0, [.int 0, .ref te, .int 0])), (qo, .inl (ko, 1, .inr (.inl (fun _ => 0))))]) (hS : va_S A s.heap H locs) {ls : Array Slot} (hl : lv_has ls 8 [(4, .int 0), (3, .ref qo), (2, .ref qm), (1, .ref qx), (0, .ref b)]) (p1 p2 : Int32) (e1 : xs (1 : Int32).toNatClampNeg = p1) (e2 : xs (2 : Int32).toNatClampNeg = p2)  : W p l e room_1 s m #[Value.ref b] below meth c H locs 89 78003 (lw_Z below #[Value.ref b] s) (F0 m 1339 ls []) := by
  obtain ⟨hx, hb, hr, hml, hown, hts0, hX, hbl, hlocks, hgv⟩ := id C0
  have hts : ∀ w ∈ z_law, w.before #[Value.ref b] s = true := fun w h => hts0 w (z_law_in w h)
  have hown : s.vm.findClass RL = some m.cls := hown
  have hA : ∀ q : Nat, s.heap.size ≤ q → A q := fun q h => by rw [hAA]; exact h
  have hbA : ¬ A b := by rw [hAA]; exact Nat.not_le.mpr hbl
  have hP := hP.sub (ws' := [(qx, .inr (8, [.ref rp, .int 0, .ref rt, .ref rc, .int ((-1)), .ref r1, .ref r2, .ref r3, .ref r4, .null, .int 0])), (qm, .inr (17, [.ref lp, .null, .null, .int 0, .int 0, .ref m1, .ref m2, .ref m3, .ref m4, .ref m5, .null, .null, .int 0, .ref m6, .int 0, .int 0, .int 0, .long 0, .null, .ref m7, .ref m8, .int 0, .int 0, .long 0])), (lp, .inr (0, [.int 0, .ref te, .int 0]))]) [0, 11, 12] rfl
  have hD := hD.sub (ws' := [(qx, .inr (8, [.ref rp, .int 0, .ref rt, .ref rc, .int ((-1)), .ref r1, .ref r2, .ref r3, .ref r4, .null, .int 0])), (qm, .inr (17, [.ref lp, .null, .null, .int 0, .int 0, .ref m1, .ref m2, .ref m3, .ref m4, .ref m5, .null, .null, .int 0, .ref m6, .int 0, .int 0, .int 0, .long 0, .null, .ref m7, .ref m8, .int 0, .int 0, .long 0])), (lp, .inr (0, [.int 0, .ref te, .int 0]))]) [0, 11, 12] (by decide) rfl
  have hK := hK.sub (tys' := []) [] rfl
  have hP : va_P (dC, dI) vwCl [(qx, .inr (8, [.ref rp, .int 0, .ref rt, .ref rc, .int ((-1)), .ref r1, .ref r2, .ref r3, .ref r4, .null, .int 0])), (qm, .inr (17, [.ref lp, .null, .null, .int 0, .int 0, .ref m1, .ref m2, .ref m3, .ref m4, .ref m5, .null, .null, .int 0, .ref m6, .int 0, .int 0, .int 0, .long 0, .null, .ref m7, .ref m8, .int 0, .int 0, .long 0])), (lp, .inr (0, [.int 0, .ref te, .int 0]))] H := hP
  have hD : va_D A [(qx, .inr (8, [.ref rp, .int 0, .ref rt, .ref rc, .int ((-1)), .ref r1, .ref r2, .ref r3, .ref r4, .null, .int 0])), (qm, .inr (17, [.ref lp, .null, .null, .int 0, .int 0, .ref m1, .ref m2, .ref m3, .ref m4, .ref m5, .null, .null, .int 0, .ref m6, .int 0, .int 0, .int 0, .long 0, .null, .ref m7, .ref m8, .int 0, .int 0, .long 0])), (lp, .inr (0, [.int 0, .ref te, .int 0]))] := hD
  have hK : va_K (dC, dI) vwCl [] s := hK
  refine lv_aload_n hx hb dL_law_1339 rfl (lv_at hl 3 rfl) ?_
  refine lv_aload_n hx hb dL_law_1340 rfl (lv_at hl 1 rfl) ?_
  have hPc := hP.sub (ws' := [(qx, .inr (8, [.ref rp, .int 0, .ref rt, .ref rc, .int ((-1)), .ref r1, .ref r2, .ref r3, .ref r4, .null, .int 0]))]) [0] rfl
  have hDc := hD.sub (ws' := [(qx, .inr (8, [.ref rp, .int 0, .ref rt, .ref rc, .int ((-1)), .ref r1, .ref r2, .ref r3, .ref r4, .null, .int 0]))]) [0] (by decide) rfl
  have hKc := hK.sub (tys' := []) [] rfl
  have hFc := va_free (wc := [(qx, .inr (8, [.ref rp, .int 0, .ref rt, .ref rc, .int ((-1)), .ref r1, .ref r2, .ref r3, .ref r4, .null, .int 0]))]) hD hS hA [0] rfl
  refine vx_calli (vx_runSX (As := [.ref qx, .ref qo]) (rest := []) ⟨hx, hb, hml, hown, hts⟩ (c_L_state l dC dI tp te H.size hlt qx rp rt rc r1 r2 r3 r4 qo) (vx_cwSW 2 hts g_law_186_L_state rfl rfl rfl (by decide +kernel) ⟨Nat.le_of_ble_eq_true rfl, Nat.le_of_ble_eq_true rfl⟩) ⟨Pw.blind, Pw.mk hPc hKc hDc hG hS hFc⟩ rfl rfl hl.1 rfl (lv_room (Nat.le_of_ble_eq_true rfl)) dL_law_1341 ⟨Nat.le_of_ble_eq_true rfl, Nat.le_of_ble_eq_true rfl⟩) hS (fun q _ h => hFc q h) hFc (fun q _ h => hFc q h) (fun E ce q9 u t9 H1 locs ht hvm hpx hBX hz1 hk1 hS hce hcv hcl => hpx.elim) (fun r u t9 H_1 locs ht hvm hw hB hz1 hk1 hS => ?_)
  have hw : r = 1 := hw
  subst hw
  obtain ⟨hP, hD⟩ := va_join (wr := [(qm, .inr (17, [.ref lp, .null, .null, .int 0, .int 0, .ref m1, .ref m2, .ref m3, .ref m4, .ref m5, .null, .null, .int 0, .ref m6, .int 0, .int 0, .int 0, .long 0, .null, .ref m7, .ref m8, .int 0, .int 0, .long 0])), (lp, .inr (0, [.int 0, .ref te, .int 0]))]) (w1 := []) hP hD [0] [1, 2] rfl rfl (by decide) (by decide) hk1 hFc va_P.nil va_D.nil
  have hK := hK.sub (tys' := []) [] rfl
  have hP : va_P (dC, dI) vwCl [(qm, .inr (17, [.ref lp, .null, .null, .int 0, .int 0, .ref m1, .ref m2, .ref m3, .ref m4, .ref m5, .null, .null, .int 0, .ref m6, .int 0, .int 0, .int 0, .long 0, .null, .ref m7, .ref m8, .int 0, .int 0, .long 0])), (lp, .inr (0, [.int 0, .ref te, .int 0]))] H_1 := hP
  have hD : va_D A [(qm, .inr (17, [.ref lp, .null, .null, .int 0, .int 0, .ref m1, .ref m2, .ref m3, .ref m4, .ref m5, .null, .null, .int 0, .ref m6, .int 0, .int 0, .int 0, .long 0, .null, .ref m7, .ref m8, .int 0, .int 0, .long 0])), (lp, .inr (0, [.int 0, .ref te, .int 0]))] := hD
  have hK : va_K (dC, dI) vwCl [] s := hK
  refine W.widen (k := 90) (n := 78009) (Nat.le_of_ble_eq_true rfl) (Nat.le_of_ble_eq_true rfl) ?_
  refine lv_istore (lv' := [(5, .int 1), (4, .int 0), (3, .ref qo), (2, .ref qm), (1, .ref qx), (0, .ref b)]) hx hb dL_law_1344 hl (by decide) rfl (fun ls hl => ?_)
  refine lv_aload_n hx hb dL_law_1346 rfl (lv_at hl 3 rfl) ?_
  have hPc := hP.sub (ws' := [(qm, .inr (17, [.ref lp, .null, .null, .int 0, .int 0, .ref m1, .ref m2, .ref m3, .ref m4, .ref m5, .null, .null, .int 0, .ref m6, .int 0, .int 0, .int 0, .long 0, .null, .ref m7, .ref m8, .int 0, .int 0, .long 0])), (lp, .inr (0, [.int 0, .ref te, .int 0]))]) [0, 1] rfl
  have hDc := hD.sub (ws' := [(qm, .inr (17, [.ref lp, .null, .null, .int 0, .int 0, .ref m1, .ref m2, .ref m3, .ref m4, .ref m5, .null, .null, .int 0, .ref m6, .int 0, .int 0, .int 0, .long 0, .null, .ref m7, .ref m8, .int 0, .int 0, .long 0])), (lp, .inr (0, [.int 0, .ref te, .int 0]))]) [0, 1] (by decide) rfl
  have hKc := hK.sub (tys' := []) [] rfl
  have hFc := va_free (wc := [(qm, .inr (17, [.ref lp, .null, .null, .int 0, .int 0, .ref m1, .ref m2, .ref m3, .ref m4, .ref m5, .null, .null, .int 0, .ref m6, .int 0, .int 0, .int 0, .long 0, .null, .ref m7, .ref m8, .int 0, .int 0, .long 0])), (lp, .inr (0, [.int 0, .ref te, .int 0]))]) hD hS hA [0, 1] rfl
  refine va_calli (va_runV (As := []) (rest := []) ⟨hx, hb, hml, hown, hts⟩ (c_M_state l dC dI tp te H_1.size qm lp m1 m2 m3 m4 m5 m6 m7 m8) (cwV 0 hts g_law_188_M_state rfl rfl rfl (by decide +kernel) ⟨Nat.le_of_ble_eq_true rfl, Nat.le_of_ble_eq_true rfl⟩) ⟨Pw.blind, va_recv hKc hPc (ci := 17) (q0 := 0) rfl rfl, Pw.mk hPc hKc hDc hG hS hFc⟩ rfl rfl hl.1 rfl (lv_room (Nat.le_of_ble_eq_true rfl)) dL_law_1347 ⟨Nat.le_of_ble_eq_true rfl, Nat.le_of_ble_eq_true rfl⟩) hS (fun q _ h => hFc q h) hFc (fun r u t9 H_3 locs ht hvm hw hB hz1 hk1 hS => ?_)
  have hw : r = 0 := hw
  subst hw
  obtain ⟨hP1, hK1, hD1⟩ := hB
  rw [ht] at hP1
  have hK1 := va_K.moved hvm.symm hK1
  obtain ⟨hP, hD⟩ := va_join (wr := []) (w1 := [(qm, .inr (17, [.ref lp, .null, .null, .int 0, .int 1, .ref m1, .ref m2, .ref m3, .ref m4, .ref m5, .null, .null, .int 0, .ref m6, .int 0, .int 0, .int 0, .long 0, .null, .ref m7, .ref m8, .int 0, .int 0, .long 0]))]) hP hD [0, 1] [] rfl rfl (by decide) (by decide) hk1 hFc hP1 hD1
  have hK := (hK.sub (tys' := []) [] rfl).app hK1
  have hP : va_P (dC, dI) vwCl [(qm, .inr (17, [.ref lp, .null, .null, .int 0, .int 1, .ref m1, .ref m2, .ref m3, .ref m4, .ref m5, .null, .null, .int 0, .ref m6, .int 0, .int 0, .int 0, .long 0, .null, .ref m7, .ref m8, .int 0, .int 0, .long 0]))] H_3 := hP
  have hD : va_D A [(qm, .inr (17, [.ref lp, .null, .null, .int 0, .int 1, .ref m1, .ref m2, .ref m3, .ref m4, .ref m5, .null, .null, .int 0, .ref m6, .int 0, .int 0, .int 0, .long 0, .null, .ref m7, .ref m8, .int 0, .int 0, .long 0]))] := hD
  have hK : va_K (dC, dI) vwCl [] s := hK
  refine W.widen (k := 90) (n := 78009) (Nat.le_of_ble_eq_true rfl) (Nat.le_of_ble_eq_true rfl) ?_
  refine lv_istore (lv' := [(6, .int 0), (5, .int 1), (4, .int 0), (3, .ref qo), (2, .ref qm), (1, .ref qx), (0, .ref b)]) hx hb dL_law_1350 hl (by decide) rfl (fun ls hl => ?_)
  refine lv_aload_n hx hb dL_law_1352 rfl (lv_at hl 4 rfl) ?_
  have hPc := hP.sub (ws' := [(qm, .inr (17, [.ref lp, .null, .null, .int 0, .int 1, .ref m1, .ref m2, .ref m3, .ref m4, .ref m5, .null, .null, .int 0, .ref m6, .int 0, .int 0, .int 0, .long 0, .null, .ref m7, .ref m8, .int 0, .int 0, .long 0]))]) [0] rfl
  have hDc := hD.sub (ws' := [(qm, .inr (17, [.ref lp, .null, .null, .int 0, .int 1, .ref m1, .ref m2, .ref m3, .ref m4, .ref m5, .null, .null, .int 0, .ref m6, .int 0, .int 0, .int 0, .long 0, .null, .ref m7, .ref m8, .int 0, .int 0, .long 0]))]) [0] (by decide) rfl
  have hKc := hK.sub (tys' := []) [] rfl
  have hFc := va_free (wc := [(qm, .inr (17, [.ref lp, .null, .null, .int 0, .int 1, .ref m1, .ref m2, .ref m3, .ref m4, .ref m5, .null, .null, .int 0, .ref m6, .int 0, .int 0, .int 0, .long 0, .null, .ref m7, .ref m8, .int 0, .int 0, .long 0]))]) hD hS hA [0] rfl
  refine va_calli (va_runV (As := []) (rest := []) ⟨hx, hb, hml, hown, hts⟩ (c_thrown l dC dI tp te H_3.size qm lp m1 m2 m3 m4 m5 m6 m7 m8 1) (cwV 0 hts g_law_113_thrown rfl rfl rfl (by decide +kernel) ⟨Nat.le_of_ble_eq_true rfl, Nat.le_of_ble_eq_true rfl⟩) ⟨Pw.blind, va_recv hKc hPc (ci := 17) (q0 := 0) rfl rfl, Pw.mk hPc hKc hDc hG hS hFc⟩ rfl rfl hl.1 rfl (lv_room (Nat.le_of_ble_eq_true rfl)) dL_law_1353 ⟨Nat.le_of_ble_eq_true rfl, Nat.le_of_ble_eq_true rfl⟩) hS (fun q _ h => hFc q h) hFc (fun r u t9 H_5 locs ht hvm hw hB hz1 hk1 hS => ?_)
  have hw : r = 1 := hw
  subst hw
  obtain ⟨hP1, hK1, hD1⟩ := hB
  rw [ht] at hP1
  have hK1 := va_K.moved hvm.symm hK1
  obtain ⟨hP, hD⟩ := va_join (wr := []) (w1 := [(qm, .inr (17, [.ref lp, .null, .null, .int 0, .int 1, .ref m1, .ref m2, .ref m3, .ref m4, .ref m5, .null, .null, .int 0, .ref m6, .int 0, .int 0, .int 0, .long 0, .null, .ref m7, .ref m8, .int 0, .int 0, .long 0]))]) hP hD [0] [] rfl rfl (by decide) (by decide) hk1 hFc hP1 hD1
  have hK := (hK.sub (tys' := []) [] rfl).app hK1
  have hP : va_P (dC, dI) vwCl [(qm, .inr (17, [.ref lp, .null, .null, .int 0, .int 1, .ref m1, .ref m2, .ref m3, .ref m4, .ref m5, .null, .null, .int 0, .ref m6, .int 0, .int 0, .int 0, .long 0, .null, .ref m7, .ref m8, .int 0, .int 0, .long 0]))] H_5 := hP
  have hD : va_D A [(qm, .inr (17, [.ref lp, .null, .null, .int 0, .int 1, .ref m1, .ref m2, .ref m3, .ref m4, .ref m5, .null, .null, .int 0, .ref m6, .int 0, .int 0, .int 0, .long 0, .null, .ref m7, .ref m8, .int 0, .int 0, .long 0]))] := hD
  have hK : va_K (dC, dI) vwCl [] s := hK
  refine W.widen (k := 90) (n := 78009) (Nat.le_of_ble_eq_true rfl) (Nat.le_of_ble_eq_true rfl) ?_
  refine lv_iload hx hb dL_law_1356 (lv_at hl 1 rfl) ?_
  refine lv_icmp_eq (tgt := 1363) hx hb dL_law_1358 (by decide) (fun c9 => ?_) (fun c9 => absurd (by decide) c9)
  refine lv_iload hx hb dL_law_1363 (lv_at hl 1 rfl) ?_
  refine lv_if_ne (tgt := 1380) hx hb dL_law_1365 (by decide) (fun c9 => ?_) (fun c9 => absurd c9 (by decide))
  refine lv_goto (tgt := 1569) hx hb dL_law_1380 (by decide) ?_
  exact lc_next C0 hAA hS (lv_sub hl [6, 2] rfl) (Nat.le_of_ble_eq_true rfl) (Nat.le_of_ble_eq_true rfl)
set_option maxHeartbeats 4000000 in
set_option maxRecDepth 100000 in
theorem lc_value {p : Program} {l : Launch} {e : Env} {s : State} {m : MethodId} {below : List Frame} {meth : Method} {c : Code} (hlt : l.stackTraces = false) {b : Nat} {xs : Nat → Int32} (C0 : lw_At p s m meth c b 3 xs) {A : Nat → Prop} (hAA : A = fun q : Nat => s.heap.size ≤ q) {dC : Nat → ClassId} {dI : Nat → Nat → Nat} {tp te : Nat} (hG : gx tp te A s s.heap) {qx rp rt rc r1 r2 r3 r4 a1 a2 a3 a4 a5 a6 a7 t1 t2 t3 t4 t5 t6 t7 c1 c2 c3 c4 c5 c6 c7 qm lp m1 m2 m3 m4 m5 m6 m7 m8 qo : Nat} {k1 k2 k3 k4 k5 k6 k7 ko : ClassId} {H : Heap} {locs : List Loc} (hK : va_K (dC, dI) vwCl [(k1, .int), (k2, .int), (k3, .int), (k4, .long), (k5, .int), (k6, .int), (k7, .int), (ko, .long)] s) (hP : va_P (dC, dI) vwCl [(qx, .inr (8, [.ref rp, .int 0, .ref rt, .ref rc, .int ((-1)), .ref r1, .ref r2, .ref r3, .ref r4, .null, .int 0])), (rp, .inr (6, [.ref a1, .ref a2, .ref a3, .ref a4, .ref a5, .ref a6, .ref a7, .int 0])), (a1, .inl (k1, 1200, .inl (fun _ => 0))), (a2, .inl (k2, 1200, .inl (fun _ => 0))), (a3, .inl (k3, 1200, .inl (fun _ => 0))), (a4, .inl (k4, 1200, .inr (.inl (fun _ => 0)))), (a5, .inl (k5, 1200, .inl (fun _ => 0))), (a6, .inl (k6, 1200, .inl (fun _ => 0))), (a7, .inl (k7, 1200, .inl (fun _ => 0))), (rt, .inr (6, [.ref t1, .ref t2, .ref t3, .ref t4, .ref t5, .ref t6, .ref t7, .int 0])), (rc, .inr (6, [.ref c1, .ref c2, .ref c3, .ref c4, .ref c5, .ref c6, .ref c7, .int 0])), (qm, .inr (17, [.ref lp, .null, .null, .int 0, .int 0, .ref m1, .ref m2, .ref m3, .ref m4, .ref m5, .null, .null, .int 0, .ref m6, .int 0, .int 0, .int 0, .long 0, .null, .ref m7, .ref m8, .int 0, .int 0, .long 0])), (lp, .inr (0, [.int 0, .ref te, .int 0])), (qo, .inl (ko, 1, .inr (.inl (fun _ => 0))))] H) (hD : va_D A [(qx, .inr (8, [.ref rp, .int 0, .ref rt, .ref rc, .int ((-1)), .ref r1, .ref r2, .ref r3, .ref r4, .null, .int 0])), (rp, .inr (6, [.ref a1, .ref a2, .ref a3, .ref a4, .ref a5, .ref a6, .ref a7, .int 0])), (a1, .inl (k1, 1200, .inl (fun _ => 0))), (a2, .inl (k2, 1200, .inl (fun _ => 0))), (a3, .inl (k3, 1200, .inl (fun _ => 0))), (a4, .inl (k4, 1200, .inr (.inl (fun _ => 0)))), (a5, .inl (k5, 1200, .inl (fun _ => 0))), (a6, .inl (k6, 1200, .inl (fun _ => 0))), (a7, .inl (k7, 1200, .inl (fun _ => 0))), (rt, .inr (6, [.ref t1, .ref t2, .ref t3, .ref t4, .ref t5, .ref t6, .ref t7, .int 0])), (rc, .inr (6, [.ref c1, .ref c2, .ref c3, .ref c4, .ref c5, .ref c6, .ref c7, .int 0])), (qm, .inr (17, [.ref lp, .null, .null, .int 0, .int 0, .ref m1, .ref m2, .ref m3, .ref m4, .ref m5, .null, .null, .int 0, .ref m6, .int 0, .int 0, .int 0, .long 0, .null, .ref m7, .ref m8, .int 0, .int 0, .long 0])), (lp, .inr (0, [.int 0, .ref te, .int 0])), (qo, .inl (ko, 1, .inr (.inl (fun _ => 0))))]) (hS : va_S A s.heap H locs) {ls : Array Slot} (hl : lv_has ls 8 [(4, .int 0), (3, .ref qo), (2, .ref qm), (1, .ref qx), (0, .ref b)]) (p1 p2 : Int32) (e1 : xs (1 : Int32).toNatClampNeg = p1) (e2 : xs (2 : Int32).toNatClampNeg = p2)  : W p l e room_1 s m #[Value.ref b] below meth c H locs 89 78003 (lw_Z below #[Value.ref b] s) (F0 m 1383 ls []) := by
  obtain ⟨hx, hb, hr, hml, hown, hts0, hX, hbl, hlocks, hgv⟩ := id C0
  have hts : ∀ w ∈ z_law, w.before #[Value.ref b] s = true := fun w h => hts0 w (z_law_in w h)
  have hown : s.vm.findClass RL = some m.cls := hown
  have hA : ∀ q : Nat, s.heap.size ≤ q → A q := fun q h => by rw [hAA]; exact h
  have hbA : ¬ A b := by rw [hAA]; exact Nat.not_le.mpr hbl
  have hP := hP.sub (ws' := [(qx, .inr (8, [.ref rp, .int 0, .ref rt, .ref rc, .int ((-1)), .ref r1, .ref r2, .ref r3, .ref r4, .null, .int 0])), (qm, .inr (17, [.ref lp, .null, .null, .int 0, .int 0, .ref m1, .ref m2, .ref m3, .ref m4, .ref m5, .null, .null, .int 0, .ref m6, .int 0, .int 0, .int 0, .long 0, .null, .ref m7, .ref m8, .int 0, .int 0, .long 0])), (lp, .inr (0, [.int 0, .ref te, .int 0]))]) [0, 11, 12] rfl
  have hD := hD.sub (ws' := [(qx, .inr (8, [.ref rp, .int 0, .ref rt, .ref rc, .int ((-1)), .ref r1, .ref r2, .ref r3, .ref r4, .null, .int 0])), (qm, .inr (17, [.ref lp, .null, .null, .int 0, .int 0, .ref m1, .ref m2, .ref m3, .ref m4, .ref m5, .null, .null, .int 0, .ref m6, .int 0, .int 0, .int 0, .long 0, .null, .ref m7, .ref m8, .int 0, .int 0, .long 0])), (lp, .inr (0, [.int 0, .ref te, .int 0]))]) [0, 11, 12] (by decide) rfl
  have hK := hK.sub (tys' := []) [] rfl
  have hP : va_P (dC, dI) vwCl [(qx, .inr (8, [.ref rp, .int 0, .ref rt, .ref rc, .int ((-1)), .ref r1, .ref r2, .ref r3, .ref r4, .null, .int 0])), (qm, .inr (17, [.ref lp, .null, .null, .int 0, .int 0, .ref m1, .ref m2, .ref m3, .ref m4, .ref m5, .null, .null, .int 0, .ref m6, .int 0, .int 0, .int 0, .long 0, .null, .ref m7, .ref m8, .int 0, .int 0, .long 0])), (lp, .inr (0, [.int 0, .ref te, .int 0]))] H := hP
  have hD : va_D A [(qx, .inr (8, [.ref rp, .int 0, .ref rt, .ref rc, .int ((-1)), .ref r1, .ref r2, .ref r3, .ref r4, .null, .int 0])), (qm, .inr (17, [.ref lp, .null, .null, .int 0, .int 0, .ref m1, .ref m2, .ref m3, .ref m4, .ref m5, .null, .null, .int 0, .ref m6, .int 0, .int 0, .int 0, .long 0, .null, .ref m7, .ref m8, .int 0, .int 0, .long 0])), (lp, .inr (0, [.int 0, .ref te, .int 0]))] := hD
  have hK : va_K (dC, dI) vwCl [] s := hK
  refine lv_aload_n hx hb dL_law_1383 rfl (lv_at hl 3 rfl) ?_
  refine lv_aload_n hx hb dL_law_1384 rfl (lv_at hl 1 rfl) ?_
  have hPc := hP.sub (ws' := [(qx, .inr (8, [.ref rp, .int 0, .ref rt, .ref rc, .int ((-1)), .ref r1, .ref r2, .ref r3, .ref r4, .null, .int 0]))]) [0] rfl
  have hDc := hD.sub (ws' := [(qx, .inr (8, [.ref rp, .int 0, .ref rt, .ref rc, .int ((-1)), .ref r1, .ref r2, .ref r3, .ref r4, .null, .int 0]))]) [0] (by decide) rfl
  have hKc := hK.sub (tys' := []) [] rfl
  have hFc := va_free (wc := [(qx, .inr (8, [.ref rp, .int 0, .ref rt, .ref rc, .int ((-1)), .ref r1, .ref r2, .ref r3, .ref r4, .null, .int 0]))]) hD hS hA [0] rfl
  refine vx_calli (vx_runSX (As := [.ref qx, .ref qo]) (rest := []) ⟨hx, hb, hml, hown, hts⟩ (c_L_value l dC dI tp te H.size hlt qx rp rt rc r1 r2 r3 r4 qo) (vx_cwSW 2 hts g_law_189_L_value rfl rfl rfl (by decide +kernel) ⟨Nat.le_of_ble_eq_true rfl, Nat.le_of_ble_eq_true rfl⟩) ⟨Pw.blind, Pw.mk hPc hKc hDc hG hS hFc⟩ rfl rfl hl.1 rfl (lv_room (Nat.le_of_ble_eq_true rfl)) dL_law_1385 ⟨Nat.le_of_ble_eq_true rfl, Nat.le_of_ble_eq_true rfl⟩) hS (fun q _ h => hFc q h) hFc (fun q _ h => hFc q h) (fun E ce q9 u t9 H1 locs ht hvm hpx hBX hz1 hk1 hS hce hcv hcl => hpx.elim) (fun r u t9 H_1 locs ht hvm hw hB hz1 hk1 hS => ?_)
  have hw : r = 1 := hw
  subst hw
  obtain ⟨hP, hD⟩ := va_join (wr := [(qm, .inr (17, [.ref lp, .null, .null, .int 0, .int 0, .ref m1, .ref m2, .ref m3, .ref m4, .ref m5, .null, .null, .int 0, .ref m6, .int 0, .int 0, .int 0, .long 0, .null, .ref m7, .ref m8, .int 0, .int 0, .long 0])), (lp, .inr (0, [.int 0, .ref te, .int 0]))]) (w1 := []) hP hD [0] [1, 2] rfl rfl (by decide) (by decide) hk1 hFc va_P.nil va_D.nil
  have hK := hK.sub (tys' := []) [] rfl
  have hP : va_P (dC, dI) vwCl [(qm, .inr (17, [.ref lp, .null, .null, .int 0, .int 0, .ref m1, .ref m2, .ref m3, .ref m4, .ref m5, .null, .null, .int 0, .ref m6, .int 0, .int 0, .int 0, .long 0, .null, .ref m7, .ref m8, .int 0, .int 0, .long 0])), (lp, .inr (0, [.int 0, .ref te, .int 0]))] H_1 := hP
  have hD : va_D A [(qm, .inr (17, [.ref lp, .null, .null, .int 0, .int 0, .ref m1, .ref m2, .ref m3, .ref m4, .ref m5, .null, .null, .int 0, .ref m6, .int 0, .int 0, .int 0, .long 0, .null, .ref m7, .ref m8, .int 0, .int 0, .long 0])), (lp, .inr (0, [.int 0, .ref te, .int 0]))] := hD
  have hK : va_K (dC, dI) vwCl [] s := hK
  refine W.widen (k := 90) (n := 78009) (Nat.le_of_ble_eq_true rfl) (Nat.le_of_ble_eq_true rfl) ?_
  refine lv_istore (lv' := [(5, .int 1), (4, .int 0), (3, .ref qo), (2, .ref qm), (1, .ref qx), (0, .ref b)]) hx hb dL_law_1388 hl (by decide) rfl (fun ls hl => ?_)
  refine lv_aload_n hx hb dL_law_1390 rfl (lv_at hl 3 rfl) ?_
  have hPc := hP.sub (ws' := [(qm, .inr (17, [.ref lp, .null, .null, .int 0, .int 0, .ref m1, .ref m2, .ref m3, .ref m4, .ref m5, .null, .null, .int 0, .ref m6, .int 0, .int 0, .int 0, .long 0, .null, .ref m7, .ref m8, .int 0, .int 0, .long 0])), (lp, .inr (0, [.int 0, .ref te, .int 0]))]) [0, 1] rfl
  have hDc := hD.sub (ws' := [(qm, .inr (17, [.ref lp, .null, .null, .int 0, .int 0, .ref m1, .ref m2, .ref m3, .ref m4, .ref m5, .null, .null, .int 0, .ref m6, .int 0, .int 0, .int 0, .long 0, .null, .ref m7, .ref m8, .int 0, .int 0, .long 0])), (lp, .inr (0, [.int 0, .ref te, .int 0]))]) [0, 1] (by decide) rfl
  have hKc := hK.sub (tys' := []) [] rfl
  have hFc := va_free (wc := [(qm, .inr (17, [.ref lp, .null, .null, .int 0, .int 0, .ref m1, .ref m2, .ref m3, .ref m4, .ref m5, .null, .null, .int 0, .ref m6, .int 0, .int 0, .int 0, .long 0, .null, .ref m7, .ref m8, .int 0, .int 0, .long 0])), (lp, .inr (0, [.int 0, .ref te, .int 0]))]) hD hS hA [0, 1] rfl
  refine va_calll (va_runV (As := []) (rest := []) ⟨hx, hb, hml, hown, hts⟩ (c_M_value l dC dI tp te H_1.size qm lp m1 m2 m3 m4 m5 m6 m7 m8) (cwV 0 hts g_law_191_M_value rfl rfl rfl (by decide +kernel) ⟨Nat.le_of_ble_eq_true rfl, Nat.le_of_ble_eq_true rfl⟩) ⟨Pw.blind, va_recv hKc hPc (ci := 17) (q0 := 0) rfl rfl, Pw.mk hPc hKc hDc hG hS hFc⟩ rfl rfl hl.1 rfl (lv_room (Nat.le_of_ble_eq_true rfl)) dL_law_1391 ⟨Nat.le_of_ble_eq_true rfl, Nat.le_of_ble_eq_true rfl⟩) hS (fun q _ h => hFc q h) hFc (fun r u t9 H_3 locs ht hvm hw hB hz1 hk1 hS => ?_)
  have hw : r = 0 := hw
  subst hw
  obtain ⟨hP1, hK1, hD1⟩ := hB
  rw [ht] at hP1
  have hK1 := va_K.moved hvm.symm hK1
  obtain ⟨hP, hD⟩ := va_join (wr := []) (w1 := [(qm, .inr (17, [.ref lp, .null, .null, .int 0, .int 1, .ref m1, .ref m2, .ref m3, .ref m4, .ref m5, .null, .null, .int 0, .ref m6, .int 0, .int 0, .int 0, .long 0, .null, .ref m7, .ref m8, .int 0, .int 0, .long 0]))]) hP hD [0, 1] [] rfl rfl (by decide) (by decide) hk1 hFc hP1 hD1
  have hK := (hK.sub (tys' := []) [] rfl).app hK1
  have hP : va_P (dC, dI) vwCl [(qm, .inr (17, [.ref lp, .null, .null, .int 0, .int 1, .ref m1, .ref m2, .ref m3, .ref m4, .ref m5, .null, .null, .int 0, .ref m6, .int 0, .int 0, .int 0, .long 0, .null, .ref m7, .ref m8, .int 0, .int 0, .long 0]))] H_3 := hP
  have hD : va_D A [(qm, .inr (17, [.ref lp, .null, .null, .int 0, .int 1, .ref m1, .ref m2, .ref m3, .ref m4, .ref m5, .null, .null, .int 0, .ref m6, .int 0, .int 0, .int 0, .long 0, .null, .ref m7, .ref m8, .int 0, .int 0, .long 0]))] := hD
  have hK : va_K (dC, dI) vwCl [] s := hK
  refine W.widen (k := 90) (n := 78009) (Nat.le_of_ble_eq_true rfl) (Nat.le_of_ble_eq_true rfl) ?_
  refine lv_lstore (lv' := [(6, .long 0), (5, .int 1), (4, .int 0), (3, .ref qo), (2, .ref qm), (1, .ref qx), (0, .ref b)]) hx hb dL_law_1394 hl (by decide) rfl (fun ls hl => ?_)
  refine lv_aload_n hx hb dL_law_1396 rfl (lv_at hl 4 rfl) ?_
  have hPc := hP.sub (ws' := [(qm, .inr (17, [.ref lp, .null, .null, .int 0, .int 1, .ref m1, .ref m2, .ref m3, .ref m4, .ref m5, .null, .null, .int 0, .ref m6, .int 0, .int 0, .int 0, .long 0, .null, .ref m7, .ref m8, .int 0, .int 0, .long 0]))]) [0] rfl
  have hDc := hD.sub (ws' := [(qm, .inr (17, [.ref lp, .null, .null, .int 0, .int 1, .ref m1, .ref m2, .ref m3, .ref m4, .ref m5, .null, .null, .int 0, .ref m6, .int 0, .int 0, .int 0, .long 0, .null, .ref m7, .ref m8, .int 0, .int 0, .long 0]))]) [0] (by decide) rfl
  have hKc := hK.sub (tys' := []) [] rfl
  have hFc := va_free (wc := [(qm, .inr (17, [.ref lp, .null, .null, .int 0, .int 1, .ref m1, .ref m2, .ref m3, .ref m4, .ref m5, .null, .null, .int 0, .ref m6, .int 0, .int 0, .int 0, .long 0, .null, .ref m7, .ref m8, .int 0, .int 0, .long 0]))]) hD hS hA [0] rfl
  refine va_calli (va_runV (As := []) (rest := []) ⟨hx, hb, hml, hown, hts⟩ (c_thrown l dC dI tp te H_3.size qm lp m1 m2 m3 m4 m5 m6 m7 m8 1) (cwV 0 hts g_law_113_thrown rfl rfl rfl (by decide +kernel) ⟨Nat.le_of_ble_eq_true rfl, Nat.le_of_ble_eq_true rfl⟩) ⟨Pw.blind, va_recv hKc hPc (ci := 17) (q0 := 0) rfl rfl, Pw.mk hPc hKc hDc hG hS hFc⟩ rfl rfl hl.1 rfl (lv_room (Nat.le_of_ble_eq_true rfl)) dL_law_1397 ⟨Nat.le_of_ble_eq_true rfl, Nat.le_of_ble_eq_true rfl⟩) hS (fun q _ h => hFc q h) hFc (fun r u t9 H_5 locs ht hvm hw hB hz1 hk1 hS => ?_)
  have hw : r = 1 := hw
  subst hw
  obtain ⟨hP1, hK1, hD1⟩ := hB
  rw [ht] at hP1
  have hK1 := va_K.moved hvm.symm hK1
  obtain ⟨hP, hD⟩ := va_join (wr := []) (w1 := [(qm, .inr (17, [.ref lp, .null, .null, .int 0, .int 1, .ref m1, .ref m2, .ref m3, .ref m4, .ref m5, .null, .null, .int 0, .ref m6, .int 0, .int 0, .int 0, .long 0, .null, .ref m7, .ref m8, .int 0, .int 0, .long 0]))]) hP hD [0] [] rfl rfl (by decide) (by decide) hk1 hFc hP1 hD1
  have hK := (hK.sub (tys' := []) [] rfl).app hK1
  have hP : va_P (dC, dI) vwCl [(qm, .inr (17, [.ref lp, .null, .null, .int 0, .int 1, .ref m1, .ref m2, .ref m3, .ref m4, .ref m5, .null, .null, .int 0, .ref m6, .int 0, .int 0, .int 0, .long 0, .null, .ref m7, .ref m8, .int 0, .int 0, .long 0]))] H_5 := hP
  have hD : va_D A [(qm, .inr (17, [.ref lp, .null, .null, .int 0, .int 1, .ref m1, .ref m2, .ref m3, .ref m4, .ref m5, .null, .null, .int 0, .ref m6, .int 0, .int 0, .int 0, .long 0, .null, .ref m7, .ref m8, .int 0, .int 0, .long 0]))] := hD
  have hK : va_K (dC, dI) vwCl [] s := hK
  refine W.widen (k := 90) (n := 78009) (Nat.le_of_ble_eq_true rfl) (Nat.le_of_ble_eq_true rfl) ?_
  refine lv_iload hx hb dL_law_1400 (lv_at hl 1 rfl) ?_
  refine lv_icmp_eq (tgt := 1407) hx hb dL_law_1402 (by decide) (fun c9 => ?_) (fun c9 => absurd (by decide) c9)
  refine lv_iload hx hb dL_law_1407 (lv_at hl 1 rfl) ?_
  refine lv_if_ne (tgt := 1423) hx hb dL_law_1409 (by decide) (fun c9 => ?_) (fun c9 => absurd c9 (by decide))
  refine lv_goto (tgt := 1569) hx hb dL_law_1423 (by decide) ?_
  exact lc_next C0 hAA hS (lv_sub hl [6, 2] rfl) (Nat.le_of_ble_eq_true rfl) (Nat.le_of_ble_eq_true rfl)
set_option maxHeartbeats 4000000 in
set_option maxRecDepth 100000 in
theorem lc_machine_neg {p : Program} {l : Launch} {e : Env} {s : State} {m : MethodId} {below : List Frame} {meth : Method} {c : Code} (hlt : l.stackTraces = false) {b : Nat} {xs : Nat → Int32} (C0 : lw_At p s m meth c b 3 xs) {A : Nat → Prop} (hAA : A = fun q : Nat => s.heap.size ≤ q) {dC : Nat → ClassId} {dI : Nat → Nat → Nat} {tp te : Nat} (hG : gx tp te A s s.heap) {qx rp rt rc r1 r2 r3 r4 a1 a2 a3 a4 a5 a6 a7 t1 t2 t3 t4 t5 t6 t7 c1 c2 c3 c4 c5 c6 c7 qm lp m1 m2 m3 m4 m5 m6 m7 m8 qo : Nat} {k1 k2 k3 k4 k5 k6 k7 ko : ClassId} {H : Heap} {locs : List Loc} (hK : va_K (dC, dI) vwCl [(k1, .int), (k2, .int), (k3, .int), (k4, .long), (k5, .int), (k6, .int), (k7, .int), (ko, .long)] s) (hP : va_P (dC, dI) vwCl [(qx, .inr (8, [.ref rp, .int 0, .ref rt, .ref rc, .int ((-1)), .ref r1, .ref r2, .ref r3, .ref r4, .null, .int 0])), (rp, .inr (6, [.ref a1, .ref a2, .ref a3, .ref a4, .ref a5, .ref a6, .ref a7, .int 0])), (a1, .inl (k1, 1200, .inl (fun _ => 0))), (a2, .inl (k2, 1200, .inl (fun _ => 0))), (a3, .inl (k3, 1200, .inl (fun _ => 0))), (a4, .inl (k4, 1200, .inr (.inl (fun _ => 0)))), (a5, .inl (k5, 1200, .inl (fun _ => 0))), (a6, .inl (k6, 1200, .inl (fun _ => 0))), (a7, .inl (k7, 1200, .inl (fun _ => 0))), (rt, .inr (6, [.ref t1, .ref t2, .ref t3, .ref t4, .ref t5, .ref t6, .ref t7, .int 0])), (rc, .inr (6, [.ref c1, .ref c2, .ref c3, .ref c4, .ref c5, .ref c6, .ref c7, .int 0])), (qm, .inr (17, [.ref lp, .null, .null, .int 0, .int 0, .ref m1, .ref m2, .ref m3, .ref m4, .ref m5, .null, .null, .int 0, .ref m6, .int 0, .int 0, .int 0, .long 0, .null, .ref m7, .ref m8, .int 0, .int 0, .long 0])), (lp, .inr (0, [.int 0, .ref te, .int 0])), (qo, .inl (ko, 1, .inr (.inl (fun _ => 0))))] H) (hD : va_D A [(qx, .inr (8, [.ref rp, .int 0, .ref rt, .ref rc, .int ((-1)), .ref r1, .ref r2, .ref r3, .ref r4, .null, .int 0])), (rp, .inr (6, [.ref a1, .ref a2, .ref a3, .ref a4, .ref a5, .ref a6, .ref a7, .int 0])), (a1, .inl (k1, 1200, .inl (fun _ => 0))), (a2, .inl (k2, 1200, .inl (fun _ => 0))), (a3, .inl (k3, 1200, .inl (fun _ => 0))), (a4, .inl (k4, 1200, .inr (.inl (fun _ => 0)))), (a5, .inl (k5, 1200, .inl (fun _ => 0))), (a6, .inl (k6, 1200, .inl (fun _ => 0))), (a7, .inl (k7, 1200, .inl (fun _ => 0))), (rt, .inr (6, [.ref t1, .ref t2, .ref t3, .ref t4, .ref t5, .ref t6, .ref t7, .int 0])), (rc, .inr (6, [.ref c1, .ref c2, .ref c3, .ref c4, .ref c5, .ref c6, .ref c7, .int 0])), (qm, .inr (17, [.ref lp, .null, .null, .int 0, .int 0, .ref m1, .ref m2, .ref m3, .ref m4, .ref m5, .null, .null, .int 0, .ref m6, .int 0, .int 0, .int 0, .long 0, .null, .ref m7, .ref m8, .int 0, .int 0, .long 0])), (lp, .inr (0, [.int 0, .ref te, .int 0])), (qo, .inl (ko, 1, .inr (.inl (fun _ => 0))))]) (hS : va_S A s.heap H locs) {ls : Array Slot} (hl : lv_has ls 8 [(4, .int 0), (3, .ref qo), (2, .ref qm), (1, .ref qx), (0, .ref b)]) (p1 p2 : Int32) (e1 : xs (1 : Int32).toNatClampNeg = p1) (e2 : xs (2 : Int32).toNatClampNeg = p2) (hv0 : p1 < 0) : W p l e room_1 s m #[Value.ref b] below meth c H locs 89 78003 (lw_Z below #[Value.ref b] s) (F0 m 1426 ls []) := by
  obtain ⟨hx, hb, hr, hml, hown, hts0, hX, hbl, hlocks, hgv⟩ := id C0
  have hts : ∀ w ∈ z_law, w.before #[Value.ref b] s = true := fun w h => hts0 w (z_law_in w h)
  have hown : s.vm.findClass RL = some m.cls := hown
  have hA : ∀ q : Nat, s.heap.size ≤ q → A q := fun q h => by rw [hAA]; exact h
  have hbA : ¬ A b := by rw [hAA]; exact Nat.not_le.mpr hbl
  have hP := hP.sub (ws' := [(qx, .inr (8, [.ref rp, .int 0, .ref rt, .ref rc, .int ((-1)), .ref r1, .ref r2, .ref r3, .ref r4, .null, .int 0])), (qm, .inr (17, [.ref lp, .null, .null, .int 0, .int 0, .ref m1, .ref m2, .ref m3, .ref m4, .ref m5, .null, .null, .int 0, .ref m6, .int 0, .int 0, .int 0, .long 0, .null, .ref m7, .ref m8, .int 0, .int 0, .long 0])), (lp, .inr (0, [.int 0, .ref te, .int 0]))]) [0, 11, 12] rfl
  have hD := hD.sub (ws' := [(qx, .inr (8, [.ref rp, .int 0, .ref rt, .ref rc, .int ((-1)), .ref r1, .ref r2, .ref r3, .ref r4, .null, .int 0])), (qm, .inr (17, [.ref lp, .null, .null, .int 0, .int 0, .ref m1, .ref m2, .ref m3, .ref m4, .ref m5, .null, .null, .int 0, .ref m6, .int 0, .int 0, .int 0, .long 0, .null, .ref m7, .ref m8, .int 0, .int 0, .long 0])), (lp, .inr (0, [.int 0, .ref te, .int 0]))]) [0, 11, 12] (by decide) rfl
  have hK := hK.sub (tys' := []) [] rfl
  have hP : va_P (dC, dI) vwCl [(qx, .inr (8, [.ref rp, .int 0, .ref rt, .ref rc, .int ((-1)), .ref r1, .ref r2, .ref r3, .ref r4, .null, .int 0])), (qm, .inr (17, [.ref lp, .null, .null, .int 0, .int 0, .ref m1, .ref m2, .ref m3, .ref m4, .ref m5, .null, .null, .int 0, .ref m6, .int 0, .int 0, .int 0, .long 0, .null, .ref m7, .ref m8, .int 0, .int 0, .long 0])), (lp, .inr (0, [.int 0, .ref te, .int 0]))] H := hP
  have hD : va_D A [(qx, .inr (8, [.ref rp, .int 0, .ref rt, .ref rc, .int ((-1)), .ref r1, .ref r2, .ref r3, .ref r4, .null, .int 0])), (qm, .inr (17, [.ref lp, .null, .null, .int 0, .int 0, .ref m1, .ref m2, .ref m3, .ref m4, .ref m5, .null, .null, .int 0, .ref m6, .int 0, .int 0, .int 0, .long 0, .null, .ref m7, .ref m8, .int 0, .int 0, .long 0])), (lp, .inr (0, [.int 0, .ref te, .int 0]))] := hD
  have hK : va_K (dC, dI) vwCl [] s := hK
  refine lv_aload_n hx hb dL_law_1426 rfl (lv_at hl 3 rfl) ?_
  refine lv_aload_n hx hb dL_law_1427 rfl (lv_at hl 4 rfl) ?_
  refine lv_iload hx hb dL_law_1428 (lv_at hl 0 rfl) ?_
  refine lv_iconst (v := 1) hx hb dL_law_1430 (by decide) ?_
  refine lv_iadd hx hb dL_law_1431 ?_
  refine lv_topi (fun z_1 ez_1 => ?_)
  obtain rfl : z_1 = 1 := ez_1.trans (by decide)
  refine va_sld hx hb hX hbl hbA hS (by unfold vp_in; decide +kernel) dL_law_1432 ?_
  refine lv_topi (fun z_2 ez_2 => ?_)
  obtain rfl : p1 = z_2 := (ez_2.trans e1).symm
  refine lv_aload_n hx hb dL_law_1433 rfl (lv_at hl 1 rfl) ?_
  have hPc := hP.sub (ws' := [(qx, .inr (8, [.ref rp, .int 0, .ref rt, .ref rc, .int ((-1)), .ref r1, .ref r2, .ref r3, .ref r4, .null, .int 0]))]) [0] rfl
  have hDc := hD.sub (ws' := [(qx, .inr (8, [.ref rp, .int 0, .ref rt, .ref rc, .int ((-1)), .ref r1, .ref r2, .ref r3, .ref r4, .null, .int 0]))]) [0] (by decide) rfl
  have hKc := hK.sub (tys' := []) [] rfl
  have hFc := va_free (wc := [(qx, .inr (8, [.ref rp, .int 0, .ref rt, .ref rc, .int ((-1)), .ref r1, .ref r2, .ref r3, .ref r4, .null, .int 0]))]) hD hS hA [0] rfl
  refine vx_calli (vx_runSX (As := [.ref qx, .int p1, .ref qo]) (rest := []) ⟨hx, hb, hml, hown, hts⟩ (c_L_machine_neg l dC dI tp te H.size hlt qx rp rt rc r1 r2 r3 r4 p1 qo hv0) (vx_cwSW 3 hts g_law_192_L_machine_neg rfl rfl rfl (by decide +kernel) ⟨Nat.le_of_ble_eq_true rfl, Nat.le_of_ble_eq_true rfl⟩) ⟨Pw.blind, Pw.mk hPc hKc hDc hG hS hFc⟩ rfl rfl hl.1 rfl (lv_room (Nat.le_of_ble_eq_true rfl)) dL_law_1434 ⟨Nat.le_of_ble_eq_true rfl, Nat.le_of_ble_eq_true rfl⟩) hS (fun q _ h => hFc q h) hFc (fun q _ h => hFc q h) (fun E ce q9 u t9 H1 locs ht hvm hpx hBX hz1 hk1 hS hce hcv hcl => hpx.elim) (fun r u t9 H_3 locs ht hvm hw hB hz1 hk1 hS => ?_)
  have hw : r = 1 := hw
  subst hw
  obtain ⟨hP, hD⟩ := va_join (wr := [(qm, .inr (17, [.ref lp, .null, .null, .int 0, .int 0, .ref m1, .ref m2, .ref m3, .ref m4, .ref m5, .null, .null, .int 0, .ref m6, .int 0, .int 0, .int 0, .long 0, .null, .ref m7, .ref m8, .int 0, .int 0, .long 0])), (lp, .inr (0, [.int 0, .ref te, .int 0]))]) (w1 := []) hP hD [0] [1, 2] rfl rfl (by decide) (by decide) hk1 hFc va_P.nil va_D.nil
  have hK := hK.sub (tys' := []) [] rfl
  have hP : va_P (dC, dI) vwCl [(qm, .inr (17, [.ref lp, .null, .null, .int 0, .int 0, .ref m1, .ref m2, .ref m3, .ref m4, .ref m5, .null, .null, .int 0, .ref m6, .int 0, .int 0, .int 0, .long 0, .null, .ref m7, .ref m8, .int 0, .int 0, .long 0])), (lp, .inr (0, [.int 0, .ref te, .int 0]))] H_3 := hP
  have hD : va_D A [(qm, .inr (17, [.ref lp, .null, .null, .int 0, .int 0, .ref m1, .ref m2, .ref m3, .ref m4, .ref m5, .null, .null, .int 0, .ref m6, .int 0, .int 0, .int 0, .long 0, .null, .ref m7, .ref m8, .int 0, .int 0, .long 0])), (lp, .inr (0, [.int 0, .ref te, .int 0]))] := hD
  have hK : va_K (dC, dI) vwCl [] s := hK
  refine W.widen (k := 90) (n := 78009) (Nat.le_of_ble_eq_true rfl) (Nat.le_of_ble_eq_true rfl) ?_
  refine lv_istore (lv' := [(5, .int 1), (4, .int 0), (3, .ref qo), (2, .ref qm), (1, .ref qx), (0, .ref b)]) hx hb dL_law_1437 hl (by decide) rfl (fun ls hl => ?_)
  refine lv_aload_n hx hb dL_law_1439 rfl (lv_at hl 3 rfl) ?_
  refine lv_aload_n hx hb dL_law_1440 rfl (lv_at hl 5 rfl) ?_
  refine lv_iload hx hb dL_law_1441 (lv_at hl 1 rfl) ?_
  refine lv_iconst (v := 1) hx hb dL_law_1443 (by decide) ?_
  refine lv_iadd hx hb dL_law_1444 ?_
  refine lv_topi (fun z_5 ez_5 => ?_)
  obtain rfl : z_5 = 1 := ez_5.trans (by decide)
  refine va_sld hx hb hX hbl hbA hS (by unfold vp_in; decide +kernel) dL_law_1445 ?_
  refine lv_topi (fun z_6 ez_6 => ?_)
  obtain rfl : p1 = z_6 := (ez_6.trans e1).symm
  have hPc := hP.sub (ws' := [(qm, .inr (17, [.ref lp, .null, .null, .int 0, .int 0, .ref m1, .ref m2, .ref m3, .ref m4, .ref m5, .null, .null, .int 0, .ref m6, .int 0, .int 0, .int 0, .long 0, .null, .ref m7, .ref m8, .int 0, .int 0, .long 0])), (lp, .inr (0, [.int 0, .ref te, .int 0]))]) [0, 1] rfl
  have hDc := hD.sub (ws' := [(qm, .inr (17, [.ref lp, .null, .null, .int 0, .int 0, .ref m1, .ref m2, .ref m3, .ref m4, .ref m5, .null, .null, .int 0, .ref m6, .int 0, .int 0, .int 0, .long 0, .null, .ref m7, .ref m8, .int 0, .int 0, .long 0])), (lp, .inr (0, [.int 0, .ref te, .int 0]))]) [0, 1] (by decide) rfl
  have hKc := hK.sub (tys' := []) [] rfl
  have hFc := va_free (wc := [(qm, .inr (17, [.ref lp, .null, .null, .int 0, .int 0, .ref m1, .ref m2, .ref m3, .ref m4, .ref m5, .null, .null, .int 0, .ref m6, .int 0, .int 0, .int 0, .long 0, .null, .ref m7, .ref m8, .int 0, .int 0, .long 0])), (lp, .inr (0, [.int 0, .ref te, .int 0]))]) hD hS hA [0, 1] rfl
  refine va_calli (va_runV (As := [.int p1]) (rest := []) ⟨hx, hb, hml, hown, hts⟩ (c_M_machine_neg l dC dI tp te H_3.size qm lp m1 m2 m3 m4 m5 m6 m7 m8 p1 hv0) (cwV 1 hts g_law_194_M_machine_neg rfl rfl rfl (by decide +kernel) ⟨Nat.le_of_ble_eq_true rfl, Nat.le_of_ble_eq_true rfl⟩) ⟨Pw.blind, va_recv hKc hPc (ci := 17) (q0 := 0) rfl rfl, Pw.mk hPc hKc hDc hG hS hFc⟩ rfl rfl hl.1 rfl (lv_room (Nat.le_of_ble_eq_true rfl)) dL_law_1446 ⟨Nat.le_of_ble_eq_true rfl, Nat.le_of_ble_eq_true rfl⟩) hS (fun q _ h => hFc q h) hFc (fun r u t9 H_7 locs ht hvm hw hB hz1 hk1 hS => ?_)
  have hw : r = 0 := hw
  subst hw
  obtain ⟨hP1, hK1, hD1⟩ := hB
  rw [ht] at hP1
  have hK1 := va_K.moved hvm.symm hK1
  obtain ⟨hP, hD⟩ := va_join (wr := []) (w1 := [(qm, .inr (17, [.ref lp, .null, .null, .int 0, .int 1, .ref m1, .ref m2, .ref m3, .ref m4, .ref m5, .null, .null, .int 0, .ref m6, .int 0, .int 0, .int 0, .long 0, .null, .ref m7, .ref m8, .int 0, .int 0, .long 0]))]) hP hD [0, 1] [] rfl rfl (by decide) (by decide) hk1 hFc hP1 hD1
  have hK := (hK.sub (tys' := []) [] rfl).app hK1
  have hP : va_P (dC, dI) vwCl [(qm, .inr (17, [.ref lp, .null, .null, .int 0, .int 1, .ref m1, .ref m2, .ref m3, .ref m4, .ref m5, .null, .null, .int 0, .ref m6, .int 0, .int 0, .int 0, .long 0, .null, .ref m7, .ref m8, .int 0, .int 0, .long 0]))] H_7 := hP
  have hD : va_D A [(qm, .inr (17, [.ref lp, .null, .null, .int 0, .int 1, .ref m1, .ref m2, .ref m3, .ref m4, .ref m5, .null, .null, .int 0, .ref m6, .int 0, .int 0, .int 0, .long 0, .null, .ref m7, .ref m8, .int 0, .int 0, .long 0]))] := hD
  have hK : va_K (dC, dI) vwCl [] s := hK
  refine W.widen (k := 90) (n := 78009) (Nat.le_of_ble_eq_true rfl) (Nat.le_of_ble_eq_true rfl) ?_
  refine lv_istore (lv' := [(6, .int 0), (5, .int 1), (4, .int 0), (3, .ref qo), (2, .ref qm), (1, .ref qx), (0, .ref b)]) hx hb dL_law_1449 hl (by decide) rfl (fun ls hl => ?_)
  refine lv_aload_n hx hb dL_law_1451 rfl (lv_at hl 4 rfl) ?_
  have hPc := hP.sub (ws' := [(qm, .inr (17, [.ref lp, .null, .null, .int 0, .int 1, .ref m1, .ref m2, .ref m3, .ref m4, .ref m5, .null, .null, .int 0, .ref m6, .int 0, .int 0, .int 0, .long 0, .null, .ref m7, .ref m8, .int 0, .int 0, .long 0]))]) [0] rfl
  have hDc := hD.sub (ws' := [(qm, .inr (17, [.ref lp, .null, .null, .int 0, .int 1, .ref m1, .ref m2, .ref m3, .ref m4, .ref m5, .null, .null, .int 0, .ref m6, .int 0, .int 0, .int 0, .long 0, .null, .ref m7, .ref m8, .int 0, .int 0, .long 0]))]) [0] (by decide) rfl
  have hKc := hK.sub (tys' := []) [] rfl
  have hFc := va_free (wc := [(qm, .inr (17, [.ref lp, .null, .null, .int 0, .int 1, .ref m1, .ref m2, .ref m3, .ref m4, .ref m5, .null, .null, .int 0, .ref m6, .int 0, .int 0, .int 0, .long 0, .null, .ref m7, .ref m8, .int 0, .int 0, .long 0]))]) hD hS hA [0] rfl
  refine va_calli (va_runV (As := []) (rest := []) ⟨hx, hb, hml, hown, hts⟩ (c_thrown l dC dI tp te H_7.size qm lp m1 m2 m3 m4 m5 m6 m7 m8 1) (cwV 0 hts g_law_113_thrown rfl rfl rfl (by decide +kernel) ⟨Nat.le_of_ble_eq_true rfl, Nat.le_of_ble_eq_true rfl⟩) ⟨Pw.blind, va_recv hKc hPc (ci := 17) (q0 := 0) rfl rfl, Pw.mk hPc hKc hDc hG hS hFc⟩ rfl rfl hl.1 rfl (lv_room (Nat.le_of_ble_eq_true rfl)) dL_law_1452 ⟨Nat.le_of_ble_eq_true rfl, Nat.le_of_ble_eq_true rfl⟩) hS (fun q _ h => hFc q h) hFc (fun r u t9 H_9 locs ht hvm hw hB hz1 hk1 hS => ?_)
  have hw : r = 1 := hw
  subst hw
  obtain ⟨hP1, hK1, hD1⟩ := hB
  rw [ht] at hP1
  have hK1 := va_K.moved hvm.symm hK1
  obtain ⟨hP, hD⟩ := va_join (wr := []) (w1 := [(qm, .inr (17, [.ref lp, .null, .null, .int 0, .int 1, .ref m1, .ref m2, .ref m3, .ref m4, .ref m5, .null, .null, .int 0, .ref m6, .int 0, .int 0, .int 0, .long 0, .null, .ref m7, .ref m8, .int 0, .int 0, .long 0]))]) hP hD [0] [] rfl rfl (by decide) (by decide) hk1 hFc hP1 hD1
  have hK := (hK.sub (tys' := []) [] rfl).app hK1
  have hP : va_P (dC, dI) vwCl [(qm, .inr (17, [.ref lp, .null, .null, .int 0, .int 1, .ref m1, .ref m2, .ref m3, .ref m4, .ref m5, .null, .null, .int 0, .ref m6, .int 0, .int 0, .int 0, .long 0, .null, .ref m7, .ref m8, .int 0, .int 0, .long 0]))] H_9 := hP
  have hD : va_D A [(qm, .inr (17, [.ref lp, .null, .null, .int 0, .int 1, .ref m1, .ref m2, .ref m3, .ref m4, .ref m5, .null, .null, .int 0, .ref m6, .int 0, .int 0, .int 0, .long 0, .null, .ref m7, .ref m8, .int 0, .int 0, .long 0]))] := hD
  have hK : va_K (dC, dI) vwCl [] s := hK
  refine W.widen (k := 90) (n := 78009) (Nat.le_of_ble_eq_true rfl) (Nat.le_of_ble_eq_true rfl) ?_
  refine lv_iload hx hb dL_law_1455 (lv_at hl 1 rfl) ?_
  refine lv_icmp_eq (tgt := 1462) hx hb dL_law_1457 (by decide) (fun c9 => ?_) (fun c9 => absurd (by decide) c9)
  refine lv_iload hx hb dL_law_1462 (lv_at hl 1 rfl) ?_
  refine lv_if_ne (tgt := 1479) hx hb dL_law_1464 (by decide) (fun c9 => ?_) (fun c9 => absurd c9 (by decide))
  refine lv_goto (tgt := 1569) hx hb dL_law_1479 (by decide) ?_
  exact lc_next C0 hAA hS (lv_sub hl [6, 2] rfl) (Nat.le_of_ble_eq_true rfl) (Nat.le_of_ble_eq_true rfl)
set_option maxHeartbeats 4000000 in
set_option maxRecDepth 100000 in
theorem lc_machine_big {p : Program} {l : Launch} {e : Env} {s : State} {m : MethodId} {below : List Frame} {meth : Method} {c : Code} (hlt : l.stackTraces = false) {b : Nat} {xs : Nat → Int32} (C0 : lw_At p s m meth c b 3 xs) {A : Nat → Prop} (hAA : A = fun q : Nat => s.heap.size ≤ q) {dC : Nat → ClassId} {dI : Nat → Nat → Nat} {tp te : Nat} (hG : gx tp te A s s.heap) {qx rp rt rc r1 r2 r3 r4 a1 a2 a3 a4 a5 a6 a7 t1 t2 t3 t4 t5 t6 t7 c1 c2 c3 c4 c5 c6 c7 qm lp m1 m2 m3 m4 m5 m6 m7 m8 qo : Nat} {k1 k2 k3 k4 k5 k6 k7 ko : ClassId} {H : Heap} {locs : List Loc} (hK : va_K (dC, dI) vwCl [(k1, .int), (k2, .int), (k3, .int), (k4, .long), (k5, .int), (k6, .int), (k7, .int), (ko, .long)] s) (hP : va_P (dC, dI) vwCl [(qx, .inr (8, [.ref rp, .int 0, .ref rt, .ref rc, .int ((-1)), .ref r1, .ref r2, .ref r3, .ref r4, .null, .int 0])), (rp, .inr (6, [.ref a1, .ref a2, .ref a3, .ref a4, .ref a5, .ref a6, .ref a7, .int 0])), (a1, .inl (k1, 1200, .inl (fun _ => 0))), (a2, .inl (k2, 1200, .inl (fun _ => 0))), (a3, .inl (k3, 1200, .inl (fun _ => 0))), (a4, .inl (k4, 1200, .inr (.inl (fun _ => 0)))), (a5, .inl (k5, 1200, .inl (fun _ => 0))), (a6, .inl (k6, 1200, .inl (fun _ => 0))), (a7, .inl (k7, 1200, .inl (fun _ => 0))), (rt, .inr (6, [.ref t1, .ref t2, .ref t3, .ref t4, .ref t5, .ref t6, .ref t7, .int 0])), (rc, .inr (6, [.ref c1, .ref c2, .ref c3, .ref c4, .ref c5, .ref c6, .ref c7, .int 0])), (qm, .inr (17, [.ref lp, .null, .null, .int 0, .int 0, .ref m1, .ref m2, .ref m3, .ref m4, .ref m5, .null, .null, .int 0, .ref m6, .int 0, .int 0, .int 0, .long 0, .null, .ref m7, .ref m8, .int 0, .int 0, .long 0])), (lp, .inr (0, [.int 0, .ref te, .int 0])), (qo, .inl (ko, 1, .inr (.inl (fun _ => 0))))] H) (hD : va_D A [(qx, .inr (8, [.ref rp, .int 0, .ref rt, .ref rc, .int ((-1)), .ref r1, .ref r2, .ref r3, .ref r4, .null, .int 0])), (rp, .inr (6, [.ref a1, .ref a2, .ref a3, .ref a4, .ref a5, .ref a6, .ref a7, .int 0])), (a1, .inl (k1, 1200, .inl (fun _ => 0))), (a2, .inl (k2, 1200, .inl (fun _ => 0))), (a3, .inl (k3, 1200, .inl (fun _ => 0))), (a4, .inl (k4, 1200, .inr (.inl (fun _ => 0)))), (a5, .inl (k5, 1200, .inl (fun _ => 0))), (a6, .inl (k6, 1200, .inl (fun _ => 0))), (a7, .inl (k7, 1200, .inl (fun _ => 0))), (rt, .inr (6, [.ref t1, .ref t2, .ref t3, .ref t4, .ref t5, .ref t6, .ref t7, .int 0])), (rc, .inr (6, [.ref c1, .ref c2, .ref c3, .ref c4, .ref c5, .ref c6, .ref c7, .int 0])), (qm, .inr (17, [.ref lp, .null, .null, .int 0, .int 0, .ref m1, .ref m2, .ref m3, .ref m4, .ref m5, .null, .null, .int 0, .ref m6, .int 0, .int 0, .int 0, .long 0, .null, .ref m7, .ref m8, .int 0, .int 0, .long 0])), (lp, .inr (0, [.int 0, .ref te, .int 0])), (qo, .inl (ko, 1, .inr (.inl (fun _ => 0))))]) (hS : va_S A s.heap H locs) {ls : Array Slot} (hl : lv_has ls 8 [(4, .int 0), (3, .ref qo), (2, .ref qm), (1, .ref qx), (0, .ref b)]) (p1 p2 : Int32) (e1 : xs (1 : Int32).toNatClampNeg = p1) (e2 : xs (2 : Int32).toNatClampNeg = p2) (hv0 : ¬ p1 < 0) (hv1 : ¬ p1 < 6) (hv2 : ¬ p1 ≤ 5) : W p l e room_1 s m #[Value.ref b] below meth c H locs 89 78003 (lw_Z below #[Value.ref b] s) (F0 m 1426 ls []) := by
  obtain ⟨hx, hb, hr, hml, hown, hts0, hX, hbl, hlocks, hgv⟩ := id C0
  have hts : ∀ w ∈ z_law, w.before #[Value.ref b] s = true := fun w h => hts0 w (z_law_in w h)
  have hown : s.vm.findClass RL = some m.cls := hown
  have hA : ∀ q : Nat, s.heap.size ≤ q → A q := fun q h => by rw [hAA]; exact h
  have hbA : ¬ A b := by rw [hAA]; exact Nat.not_le.mpr hbl
  have hP := hP.sub (ws' := [(qx, .inr (8, [.ref rp, .int 0, .ref rt, .ref rc, .int ((-1)), .ref r1, .ref r2, .ref r3, .ref r4, .null, .int 0])), (qm, .inr (17, [.ref lp, .null, .null, .int 0, .int 0, .ref m1, .ref m2, .ref m3, .ref m4, .ref m5, .null, .null, .int 0, .ref m6, .int 0, .int 0, .int 0, .long 0, .null, .ref m7, .ref m8, .int 0, .int 0, .long 0])), (lp, .inr (0, [.int 0, .ref te, .int 0]))]) [0, 11, 12] rfl
  have hD := hD.sub (ws' := [(qx, .inr (8, [.ref rp, .int 0, .ref rt, .ref rc, .int ((-1)), .ref r1, .ref r2, .ref r3, .ref r4, .null, .int 0])), (qm, .inr (17, [.ref lp, .null, .null, .int 0, .int 0, .ref m1, .ref m2, .ref m3, .ref m4, .ref m5, .null, .null, .int 0, .ref m6, .int 0, .int 0, .int 0, .long 0, .null, .ref m7, .ref m8, .int 0, .int 0, .long 0])), (lp, .inr (0, [.int 0, .ref te, .int 0]))]) [0, 11, 12] (by decide) rfl
  have hK := hK.sub (tys' := []) [] rfl
  have hP : va_P (dC, dI) vwCl [(qx, .inr (8, [.ref rp, .int 0, .ref rt, .ref rc, .int ((-1)), .ref r1, .ref r2, .ref r3, .ref r4, .null, .int 0])), (qm, .inr (17, [.ref lp, .null, .null, .int 0, .int 0, .ref m1, .ref m2, .ref m3, .ref m4, .ref m5, .null, .null, .int 0, .ref m6, .int 0, .int 0, .int 0, .long 0, .null, .ref m7, .ref m8, .int 0, .int 0, .long 0])), (lp, .inr (0, [.int 0, .ref te, .int 0]))] H := hP
  have hD : va_D A [(qx, .inr (8, [.ref rp, .int 0, .ref rt, .ref rc, .int ((-1)), .ref r1, .ref r2, .ref r3, .ref r4, .null, .int 0])), (qm, .inr (17, [.ref lp, .null, .null, .int 0, .int 0, .ref m1, .ref m2, .ref m3, .ref m4, .ref m5, .null, .null, .int 0, .ref m6, .int 0, .int 0, .int 0, .long 0, .null, .ref m7, .ref m8, .int 0, .int 0, .long 0])), (lp, .inr (0, [.int 0, .ref te, .int 0]))] := hD
  have hK : va_K (dC, dI) vwCl [] s := hK
  refine lv_aload_n hx hb dL_law_1426 rfl (lv_at hl 3 rfl) ?_
  refine lv_aload_n hx hb dL_law_1427 rfl (lv_at hl 4 rfl) ?_
  refine lv_iload hx hb dL_law_1428 (lv_at hl 0 rfl) ?_
  refine lv_iconst (v := 1) hx hb dL_law_1430 (by decide) ?_
  refine lv_iadd hx hb dL_law_1431 ?_
  refine lv_topi (fun z_1 ez_1 => ?_)
  obtain rfl : z_1 = 1 := ez_1.trans (by decide)
  refine va_sld hx hb hX hbl hbA hS (by unfold vp_in; decide +kernel) dL_law_1432 ?_
  refine lv_topi (fun z_2 ez_2 => ?_)
  obtain rfl : p1 = z_2 := (ez_2.trans e1).symm
  refine lv_aload_n hx hb dL_law_1433 rfl (lv_at hl 1 rfl) ?_
  have hPc := hP.sub (ws' := [(qx, .inr (8, [.ref rp, .int 0, .ref rt, .ref rc, .int ((-1)), .ref r1, .ref r2, .ref r3, .ref r4, .null, .int 0]))]) [0] rfl
  have hDc := hD.sub (ws' := [(qx, .inr (8, [.ref rp, .int 0, .ref rt, .ref rc, .int ((-1)), .ref r1, .ref r2, .ref r3, .ref r4, .null, .int 0]))]) [0] (by decide) rfl
  have hKc := hK.sub (tys' := []) [] rfl
  have hFc := va_free (wc := [(qx, .inr (8, [.ref rp, .int 0, .ref rt, .ref rc, .int ((-1)), .ref r1, .ref r2, .ref r3, .ref r4, .null, .int 0]))]) hD hS hA [0] rfl
  refine vx_calli (vx_runSX (As := [.ref qx, .int p1, .ref qo]) (rest := []) ⟨hx, hb, hml, hown, hts⟩ (c_L_machine_big l dC dI tp te H.size hlt qx rp rt rc r1 r2 r3 r4 p1 qo hv0 hv1 hv2) (vx_cwSW 3 hts g_law_192_L_machine_big rfl rfl rfl (by decide +kernel) ⟨Nat.le_of_ble_eq_true rfl, Nat.le_of_ble_eq_true rfl⟩) ⟨Pw.blind, Pw.mk hPc hKc hDc hG hS hFc⟩ rfl rfl hl.1 rfl (lv_room (Nat.le_of_ble_eq_true rfl)) dL_law_1434 ⟨Nat.le_of_ble_eq_true rfl, Nat.le_of_ble_eq_true rfl⟩) hS (fun q _ h => hFc q h) hFc (fun q _ h => hFc q h) (fun E ce q9 u t9 H1 locs ht hvm hpx hBX hz1 hk1 hS hce hcv hcl => hpx.elim) (fun r u t9 H_3 locs ht hvm hw hB hz1 hk1 hS => ?_)
  have hw : r = 1 := hw
  subst hw
  obtain ⟨hP, hD⟩ := va_join (wr := [(qm, .inr (17, [.ref lp, .null, .null, .int 0, .int 0, .ref m1, .ref m2, .ref m3, .ref m4, .ref m5, .null, .null, .int 0, .ref m6, .int 0, .int 0, .int 0, .long 0, .null, .ref m7, .ref m8, .int 0, .int 0, .long 0])), (lp, .inr (0, [.int 0, .ref te, .int 0]))]) (w1 := []) hP hD [0] [1, 2] rfl rfl (by decide) (by decide) hk1 hFc va_P.nil va_D.nil
  have hK := hK.sub (tys' := []) [] rfl
  have hP : va_P (dC, dI) vwCl [(qm, .inr (17, [.ref lp, .null, .null, .int 0, .int 0, .ref m1, .ref m2, .ref m3, .ref m4, .ref m5, .null, .null, .int 0, .ref m6, .int 0, .int 0, .int 0, .long 0, .null, .ref m7, .ref m8, .int 0, .int 0, .long 0])), (lp, .inr (0, [.int 0, .ref te, .int 0]))] H_3 := hP
  have hD : va_D A [(qm, .inr (17, [.ref lp, .null, .null, .int 0, .int 0, .ref m1, .ref m2, .ref m3, .ref m4, .ref m5, .null, .null, .int 0, .ref m6, .int 0, .int 0, .int 0, .long 0, .null, .ref m7, .ref m8, .int 0, .int 0, .long 0])), (lp, .inr (0, [.int 0, .ref te, .int 0]))] := hD
  have hK : va_K (dC, dI) vwCl [] s := hK
  refine W.widen (k := 90) (n := 78009) (Nat.le_of_ble_eq_true rfl) (Nat.le_of_ble_eq_true rfl) ?_
  refine lv_istore (lv' := [(5, .int 1), (4, .int 0), (3, .ref qo), (2, .ref qm), (1, .ref qx), (0, .ref b)]) hx hb dL_law_1437 hl (by decide) rfl (fun ls hl => ?_)
  refine lv_aload_n hx hb dL_law_1439 rfl (lv_at hl 3 rfl) ?_
  refine lv_aload_n hx hb dL_law_1440 rfl (lv_at hl 5 rfl) ?_
  refine lv_iload hx hb dL_law_1441 (lv_at hl 1 rfl) ?_
  refine lv_iconst (v := 1) hx hb dL_law_1443 (by decide) ?_
  refine lv_iadd hx hb dL_law_1444 ?_
  refine lv_topi (fun z_5 ez_5 => ?_)
  obtain rfl : z_5 = 1 := ez_5.trans (by decide)
  refine va_sld hx hb hX hbl hbA hS (by unfold vp_in; decide +kernel) dL_law_1445 ?_
  refine lv_topi (fun z_6 ez_6 => ?_)
  obtain rfl : p1 = z_6 := (ez_6.trans e1).symm
  have hPc := hP.sub (ws' := [(qm, .inr (17, [.ref lp, .null, .null, .int 0, .int 0, .ref m1, .ref m2, .ref m3, .ref m4, .ref m5, .null, .null, .int 0, .ref m6, .int 0, .int 0, .int 0, .long 0, .null, .ref m7, .ref m8, .int 0, .int 0, .long 0])), (lp, .inr (0, [.int 0, .ref te, .int 0]))]) [0, 1] rfl
  have hDc := hD.sub (ws' := [(qm, .inr (17, [.ref lp, .null, .null, .int 0, .int 0, .ref m1, .ref m2, .ref m3, .ref m4, .ref m5, .null, .null, .int 0, .ref m6, .int 0, .int 0, .int 0, .long 0, .null, .ref m7, .ref m8, .int 0, .int 0, .long 0])), (lp, .inr (0, [.int 0, .ref te, .int 0]))]) [0, 1] (by decide) rfl
  have hKc := hK.sub (tys' := []) [] rfl
  have hFc := va_free (wc := [(qm, .inr (17, [.ref lp, .null, .null, .int 0, .int 0, .ref m1, .ref m2, .ref m3, .ref m4, .ref m5, .null, .null, .int 0, .ref m6, .int 0, .int 0, .int 0, .long 0, .null, .ref m7, .ref m8, .int 0, .int 0, .long 0])), (lp, .inr (0, [.int 0, .ref te, .int 0]))]) hD hS hA [0, 1] rfl
  refine va_calli (va_runV (As := [.int p1]) (rest := []) ⟨hx, hb, hml, hown, hts⟩ (c_M_machine_big l dC dI tp te H_3.size qm lp m1 m2 m3 m4 m5 m6 m7 m8 p1 hv0 hv1 hv2) (cwV 1 hts g_law_194_M_machine_big rfl rfl rfl (by decide +kernel) ⟨Nat.le_of_ble_eq_true rfl, Nat.le_of_ble_eq_true rfl⟩) ⟨Pw.blind, va_recv hKc hPc (ci := 17) (q0 := 0) rfl rfl, Pw.mk hPc hKc hDc hG hS hFc⟩ rfl rfl hl.1 rfl (lv_room (Nat.le_of_ble_eq_true rfl)) dL_law_1446 ⟨Nat.le_of_ble_eq_true rfl, Nat.le_of_ble_eq_true rfl⟩) hS (fun q _ h => hFc q h) hFc (fun r u t9 H_7 locs ht hvm hw hB hz1 hk1 hS => ?_)
  have hw : r = 0 := hw
  subst hw
  obtain ⟨hP1, hK1, hD1⟩ := hB
  rw [ht] at hP1
  have hK1 := va_K.moved hvm.symm hK1
  obtain ⟨hP, hD⟩ := va_join (wr := []) (w1 := [(qm, .inr (17, [.ref lp, .null, .null, .int 0, .int 1, .ref m1, .ref m2, .ref m3, .ref m4, .ref m5, .null, .null, .int 0, .ref m6, .int 0, .int 0, .int 0, .long 0, .null, .ref m7, .ref m8, .int 0, .int 0, .long 0]))]) hP hD [0, 1] [] rfl rfl (by decide) (by decide) hk1 hFc hP1 hD1
  have hK := (hK.sub (tys' := []) [] rfl).app hK1
  have hP : va_P (dC, dI) vwCl [(qm, .inr (17, [.ref lp, .null, .null, .int 0, .int 1, .ref m1, .ref m2, .ref m3, .ref m4, .ref m5, .null, .null, .int 0, .ref m6, .int 0, .int 0, .int 0, .long 0, .null, .ref m7, .ref m8, .int 0, .int 0, .long 0]))] H_7 := hP
  have hD : va_D A [(qm, .inr (17, [.ref lp, .null, .null, .int 0, .int 1, .ref m1, .ref m2, .ref m3, .ref m4, .ref m5, .null, .null, .int 0, .ref m6, .int 0, .int 0, .int 0, .long 0, .null, .ref m7, .ref m8, .int 0, .int 0, .long 0]))] := hD
  have hK : va_K (dC, dI) vwCl [] s := hK
  refine W.widen (k := 90) (n := 78009) (Nat.le_of_ble_eq_true rfl) (Nat.le_of_ble_eq_true rfl) ?_
  refine lv_istore (lv' := [(6, .int 0), (5, .int 1), (4, .int 0), (3, .ref qo), (2, .ref qm), (1, .ref qx), (0, .ref b)]) hx hb dL_law_1449 hl (by decide) rfl (fun ls hl => ?_)
  refine lv_aload_n hx hb dL_law_1451 rfl (lv_at hl 4 rfl) ?_
  have hPc := hP.sub (ws' := [(qm, .inr (17, [.ref lp, .null, .null, .int 0, .int 1, .ref m1, .ref m2, .ref m3, .ref m4, .ref m5, .null, .null, .int 0, .ref m6, .int 0, .int 0, .int 0, .long 0, .null, .ref m7, .ref m8, .int 0, .int 0, .long 0]))]) [0] rfl
  have hDc := hD.sub (ws' := [(qm, .inr (17, [.ref lp, .null, .null, .int 0, .int 1, .ref m1, .ref m2, .ref m3, .ref m4, .ref m5, .null, .null, .int 0, .ref m6, .int 0, .int 0, .int 0, .long 0, .null, .ref m7, .ref m8, .int 0, .int 0, .long 0]))]) [0] (by decide) rfl
  have hKc := hK.sub (tys' := []) [] rfl
  have hFc := va_free (wc := [(qm, .inr (17, [.ref lp, .null, .null, .int 0, .int 1, .ref m1, .ref m2, .ref m3, .ref m4, .ref m5, .null, .null, .int 0, .ref m6, .int 0, .int 0, .int 0, .long 0, .null, .ref m7, .ref m8, .int 0, .int 0, .long 0]))]) hD hS hA [0] rfl
  refine va_calli (va_runV (As := []) (rest := []) ⟨hx, hb, hml, hown, hts⟩ (c_thrown l dC dI tp te H_7.size qm lp m1 m2 m3 m4 m5 m6 m7 m8 1) (cwV 0 hts g_law_113_thrown rfl rfl rfl (by decide +kernel) ⟨Nat.le_of_ble_eq_true rfl, Nat.le_of_ble_eq_true rfl⟩) ⟨Pw.blind, va_recv hKc hPc (ci := 17) (q0 := 0) rfl rfl, Pw.mk hPc hKc hDc hG hS hFc⟩ rfl rfl hl.1 rfl (lv_room (Nat.le_of_ble_eq_true rfl)) dL_law_1452 ⟨Nat.le_of_ble_eq_true rfl, Nat.le_of_ble_eq_true rfl⟩) hS (fun q _ h => hFc q h) hFc (fun r u t9 H_9 locs ht hvm hw hB hz1 hk1 hS => ?_)
  have hw : r = 1 := hw
  subst hw
  obtain ⟨hP1, hK1, hD1⟩ := hB
  rw [ht] at hP1
  have hK1 := va_K.moved hvm.symm hK1
  obtain ⟨hP, hD⟩ := va_join (wr := []) (w1 := [(qm, .inr (17, [.ref lp, .null, .null, .int 0, .int 1, .ref m1, .ref m2, .ref m3, .ref m4, .ref m5, .null, .null, .int 0, .ref m6, .int 0, .int 0, .int 0, .long 0, .null, .ref m7, .ref m8, .int 0, .int 0, .long 0]))]) hP hD [0] [] rfl rfl (by decide) (by decide) hk1 hFc hP1 hD1
  have hK := (hK.sub (tys' := []) [] rfl).app hK1
  have hP : va_P (dC, dI) vwCl [(qm, .inr (17, [.ref lp, .null, .null, .int 0, .int 1, .ref m1, .ref m2, .ref m3, .ref m4, .ref m5, .null, .null, .int 0, .ref m6, .int 0, .int 0, .int 0, .long 0, .null, .ref m7, .ref m8, .int 0, .int 0, .long 0]))] H_9 := hP
  have hD : va_D A [(qm, .inr (17, [.ref lp, .null, .null, .int 0, .int 1, .ref m1, .ref m2, .ref m3, .ref m4, .ref m5, .null, .null, .int 0, .ref m6, .int 0, .int 0, .int 0, .long 0, .null, .ref m7, .ref m8, .int 0, .int 0, .long 0]))] := hD
  have hK : va_K (dC, dI) vwCl [] s := hK
  refine W.widen (k := 90) (n := 78009) (Nat.le_of_ble_eq_true rfl) (Nat.le_of_ble_eq_true rfl) ?_
  refine lv_iload hx hb dL_law_1455 (lv_at hl 1 rfl) ?_
  refine lv_icmp_eq (tgt := 1462) hx hb dL_law_1457 (by decide) (fun c9 => ?_) (fun c9 => absurd (by decide) c9)
  refine lv_iload hx hb dL_law_1462 (lv_at hl 1 rfl) ?_
  refine lv_if_ne (tgt := 1479) hx hb dL_law_1464 (by decide) (fun c9 => ?_) (fun c9 => absurd c9 (by decide))
  refine lv_goto (tgt := 1569) hx hb dL_law_1479 (by decide) ?_
  exact lc_next C0 hAA hS (lv_sub hl [6, 2] rfl) (Nat.le_of_ble_eq_true rfl) (Nat.le_of_ble_eq_true rfl)
set_option maxHeartbeats 4000000 in
set_option maxRecDepth 100000 in
theorem lc_machine_ok {p : Program} {l : Launch} {e : Env} {s : State} {m : MethodId} {below : List Frame} {meth : Method} {c : Code} (hlt : l.stackTraces = false) {b : Nat} {xs : Nat → Int32} (C0 : lw_At p s m meth c b 3 xs) {A : Nat → Prop} (hAA : A = fun q : Nat => s.heap.size ≤ q) {dC : Nat → ClassId} {dI : Nat → Nat → Nat} {tp te : Nat} (hG : gx tp te A s s.heap) {qx rp rt rc r1 r2 r3 r4 a1 a2 a3 a4 a5 a6 a7 t1 t2 t3 t4 t5 t6 t7 c1 c2 c3 c4 c5 c6 c7 qm lp m1 m2 m3 m4 m5 m6 m7 m8 qo : Nat} {k1 k2 k3 k4 k5 k6 k7 ko : ClassId} {H : Heap} {locs : List Loc} (hK : va_K (dC, dI) vwCl [(k1, .int), (k2, .int), (k3, .int), (k4, .long), (k5, .int), (k6, .int), (k7, .int), (ko, .long)] s) (hP : va_P (dC, dI) vwCl [(qx, .inr (8, [.ref rp, .int 0, .ref rt, .ref rc, .int ((-1)), .ref r1, .ref r2, .ref r3, .ref r4, .null, .int 0])), (rp, .inr (6, [.ref a1, .ref a2, .ref a3, .ref a4, .ref a5, .ref a6, .ref a7, .int 0])), (a1, .inl (k1, 1200, .inl (fun _ => 0))), (a2, .inl (k2, 1200, .inl (fun _ => 0))), (a3, .inl (k3, 1200, .inl (fun _ => 0))), (a4, .inl (k4, 1200, .inr (.inl (fun _ => 0)))), (a5, .inl (k5, 1200, .inl (fun _ => 0))), (a6, .inl (k6, 1200, .inl (fun _ => 0))), (a7, .inl (k7, 1200, .inl (fun _ => 0))), (rt, .inr (6, [.ref t1, .ref t2, .ref t3, .ref t4, .ref t5, .ref t6, .ref t7, .int 0])), (rc, .inr (6, [.ref c1, .ref c2, .ref c3, .ref c4, .ref c5, .ref c6, .ref c7, .int 0])), (qm, .inr (17, [.ref lp, .null, .null, .int 0, .int 0, .ref m1, .ref m2, .ref m3, .ref m4, .ref m5, .null, .null, .int 0, .ref m6, .int 0, .int 0, .int 0, .long 0, .null, .ref m7, .ref m8, .int 0, .int 0, .long 0])), (lp, .inr (0, [.int 0, .ref te, .int 0])), (qo, .inl (ko, 1, .inr (.inl (fun _ => 0))))] H) (hD : va_D A [(qx, .inr (8, [.ref rp, .int 0, .ref rt, .ref rc, .int ((-1)), .ref r1, .ref r2, .ref r3, .ref r4, .null, .int 0])), (rp, .inr (6, [.ref a1, .ref a2, .ref a3, .ref a4, .ref a5, .ref a6, .ref a7, .int 0])), (a1, .inl (k1, 1200, .inl (fun _ => 0))), (a2, .inl (k2, 1200, .inl (fun _ => 0))), (a3, .inl (k3, 1200, .inl (fun _ => 0))), (a4, .inl (k4, 1200, .inr (.inl (fun _ => 0)))), (a5, .inl (k5, 1200, .inl (fun _ => 0))), (a6, .inl (k6, 1200, .inl (fun _ => 0))), (a7, .inl (k7, 1200, .inl (fun _ => 0))), (rt, .inr (6, [.ref t1, .ref t2, .ref t3, .ref t4, .ref t5, .ref t6, .ref t7, .int 0])), (rc, .inr (6, [.ref c1, .ref c2, .ref c3, .ref c4, .ref c5, .ref c6, .ref c7, .int 0])), (qm, .inr (17, [.ref lp, .null, .null, .int 0, .int 0, .ref m1, .ref m2, .ref m3, .ref m4, .ref m5, .null, .null, .int 0, .ref m6, .int 0, .int 0, .int 0, .long 0, .null, .ref m7, .ref m8, .int 0, .int 0, .long 0])), (lp, .inr (0, [.int 0, .ref te, .int 0])), (qo, .inl (ko, 1, .inr (.inl (fun _ => 0))))]) (hS : va_S A s.heap H locs) {ls : Array Slot} (hl : lv_has ls 8 [(4, .int 0), (3, .ref qo), (2, .ref qm), (1, .ref qx), (0, .ref b)]) (p1 p2 : Int32) (e1 : xs (1 : Int32).toNatClampNeg = p1) (e2 : xs (2 : Int32).toNatClampNeg = p2) (hv0 : ¬ p1 < 0) (hv1 : p1 < 6) (hv2 : p1 ≤ 5) : W p l e room_1 s m #[Value.ref b] below meth c H locs 89 78003 (lw_Z below #[Value.ref b] s) (F0 m 1426 ls []) := by
  obtain ⟨hx, hb, hr, hml, hown, hts0, hX, hbl, hlocks, hgv⟩ := id C0
  have hts : ∀ w ∈ z_law, w.before #[Value.ref b] s = true := fun w h => hts0 w (z_law_in w h)
  have hown : s.vm.findClass RL = some m.cls := hown
  have hA : ∀ q : Nat, s.heap.size ≤ q → A q := fun q h => by rw [hAA]; exact h
  have hbA : ¬ A b := by rw [hAA]; exact Nat.not_le.mpr hbl
  have hP := hP.sub (ws' := [(qx, .inr (8, [.ref rp, .int 0, .ref rt, .ref rc, .int ((-1)), .ref r1, .ref r2, .ref r3, .ref r4, .null, .int 0])), (qm, .inr (17, [.ref lp, .null, .null, .int 0, .int 0, .ref m1, .ref m2, .ref m3, .ref m4, .ref m5, .null, .null, .int 0, .ref m6, .int 0, .int 0, .int 0, .long 0, .null, .ref m7, .ref m8, .int 0, .int 0, .long 0])), (lp, .inr (0, [.int 0, .ref te, .int 0]))]) [0, 11, 12] rfl
  have hD := hD.sub (ws' := [(qx, .inr (8, [.ref rp, .int 0, .ref rt, .ref rc, .int ((-1)), .ref r1, .ref r2, .ref r3, .ref r4, .null, .int 0])), (qm, .inr (17, [.ref lp, .null, .null, .int 0, .int 0, .ref m1, .ref m2, .ref m3, .ref m4, .ref m5, .null, .null, .int 0, .ref m6, .int 0, .int 0, .int 0, .long 0, .null, .ref m7, .ref m8, .int 0, .int 0, .long 0])), (lp, .inr (0, [.int 0, .ref te, .int 0]))]) [0, 11, 12] (by decide) rfl
  have hK := hK.sub (tys' := []) [] rfl
  have hP : va_P (dC, dI) vwCl [(qx, .inr (8, [.ref rp, .int 0, .ref rt, .ref rc, .int ((-1)), .ref r1, .ref r2, .ref r3, .ref r4, .null, .int 0])), (qm, .inr (17, [.ref lp, .null, .null, .int 0, .int 0, .ref m1, .ref m2, .ref m3, .ref m4, .ref m5, .null, .null, .int 0, .ref m6, .int 0, .int 0, .int 0, .long 0, .null, .ref m7, .ref m8, .int 0, .int 0, .long 0])), (lp, .inr (0, [.int 0, .ref te, .int 0]))] H := hP
  have hD : va_D A [(qx, .inr (8, [.ref rp, .int 0, .ref rt, .ref rc, .int ((-1)), .ref r1, .ref r2, .ref r3, .ref r4, .null, .int 0])), (qm, .inr (17, [.ref lp, .null, .null, .int 0, .int 0, .ref m1, .ref m2, .ref m3, .ref m4, .ref m5, .null, .null, .int 0, .ref m6, .int 0, .int 0, .int 0, .long 0, .null, .ref m7, .ref m8, .int 0, .int 0, .long 0])), (lp, .inr (0, [.int 0, .ref te, .int 0]))] := hD
  have hK : va_K (dC, dI) vwCl [] s := hK
  refine lv_aload_n hx hb dL_law_1426 rfl (lv_at hl 3 rfl) ?_
  refine lv_aload_n hx hb dL_law_1427 rfl (lv_at hl 4 rfl) ?_
  refine lv_iload hx hb dL_law_1428 (lv_at hl 0 rfl) ?_
  refine lv_iconst (v := 1) hx hb dL_law_1430 (by decide) ?_
  refine lv_iadd hx hb dL_law_1431 ?_
  refine lv_topi (fun z_1 ez_1 => ?_)
  obtain rfl : z_1 = 1 := ez_1.trans (by decide)
  refine va_sld hx hb hX hbl hbA hS (by unfold vp_in; decide +kernel) dL_law_1432 ?_
  refine lv_topi (fun z_2 ez_2 => ?_)
  obtain rfl : p1 = z_2 := (ez_2.trans e1).symm
  refine lv_aload_n hx hb dL_law_1433 rfl (lv_at hl 1 rfl) ?_
  have hPc := hP.sub (ws' := [(qx, .inr (8, [.ref rp, .int 0, .ref rt, .ref rc, .int ((-1)), .ref r1, .ref r2, .ref r3, .ref r4, .null, .int 0]))]) [0] rfl
  have hDc := hD.sub (ws' := [(qx, .inr (8, [.ref rp, .int 0, .ref rt, .ref rc, .int ((-1)), .ref r1, .ref r2, .ref r3, .ref r4, .null, .int 0]))]) [0] (by decide) rfl
  have hKc := hK.sub (tys' := []) [] rfl
  have hFc := va_free (wc := [(qx, .inr (8, [.ref rp, .int 0, .ref rt, .ref rc, .int ((-1)), .ref r1, .ref r2, .ref r3, .ref r4, .null, .int 0]))]) hD hS hA [0] rfl
  refine vx_calli (vx_runSX (As := [.ref qx, .int p1, .ref qo]) (rest := []) ⟨hx, hb, hml, hown, hts⟩ (c_L_machine_ok l dC dI tp te H.size hlt qx rp rt rc r1 r2 r3 r4 p1 qo hv0 hv1 hv2) (vx_cwSW 3 hts g_law_192_L_machine_ok rfl rfl rfl (by decide +kernel) ⟨Nat.le_of_ble_eq_true rfl, Nat.le_of_ble_eq_true rfl⟩) ⟨Pw.blind, Pw.mk hPc hKc hDc hG hS hFc⟩ rfl rfl hl.1 rfl (lv_room (Nat.le_of_ble_eq_true rfl)) dL_law_1434 ⟨Nat.le_of_ble_eq_true rfl, Nat.le_of_ble_eq_true rfl⟩) hS (fun q _ h => hFc q h) hFc (fun q _ h => hFc q h) (fun E ce q9 u t9 H1 locs ht hvm hpx hBX hz1 hk1 hS hce hcv hcl => hpx.elim) (fun r u t9 H_3 locs ht hvm hw hB hz1 hk1 hS => ?_)
  have hw : r = 2 := hw
  subst hw
  obtain ⟨hP, hD⟩ := va_join (wr := [(qm, .inr (17, [.ref lp, .null, .null, .int 0, .int 0, .ref m1, .ref m2, .ref m3, .ref m4, .ref m5, .null, .null, .int 0, .ref m6, .int 0, .int 0, .int 0, .long 0, .null, .ref m7, .ref m8, .int 0, .int 0, .long 0])), (lp, .inr (0, [.int 0, .ref te, .int 0]))]) (w1 := []) hP hD [0] [1, 2] rfl rfl (by decide) (by decide) hk1 hFc va_P.nil va_D.nil
  have hK := hK.sub (tys' := []) [] rfl
  have hP : va_P (dC, dI) vwCl [(qm, .inr (17, [.ref lp, .null, .null, .int 0, .int 0, .ref m1, .ref m2, .ref m3, .ref m4, .ref m5, .null, .null, .int 0, .ref m6, .int 0, .int 0, .int 0, .long 0, .null, .ref m7, .ref m8, .int 0, .int 0, .long 0])), (lp, .inr (0, [.int 0, .ref te, .int 0]))] H_3 := hP
  have hD : va_D A [(qm, .inr (17, [.ref lp, .null, .null, .int 0, .int 0, .ref m1, .ref m2, .ref m3, .ref m4, .ref m5, .null, .null, .int 0, .ref m6, .int 0, .int 0, .int 0, .long 0, .null, .ref m7, .ref m8, .int 0, .int 0, .long 0])), (lp, .inr (0, [.int 0, .ref te, .int 0]))] := hD
  have hK : va_K (dC, dI) vwCl [] s := hK
  refine W.widen (k := 90) (n := 78009) (Nat.le_of_ble_eq_true rfl) (Nat.le_of_ble_eq_true rfl) ?_
  refine lv_istore (lv' := [(5, .int 2), (4, .int 0), (3, .ref qo), (2, .ref qm), (1, .ref qx), (0, .ref b)]) hx hb dL_law_1437 hl (by decide) rfl (fun ls hl => ?_)
  refine lv_aload_n hx hb dL_law_1439 rfl (lv_at hl 3 rfl) ?_
  refine lv_aload_n hx hb dL_law_1440 rfl (lv_at hl 5 rfl) ?_
  refine lv_iload hx hb dL_law_1441 (lv_at hl 1 rfl) ?_
  refine lv_iconst (v := 1) hx hb dL_law_1443 (by decide) ?_
  refine lv_iadd hx hb dL_law_1444 ?_
  refine lv_topi (fun z_5 ez_5 => ?_)
  obtain rfl : z_5 = 1 := ez_5.trans (by decide)
  refine va_sld hx hb hX hbl hbA hS (by unfold vp_in; decide +kernel) dL_law_1445 ?_
  refine lv_topi (fun z_6 ez_6 => ?_)
  obtain rfl : p1 = z_6 := (ez_6.trans e1).symm
  have hPc := hP.sub (ws' := [(qm, .inr (17, [.ref lp, .null, .null, .int 0, .int 0, .ref m1, .ref m2, .ref m3, .ref m4, .ref m5, .null, .null, .int 0, .ref m6, .int 0, .int 0, .int 0, .long 0, .null, .ref m7, .ref m8, .int 0, .int 0, .long 0])), (lp, .inr (0, [.int 0, .ref te, .int 0]))]) [0, 1] rfl
  have hDc := hD.sub (ws' := [(qm, .inr (17, [.ref lp, .null, .null, .int 0, .int 0, .ref m1, .ref m2, .ref m3, .ref m4, .ref m5, .null, .null, .int 0, .ref m6, .int 0, .int 0, .int 0, .long 0, .null, .ref m7, .ref m8, .int 0, .int 0, .long 0])), (lp, .inr (0, [.int 0, .ref te, .int 0]))]) [0, 1] (by decide) rfl
  have hKc := hK.sub (tys' := []) [] rfl
  have hFc := va_free (wc := [(qm, .inr (17, [.ref lp, .null, .null, .int 0, .int 0, .ref m1, .ref m2, .ref m3, .ref m4, .ref m5, .null, .null, .int 0, .ref m6, .int 0, .int 0, .int 0, .long 0, .null, .ref m7, .ref m8, .int 0, .int 0, .long 0])), (lp, .inr (0, [.int 0, .ref te, .int 0]))]) hD hS hA [0, 1] rfl
  refine va_calli (va_runV (As := [.int p1]) (rest := []) ⟨hx, hb, hml, hown, hts⟩ (c_M_machine_ok l dC dI tp te H_3.size qm lp m1 m2 m3 m4 m5 m6 m7 m8 p1 hv0 hv1 hv2) (cwV 1 hts g_law_194_M_machine_ok rfl rfl rfl (by decide +kernel) ⟨Nat.le_of_ble_eq_true rfl, Nat.le_of_ble_eq_true rfl⟩) ⟨Pw.blind, va_recv hKc hPc (ci := 17) (q0 := 0) rfl rfl, Pw.mk hPc hKc hDc hG hS hFc⟩ rfl rfl hl.1 rfl (lv_room (Nat.le_of_ble_eq_true rfl)) dL_law_1446 ⟨Nat.le_of_ble_eq_true rfl, Nat.le_of_ble_eq_true rfl⟩) hS (fun q _ h => hFc q h) hFc (fun r u t9 H_7 locs ht hvm hw hB hz1 hk1 hS => ?_)
  have hw : r = 0 := hw
  subst hw
  obtain ⟨hP1, hK1, hD1⟩ := hB
  rw [ht] at hP1
  have hK1 := va_K.moved hvm.symm hK1
  obtain ⟨hP, hD⟩ := va_join (wr := []) (w1 := [(qm, .inr (17, [.ref lp, .null, .null, .int 0, .int 2, .ref m1, .ref m2, .ref m3, .ref m4, .ref m5, .null, .null, .int 0, .ref m6, .int 0, .int 0, .int 0, .long 0, .null, .ref m7, .ref m8, .int 0, .int 0, .long 0]))]) hP hD [0, 1] [] rfl rfl (by decide) (by decide) hk1 hFc hP1 hD1
  have hK := (hK.sub (tys' := []) [] rfl).app hK1
  have hP : va_P (dC, dI) vwCl [(qm, .inr (17, [.ref lp, .null, .null, .int 0, .int 2, .ref m1, .ref m2, .ref m3, .ref m4, .ref m5, .null, .null, .int 0, .ref m6, .int 0, .int 0, .int 0, .long 0, .null, .ref m7, .ref m8, .int 0, .int 0, .long 0]))] H_7 := hP
  have hD : va_D A [(qm, .inr (17, [.ref lp, .null, .null, .int 0, .int 2, .ref m1, .ref m2, .ref m3, .ref m4, .ref m5, .null, .null, .int 0, .ref m6, .int 0, .int 0, .int 0, .long 0, .null, .ref m7, .ref m8, .int 0, .int 0, .long 0]))] := hD
  have hK : va_K (dC, dI) vwCl [] s := hK
  refine W.widen (k := 90) (n := 78009) (Nat.le_of_ble_eq_true rfl) (Nat.le_of_ble_eq_true rfl) ?_
  refine lv_istore (lv' := [(6, .int 0), (5, .int 2), (4, .int 0), (3, .ref qo), (2, .ref qm), (1, .ref qx), (0, .ref b)]) hx hb dL_law_1449 hl (by decide) rfl (fun ls hl => ?_)
  refine lv_aload_n hx hb dL_law_1451 rfl (lv_at hl 4 rfl) ?_
  have hPc := hP.sub (ws' := [(qm, .inr (17, [.ref lp, .null, .null, .int 0, .int 2, .ref m1, .ref m2, .ref m3, .ref m4, .ref m5, .null, .null, .int 0, .ref m6, .int 0, .int 0, .int 0, .long 0, .null, .ref m7, .ref m8, .int 0, .int 0, .long 0]))]) [0] rfl
  have hDc := hD.sub (ws' := [(qm, .inr (17, [.ref lp, .null, .null, .int 0, .int 2, .ref m1, .ref m2, .ref m3, .ref m4, .ref m5, .null, .null, .int 0, .ref m6, .int 0, .int 0, .int 0, .long 0, .null, .ref m7, .ref m8, .int 0, .int 0, .long 0]))]) [0] (by decide) rfl
  have hKc := hK.sub (tys' := []) [] rfl
  have hFc := va_free (wc := [(qm, .inr (17, [.ref lp, .null, .null, .int 0, .int 2, .ref m1, .ref m2, .ref m3, .ref m4, .ref m5, .null, .null, .int 0, .ref m6, .int 0, .int 0, .int 0, .long 0, .null, .ref m7, .ref m8, .int 0, .int 0, .long 0]))]) hD hS hA [0] rfl
  refine va_calli (va_runV (As := []) (rest := []) ⟨hx, hb, hml, hown, hts⟩ (c_thrown l dC dI tp te H_7.size qm lp m1 m2 m3 m4 m5 m6 m7 m8 2) (cwV 0 hts g_law_113_thrown rfl rfl rfl (by decide +kernel) ⟨Nat.le_of_ble_eq_true rfl, Nat.le_of_ble_eq_true rfl⟩) ⟨Pw.blind, va_recv hKc hPc (ci := 17) (q0 := 0) rfl rfl, Pw.mk hPc hKc hDc hG hS hFc⟩ rfl rfl hl.1 rfl (lv_room (Nat.le_of_ble_eq_true rfl)) dL_law_1452 ⟨Nat.le_of_ble_eq_true rfl, Nat.le_of_ble_eq_true rfl⟩) hS (fun q _ h => hFc q h) hFc (fun r u t9 H_9 locs ht hvm hw hB hz1 hk1 hS => ?_)
  have hw : r = 2 := hw
  subst hw
  obtain ⟨hP1, hK1, hD1⟩ := hB
  rw [ht] at hP1
  have hK1 := va_K.moved hvm.symm hK1
  obtain ⟨hP, hD⟩ := va_join (wr := []) (w1 := [(qm, .inr (17, [.ref lp, .null, .null, .int 0, .int 2, .ref m1, .ref m2, .ref m3, .ref m4, .ref m5, .null, .null, .int 0, .ref m6, .int 0, .int 0, .int 0, .long 0, .null, .ref m7, .ref m8, .int 0, .int 0, .long 0]))]) hP hD [0] [] rfl rfl (by decide) (by decide) hk1 hFc hP1 hD1
  have hK := (hK.sub (tys' := []) [] rfl).app hK1
  have hP : va_P (dC, dI) vwCl [(qm, .inr (17, [.ref lp, .null, .null, .int 0, .int 2, .ref m1, .ref m2, .ref m3, .ref m4, .ref m5, .null, .null, .int 0, .ref m6, .int 0, .int 0, .int 0, .long 0, .null, .ref m7, .ref m8, .int 0, .int 0, .long 0]))] H_9 := hP
  have hD : va_D A [(qm, .inr (17, [.ref lp, .null, .null, .int 0, .int 2, .ref m1, .ref m2, .ref m3, .ref m4, .ref m5, .null, .null, .int 0, .ref m6, .int 0, .int 0, .int 0, .long 0, .null, .ref m7, .ref m8, .int 0, .int 0, .long 0]))] := hD
  have hK : va_K (dC, dI) vwCl [] s := hK
  refine W.widen (k := 90) (n := 78009) (Nat.le_of_ble_eq_true rfl) (Nat.le_of_ble_eq_true rfl) ?_
  refine lv_iload hx hb dL_law_1455 (lv_at hl 1 rfl) ?_
  refine lv_icmp_eq (tgt := 1462) hx hb dL_law_1457 (by decide) (fun c9 => ?_) (fun c9 => absurd (by decide) c9)
  refine lv_iload hx hb dL_law_1462 (lv_at hl 1 rfl) ?_
  refine lv_if_ne (tgt := 1479) hx hb dL_law_1464 (by decide) (fun c9 => ?_) (fun c9 => absurd c9 (by decide))
  refine lv_goto (tgt := 1569) hx hb dL_law_1479 (by decide) ?_
  exact lc_next C0 hAA hS (lv_sub hl [6, 2] rfl) (Nat.le_of_ble_eq_true rfl) (Nat.le_of_ble_eq_true rfl)
set_option maxHeartbeats 4000000 in
set_option maxRecDepth 100000 in
theorem lc_stateAnew {p : Program} {l : Launch} {e : Env} {s : State} {m : MethodId} {below : List Frame} {meth : Method} {c : Code} (hlt : l.stackTraces = false) {b : Nat} {xs : Nat → Int32} (C0 : lw_At p s m meth c b 3 xs) {A : Nat → Prop} (hAA : A = fun q : Nat => s.heap.size ≤ q) {dC : Nat → ClassId} {dI : Nat → Nat → Nat} {tp te : Nat} (hG : gx tp te A s s.heap) {qx rp rt rc r1 r2 r3 r4 a1 a2 a3 a4 a5 a6 a7 t1 t2 t3 t4 t5 t6 t7 c1 c2 c3 c4 c5 c6 c7 qm lp m1 m2 m3 m4 m5 m6 m7 m8 qo : Nat} {k1 k2 k3 k4 k5 k6 k7 ko : ClassId} {H : Heap} {locs : List Loc} (hK : va_K (dC, dI) vwCl [(k1, .int), (k2, .int), (k3, .int), (k4, .long), (k5, .int), (k6, .int), (k7, .int), (ko, .long)] s) (hP : va_P (dC, dI) vwCl [(qx, .inr (8, [.ref rp, .int 0, .ref rt, .ref rc, .int ((-1)), .ref r1, .ref r2, .ref r3, .ref r4, .null, .int 0])), (rp, .inr (6, [.ref a1, .ref a2, .ref a3, .ref a4, .ref a5, .ref a6, .ref a7, .int 0])), (a1, .inl (k1, 1200, .inl (fun _ => 0))), (a2, .inl (k2, 1200, .inl (fun _ => 0))), (a3, .inl (k3, 1200, .inl (fun _ => 0))), (a4, .inl (k4, 1200, .inr (.inl (fun _ => 0)))), (a5, .inl (k5, 1200, .inl (fun _ => 0))), (a6, .inl (k6, 1200, .inl (fun _ => 0))), (a7, .inl (k7, 1200, .inl (fun _ => 0))), (rt, .inr (6, [.ref t1, .ref t2, .ref t3, .ref t4, .ref t5, .ref t6, .ref t7, .int 0])), (rc, .inr (6, [.ref c1, .ref c2, .ref c3, .ref c4, .ref c5, .ref c6, .ref c7, .int 0])), (qm, .inr (17, [.ref lp, .null, .null, .int 0, .int 0, .ref m1, .ref m2, .ref m3, .ref m4, .ref m5, .null, .null, .int 0, .ref m6, .int 0, .int 0, .int 0, .long 0, .null, .ref m7, .ref m8, .int 0, .int 0, .long 0])), (lp, .inr (0, [.int 0, .ref te, .int 0])), (qo, .inl (ko, 1, .inr (.inl (fun _ => 0))))] H) (hD : va_D A [(qx, .inr (8, [.ref rp, .int 0, .ref rt, .ref rc, .int ((-1)), .ref r1, .ref r2, .ref r3, .ref r4, .null, .int 0])), (rp, .inr (6, [.ref a1, .ref a2, .ref a3, .ref a4, .ref a5, .ref a6, .ref a7, .int 0])), (a1, .inl (k1, 1200, .inl (fun _ => 0))), (a2, .inl (k2, 1200, .inl (fun _ => 0))), (a3, .inl (k3, 1200, .inl (fun _ => 0))), (a4, .inl (k4, 1200, .inr (.inl (fun _ => 0)))), (a5, .inl (k5, 1200, .inl (fun _ => 0))), (a6, .inl (k6, 1200, .inl (fun _ => 0))), (a7, .inl (k7, 1200, .inl (fun _ => 0))), (rt, .inr (6, [.ref t1, .ref t2, .ref t3, .ref t4, .ref t5, .ref t6, .ref t7, .int 0])), (rc, .inr (6, [.ref c1, .ref c2, .ref c3, .ref c4, .ref c5, .ref c6, .ref c7, .int 0])), (qm, .inr (17, [.ref lp, .null, .null, .int 0, .int 0, .ref m1, .ref m2, .ref m3, .ref m4, .ref m5, .null, .null, .int 0, .ref m6, .int 0, .int 0, .int 0, .long 0, .null, .ref m7, .ref m8, .int 0, .int 0, .long 0])), (lp, .inr (0, [.int 0, .ref te, .int 0])), (qo, .inl (ko, 1, .inr (.inl (fun _ => 0))))]) (hS : va_S A s.heap H locs) {ls : Array Slot} (hl : lv_has ls 8 [(4, .int 0), (3, .ref qo), (2, .ref qm), (1, .ref qx), (0, .ref b)]) (p1 p2 : Int32) (e1 : xs (1 : Int32).toNatClampNeg = p1) (e2 : xs (2 : Int32).toNatClampNeg = p2)  : W p l e room_1 s m #[Value.ref b] below meth c H locs 89 78003 (lw_Z below #[Value.ref b] s) (F0 m 1482 ls []) := by
  obtain ⟨hx, hb, hr, hml, hown, hts0, hX, hbl, hlocks, hgv⟩ := id C0
  have hts : ∀ w ∈ z_law, w.before #[Value.ref b] s = true := fun w h => hts0 w (z_law_in w h)
  have hown : s.vm.findClass RL = some m.cls := hown
  have hA : ∀ q : Nat, s.heap.size ≤ q → A q := fun q h => by rw [hAA]; exact h
  have hbA : ¬ A b := by rw [hAA]; exact Nat.not_le.mpr hbl
  have hP := hP.sub (ws' := [(qx, .inr (8, [.ref rp, .int 0, .ref rt, .ref rc, .int ((-1)), .ref r1, .ref r2, .ref r3, .ref r4, .null, .int 0])), (qm, .inr (17, [.ref lp, .null, .null, .int 0, .int 0, .ref m1, .ref m2, .ref m3, .ref m4, .ref m5, .null, .null, .int 0, .ref m6, .int 0, .int 0, .int 0, .long 0, .null, .ref m7, .ref m8, .int 0, .int 0, .long 0])), (lp, .inr (0, [.int 0, .ref te, .int 0]))]) [0, 11, 12] rfl
  have hD := hD.sub (ws' := [(qx, .inr (8, [.ref rp, .int 0, .ref rt, .ref rc, .int ((-1)), .ref r1, .ref r2, .ref r3, .ref r4, .null, .int 0])), (qm, .inr (17, [.ref lp, .null, .null, .int 0, .int 0, .ref m1, .ref m2, .ref m3, .ref m4, .ref m5, .null, .null, .int 0, .ref m6, .int 0, .int 0, .int 0, .long 0, .null, .ref m7, .ref m8, .int 0, .int 0, .long 0])), (lp, .inr (0, [.int 0, .ref te, .int 0]))]) [0, 11, 12] (by decide) rfl
  have hK := hK.sub (tys' := []) [] rfl
  have hP : va_P (dC, dI) vwCl [(qx, .inr (8, [.ref rp, .int 0, .ref rt, .ref rc, .int ((-1)), .ref r1, .ref r2, .ref r3, .ref r4, .null, .int 0])), (qm, .inr (17, [.ref lp, .null, .null, .int 0, .int 0, .ref m1, .ref m2, .ref m3, .ref m4, .ref m5, .null, .null, .int 0, .ref m6, .int 0, .int 0, .int 0, .long 0, .null, .ref m7, .ref m8, .int 0, .int 0, .long 0])), (lp, .inr (0, [.int 0, .ref te, .int 0]))] H := hP
  have hD : va_D A [(qx, .inr (8, [.ref rp, .int 0, .ref rt, .ref rc, .int ((-1)), .ref r1, .ref r2, .ref r3, .ref r4, .null, .int 0])), (qm, .inr (17, [.ref lp, .null, .null, .int 0, .int 0, .ref m1, .ref m2, .ref m3, .ref m4, .ref m5, .null, .null, .int 0, .ref m6, .int 0, .int 0, .int 0, .long 0, .null, .ref m7, .ref m8, .int 0, .int 0, .long 0])), (lp, .inr (0, [.int 0, .ref te, .int 0]))] := hD
  have hK : va_K (dC, dI) vwCl [] s := hK
  refine lv_aload_n hx hb dL_law_1482 rfl (lv_at hl 3 rfl) ?_
  refine lv_aload_n hx hb dL_law_1483 rfl (lv_at hl 1 rfl) ?_
  have hPc := hP.sub (ws' := [(qx, .inr (8, [.ref rp, .int 0, .ref rt, .ref rc, .int ((-1)), .ref r1, .ref r2, .ref r3, .ref r4, .null, .int 0]))]) [0] rfl
  have hDc := hD.sub (ws' := [(qx, .inr (8, [.ref rp, .int 0, .ref rt, .ref rc, .int ((-1)), .ref r1, .ref r2, .ref r3, .ref r4, .null, .int 0]))]) [0] (by decide) rfl
  have hKc := hK.sub (tys' := []) [] rfl
  have hFc := va_free (wc := [(qx, .inr (8, [.ref rp, .int 0, .ref rt, .ref rc, .int ((-1)), .ref r1, .ref r2, .ref r3, .ref r4, .null, .int 0]))]) hD hS hA [0] rfl
  refine vx_calli (vx_runSX (As := [.ref qx, .ref qo]) (rest := []) ⟨hx, hb, hml, hown, hts⟩ (c_L_stateAnew l dC dI tp te H.size hlt qx rp rt rc r1 r2 r3 r4 qo) (vx_cwSW 2 hts g_law_195_L_stateAnew rfl rfl rfl (by decide +kernel) ⟨Nat.le_of_ble_eq_true rfl, Nat.le_of_ble_eq_true rfl⟩) ⟨Pw.blind, Pw.mk hPc hKc hDc hG hS hFc⟩ rfl rfl hl.1 rfl (lv_room (Nat.le_of_ble_eq_true rfl)) dL_law_1484 ⟨Nat.le_of_ble_eq_true rfl, Nat.le_of_ble_eq_true rfl⟩) hS (fun q _ h => hFc q h) hFc (fun q _ h => hFc q h) (fun E ce q9 u t9 H1 locs ht hvm hpx hBX hz1 hk1 hS hce hcv hcl => hpx.elim) (fun r u t9 H_1 locs ht hvm hw hB hz1 hk1 hS => ?_)
  have hw : r = 1 := hw
  subst hw
  obtain ⟨hP, hD⟩ := va_join (wr := [(qm, .inr (17, [.ref lp, .null, .null, .int 0, .int 0, .ref m1, .ref m2, .ref m3, .ref m4, .ref m5, .null, .null, .int 0, .ref m6, .int 0, .int 0, .int 0, .long 0, .null, .ref m7, .ref m8, .int 0, .int 0, .long 0])), (lp, .inr (0, [.int 0, .ref te, .int 0]))]) (w1 := []) hP hD [0] [1, 2] rfl rfl (by decide) (by decide) hk1 hFc va_P.nil va_D.nil
  have hK := hK.sub (tys' := []) [] rfl
  have hP : va_P (dC, dI) vwCl [(qm, .inr (17, [.ref lp, .null, .null, .int 0, .int 0, .ref m1, .ref m2, .ref m3, .ref m4, .ref m5, .null, .null, .int 0, .ref m6, .int 0, .int 0, .int 0, .long 0, .null, .ref m7, .ref m8, .int 0, .int 0, .long 0])), (lp, .inr (0, [.int 0, .ref te, .int 0]))] H_1 := hP
  have hD : va_D A [(qm, .inr (17, [.ref lp, .null, .null, .int 0, .int 0, .ref m1, .ref m2, .ref m3, .ref m4, .ref m5, .null, .null, .int 0, .ref m6, .int 0, .int 0, .int 0, .long 0, .null, .ref m7, .ref m8, .int 0, .int 0, .long 0])), (lp, .inr (0, [.int 0, .ref te, .int 0]))] := hD
  have hK : va_K (dC, dI) vwCl [] s := hK
  refine W.widen (k := 90) (n := 78009) (Nat.le_of_ble_eq_true rfl) (Nat.le_of_ble_eq_true rfl) ?_
  refine lv_istore (lv' := [(5, .int 1), (4, .int 0), (3, .ref qo), (2, .ref qm), (1, .ref qx), (0, .ref b)]) hx hb dL_law_1487 hl (by decide) rfl (fun ls hl => ?_)
  refine lv_aload_n hx hb dL_law_1489 rfl (lv_at hl 3 rfl) ?_
  have hPc := hP.sub (ws' := [(qm, .inr (17, [.ref lp, .null, .null, .int 0, .int 0, .ref m1, .ref m2, .ref m3, .ref m4, .ref m5, .null, .null, .int 0, .ref m6, .int 0, .int 0, .int 0, .long 0, .null, .ref m7, .ref m8, .int 0, .int 0, .long 0])), (lp, .inr (0, [.int 0, .ref te, .int 0]))]) [0, 1] rfl
  have hDc := hD.sub (ws' := [(qm, .inr (17, [.ref lp, .null, .null, .int 0, .int 0, .ref m1, .ref m2, .ref m3, .ref m4, .ref m5, .null, .null, .int 0, .ref m6, .int 0, .int 0, .int 0, .long 0, .null, .ref m7, .ref m8, .int 0, .int 0, .long 0])), (lp, .inr (0, [.int 0, .ref te, .int 0]))]) [0, 1] (by decide) rfl
  have hKc := hK.sub (tys' := []) [] rfl
  have hFc := va_free (wc := [(qm, .inr (17, [.ref lp, .null, .null, .int 0, .int 0, .ref m1, .ref m2, .ref m3, .ref m4, .ref m5, .null, .null, .int 0, .ref m6, .int 0, .int 0, .int 0, .long 0, .null, .ref m7, .ref m8, .int 0, .int 0, .long 0])), (lp, .inr (0, [.int 0, .ref te, .int 0]))]) hD hS hA [0, 1] rfl
  refine va_calli (va_runV (As := []) (rest := []) ⟨hx, hb, hml, hown, hts⟩ (c_M_stateAnew l dC dI tp te H_1.size qm lp m1 m2 m3 m4 m5 m6 m7 m8) (cwV 0 hts g_law_197_M_stateAnew rfl rfl rfl (by decide +kernel) ⟨Nat.le_of_ble_eq_true rfl, Nat.le_of_ble_eq_true rfl⟩) ⟨Pw.blind, va_recv hKc hPc (ci := 17) (q0 := 0) rfl rfl, Pw.mk hPc hKc hDc hG hS hFc⟩ rfl rfl hl.1 rfl (lv_room (Nat.le_of_ble_eq_true rfl)) dL_law_1490 ⟨Nat.le_of_ble_eq_true rfl, Nat.le_of_ble_eq_true rfl⟩) hS (fun q _ h => hFc q h) hFc (fun r u t9 H_3 locs ht hvm hw hB hz1 hk1 hS => ?_)
  have hw : r = 0 := hw
  subst hw
  obtain ⟨hP1, hK1, hD1⟩ := hB
  rw [ht] at hP1
  have hK1 := va_K.moved hvm.symm hK1
  obtain ⟨hP, hD⟩ := va_join (wr := []) (w1 := [(qm, .inr (17, [.ref lp, .null, .null, .int 0, .int 1, .ref m1, .ref m2, .ref m3, .ref m4, .ref m5, .null, .null, .int 0, .ref m6, .int 0, .int 0, .int 0, .long 0, .null, .ref m7, .ref m8, .int 0, .int 0, .long 0]))]) hP hD [0, 1] [] rfl rfl (by decide) (by decide) hk1 hFc hP1 hD1
  have hK := (hK.sub (tys' := []) [] rfl).app hK1
  have hP : va_P (dC, dI) vwCl [(qm, .inr (17, [.ref lp, .null, .null, .int 0, .int 1, .ref m1, .ref m2, .ref m3, .ref m4, .ref m5, .null, .null, .int 0, .ref m6, .int 0, .int 0, .int 0, .long 0, .null, .ref m7, .ref m8, .int 0, .int 0, .long 0]))] H_3 := hP
  have hD : va_D A [(qm, .inr (17, [.ref lp, .null, .null, .int 0, .int 1, .ref m1, .ref m2, .ref m3, .ref m4, .ref m5, .null, .null, .int 0, .ref m6, .int 0, .int 0, .int 0, .long 0, .null, .ref m7, .ref m8, .int 0, .int 0, .long 0]))] := hD
  have hK : va_K (dC, dI) vwCl [] s := hK
  refine W.widen (k := 90) (n := 78009) (Nat.le_of_ble_eq_true rfl) (Nat.le_of_ble_eq_true rfl) ?_
  refine lv_istore (lv' := [(6, .int 0), (5, .int 1), (4, .int 0), (3, .ref qo), (2, .ref qm), (1, .ref qx), (0, .ref b)]) hx hb dL_law_1493 hl (by decide) rfl (fun ls hl => ?_)
  refine lv_aload_n hx hb dL_law_1495 rfl (lv_at hl 4 rfl) ?_
  have hPc := hP.sub (ws' := [(qm, .inr (17, [.ref lp, .null, .null, .int 0, .int 1, .ref m1, .ref m2, .ref m3, .ref m4, .ref m5, .null, .null, .int 0, .ref m6, .int 0, .int 0, .int 0, .long 0, .null, .ref m7, .ref m8, .int 0, .int 0, .long 0]))]) [0] rfl
  have hDc := hD.sub (ws' := [(qm, .inr (17, [.ref lp, .null, .null, .int 0, .int 1, .ref m1, .ref m2, .ref m3, .ref m4, .ref m5, .null, .null, .int 0, .ref m6, .int 0, .int 0, .int 0, .long 0, .null, .ref m7, .ref m8, .int 0, .int 0, .long 0]))]) [0] (by decide) rfl
  have hKc := hK.sub (tys' := []) [] rfl
  have hFc := va_free (wc := [(qm, .inr (17, [.ref lp, .null, .null, .int 0, .int 1, .ref m1, .ref m2, .ref m3, .ref m4, .ref m5, .null, .null, .int 0, .ref m6, .int 0, .int 0, .int 0, .long 0, .null, .ref m7, .ref m8, .int 0, .int 0, .long 0]))]) hD hS hA [0] rfl
  refine va_calli (va_runV (As := []) (rest := []) ⟨hx, hb, hml, hown, hts⟩ (c_thrown l dC dI tp te H_3.size qm lp m1 m2 m3 m4 m5 m6 m7 m8 1) (cwV 0 hts g_law_113_thrown rfl rfl rfl (by decide +kernel) ⟨Nat.le_of_ble_eq_true rfl, Nat.le_of_ble_eq_true rfl⟩) ⟨Pw.blind, va_recv hKc hPc (ci := 17) (q0 := 0) rfl rfl, Pw.mk hPc hKc hDc hG hS hFc⟩ rfl rfl hl.1 rfl (lv_room (Nat.le_of_ble_eq_true rfl)) dL_law_1496 ⟨Nat.le_of_ble_eq_true rfl, Nat.le_of_ble_eq_true rfl⟩) hS (fun q _ h => hFc q h) hFc (fun r u t9 H_5 locs ht hvm hw hB hz1 hk1 hS => ?_)
  have hw : r = 1 := hw
  subst hw
  obtain ⟨hP1, hK1, hD1⟩ := hB
  rw [ht] at hP1
  have hK1 := va_K.moved hvm.symm hK1
  obtain ⟨hP, hD⟩ := va_join (wr := []) (w1 := [(qm, .inr (17, [.ref lp, .null, .null, .int 0, .int 1, .ref m1, .ref m2, .ref m3, .ref m4, .ref m5, .null, .null, .int 0, .ref m6, .int 0, .int 0, .int 0, .long 0, .null, .ref m7, .ref m8, .int 0, .int 0, .long 0]))]) hP hD [0] [] rfl rfl (by decide) (by decide) hk1 hFc hP1 hD1
  have hK := (hK.sub (tys' := []) [] rfl).app hK1
  have hP : va_P (dC, dI) vwCl [(qm, .inr (17, [.ref lp, .null, .null, .int 0, .int 1, .ref m1, .ref m2, .ref m3, .ref m4, .ref m5, .null, .null, .int 0, .ref m6, .int 0, .int 0, .int 0, .long 0, .null, .ref m7, .ref m8, .int 0, .int 0, .long 0]))] H_5 := hP
  have hD : va_D A [(qm, .inr (17, [.ref lp, .null, .null, .int 0, .int 1, .ref m1, .ref m2, .ref m3, .ref m4, .ref m5, .null, .null, .int 0, .ref m6, .int 0, .int 0, .int 0, .long 0, .null, .ref m7, .ref m8, .int 0, .int 0, .long 0]))] := hD
  have hK : va_K (dC, dI) vwCl [] s := hK
  refine W.widen (k := 90) (n := 78009) (Nat.le_of_ble_eq_true rfl) (Nat.le_of_ble_eq_true rfl) ?_
  refine lv_iload hx hb dL_law_1499 (lv_at hl 1 rfl) ?_
  refine lv_icmp_eq (tgt := 1506) hx hb dL_law_1501 (by decide) (fun c9 => ?_) (fun c9 => absurd (by decide) c9)
  refine lv_iload hx hb dL_law_1506 (lv_at hl 1 rfl) ?_
  refine lv_if_ne (tgt := 1523) hx hb dL_law_1508 (by decide) (fun c9 => ?_) (fun c9 => absurd c9 (by decide))
  refine lv_goto (tgt := 1569) hx hb dL_law_1523 (by decide) ?_
  exact lc_next C0 hAA hS (lv_sub hl [6, 2] rfl) (Nat.le_of_ble_eq_true rfl) (Nat.le_of_ble_eq_true rfl)
set_option maxHeartbeats 4000000 in
set_option maxRecDepth 100000 in
theorem lc_valueAnew {p : Program} {l : Launch} {e : Env} {s : State} {m : MethodId} {below : List Frame} {meth : Method} {c : Code} (hlt : l.stackTraces = false) {b : Nat} {xs : Nat → Int32} (C0 : lw_At p s m meth c b 3 xs) {A : Nat → Prop} (hAA : A = fun q : Nat => s.heap.size ≤ q) {dC : Nat → ClassId} {dI : Nat → Nat → Nat} {tp te : Nat} (hG : gx tp te A s s.heap) {qx rp rt rc r1 r2 r3 r4 a1 a2 a3 a4 a5 a6 a7 t1 t2 t3 t4 t5 t6 t7 c1 c2 c3 c4 c5 c6 c7 qm lp m1 m2 m3 m4 m5 m6 m7 m8 qo : Nat} {k1 k2 k3 k4 k5 k6 k7 ko : ClassId} {H : Heap} {locs : List Loc} (hK : va_K (dC, dI) vwCl [(k1, .int), (k2, .int), (k3, .int), (k4, .long), (k5, .int), (k6, .int), (k7, .int), (ko, .long)] s) (hP : va_P (dC, dI) vwCl [(qx, .inr (8, [.ref rp, .int 0, .ref rt, .ref rc, .int ((-1)), .ref r1, .ref r2, .ref r3, .ref r4, .null, .int 0])), (rp, .inr (6, [.ref a1, .ref a2, .ref a3, .ref a4, .ref a5, .ref a6, .ref a7, .int 0])), (a1, .inl (k1, 1200, .inl (fun _ => 0))), (a2, .inl (k2, 1200, .inl (fun _ => 0))), (a3, .inl (k3, 1200, .inl (fun _ => 0))), (a4, .inl (k4, 1200, .inr (.inl (fun _ => 0)))), (a5, .inl (k5, 1200, .inl (fun _ => 0))), (a6, .inl (k6, 1200, .inl (fun _ => 0))), (a7, .inl (k7, 1200, .inl (fun _ => 0))), (rt, .inr (6, [.ref t1, .ref t2, .ref t3, .ref t4, .ref t5, .ref t6, .ref t7, .int 0])), (rc, .inr (6, [.ref c1, .ref c2, .ref c3, .ref c4, .ref c5, .ref c6, .ref c7, .int 0])), (qm, .inr (17, [.ref lp, .null, .null, .int 0, .int 0, .ref m1, .ref m2, .ref m3, .ref m4, .ref m5, .null, .null, .int 0, .ref m6, .int 0, .int 0, .int 0, .long 0, .null, .ref m7, .ref m8, .int 0, .int 0, .long 0])), (lp, .inr (0, [.int 0, .ref te, .int 0])), (qo, .inl (ko, 1, .inr (.inl (fun _ => 0))))] H) (hD : va_D A [(qx, .inr (8, [.ref rp, .int 0, .ref rt, .ref rc, .int ((-1)), .ref r1, .ref r2, .ref r3, .ref r4, .null, .int 0])), (rp, .inr (6, [.ref a1, .ref a2, .ref a3, .ref a4, .ref a5, .ref a6, .ref a7, .int 0])), (a1, .inl (k1, 1200, .inl (fun _ => 0))), (a2, .inl (k2, 1200, .inl (fun _ => 0))), (a3, .inl (k3, 1200, .inl (fun _ => 0))), (a4, .inl (k4, 1200, .inr (.inl (fun _ => 0)))), (a5, .inl (k5, 1200, .inl (fun _ => 0))), (a6, .inl (k6, 1200, .inl (fun _ => 0))), (a7, .inl (k7, 1200, .inl (fun _ => 0))), (rt, .inr (6, [.ref t1, .ref t2, .ref t3, .ref t4, .ref t5, .ref t6, .ref t7, .int 0])), (rc, .inr (6, [.ref c1, .ref c2, .ref c3, .ref c4, .ref c5, .ref c6, .ref c7, .int 0])), (qm, .inr (17, [.ref lp, .null, .null, .int 0, .int 0, .ref m1, .ref m2, .ref m3, .ref m4, .ref m5, .null, .null, .int 0, .ref m6, .int 0, .int 0, .int 0, .long 0, .null, .ref m7, .ref m8, .int 0, .int 0, .long 0])), (lp, .inr (0, [.int 0, .ref te, .int 0])), (qo, .inl (ko, 1, .inr (.inl (fun _ => 0))))]) (hS : va_S A s.heap H locs) {ls : Array Slot} (hl : lv_has ls 8 [(4, .int 0), (3, .ref qo), (2, .ref qm), (1, .ref qx), (0, .ref b)]) (p1 p2 : Int32) (e1 : xs (1 : Int32).toNatClampNeg = p1) (e2 : xs (2 : Int32).toNatClampNeg = p2)  : W p l e room_1 s m #[Value.ref b] below meth c H locs 89 78003 (lw_Z below #[Value.ref b] s) (F0 m 1526 ls []) := by
  obtain ⟨hx, hb, hr, hml, hown, hts0, hX, hbl, hlocks, hgv⟩ := id C0
  have hts : ∀ w ∈ z_law, w.before #[Value.ref b] s = true := fun w h => hts0 w (z_law_in w h)
  have hown : s.vm.findClass RL = some m.cls := hown
  have hA : ∀ q : Nat, s.heap.size ≤ q → A q := fun q h => by rw [hAA]; exact h
  have hbA : ¬ A b := by rw [hAA]; exact Nat.not_le.mpr hbl
  have hP := hP.sub (ws' := [(qx, .inr (8, [.ref rp, .int 0, .ref rt, .ref rc, .int ((-1)), .ref r1, .ref r2, .ref r3, .ref r4, .null, .int 0])), (qm, .inr (17, [.ref lp, .null, .null, .int 0, .int 0, .ref m1, .ref m2, .ref m3, .ref m4, .ref m5, .null, .null, .int 0, .ref m6, .int 0, .int 0, .int 0, .long 0, .null, .ref m7, .ref m8, .int 0, .int 0, .long 0])), (lp, .inr (0, [.int 0, .ref te, .int 0]))]) [0, 11, 12] rfl
  have hD := hD.sub (ws' := [(qx, .inr (8, [.ref rp, .int 0, .ref rt, .ref rc, .int ((-1)), .ref r1, .ref r2, .ref r3, .ref r4, .null, .int 0])), (qm, .inr (17, [.ref lp, .null, .null, .int 0, .int 0, .ref m1, .ref m2, .ref m3, .ref m4, .ref m5, .null, .null, .int 0, .ref m6, .int 0, .int 0, .int 0, .long 0, .null, .ref m7, .ref m8, .int 0, .int 0, .long 0])), (lp, .inr (0, [.int 0, .ref te, .int 0]))]) [0, 11, 12] (by decide) rfl
  have hK := hK.sub (tys' := []) [] rfl
  have hP : va_P (dC, dI) vwCl [(qx, .inr (8, [.ref rp, .int 0, .ref rt, .ref rc, .int ((-1)), .ref r1, .ref r2, .ref r3, .ref r4, .null, .int 0])), (qm, .inr (17, [.ref lp, .null, .null, .int 0, .int 0, .ref m1, .ref m2, .ref m3, .ref m4, .ref m5, .null, .null, .int 0, .ref m6, .int 0, .int 0, .int 0, .long 0, .null, .ref m7, .ref m8, .int 0, .int 0, .long 0])), (lp, .inr (0, [.int 0, .ref te, .int 0]))] H := hP
  have hD : va_D A [(qx, .inr (8, [.ref rp, .int 0, .ref rt, .ref rc, .int ((-1)), .ref r1, .ref r2, .ref r3, .ref r4, .null, .int 0])), (qm, .inr (17, [.ref lp, .null, .null, .int 0, .int 0, .ref m1, .ref m2, .ref m3, .ref m4, .ref m5, .null, .null, .int 0, .ref m6, .int 0, .int 0, .int 0, .long 0, .null, .ref m7, .ref m8, .int 0, .int 0, .long 0])), (lp, .inr (0, [.int 0, .ref te, .int 0]))] := hD
  have hK : va_K (dC, dI) vwCl [] s := hK
  refine lv_aload_n hx hb dL_law_1526 rfl (lv_at hl 3 rfl) ?_
  refine lv_aload_n hx hb dL_law_1527 rfl (lv_at hl 1 rfl) ?_
  have hPc := hP.sub (ws' := [(qx, .inr (8, [.ref rp, .int 0, .ref rt, .ref rc, .int ((-1)), .ref r1, .ref r2, .ref r3, .ref r4, .null, .int 0]))]) [0] rfl
  have hDc := hD.sub (ws' := [(qx, .inr (8, [.ref rp, .int 0, .ref rt, .ref rc, .int ((-1)), .ref r1, .ref r2, .ref r3, .ref r4, .null, .int 0]))]) [0] (by decide) rfl
  have hKc := hK.sub (tys' := []) [] rfl
  have hFc := va_free (wc := [(qx, .inr (8, [.ref rp, .int 0, .ref rt, .ref rc, .int ((-1)), .ref r1, .ref r2, .ref r3, .ref r4, .null, .int 0]))]) hD hS hA [0] rfl
  refine vx_calli (vx_runSX (As := [.ref qx, .ref qo]) (rest := []) ⟨hx, hb, hml, hown, hts⟩ (c_L_valueAnew l dC dI tp te H.size hlt qx rp rt rc r1 r2 r3 r4 qo) (vx_cwSW 2 hts g_law_198_L_valueAnew rfl rfl rfl (by decide +kernel) ⟨Nat.le_of_ble_eq_true rfl, Nat.le_of_ble_eq_true rfl⟩) ⟨Pw.blind, Pw.mk hPc hKc hDc hG hS hFc⟩ rfl rfl hl.1 rfl (lv_room (Nat.le_of_ble_eq_true rfl)) dL_law_1528 ⟨Nat.le_of_ble_eq_true rfl, Nat.le_of_ble_eq_true rfl⟩) hS (fun q _ h => hFc q h) hFc (fun q _ h => hFc q h) (fun E ce q9 u t9 H1 locs ht hvm hpx hBX hz1 hk1 hS hce hcv hcl => hpx.elim) (fun r u t9 H_1 locs ht hvm hw hB hz1 hk1 hS => ?_)
  have hw : r = 1 := hw
  subst hw
  obtain ⟨hP, hD⟩ := va_join (wr := [(qm, .inr (17, [.ref lp, .null, .null, .int 0, .int 0, .ref m1, .ref m2, .ref m3, .ref m4, .ref m5, .null, .null, .int 0, .ref m6, .int 0, .int 0, .int 0, .long 0, .null, .ref m7, .ref m8, .int 0, .int 0, .long 0])), (lp, .inr (0, [.int 0, .ref te, .int 0]))]) (w1 := []) hP hD [0] [1, 2] rfl rfl (by decide) (by decide) hk1 hFc va_P.nil va_D.nil
  have hK := hK.sub (tys' := []) [] rfl
  have hP : va_P (dC, dI) vwCl [(qm, .inr (17, [.ref lp, .null, .null, .int 0, .int 0, .ref m1, .ref m2, .ref m3, .ref m4, .ref m5, .null, .null, .int 0, .ref m6, .int 0, .int 0, .int 0, .long 0, .null, .ref m7, .ref m8, .int 0, .int 0, .long 0])), (lp, .inr (0, [.int 0, .ref te, .int 0]))] H_1 := hP
  have hD : va_D A [(qm, .inr (17, [.ref lp, .null, .null, .int 0, .int 0, .ref m1, .ref m2, .ref m3, .ref m4, .ref m5, .null, .null, .int 0, .ref m6, .int 0, .int 0, .int 0, .long 0, .null, .ref m7, .ref m8, .int 0, .int 0, .long 0])), (lp, .inr (0, [.int 0, .ref te, .int 0]))] := hD
  have hK : va_K (dC, dI) vwCl [] s := hK
  refine W.widen (k := 90) (n := 78009) (Nat.le_of_ble_eq_true rfl) (Nat.le_of_ble_eq_true rfl) ?_
  refine lv_istore (lv' := [(5, .int 1), (4, .int 0), (3, .ref qo), (2, .ref qm), (1, .ref qx), (0, .ref b)]) hx hb dL_law_1531 hl (by decide) rfl (fun ls hl => ?_)
  refine lv_aload_n hx hb dL_law_1533 rfl (lv_at hl 3 rfl) ?_
  have hPc := hP.sub (ws' := [(qm, .inr (17, [.ref lp, .null, .null, .int 0, .int 0, .ref m1, .ref m2, .ref m3, .ref m4, .ref m5, .null, .null, .int 0, .ref m6, .int 0, .int 0, .int 0, .long 0, .null, .ref m7, .ref m8, .int 0, .int 0, .long 0])), (lp, .inr (0, [.int 0, .ref te, .int 0]))]) [0, 1] rfl
  have hDc := hD.sub (ws' := [(qm, .inr (17, [.ref lp, .null, .null, .int 0, .int 0, .ref m1, .ref m2, .ref m3, .ref m4, .ref m5, .null, .null, .int 0, .ref m6, .int 0, .int 0, .int 0, .long 0, .null, .ref m7, .ref m8, .int 0, .int 0, .long 0])), (lp, .inr (0, [.int 0, .ref te, .int 0]))]) [0, 1] (by decide) rfl
  have hKc := hK.sub (tys' := []) [] rfl
  have hFc := va_free (wc := [(qm, .inr (17, [.ref lp, .null, .null, .int 0, .int 0, .ref m1, .ref m2, .ref m3, .ref m4, .ref m5, .null, .null, .int 0, .ref m6, .int 0, .int 0, .int 0, .long 0, .null, .ref m7, .ref m8, .int 0, .int 0, .long 0])), (lp, .inr (0, [.int 0, .ref te, .int 0]))]) hD hS hA [0, 1] rfl
  refine va_calll (va_runV (As := []) (rest := []) ⟨hx, hb, hml, hown, hts⟩ (c_M_valueAnew l dC dI tp te H_1.size qm lp m1 m2 m3 m4 m5 m6 m7 m8) (cwV 0 hts g_law_200_M_valueAnew rfl rfl rfl (by decide +kernel) ⟨Nat.le_of_ble_eq_true rfl, Nat.le_of_ble_eq_true rfl⟩) ⟨Pw.blind, va_recv hKc hPc (ci := 17) (q0 := 0) rfl rfl, Pw.mk hPc hKc hDc hG hS hFc⟩ rfl rfl hl.1 rfl (lv_room (Nat.le_of_ble_eq_true rfl)) dL_law_1534 ⟨Nat.le_of_ble_eq_true rfl, Nat.le_of_ble_eq_true rfl⟩) hS (fun q _ h => hFc q h) hFc (fun r u t9 H_3 locs ht hvm hw hB hz1 hk1 hS => ?_)
  have hw : r = 0 := hw
  subst hw
  obtain ⟨hP1, hK1, hD1⟩ := hB
  rw [ht] at hP1
  have hK1 := va_K.moved hvm.symm hK1
  obtain ⟨hP, hD⟩ := va_join (wr := []) (w1 := [(qm, .inr (17, [.ref lp, .null, .null, .int 0, .int 1, .ref m1, .ref m2, .ref m3, .ref m4, .ref m5, .null, .null, .int 0, .ref m6, .int 0, .int 0, .int 0, .long 0, .null, .ref m7, .ref m8, .int 0, .int 0, .long 0]))]) hP hD [0, 1] [] rfl rfl (by decide) (by decide) hk1 hFc hP1 hD1
  have hK := (hK.sub (tys' := []) [] rfl).app hK1
  have hP : va_P (dC, dI) vwCl [(qm, .inr (17, [.ref lp, .null, .null, .int 0, .int 1, .ref m1, .ref m2, .ref m3, .ref m4, .ref m5, .null, .null, .int 0, .ref m6, .int 0, .int 0, .int 0, .long 0, .null, .ref m7, .ref m8, .int 0, .int 0, .long 0]))] H_3 := hP
  have hD : va_D A [(qm, .inr (17, [.ref lp, .null, .null, .int 0, .int 1, .ref m1, .ref m2, .ref m3, .ref m4, .ref m5, .null, .null, .int 0, .ref m6, .int 0, .int 0, .int 0, .long 0, .null, .ref m7, .ref m8, .int 0, .int 0, .long 0]))] := hD
  have hK : va_K (dC, dI) vwCl [] s := hK
  refine W.widen (k := 90) (n := 78009) (Nat.le_of_ble_eq_true rfl) (Nat.le_of_ble_eq_true rfl) ?_
  refine lv_lstore (lv' := [(6, .long 0), (5, .int 1), (4, .int 0), (3, .ref qo), (2, .ref qm), (1, .ref qx), (0, .ref b)]) hx hb dL_law_1537 hl (by decide) rfl (fun ls hl => ?_)
  refine lv_aload_n hx hb dL_law_1539 rfl (lv_at hl 4 rfl) ?_
  have hPc := hP.sub (ws' := [(qm, .inr (17, [.ref lp, .null, .null, .int 0, .int 1, .ref m1, .ref m2, .ref m3, .ref m4, .ref m5, .null, .null, .int 0, .ref m6, .int 0, .int 0, .int 0, .long 0, .null, .ref m7, .ref m8, .int 0, .int 0, .long 0]))]) [0] rfl
  have hDc := hD.sub (ws' := [(qm, .inr (17, [.ref lp, .null, .null, .int 0, .int 1, .ref m1, .ref m2, .ref m3, .ref m4, .ref m5, .null, .null, .int 0, .ref m6, .int 0, .int 0, .int 0, .long 0, .null, .ref m7, .ref m8, .int 0, .int 0, .long 0]))]) [0] (by decide) rfl
  have hKc := hK.sub (tys' := []) [] rfl
  have hFc := va_free (wc := [(qm, .inr (17, [.ref lp, .null, .null, .int 0, .int 1, .ref m1, .ref m2, .ref m3, .ref m4, .ref m5, .null, .null, .int 0, .ref m6, .int 0, .int 0, .int 0, .long 0, .null, .ref m7, .ref m8, .int 0, .int 0, .long 0]))]) hD hS hA [0] rfl
  refine va_calli (va_runV (As := []) (rest := []) ⟨hx, hb, hml, hown, hts⟩ (c_thrown l dC dI tp te H_3.size qm lp m1 m2 m3 m4 m5 m6 m7 m8 1) (cwV 0 hts g_law_113_thrown rfl rfl rfl (by decide +kernel) ⟨Nat.le_of_ble_eq_true rfl, Nat.le_of_ble_eq_true rfl⟩) ⟨Pw.blind, va_recv hKc hPc (ci := 17) (q0 := 0) rfl rfl, Pw.mk hPc hKc hDc hG hS hFc⟩ rfl rfl hl.1 rfl (lv_room (Nat.le_of_ble_eq_true rfl)) dL_law_1540 ⟨Nat.le_of_ble_eq_true rfl, Nat.le_of_ble_eq_true rfl⟩) hS (fun q _ h => hFc q h) hFc (fun r u t9 H_5 locs ht hvm hw hB hz1 hk1 hS => ?_)
  have hw : r = 1 := hw
  subst hw
  obtain ⟨hP1, hK1, hD1⟩ := hB
  rw [ht] at hP1
  have hK1 := va_K.moved hvm.symm hK1
  obtain ⟨hP, hD⟩ := va_join (wr := []) (w1 := [(qm, .inr (17, [.ref lp, .null, .null, .int 0, .int 1, .ref m1, .ref m2, .ref m3, .ref m4, .ref m5, .null, .null, .int 0, .ref m6, .int 0, .int 0, .int 0, .long 0, .null, .ref m7, .ref m8, .int 0, .int 0, .long 0]))]) hP hD [0] [] rfl rfl (by decide) (by decide) hk1 hFc hP1 hD1
  have hK := (hK.sub (tys' := []) [] rfl).app hK1
  have hP : va_P (dC, dI) vwCl [(qm, .inr (17, [.ref lp, .null, .null, .int 0, .int 1, .ref m1, .ref m2, .ref m3, .ref m4, .ref m5, .null, .null, .int 0, .ref m6, .int 0, .int 0, .int 0, .long 0, .null, .ref m7, .ref m8, .int 0, .int 0, .long 0]))] H_5 := hP
  have hD : va_D A [(qm, .inr (17, [.ref lp, .null, .null, .int 0, .int 1, .ref m1, .ref m2, .ref m3, .ref m4, .ref m5, .null, .null, .int 0, .ref m6, .int 0, .int 0, .int 0, .long 0, .null, .ref m7, .ref m8, .int 0, .int 0, .long 0]))] := hD
  have hK : va_K (dC, dI) vwCl [] s := hK
  refine W.widen (k := 90) (n := 78009) (Nat.le_of_ble_eq_true rfl) (Nat.le_of_ble_eq_true rfl) ?_
  refine lv_iload hx hb dL_law_1543 (lv_at hl 1 rfl) ?_
  refine lv_icmp_eq (tgt := 1550) hx hb dL_law_1545 (by decide) (fun c9 => ?_) (fun c9 => absurd (by decide) c9)
  refine lv_iload hx hb dL_law_1550 (lv_at hl 1 rfl) ?_
  refine lv_if_ne (tgt := 1566) hx hb dL_law_1552 (by decide) (fun c9 => ?_) (fun c9 => absurd c9 (by decide))
  refine lv_goto (tgt := 1569) hx hb dL_law_1566 (by decide) ?_
  exact lc_next C0 hAA hS (lv_sub hl [6, 2] rfl) (Nat.le_of_ble_eq_true rfl) (Nat.le_of_ble_eq_true rfl)
