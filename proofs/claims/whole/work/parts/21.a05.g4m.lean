theorem dX13_wanted_1107 : decode cX13_wanted 1107 = .ok (.invokevirtual 1025, 3) := by decide +kernel
theorem dX13_wanted_1110 : decode cX13_wanted 1110 = .ok (.istore 4, 2) := by decide +kernel
theorem dX13_wanted_1112 : decode cX13_wanted 1112 = .ok (.iload 4, 2) := by decide +kernel
theorem dX13_wanted_1114 : decode cX13_wanted 1114 = .ok (.iconst 2, 1) := by decide +kernel
theorem dX13_wanted_1115 : decode cX13_wanted 1115 = .ok (.if_icmp .eq 17, 3) := by decide +kernel
theorem dX13_wanted_1118 : decode cX13_wanted 1118 = .ok (.iload 4, 2) := by decide +kernel
theorem dX13_wanted_1120 : decode cX13_wanted 1120 = .ok (.iconst 3, 1) := by decide +kernel
theorem dX13_wanted_1121 : decode cX13_wanted 1121 = .ok (.if_icmp .le 15, 3) := by decide +kernel
theorem dX13_wanted_1124 : decode cX13_wanted 1124 = .ok (.iload 4, 2) := by decide +kernel
theorem dX13_wanted_1126 : decode cX13_wanted 1126 = .ok (.invokestatic 888, 3) := by decide +kernel
theorem dX13_wanted_1129 : decode cX13_wanted 1129 = .ok (.ifCond .eq 7, 3) := by decide +kernel
theorem dX13_wanted_1132 : decode cX13_wanted 1132 = .ok (.iconst 1, 1) := by decide +kernel
theorem dX13_wanted_1133 : decode cX13_wanted 1133 = .ok (.goto 4, 3) := by decide +kernel
theorem dX13_wanted_1136 : decode cX13_wanted 1136 = .ok (.iconst 0, 1) := by decide +kernel
theorem dX13_wanted_1137 : decode cX13_wanted 1137 = .ok (.ireturn, 1) := by decide +kernel
theorem dX13_wanted_1138 : decode cX13_wanted 1138 = .ok (.aload_n 0, 1) := by decide +kernel
theorem dX13_wanted_1139 : decode cX13_wanted 1139 = .ok (.invokevirtual 1025, 3) := by decide +kernel
theorem dX13_wanted_1142 : decode cX13_wanted 1142 = .ok (.iconst (-1), 1) := by decide +kernel
theorem dX13_wanted_1143 : decode cX13_wanted 1143 = .ok (.if_icmp .eq 7, 3) := by decide +kernel
theorem dX13_wanted_1146 : decode cX13_wanted 1146 = .ok (.iconst 1, 1) := by decide +kernel
theorem dX13_wanted_1147 : decode cX13_wanted 1147 = .ok (.goto 4, 3) := by decide +kernel
theorem dX13_wanted_1150 : decode cX13_wanted 1150 = .ok (.iconst 0, 1) := by decide +kernel
theorem dX13_wanted_1151 : decode cX13_wanted 1151 = .ok (.ireturn, 1) := by decide +kernel
theorem dX13_wanted_1152 : decode cX13_wanted 1152 = .ok (.aload_n 0, 1) := by decide +kernel
theorem dX13_wanted_1153 : decode cX13_wanted 1153 = .ok (.getfield 961, 3) := by decide +kernel
theorem dX13_wanted_1156 : decode cX13_wanted 1156 = .ok (.ifCond .le 25, 3) := by decide +kernel
theorem dX13_wanted_1159 : decode cX13_wanted 1159 = .ok (.aload_n 0, 1) := by decide +kernel
theorem dX13_wanted_1160 : decode cX13_wanted 1160 = .ok (.aload_n 0, 1) := by decide +kernel
theorem dX13_wanted_1161 : decode cX13_wanted 1161 = .ok (.getfield 273, 3) := by decide +kernel
theorem dX13_wanted_1164 : decode cX13_wanted 1164 = .ok (.aload_n 0, 1) := by decide +kernel
theorem dX13_wanted_1165 : decode cX13_wanted 1165 = .ok (.getfield 961, 3) := by decide +kernel
theorem dX13_wanted_1168 : decode cX13_wanted 1168 = .ok (.iconst 1, 1) := by decide +kernel
theorem dX13_wanted_1169 : decode cX13_wanted 1169 = .ok (.isub, 1) := by decide +kernel
theorem dX13_wanted_1170 : decode cX13_wanted 1170 = .ok (.iaload, 1) := by decide +kernel
theorem dX13_wanted_1171 : decode cX13_wanted 1171 = .ok (.invokevirtual 1028, 3) := by decide +kernel
theorem dX13_wanted_1174 : decode cX13_wanted 1174 = .ok (.ifCond .eq 7, 3) := by decide +kernel
theorem dX13_wanted_1177 : decode cX13_wanted 1177 = .ok (.iconst 1, 1) := by decide +kernel
theorem dX13_wanted_1178 : decode cX13_wanted 1178 = .ok (.goto 4, 3) := by decide +kernel
theorem dX13_wanted_1181 : decode cX13_wanted 1181 = .ok (.iconst 0, 1) := by decide +kernel
theorem dX13_wanted_1182 : decode cX13_wanted 1182 = .ok (.ireturn, 1) := by decide +kernel
theorem dX13_wanted_1183 : decode cX13_wanted 1183 = .ok (.aload_n 0, 1) := by decide +kernel
theorem dX13_wanted_1184 : decode cX13_wanted 1184 = .ok (.iconst 2, 1) := by decide +kernel
theorem dX13_wanted_1185 : decode cX13_wanted 1185 = .ok (.invokevirtual 1031, 3) := by decide +kernel
theorem dX13_wanted_1188 : decode cX13_wanted 1188 = .ok (.ifCond .eq 15, 3) := by decide +kernel
theorem dX13_wanted_1191 : decode cX13_wanted 1191 = .ok (.aload_n 0, 1) := by decide +kernel
theorem dX13_wanted_1192 : decode cX13_wanted 1192 = .ok (.iconst 1, 1) := by decide +kernel
theorem dX13_wanted_1193 : decode cX13_wanted 1193 = .ok (.invokevirtual 1028, 3) := by decide +kernel
theorem dX13_wanted_1196 : decode cX13_wanted 1196 = .ok (.ifCond .eq 7, 3) := by decide +kernel
theorem dX13_wanted_1199 : decode cX13_wanted 1199 = .ok (.iconst 1, 1) := by decide +kernel
theorem dX13_wanted_1200 : decode cX13_wanted 1200 = .ok (.goto 4, 3) := by decide +kernel
theorem dX13_wanted_1203 : decode cX13_wanted 1203 = .ok (.iconst 0, 1) := by decide +kernel
theorem dX13_wanted_1204 : decode cX13_wanted 1204 = .ok (.ireturn, 1) := by decide +kernel
theorem dX13_wanted_1205 : decode cX13_wanted 1205 = .ok (.aload_n 0, 1) := by decide +kernel
theorem dX13_wanted_1206 : decode cX13_wanted 1206 = .ok (.iconst 1, 1) := by decide +kernel
theorem dX13_wanted_1207 : decode cX13_wanted 1207 = .ok (.invokevirtual 1031, 3) := by decide +kernel
theorem dX13_wanted_1210 : decode cX13_wanted 1210 = .ok (.ifCond .eq 15, 3) := by decide +kernel
theorem dX13_wanted_1213 : decode cX13_wanted 1213 = .ok (.aload_n 0, 1) := by decide +kernel
theorem dX13_wanted_1214 : decode cX13_wanted 1214 = .ok (.iconst 1, 1) := by decide +kernel
theorem dX13_wanted_1215 : decode cX13_wanted 1215 = .ok (.invokevirtual 1028, 3) := by decide +kernel
theorem dX13_wanted_1218 : decode cX13_wanted 1218 = .ok (.ifCond .eq 7, 3) := by decide +kernel
theorem dX13_wanted_1221 : decode cX13_wanted 1221 = .ok (.iconst 1, 1) := by decide +kernel
theorem dX13_wanted_1222 : decode cX13_wanted 1222 = .ok (.goto 4, 3) := by decide +kernel
theorem dX13_wanted_1225 : decode cX13_wanted 1225 = .ok (.iconst 0, 1) := by decide +kernel
theorem dX13_wanted_1226 : decode cX13_wanted 1226 = .ok (.ireturn, 1) := by decide +kernel
theorem dX13_wanted_1227 : decode cX13_wanted 1227 = .ok (.aload_n 0, 1) := by decide +kernel
theorem dX13_wanted_1228 : decode cX13_wanted 1228 = .ok (.iconst 1, 1) := by decide +kernel
theorem dX13_wanted_1229 : decode cX13_wanted 1229 = .ok (.invokevirtual 1031, 3) := by decide +kernel
theorem dX13_wanted_1232 : decode cX13_wanted 1232 = .ok (.ireturn, 1) := by decide +kernel
theorem dX13_wanted_1233 : decode cX13_wanted 1233 = .ok (.aload_n 0, 1) := by decide +kernel
theorem dX13_wanted_1234 : decode cX13_wanted 1234 = .ok (.iconst 2, 1) := by decide +kernel
theorem dX13_wanted_1235 : decode cX13_wanted 1235 = .ok (.invokevirtual 1031, 3) := by decide +kernel
theorem dX13_wanted_1238 : decode cX13_wanted 1238 = .ok (.ireturn, 1) := by decide +kernel
theorem dX13_wanted_1239 : decode cX13_wanted 1239 = .ok (.aload_n 0, 1) := by decide +kernel
theorem dX13_wanted_1240 : decode cX13_wanted 1240 = .ok (.invokevirtual 1034, 3) := by decide +kernel
theorem dX13_wanted_1243 : decode cX13_wanted 1243 = .ok (.ifCond .eq 14, 3) := by decide +kernel
theorem dX13_wanted_1246 : decode cX13_wanted 1246 = .ok (.aload_n 0, 1) := by decide +kernel
theorem dX13_wanted_1247 : decode cX13_wanted 1247 = .ok (.invokevirtual 1034, 3) := by decide +kernel
theorem dX13_wanted_1250 : decode cX13_wanted 1250 = .ok (.ifCond .eq 7, 3) := by decide +kernel
theorem dX13_wanted_1253 : decode cX13_wanted 1253 = .ok (.iconst 1, 1) := by decide +kernel
theorem dX13_wanted_1254 : decode cX13_wanted 1254 = .ok (.goto 4, 3) := by decide +kernel
theorem dX13_wanted_1257 : decode cX13_wanted 1257 = .ok (.iconst 0, 1) := by decide +kernel
theorem dX13_wanted_1258 : decode cX13_wanted 1258 = .ok (.ireturn, 1) := by decide +kernel
theorem dX13_wanted_1259 : decode cX13_wanted 1259 = .ok (.aload_n 0, 1) := by decide +kernel
theorem dX13_wanted_1260 : decode cX13_wanted 1260 = .ok (.getfield 209, 3) := by decide +kernel
theorem dX13_wanted_1263 : decode cX13_wanted 1263 = .ok (.aload_n 0, 1) := by decide +kernel
theorem dX13_wanted_1264 : decode cX13_wanted 1264 = .ok (.getfield 998, 3) := by decide +kernel
theorem dX13_wanted_1267 : decode cX13_wanted 1267 = .ok (.iaload, 1) := by decide +kernel
theorem dX13_wanted_1268 : decode cX13_wanted 1268 = .ok (.bipush 73, 2) := by decide +kernel
theorem dX13_wanted_1270 : decode cX13_wanted 1270 = .ok (.if_icmp .eq 17, 3) := by decide +kernel
theorem dX13_wanted_1273 : decode cX13_wanted 1273 = .ok (.aload_n 0, 1) := by decide +kernel
theorem dX13_wanted_1274 : decode cX13_wanted 1274 = .ok (.getfield 209, 3) := by decide +kernel
theorem dX13_wanted_1277 : decode cX13_wanted 1277 = .ok (.aload_n 0, 1) := by decide +kernel
theorem dX13_wanted_1278 : decode cX13_wanted 1278 = .ok (.getfield 998, 3) := by decide +kernel
theorem dX13_wanted_1281 : decode cX13_wanted 1281 = .ok (.iaload, 1) := by decide +kernel
theorem dX13_wanted_1282 : decode cX13_wanted 1282 = .ok (.bipush 90, 2) := by decide +kernel
theorem dX13_wanted_1284 : decode cX13_wanted 1284 = .ok (.if_icmp .ne 15, 3) := by decide +kernel
theorem dX13_wanted_1287 : decode cX13_wanted 1287 = .ok (.aload_n 0, 1) := by decide +kernel
theorem dX13_wanted_1288 : decode cX13_wanted 1288 = .ok (.iconst 1, 1) := by decide +kernel
theorem dX13_wanted_1289 : decode cX13_wanted 1289 = .ok (.invokevirtual 1031, 3) := by decide +kernel
theorem dX13_wanted_1292 : decode cX13_wanted 1292 = .ok (.ifCond .eq 7, 3) := by decide +kernel
theorem dX13_wanted_1295 : decode cX13_wanted 1295 = .ok (.iconst 1, 1) := by decide +kernel
theorem dX13_wanted_1296 : decode cX13_wanted 1296 = .ok (.goto 4, 3) := by decide +kernel
theorem dX13_wanted_1299 : decode cX13_wanted 1299 = .ok (.iconst 0, 1) := by decide +kernel
theorem dX13_wanted_1300 : decode cX13_wanted 1300 = .ok (.ireturn, 1) := by decide +kernel
theorem dX13_wanted_1301 : decode cX13_wanted 1301 = .ok (.aload_n 0, 1) := by decide +kernel
theorem dX13_wanted_1302 : decode cX13_wanted 1302 = .ok (.getfield 209, 3) := by decide +kernel
theorem dX13_wanted_1305 : decode cX13_wanted 1305 = .ok (.aload_n 0, 1) := by decide +kernel
theorem dX13_wanted_1306 : decode cX13_wanted 1306 = .ok (.getfield 998, 3) := by decide +kernel
theorem dX13_wanted_1309 : decode cX13_wanted 1309 = .ok (.iaload, 1) := by decide +kernel
theorem dX13_wanted_1310 : decode cX13_wanted 1310 = .ok (.bipush 73, 2) := by decide +kernel
theorem dX13_wanted_1312 : decode cX13_wanted 1312 = .ok (.if_icmp .eq 50, 3) := by decide +kernel
theorem dX13_wanted_1315 : decode cX13_wanted 1315 = .ok (.aload_n 0, 1) := by decide +kernel
theorem dX13_wanted_1316 : decode cX13_wanted 1316 = .ok (.getfield 209, 3) := by decide +kernel
theorem dX13_wanted_1319 : decode cX13_wanted 1319 = .ok (.aload_n 0, 1) := by decide +kernel
theorem dX13_wanted_1320 : decode cX13_wanted 1320 = .ok (.getfield 998, 3) := by decide +kernel
theorem dX13_wanted_1323 : decode cX13_wanted 1323 = .ok (.iaload, 1) := by decide +kernel
theorem dX13_wanted_1324 : decode cX13_wanted 1324 = .ok (.bipush 90, 2) := by decide +kernel
theorem dX13_wanted_1326 : decode cX13_wanted 1326 = .ok (.if_icmp .eq 36, 3) := by decide +kernel
theorem dX13_wanted_1329 : decode cX13_wanted 1329 = .ok (.aload_n 0, 1) := by decide +kernel
theorem dX13_wanted_1330 : decode cX13_wanted 1330 = .ok (.getfield 209, 3) := by decide +kernel
theorem dX13_wanted_1333 : decode cX13_wanted 1333 = .ok (.aload_n 0, 1) := by decide +kernel
theorem dX13_wanted_1334 : decode cX13_wanted 1334 = .ok (.getfield 998, 3) := by decide +kernel
theorem dX13_wanted_1337 : decode cX13_wanted 1337 = .ok (.iaload, 1) := by decide +kernel
theorem dX13_wanted_1338 : decode cX13_wanted 1338 = .ok (.bipush 86, 2) := by decide +kernel
theorem dX13_wanted_1340 : decode cX13_wanted 1340 = .ok (.if_icmp .eq 22, 3) := by decide +kernel
theorem dX13_wanted_1343 : decode cX13_wanted 1343 = .ok (.aload_n 0, 1) := by decide +kernel
theorem dX13_wanted_1344 : decode cX13_wanted 1344 = .ok (.aload_n 0, 1) := by decide +kernel
theorem dX13_wanted_1345 : decode cX13_wanted 1345 = .ok (.aload_n 0, 1) := by decide +kernel
theorem dX13_wanted_1346 : decode cX13_wanted 1346 = .ok (.getfield 998, 3) := by decide +kernel
theorem dX13_wanted_1349 : decode cX13_wanted 1349 = .ok (.invokevirtual 885, 3) := by decide +kernel
theorem dX13_wanted_1352 : decode cX13_wanted 1352 = .ok (.invokevirtual 1037, 3) := by decide +kernel
theorem dX13_wanted_1355 : decode cX13_wanted 1355 = .ok (.ifCond .eq 7, 3) := by decide +kernel
theorem dX13_wanted_1358 : decode cX13_wanted 1358 = .ok (.iconst 1, 1) := by decide +kernel
theorem dX13_wanted_1359 : decode cX13_wanted 1359 = .ok (.goto 4, 3) := by decide +kernel
theorem dX13_wanted_1362 : decode cX13_wanted 1362 = .ok (.iconst 0, 1) := by decide +kernel
theorem dX13_wanted_1363 : decode cX13_wanted 1363 = .ok (.ireturn, 1) := by decide +kernel
theorem dX13_wanted_1364 : decode cX13_wanted 1364 = .ok (.aload_n 0, 1) := by decide +kernel
theorem dX13_wanted_1365 : decode cX13_wanted 1365 = .ok (.getfield 209, 3) := by decide +kernel
theorem dX13_wanted_1368 : decode cX13_wanted 1368 = .ok (.aload_n 0, 1) := by decide +kernel
theorem dX13_wanted_1369 : decode cX13_wanted 1369 = .ok (.getfield 998, 3) := by decide +kernel
theorem dX13_wanted_1372 : decode cX13_wanted 1372 = .ok (.iaload, 1) := by decide +kernel
theorem dX13_wanted_1373 : decode cX13_wanted 1373 = .ok (.bipush 86, 2) := by decide +kernel
theorem dX13_wanted_1375 : decode cX13_wanted 1375 = .ok (.if_icmp .ne 7, 3) := by decide +kernel
theorem dX13_wanted_1378 : decode cX13_wanted 1378 = .ok (.iconst 1, 1) := by decide +kernel
theorem dX13_wanted_1379 : decode cX13_wanted 1379 = .ok (.goto 4, 3) := by decide +kernel
theorem dX13_wanted_1382 : decode cX13_wanted 1382 = .ok (.iconst 0, 1) := by decide +kernel
theorem dX13_wanted_1383 : decode cX13_wanted 1383 = .ok (.ireturn, 1) := by decide +kernel
theorem dX13_wanted_1384 : decode cX13_wanted 1384 = .ok (.aload_n 0, 1) := by decide +kernel
theorem dX13_wanted_1385 : decode cX13_wanted 1385 = .ok (.aload_n 0, 1) := by decide +kernel
theorem dX13_wanted_1386 : decode cX13_wanted 1386 = .ok (.aload_n 0, 1) := by decide +kernel
theorem dX13_wanted_1387 : decode cX13_wanted 1387 = .ok (.getfield 932, 3) := by decide +kernel
theorem dX13_wanted_1390 : decode cX13_wanted 1390 = .ok (.aload_n 0, 1) := by decide +kernel
theorem dX13_wanted_1391 : decode cX13_wanted 1391 = .ok (.iload_n 3, 1) := by decide +kernel
theorem dX13_wanted_1392 : decode cX13_wanted 1392 = .ok (.iconst 0, 1) := by decide +kernel
theorem dX13_wanted_1393 : decode cX13_wanted 1393 = .ok (.invokevirtual 1022, 3) := by decide +kernel
theorem dX13_wanted_1396 : decode cX13_wanted 1396 = .ok (.invokevirtual 952, 3) := by decide +kernel
theorem dX13_wanted_1399 : decode cX13_wanted 1399 = .ok (.invokevirtual 1037, 3) := by decide +kernel
theorem dX13_wanted_1402 : decode cX13_wanted 1402 = .ok (.ifCond .eq 28, 3) := by decide +kernel
theorem dX13_wanted_1405 : decode cX13_wanted 1405 = .ok (.aload_n 0, 1) := by decide +kernel
theorem dX13_wanted_1406 : decode cX13_wanted 1406 = .ok (.aload_n 0, 1) := by decide +kernel
theorem dX13_wanted_1407 : decode cX13_wanted 1407 = .ok (.aload_n 0, 1) := by decide +kernel
theorem dX13_wanted_1408 : decode cX13_wanted 1408 = .ok (.getfield 932, 3) := by decide +kernel
theorem dX13_wanted_1411 : decode cX13_wanted 1411 = .ok (.aload_n 0, 1) := by decide +kernel
theorem dX13_wanted_1412 : decode cX13_wanted 1412 = .ok (.iload_n 3, 1) := by decide +kernel
theorem dX13_wanted_1413 : decode cX13_wanted 1413 = .ok (.iconst 2, 1) := by decide +kernel
theorem dX13_wanted_1414 : decode cX13_wanted 1414 = .ok (.invokevirtual 1022, 3) := by decide +kernel
theorem dX13_wanted_1417 : decode cX13_wanted 1417 = .ok (.invokevirtual 913, 3) := by decide +kernel
theorem dX13_wanted_1420 : decode cX13_wanted 1420 = .ok (.invokevirtual 1028, 3) := by decide +kernel
theorem dX13_wanted_1423 : decode cX13_wanted 1423 = .ok (.ifCond .eq 7, 3) := by decide +kernel
theorem dX13_wanted_1426 : decode cX13_wanted 1426 = .ok (.iconst 1, 1) := by decide +kernel
theorem dX13_wanted_1427 : decode cX13_wanted 1427 = .ok (.goto 4, 3) := by decide +kernel
theorem dX13_wanted_1430 : decode cX13_wanted 1430 = .ok (.iconst 0, 1) := by decide +kernel
theorem dX13_wanted_1431 : decode cX13_wanted 1431 = .ok (.ireturn, 1) := by decide +kernel
theorem dX13_wanted_1432 : decode cX13_wanted 1432 = .ok (.aload_n 0, 1) := by decide +kernel
theorem dX13_wanted_1433 : decode cX13_wanted 1433 = .ok (.aload_n 0, 1) := by decide +kernel
theorem dX13_wanted_1434 : decode cX13_wanted 1434 = .ok (.aload_n 0, 1) := by decide +kernel
theorem dX13_wanted_1435 : decode cX13_wanted 1435 = .ok (.getfield 932, 3) := by decide +kernel
theorem dX13_wanted_1438 : decode cX13_wanted 1438 = .ok (.aload_n 0, 1) := by decide +kernel
theorem dX13_wanted_1439 : decode cX13_wanted 1439 = .ok (.iload_n 3, 1) := by decide +kernel
theorem dX13_wanted_1440 : decode cX13_wanted 1440 = .ok (.iconst 2, 1) := by decide +kernel
theorem dX13_wanted_1441 : decode cX13_wanted 1441 = .ok (.invokevirtual 1022, 3) := by decide +kernel
theorem dX13_wanted_1444 : decode cX13_wanted 1444 = .ok (.invokevirtual 913, 3) := by decide +kernel
theorem dX13_wanted_1447 : decode cX13_wanted 1447 = .ok (.invokevirtual 1037, 3) := by decide +kernel
theorem dX13_wanted_1450 : decode cX13_wanted 1450 = .ok (.ifCond .eq 28, 3) := by decide +kernel
theorem dX13_wanted_1453 : decode cX13_wanted 1453 = .ok (.aload_n 0, 1) := by decide +kernel
theorem dX13_wanted_1454 : decode cX13_wanted 1454 = .ok (.aload_n 0, 1) := by decide +kernel
theorem dX13_wanted_1455 : decode cX13_wanted 1455 = .ok (.aload_n 0, 1) := by decide +kernel
theorem dX13_wanted_1456 : decode cX13_wanted 1456 = .ok (.getfield 932, 3) := by decide +kernel
theorem dX13_wanted_1459 : decode cX13_wanted 1459 = .ok (.aload_n 0, 1) := by decide +kernel
theorem dX13_wanted_1460 : decode cX13_wanted 1460 = .ok (.iload_n 3, 1) := by decide +kernel
theorem dX13_wanted_1461 : decode cX13_wanted 1461 = .ok (.iconst 0, 1) := by decide +kernel
theorem dX13_wanted_1462 : decode cX13_wanted 1462 = .ok (.invokevirtual 1022, 3) := by decide +kernel
theorem dX13_wanted_1465 : decode cX13_wanted 1465 = .ok (.invokevirtual 952, 3) := by decide +kernel
theorem dX13_wanted_1468 : decode cX13_wanted 1468 = .ok (.invokevirtual 1037, 3) := by decide +kernel
theorem dX13_wanted_1471 : decode cX13_wanted 1471 = .ok (.ifCond .eq 7, 3) := by decide +kernel
theorem dX13_wanted_1474 : decode cX13_wanted 1474 = .ok (.iconst 1, 1) := by decide +kernel
theorem dX13_wanted_1475 : decode cX13_wanted 1475 = .ok (.goto 4, 3) := by decide +kernel
theorem dX13_wanted_1478 : decode cX13_wanted 1478 = .ok (.iconst 0, 1) := by decide +kernel
theorem dX13_wanted_1479 : decode cX13_wanted 1479 = .ok (.ireturn, 1) := by decide +kernel
theorem dX13_wanted_1480 : decode cX13_wanted 1480 = .ok (.aload_n 0, 1) := by decide +kernel
theorem dX13_wanted_1481 : decode cX13_wanted 1481 = .ok (.iload_n 3, 1) := by decide +kernel
theorem dX13_wanted_1482 : decode cX13_wanted 1482 = .ok (.iload_n 2, 1) := by decide +kernel
theorem dX13_wanted_1483 : decode cX13_wanted 1483 = .ok (.sipush 184, 3) := by decide +kernel
theorem dX13_wanted_1486 : decode cX13_wanted 1486 = .ok (.if_icmp .ne 7, 3) := by decide +kernel
theorem dX13_wanted_1489 : decode cX13_wanted 1489 = .ok (.iconst 1, 1) := by decide +kernel
theorem dX13_wanted_1490 : decode cX13_wanted 1490 = .ok (.goto 4, 3) := by decide +kernel
theorem dX13_wanted_1493 : decode cX13_wanted 1493 = .ok (.iconst 0, 1) := by decide +kernel
theorem dX13_wanted_1494 : decode cX13_wanted 1494 = .ok (.invokevirtual 1040, 3) := by decide +kernel
theorem dX13_wanted_1497 : decode cX13_wanted 1497 = .ok (.ireturn, 1) := by decide +kernel
theorem dX13_wanted_1498 : decode cX13_wanted 1498 = .ok (.aload_n 0, 1) := by decide +kernel
theorem dX13_wanted_1499 : decode cX13_wanted 1499 = .ok (.aload_n 0, 1) := by decide +kernel
theorem dX13_wanted_1500 : decode cX13_wanted 1500 = .ok (.aload_n 0, 1) := by decide +kernel
theorem dX13_wanted_1501 : decode cX13_wanted 1501 = .ok (.getfield 932, 3) := by decide +kernel
theorem dX13_wanted_1504 : decode cX13_wanted 1504 = .ok (.iload_n 3, 1) := by decide +kernel
theorem dX13_wanted_1505 : decode cX13_wanted 1505 = .ok (.invokevirtual 952, 3) := by decide +kernel
theorem dX13_wanted_1508 : decode cX13_wanted 1508 = .ok (.invokevirtual 1028, 3) := by decide +kernel
theorem dX13_wanted_1511 : decode cX13_wanted 1511 = .ok (.ireturn, 1) := by decide +kernel
theorem dX13_wanted_1512 : decode cX13_wanted 1512 = .ok (.aload_n 0, 1) := by decide +kernel
theorem dX13_wanted_1513 : decode cX13_wanted 1513 = .ok (.iconst 1, 1) := by decide +kernel
theorem dX13_wanted_1514 : decode cX13_wanted 1514 = .ok (.invokevirtual 1031, 3) := by decide +kernel
theorem dX13_wanted_1517 : decode cX13_wanted 1517 = .ok (.ifCond .eq 15, 3) := by decide +kernel
theorem dX13_wanted_1520 : decode cX13_wanted 1520 = .ok (.aload_n 0, 1) := by decide +kernel
theorem dX13_wanted_1521 : decode cX13_wanted 1521 = .ok (.iconst 3, 1) := by decide +kernel
theorem dX13_wanted_1522 : decode cX13_wanted 1522 = .ok (.invokevirtual 1028, 3) := by decide +kernel
theorem dX13_wanted_1525 : decode cX13_wanted 1525 = .ok (.ifCond .eq 7, 3) := by decide +kernel
theorem dX13_wanted_1528 : decode cX13_wanted 1528 = .ok (.iconst 1, 1) := by decide +kernel
theorem dX13_wanted_1529 : decode cX13_wanted 1529 = .ok (.goto 4, 3) := by decide +kernel
theorem dX13_wanted_1532 : decode cX13_wanted 1532 = .ok (.iconst 0, 1) := by decide +kernel
theorem dX13_wanted_1533 : decode cX13_wanted 1533 = .ok (.ireturn, 1) := by decide +kernel
theorem dX13_wanted_1534 : decode cX13_wanted 1534 = .ok (.aload_n 0, 1) := by decide +kernel
theorem dX13_wanted_1535 : decode cX13_wanted 1535 = .ok (.iconst 1, 1) := by decide +kernel
theorem dX13_wanted_1536 : decode cX13_wanted 1536 = .ok (.invokevirtual 1031, 3) := by decide +kernel
theorem dX13_wanted_1539 : decode cX13_wanted 1539 = .ok (.ifCond .eq 25, 3) := by decide +kernel
theorem dX13_wanted_1542 : decode cX13_wanted 1542 = .ok (.aload_n 0, 1) := by decide +kernel
theorem dX13_wanted_1543 : decode cX13_wanted 1543 = .ok (.aload_n 0, 1) := by decide +kernel
theorem dX13_wanted_1544 : decode cX13_wanted 1544 = .ok (.aload_n 0, 1) := by decide +kernel
theorem dX13_wanted_1545 : decode cX13_wanted 1545 = .ok (.getfield 932, 3) := by decide +kernel
theorem dX13_wanted_1548 : decode cX13_wanted 1548 = .ok (.iload_n 3, 1) := by decide +kernel
theorem dX13_wanted_1549 : decode cX13_wanted 1549 = .ok (.invokevirtual 952, 3) := by decide +kernel
theorem dX13_wanted_1552 : decode cX13_wanted 1552 = .ok (.iconst 1, 1) := by decide +kernel
theorem dX13_wanted_1553 : decode cX13_wanted 1553 = .ok (.iadd, 1) := by decide +kernel
theorem dX13_wanted_1554 : decode cX13_wanted 1554 = .ok (.invokevirtual 1028, 3) := by decide +kernel
theorem dX13_wanted_1557 : decode cX13_wanted 1557 = .ok (.ifCond .eq 7, 3) := by decide +kernel
theorem dX13_wanted_1560 : decode cX13_wanted 1560 = .ok (.iconst 1, 1) := by decide +kernel
theorem dX13_wanted_1561 : decode cX13_wanted 1561 = .ok (.goto 4, 3) := by decide +kernel
theorem dX13_wanted_1564 : decode cX13_wanted 1564 = .ok (.iconst 0, 1) := by decide +kernel
theorem dX13_wanted_1565 : decode cX13_wanted 1565 = .ok (.ireturn, 1) := by decide +kernel
theorem dX13_wanted_1566 : decode cX13_wanted 1566 = .ok (.aload_n 0, 1) := by decide +kernel
theorem dX13_wanted_1567 : decode cX13_wanted 1567 = .ok (.invokevirtual 1025, 3) := by decide +kernel
theorem dX13_wanted_1570 : decode cX13_wanted 1570 = .ok (.istore 4, 2) := by decide +kernel
theorem dX13_wanted_1572 : decode cX13_wanted 1572 = .ok (.iload 4, 2) := by decide +kernel
theorem dX13_wanted_1574 : decode cX13_wanted 1574 = .ok (.iconst 2, 1) := by decide +kernel
theorem dX13_wanted_1575 : decode cX13_wanted 1575 = .ok (.if_icmp .eq 17, 3) := by decide +kernel
theorem dX13_wanted_1578 : decode cX13_wanted 1578 = .ok (.iload 4, 2) := by decide +kernel
theorem dX13_wanted_1580 : decode cX13_wanted 1580 = .ok (.iconst (-1), 1) := by decide +kernel
theorem dX13_wanted_1581 : decode cX13_wanted 1581 = .ok (.if_icmp .eq 23, 3) := by decide +kernel
theorem dX13_wanted_1584 : decode cX13_wanted 1584 = .ok (.iload 4, 2) := by decide +kernel
theorem dX13_wanted_1586 : decode cX13_wanted 1586 = .ok (.invokestatic 888, 3) := by decide +kernel
theorem dX13_wanted_1589 : decode cX13_wanted 1589 = .ok (.ifCond .eq 15, 3) := by decide +kernel
theorem dX13_wanted_1592 : decode cX13_wanted 1592 = .ok (.aload_n 0, 1) := by decide +kernel
theorem dX13_wanted_1593 : decode cX13_wanted 1593 = .ok (.iconst 1, 1) := by decide +kernel
theorem dX13_wanted_1594 : decode cX13_wanted 1594 = .ok (.invokevirtual 1028, 3) := by decide +kernel
theorem dX13_wanted_1597 : decode cX13_wanted 1597 = .ok (.ifCond .eq 7, 3) := by decide +kernel
theorem dX13_wanted_1600 : decode cX13_wanted 1600 = .ok (.iconst 1, 1) := by decide +kernel
theorem dX13_wanted_1601 : decode cX13_wanted 1601 = .ok (.goto 4, 3) := by decide +kernel
theorem dX13_wanted_1604 : decode cX13_wanted 1604 = .ok (.iconst 0, 1) := by decide +kernel
theorem dX13_wanted_1605 : decode cX13_wanted 1605 = .ok (.ireturn, 1) := by decide +kernel
theorem dX13_wanted_1606 : decode cX13_wanted 1606 = .ok (.aload_n 0, 1) := by decide +kernel
theorem dX13_wanted_1607 : decode cX13_wanted 1607 = .ok (.bipush 6, 2) := by decide +kernel
theorem dX13_wanted_1609 : decode cX13_wanted 1609 = .ok (.invokevirtual 1037, 3) := by decide +kernel
theorem dX13_wanted_1612 : decode cX13_wanted 1612 = .ok (.ireturn, 1) := by decide +kernel
theorem dX13_wanted_1613 : decode cX13_wanted 1613 = .ok (.aload_n 0, 1) := by decide +kernel
theorem dX13_wanted_1614 : decode cX13_wanted 1614 = .ok (.invokevirtual 1034, 3) := by decide +kernel
theorem dX13_wanted_1617 : decode cX13_wanted 1617 = .ok (.ifCond .eq 23, 3) := by decide +kernel
theorem dX13_wanted_1620 : decode cX13_wanted 1620 = .ok (.aload_n 0, 1) := by decide +kernel
theorem dX13_wanted_1621 : decode cX13_wanted 1621 = .ok (.aload_n 0, 1) := by decide +kernel
theorem dX13_wanted_1622 : decode cX13_wanted 1622 = .ok (.aload_n 0, 1) := by decide +kernel
theorem dX13_wanted_1623 : decode cX13_wanted 1623 = .ok (.getfield 932, 3) := by decide +kernel
theorem dX13_wanted_1626 : decode cX13_wanted 1626 = .ok (.iload_n 3, 1) := by decide +kernel
theorem dX13_wanted_1627 : decode cX13_wanted 1627 = .ok (.invokevirtual 952, 3) := by decide +kernel
theorem dX13_wanted_1630 : decode cX13_wanted 1630 = .ok (.invokevirtual 1028, 3) := by decide +kernel
theorem dX13_wanted_1633 : decode cX13_wanted 1633 = .ok (.ifCond .eq 7, 3) := by decide +kernel
theorem dX13_wanted_1636 : decode cX13_wanted 1636 = .ok (.iconst 1, 1) := by decide +kernel
theorem dX13_wanted_1637 : decode cX13_wanted 1637 = .ok (.goto 4, 3) := by decide +kernel
theorem dX13_wanted_1640 : decode cX13_wanted 1640 = .ok (.iconst 0, 1) := by decide +kernel
theorem dX13_wanted_1641 : decode cX13_wanted 1641 = .ok (.ireturn, 1) := by decide +kernel
theorem dX13_wanted_1642 : decode cX13_wanted 1642 = .ok (.aload_n 0, 1) := by decide +kernel
theorem dX13_wanted_1643 : decode cX13_wanted 1643 = .ok (.invokevirtual 1034, 3) := by decide +kernel
theorem dX13_wanted_1646 : decode cX13_wanted 1646 = .ok (.ifCond .eq 15, 3) := by decide +kernel
theorem dX13_wanted_1649 : decode cX13_wanted 1649 = .ok (.aload_n 0, 1) := by decide +kernel
theorem dX13_wanted_1650 : decode cX13_wanted 1650 = .ok (.iconst 1, 1) := by decide +kernel
theorem dX13_wanted_1651 : decode cX13_wanted 1651 = .ok (.invokevirtual 1028, 3) := by decide +kernel
theorem dX13_wanted_1654 : decode cX13_wanted 1654 = .ok (.ifCond .eq 7, 3) := by decide +kernel
theorem dX13_wanted_1657 : decode cX13_wanted 1657 = .ok (.iconst 1, 1) := by decide +kernel
theorem dX13_wanted_1658 : decode cX13_wanted 1658 = .ok (.goto 4, 3) := by decide +kernel
theorem dX13_wanted_1661 : decode cX13_wanted 1661 = .ok (.iconst 0, 1) := by decide +kernel
theorem dX13_wanted_1662 : decode cX13_wanted 1662 = .ok (.ireturn, 1) := by decide +kernel
theorem dX13_calls_0 : decode cX13_calls 0 = .ok (.sipush 6000, 3) := by decide +kernel
theorem dX13_calls_3 : decode cX13_calls 3 = .ok (.aload_n 0, 1) := by decide +kernel
theorem dX13_calls_4 : decode cX13_calls 4 = .ok (.getfield 932, 3) := by decide +kernel
theorem dX13_calls_7 : decode cX13_calls 7 = .ok (.imul, 1) := by decide +kernel
theorem dX13_calls_8 : decode cX13_calls 8 = .ok (.aload_n 0, 1) := by decide +kernel
theorem dX13_calls_9 : decode cX13_calls 9 = .ok (.getfield 215, 3) := by decide +kernel
theorem dX13_calls_12 : decode cX13_calls 12 = .ok (.sipush 256, 3) := by decide +kernel
theorem dX13_calls_15 : decode cX13_calls 15 = .ok (.aload_n 0, 1) := by decide +kernel
theorem dX13_calls_16 : decode cX13_calls 16 = .ok (.getfield 932, 3) := by decide +kernel
theorem dX13_calls_19 : decode cX13_calls 19 = .ok (.imul, 1) := by decide +kernel
theorem dX13_calls_20 : decode cX13_calls 20 = .ok (.aload_n 0, 1) := by decide +kernel
theorem dX13_calls_21 : decode cX13_calls 21 = .ok (.iload_n 1, 1) := by decide +kernel
theorem dX13_calls_22 : decode cX13_calls 22 = .ok (.iconst 2, 1) := by decide +kernel
theorem dX13_calls_23 : decode cX13_calls 23 = .ok (.invokevirtual 1022, 3) := by decide +kernel
theorem dX13_calls_26 : decode cX13_calls 26 = .ok (.iadd, 1) := by decide +kernel
theorem dX13_calls_27 : decode cX13_calls 27 = .ok (.iaload, 1) := by decide +kernel
theorem dX13_calls_28 : decode cX13_calls 28 = .ok (.iadd, 1) := by decide +kernel
theorem dX13_calls_29 : decode cX13_calls 29 = .ok (.iconst 3, 1) := by decide +kernel
theorem dX13_calls_30 : decode cX13_calls 30 = .ok (.iadd, 1) := by decide +kernel
theorem dX13_calls_31 : decode cX13_calls 31 = .ok (.istore_n 3, 1) := by decide +kernel
theorem dX13_calls_32 : decode cX13_calls 32 = .ok (.iconst 0, 1) := by decide +kernel
theorem dX13_calls_33 : decode cX13_calls 33 = .ok (.istore 4, 2) := by decide +kernel
theorem dX13_calls_35 : decode cX13_calls 35 = .ok (.aload_n 0, 1) := by decide +kernel
theorem dX13_calls_36 : decode cX13_calls 36 = .ok (.getfield 209, 3) := by decide +kernel
theorem dX13_calls_39 : decode cX13_calls 39 = .ok (.iload_n 3, 1) := by decide +kernel
theorem dX13_calls_40 : decode cX13_calls 40 = .ok (.iaload, 1) := by decide +kernel
theorem dX13_calls_41 : decode cX13_calls 41 = .ok (.bipush 41, 2) := by decide +kernel
theorem dX13_calls_43 : decode cX13_calls 43 = .ok (.if_icmp .eq 26, 3) := by decide +kernel
theorem dX13_calls_46 : decode cX13_calls 46 = .ok (.aload_n 0, 1) := by decide +kernel
theorem dX13_calls_47 : decode cX13_calls 47 = .ok (.getfield 276, 3) := by decide +kernel
theorem dX13_calls_50 : decode cX13_calls 50 = .ok (.iload 4, 2) := by decide +kernel
theorem dX13_calls_52 : decode cX13_calls 52 = .ok (.aload_n 0, 1) := by decide +kernel
theorem dX13_calls_53 : decode cX13_calls 53 = .ok (.iload_n 3, 1) := by decide +kernel
theorem dX13_calls_54 : decode cX13_calls 54 = .ok (.invokevirtual 885, 3) := by decide +kernel
theorem dX13_calls_57 : decode cX13_calls 57 = .ok (.iastore, 1) := by decide +kernel
theorem dX13_calls_58 : decode cX13_calls 58 = .ok (.iinc 4 1, 3) := by decide +kernel
theorem dX13_calls_61 : decode cX13_calls 61 = .ok (.aload_n 0, 1) := by decide +kernel
theorem dX13_calls_62 : decode cX13_calls 62 = .ok (.getfield 879, 3) := by decide +kernel
theorem dX13_calls_65 : decode cX13_calls 65 = .ok (.istore_n 3, 1) := by decide +kernel
theorem dX13_calls_66 : decode cX13_calls 66 = .ok (.goto (-31), 3) := by decide +kernel
theorem dX13_calls_69 : decode cX13_calls 69 = .ok (.iload 4, 2) := by decide +kernel
theorem dX13_calls_71 : decode cX13_calls 71 = .ok (.iconst 1, 1) := by decide +kernel
theorem dX13_calls_72 : decode cX13_calls 72 = .ok (.isub, 1) := by decide +kernel
theorem dX13_calls_73 : decode cX13_calls 73 = .ok (.istore 5, 2) := by decide +kernel
theorem dX13_calls_75 : decode cX13_calls 75 = .ok (.iload 5, 2) := by decide +kernel
theorem dX13_calls_77 : decode cX13_calls 77 = .ok (.ifCond .lt 25, 3) := by decide +kernel
theorem dX13_calls_80 : decode cX13_calls 80 = .ok (.aload_n 0, 1) := by decide +kernel
theorem dX13_calls_81 : decode cX13_calls 81 = .ok (.aload_n 0, 1) := by decide +kernel
theorem dX13_calls_82 : decode cX13_calls 82 = .ok (.getfield 276, 3) := by decide +kernel
theorem dX13_calls_85 : decode cX13_calls 85 = .ok (.iload 5, 2) := by decide +kernel
theorem dX13_calls_87 : decode cX13_calls 87 = .ok (.iaload, 1) := by decide +kernel
theorem dX13_calls_88 : decode cX13_calls 88 = .ok (.invokevirtual 1037, 3) := by decide +kernel
theorem dX13_calls_91 : decode cX13_calls 91 = .ok (.ifCond .ne 5, 3) := by decide +kernel
theorem dX13_calls_94 : decode cX13_calls 94 = .ok (.iconst 0, 1) := by decide +kernel
theorem dX13_calls_95 : decode cX13_calls 95 = .ok (.ireturn, 1) := by decide +kernel
theorem dX13_calls_96 : decode cX13_calls 96 = .ok (.iinc 5 (-1), 3) := by decide +kernel
theorem dX13_calls_99 : decode cX13_calls 99 = .ok (.goto (-24), 3) := by decide +kernel
theorem dX13_calls_102 : decode cX13_calls 102 = .ok (.iload_n 2, 1) := by decide +kernel
theorem dX13_calls_103 : decode cX13_calls 103 = .ok (.ifCond .ne 26, 3) := by decide +kernel
theorem dX13_calls_106 : decode cX13_calls 106 = .ok (.aload_n 0, 1) := by decide +kernel
theorem dX13_calls_107 : decode cX13_calls 107 = .ok (.aload_n 0, 1) := by decide +kernel
theorem dX13_calls_108 : decode cX13_calls 108 = .ok (.aload_n 0, 1) := by decide +kernel
theorem dX13_calls_109 : decode cX13_calls 109 = .ok (.getfield 932, 3) := by decide +kernel
theorem dX13_calls_112 : decode cX13_calls 112 = .ok (.aload_n 0, 1) := by decide +kernel
theorem dX13_calls_113 : decode cX13_calls 113 = .ok (.iload_n 1, 1) := by decide +kernel
theorem dX13_calls_114 : decode cX13_calls 114 = .ok (.iconst 0, 1) := by decide +kernel
theorem dX13_calls_115 : decode cX13_calls 115 = .ok (.invokevirtual 1022, 3) := by decide +kernel
theorem dX13_calls_118 : decode cX13_calls 118 = .ok (.invokevirtual 952, 3) := by decide +kernel
theorem dX13_calls_121 : decode cX13_calls 121 = .ok (.invokevirtual 1037, 3) := by decide +kernel
theorem dX13_calls_124 : decode cX13_calls 124 = .ok (.ifCond .ne 5, 3) := by decide +kernel
theorem dX13_calls_127 : decode cX13_calls 127 = .ok (.iconst 0, 1) := by decide +kernel
theorem dX13_calls_128 : decode cX13_calls 128 = .ok (.ireturn, 1) := by decide +kernel
theorem dX13_calls_129 : decode cX13_calls 129 = .ok (.aload_n 0, 1) := by decide +kernel
theorem dX13_calls_130 : decode cX13_calls 130 = .ok (.iload_n 3, 1) := by decide +kernel
theorem dX13_calls_131 : decode cX13_calls 131 = .ok (.iconst 1, 1) := by decide +kernel
theorem dX13_calls_132 : decode cX13_calls 132 = .ok (.iadd, 1) := by decide +kernel
theorem dX13_calls_133 : decode cX13_calls 133 = .ok (.invokevirtual 885, 3) := by decide +kernel
theorem dX13_calls_136 : decode cX13_calls 136 = .ok (.istore 5, 2) := by decide +kernel
theorem dX13_calls_138 : decode cX13_calls 138 = .ok (.iload 5, 2) := by decide +kernel
theorem dX13_calls_140 : decode cX13_calls 140 = .ok (.ifCond .eq 12, 3) := by decide +kernel
theorem dX13_calls_143 : decode cX13_calls 143 = .ok (.aload_n 0, 1) := by decide +kernel
theorem dX13_calls_144 : decode cX13_calls 144 = .ok (.iload 5, 2) := by decide +kernel
theorem dX13_calls_146 : decode cX13_calls 146 = .ok (.invokevirtual 1028, 3) := by decide +kernel
theorem dX13_calls_149 : decode cX13_calls 149 = .ok (.ifCond .eq 7, 3) := by decide +kernel
theorem dX13_calls_152 : decode cX13_calls 152 = .ok (.iconst 1, 1) := by decide +kernel
theorem dX13_calls_153 : decode cX13_calls 153 = .ok (.goto 4, 3) := by decide +kernel
theorem dX13_calls_156 : decode cX13_calls 156 = .ok (.iconst 0, 1) := by decide +kernel
theorem dX13_calls_157 : decode cX13_calls 157 = .ok (.ireturn, 1) := by decide +kernel
theorem dX13_start_0 : decode cX13_start 0 = .ok (.iload_n 1, 1) := by decide +kernel
theorem dX13_start_1 : decode cX13_start 1 = .ok (.bipush 8, 2) := by decide +kernel
theorem dX13_start_3 : decode cX13_start 3 = .ok (.isub, 1) := by decide +kernel
theorem dX13_start_4 : decode cX13_start 4 = .ok (.istore_n 3, 1) := by decide +kernel
theorem dX13_start_5 : decode cX13_start 5 = .ok (.aload_n 0, 1) := by decide +kernel
theorem dX13_start_6 : decode cX13_start 6 = .ok (.getfield 855, 3) := by decide +kernel
theorem dX13_start_9 : decode cX13_start 9 = .ok (.ifCond .eq 29, 3) := by decide +kernel
theorem dX13_start_12 : decode cX13_start 12 = .ok (.iload_n 3, 1) := by decide +kernel
theorem dX13_start_13 : decode cX13_start 13 = .ok (.ifCond .lt 25, 3) := by decide +kernel
theorem dX13_start_16 : decode cX13_start 16 = .ok (.iload_n 3, 1) := by decide +kernel
theorem dX13_start_17 : decode cX13_start 17 = .ok (.aload_n 0, 1) := by decide +kernel
theorem dX13_start_18 : decode cX13_start 18 = .ok (.getfield 833, 3) := by decide +kernel
theorem dX13_start_21 : decode cX13_start 21 = .ok (.if_icmp .ge 17, 3) := by decide +kernel
theorem dX13_start_24 : decode cX13_start 24 = .ok (.iload_n 2, 1) := by decide +kernel
theorem dX13_start_25 : decode cX13_start 25 = .ok (.ifCond .lt 13, 3) := by decide +kernel
theorem dX13_start_28 : decode cX13_start 28 = .ok (.iload_n 2, 1) := by decide +kernel
theorem dX13_start_29 : decode cX13_start 29 = .ok (.aload_n 0, 1) := by decide +kernel
theorem dX13_start_30 : decode cX13_start 30 = .ok (.getfield 233, 3) := by decide +kernel
theorem dX13_start_33 : decode cX13_start 33 = .ok (.iload_n 3, 1) := by decide +kernel
theorem dX13_start_34 : decode cX13_start 34 = .ok (.iaload, 1) := by decide +kernel
theorem dX13_start_35 : decode cX13_start 35 = .ok (.if_icmp .lt 5, 3) := by decide +kernel
theorem dX13_start_38 : decode cX13_start 38 = .ok (.iconst 0, 1) := by decide +kernel
theorem dX13_start_39 : decode cX13_start 39 = .ok (.ireturn, 1) := by decide +kernel
theorem dX13_start_40 : decode cX13_start 40 = .ok (.sipush 6000, 3) := by decide +kernel
theorem dX13_start_43 : decode cX13_start 43 = .ok (.iload_n 3, 1) := by decide +kernel
theorem dX13_start_44 : decode cX13_start 44 = .ok (.imul, 1) := by decide +kernel
theorem dX13_start_45 : decode cX13_start 45 = .ok (.aload_n 0, 1) := by decide +kernel
theorem dX13_start_46 : decode cX13_start 46 = .ok (.getfield 215, 3) := by decide +kernel
theorem dX13_start_49 : decode cX13_start 49 = .ok (.sipush 256, 3) := by decide +kernel
theorem dX13_start_52 : decode cX13_start 52 = .ok (.iload_n 3, 1) := by decide +kernel
theorem dX13_start_53 : decode cX13_start 53 = .ok (.imul, 1) := by decide +kernel
theorem dX13_start_54 : decode cX13_start 54 = .ok (.aload_n 0, 1) := by decide +kernel
theorem dX13_start_55 : decode cX13_start 55 = .ok (.iload_n 3, 1) := by decide +kernel
theorem dX13_start_56 : decode cX13_start 56 = .ok (.iload_n 2, 1) := by decide +kernel
theorem dX13_start_57 : decode cX13_start 57 = .ok (.iconst 1, 1) := by decide +kernel
theorem dX13_start_58 : decode cX13_start 58 = .ok (.invokevirtual 910, 3) := by decide +kernel
theorem dX13_start_61 : decode cX13_start 61 = .ok (.iadd, 1) := by decide +kernel
theorem dX13_start_62 : decode cX13_start 62 = .ok (.iaload, 1) := by decide +kernel
theorem dX13_start_63 : decode cX13_start 63 = .ok (.iadd, 1) := by decide +kernel
theorem dX13_start_64 : decode cX13_start 64 = .ok (.iconst 2, 1) := by decide +kernel
theorem dX13_start_65 : decode cX13_start 65 = .ok (.iadd, 1) := by decide +kernel
theorem dX13_start_66 : decode cX13_start 66 = .ok (.istore 4, 2) := by decide +kernel
theorem dX13_start_68 : decode cX13_start 68 = .ok (.aload_n 0, 1) := by decide +kernel
theorem dX13_start_69 : decode cX13_start 69 = .ok (.iload_n 3, 1) := by decide +kernel
theorem dX13_start_70 : decode cX13_start 70 = .ok (.aload_n 0, 1) := by decide +kernel
theorem dX13_start_71 : decode cX13_start 71 = .ok (.getfield 236, 3) := by decide +kernel
theorem dX13_start_74 : decode cX13_start 74 = .ok (.bipush 12, 2) := by decide +kernel
theorem dX13_start_76 : decode cX13_start 76 = .ok (.iload_n 3, 1) := by decide +kernel
theorem dX13_start_77 : decode cX13_start 77 = .ok (.imul, 1) := by decide +kernel
theorem dX13_start_78 : decode cX13_start 78 = .ok (.iload_n 2, 1) := by decide +kernel
theorem dX13_start_79 : decode cX13_start 79 = .ok (.iadd, 1) := by decide +kernel
theorem dX13_start_80 : decode cX13_start 80 = .ok (.iaload, 1) := by decide +kernel
theorem dX13_start_81 : decode cX13_start 81 = .ok (.invokevirtual 864, 3) := by decide +kernel
theorem dX13_start_84 : decode cX13_start 84 = .ok (.ifCond .eq 17, 3) := by decide +kernel
theorem dX13_start_87 : decode cX13_start 87 = .ok (.aload_n 0, 1) := by decide +kernel
theorem dX13_start_88 : decode cX13_start 88 = .ok (.getfield 209, 3) := by decide +kernel
theorem dX13_start_91 : decode cX13_start 91 = .ok (.iload 4, 2) := by decide +kernel
theorem dX13_start_93 : decode cX13_start 93 = .ok (.iconst 1, 1) := by decide +kernel
theorem dX13_start_94 : decode cX13_start 94 = .ok (.iadd, 1) := by decide +kernel
theorem dX13_start_95 : decode cX13_start 95 = .ok (.iaload, 1) := by decide +kernel
theorem dX13_start_96 : decode cX13_start 96 = .ok (.bipush 41, 2) := by decide +kernel
theorem dX13_start_98 : decode cX13_start 98 = .ok (.if_icmp .eq 5, 3) := by decide +kernel
theorem dX13_start_101 : decode cX13_start 101 = .ok (.iconst 0, 1) := by decide +kernel
theorem dX13_start_102 : decode cX13_start 102 = .ok (.ireturn, 1) := by decide +kernel
theorem dX13_start_103 : decode cX13_start 103 = .ok (.aload_n 0, 1) := by decide +kernel
theorem dX13_start_104 : decode cX13_start 104 = .ok (.iconst 1, 1) := by decide +kernel
theorem dX13_start_105 : decode cX13_start 105 = .ok (.putfield 858, 3) := by decide +kernel
theorem dX13_start_108 : decode cX13_start 108 = .ok (.aload_n 0, 1) := by decide +kernel
theorem dX13_start_109 : decode cX13_start 109 = .ok (.iconst (-1), 1) := by decide +kernel
theorem dX13_start_110 : decode cX13_start 110 = .ok (.putfield 1043, 3) := by decide +kernel
theorem dX13_start_113 : decode cX13_start 113 = .ok (.aload_n 0, 1) := by decide +kernel
theorem dX13_start_114 : decode cX13_start 114 = .ok (.iconst 0, 1) := by decide +kernel
theorem dX13_start_115 : decode cX13_start 115 = .ok (.putfield 1046, 3) := by decide +kernel
theorem dX13_start_118 : decode cX13_start 118 = .ok (.aload_n 0, 1) := by decide +kernel
theorem dX13_start_119 : decode cX13_start 119 = .ok (.iconst 0, 1) := by decide +kernel
theorem dX13_start_120 : decode cX13_start 120 = .ok (.putfield 1049, 3) := by decide +kernel
theorem dX13_start_123 : decode cX13_start 123 = .ok (.aload_n 0, 1) := by decide +kernel
theorem dX13_start_124 : decode cX13_start 124 = .ok (.iconst 0, 1) := by decide +kernel
theorem dX13_start_125 : decode cX13_start 125 = .ok (.putfield 1052, 3) := by decide +kernel
theorem dX13_start_128 : decode cX13_start 128 = .ok (.aload_n 0, 1) := by decide +kernel
theorem dX13_start_129 : decode cX13_start 129 = .ok (.iconst 0, 1) := by decide +kernel
theorem dX13_start_130 : decode cX13_start 130 = .ok (.putfield 1055, 3) := by decide +kernel
theorem dX13_start_133 : decode cX13_start 133 = .ok (.aload_n 0, 1) := by decide +kernel
theorem dX13_start_134 : decode cX13_start 134 = .ok (.iconst 0, 1) := by decide +kernel
theorem dX13_start_135 : decode cX13_start 135 = .ok (.putfield 1058, 3) := by decide +kernel
theorem dX13_start_138 : decode cX13_start 138 = .ok (.aload_n 0, 1) := by decide +kernel
theorem dX13_start_139 : decode cX13_start 139 = .ok (.iload_n 1, 1) := by decide +kernel
theorem dX13_start_140 : decode cX13_start 140 = .ok (.iload_n 2, 1) := by decide +kernel
theorem dX13_start_141 : decode cX13_start 141 = .ok (.invokevirtual 1061, 3) := by decide +kernel
theorem dX13_start_144 : decode cX13_start 144 = .ok (.iconst 1, 1) := by decide +kernel
theorem dX13_start_145 : decode cX13_start 145 = .ok (.ireturn, 1) := by decide +kernel
theorem dX13_fieldsOf_0 : decode cX13_fieldsOf 0 = .ok (.iconst 0, 1) := by decide +kernel
theorem dX13_fieldsOf_1 : decode cX13_fieldsOf 1 = .ok (.istore_n 2, 1) := by decide +kernel
theorem dX13_fieldsOf_2 : decode cX13_fieldsOf 2 = .ok (.iload_n 1, 1) := by decide +kernel
theorem dX13_fieldsOf_3 : decode cX13_fieldsOf 3 = .ok (.istore_n 3, 1) := by decide +kernel
theorem dX13_fieldsOf_4 : decode cX13_fieldsOf 4 = .ok (.iload_n 3, 1) := by decide +kernel
theorem dX13_fieldsOf_5 : decode cX13_fieldsOf 5 = .ok (.iconst (-1), 1) := by decide +kernel
theorem dX13_fieldsOf_6 : decode cX13_fieldsOf 6 = .ok (.if_icmp .eq 34, 3) := by decide +kernel
theorem dX13_fieldsOf_9 : decode cX13_fieldsOf 9 = .ok (.iload_n 2, 1) := by decide +kernel
theorem dX13_fieldsOf_10 : decode cX13_fieldsOf 10 = .ok (.iload_n 3, 1) := by decide +kernel
theorem dX13_fieldsOf_11 : decode cX13_fieldsOf 11 = .ok (.bipush 8, 2) := by decide +kernel
theorem dX13_fieldsOf_13 : decode cX13_fieldsOf 13 = .ok (.if_icmp .ge 7, 3) := by decide +kernel
theorem dX13_fieldsOf_16 : decode cX13_fieldsOf 16 = .ok (.iconst 0, 1) := by decide +kernel
theorem dX13_fieldsOf_17 : decode cX13_fieldsOf 17 = .ok (.goto 12, 3) := by decide +kernel
theorem dX13_fieldsOf_20 : decode cX13_fieldsOf 20 = .ok (.aload_n 0, 1) := by decide +kernel
theorem dX13_fieldsOf_21 : decode cX13_fieldsOf 21 = .ok (.getfield 227, 3) := by decide +kernel
theorem dX13_fieldsOf_24 : decode cX13_fieldsOf 24 = .ok (.iload_n 3, 1) := by decide +kernel
theorem dX13_fieldsOf_25 : decode cX13_fieldsOf 25 = .ok (.bipush 8, 2) := by decide +kernel
theorem dX13_fieldsOf_27 : decode cX13_fieldsOf 27 = .ok (.isub, 1) := by decide +kernel
theorem dX13_fieldsOf_28 : decode cX13_fieldsOf 28 = .ok (.iaload, 1) := by decide +kernel
theorem dX13_fieldsOf_29 : decode cX13_fieldsOf 29 = .ok (.iadd, 1) := by decide +kernel
theorem dX13_fieldsOf_30 : decode cX13_fieldsOf 30 = .ok (.istore_n 2, 1) := by decide +kernel
theorem dX13_fieldsOf_31 : decode cX13_fieldsOf 31 = .ok (.aload_n 0, 1) := by decide +kernel
theorem dX13_fieldsOf_32 : decode cX13_fieldsOf 32 = .ok (.iload_n 3, 1) := by decide +kernel
theorem dX13_fieldsOf_33 : decode cX13_fieldsOf 33 = .ok (.invokevirtual 873, 3) := by decide +kernel
theorem dX13_fieldsOf_36 : decode cX13_fieldsOf 36 = .ok (.istore_n 3, 1) := by decide +kernel
theorem dX13_fieldsOf_37 : decode cX13_fieldsOf 37 = .ok (.goto (-33), 3) := by decide +kernel
theorem dX13_fieldsOf_40 : decode cX13_fieldsOf 40 = .ok (.iload_n 2, 1) := by decide +kernel
theorem dX13_fieldsOf_41 : decode cX13_fieldsOf 41 = .ok (.ireturn, 1) := by decide +kernel
theorem dX13_make__0 : decode cX13_make_ 0 = .ok (.aload_n 0, 1) := by decide +kernel
theorem dX13_make__1 : decode cX13_make_ 1 = .ok (.getfield 1049, 3) := by decide +kernel
theorem dX13_make__4 : decode cX13_make_ 4 = .ok (.sipush 2000, 3) := by decide +kernel
theorem dX13_make__7 : decode cX13_make_ 7 = .ok (.if_icmp .eq 15, 3) := by decide +kernel
theorem dX13_make__10 : decode cX13_make_ 10 = .ok (.iload_n 2, 1) := by decide +kernel
theorem dX13_make__11 : decode cX13_make_ 11 = .ok (.sipush 20000, 3) := by decide +kernel
theorem dX13_make__14 : decode cX13_make_ 14 = .ok (.aload_n 0, 1) := by decide +kernel
theorem dX13_make__15 : decode cX13_make_ 15 = .ok (.getfield 1052, 3) := by decide +kernel
theorem dX13_make__18 : decode cX13_make_ 18 = .ok (.isub, 1) := by decide +kernel
theorem dX13_make__19 : decode cX13_make_ 19 = .ok (.if_icmp .le 10, 3) := by decide +kernel
theorem dX13_make__22 : decode cX13_make_ 22 = .ok (.aload_n 0, 1) := by decide +kernel
theorem dX13_make__23 : decode cX13_make_ 23 = .ok (.iconst 4, 1) := by decide +kernel
theorem dX13_make__24 : decode cX13_make_ 24 = .ok (.putfield 858, 3) := by decide +kernel
theorem dX13_make__27 : decode cX13_make_ 27 = .ok (.iconst 0, 1) := by decide +kernel
theorem dX13_make__28 : decode cX13_make_ 28 = .ok (.ireturn, 1) := by decide +kernel
theorem dX13_make__29 : decode cX13_make_ 29 = .ok (.aload_n 0, 1) := by decide +kernel
theorem dX13_make__30 : decode cX13_make_ 30 = .ok (.dup, 1) := by decide +kernel
theorem dX13_make__31 : decode cX13_make_ 31 = .ok (.getfield 1049, 3) := by decide +kernel
theorem dX13_make__34 : decode cX13_make_ 34 = .ok (.iconst 1, 1) := by decide +kernel
theorem dX13_make__35 : decode cX13_make_ 35 = .ok (.iadd, 1) := by decide +kernel
theorem dX13_make__36 : decode cX13_make_ 36 = .ok (.putfield 1049, 3) := by decide +kernel
theorem dX13_make__39 : decode cX13_make_ 39 = .ok (.aload_n 0, 1) := by decide +kernel
theorem dX13_make__40 : decode cX13_make_ 40 = .ok (.getfield 279, 3) := by decide +kernel
theorem dX13_make__43 : decode cX13_make_ 43 = .ok (.aload_n 0, 1) := by decide +kernel
theorem dX13_make__44 : decode cX13_make_ 44 = .ok (.getfield 1049, 3) := by decide +kernel
theorem dX13_make__47 : decode cX13_make_ 47 = .ok (.iload_n 1, 1) := by decide +kernel
theorem dX13_make__48 : decode cX13_make_ 48 = .ok (.iastore, 1) := by decide +kernel
theorem dX13_make__49 : decode cX13_make_ 49 = .ok (.aload_n 0, 1) := by decide +kernel
theorem dX13_make__50 : decode cX13_make_ 50 = .ok (.getfield 282, 3) := by decide +kernel
theorem dX13_make__53 : decode cX13_make_ 53 = .ok (.aload_n 0, 1) := by decide +kernel
theorem dX13_make__54 : decode cX13_make_ 54 = .ok (.getfield 1049, 3) := by decide +kernel
theorem dX13_make__57 : decode cX13_make_ 57 = .ok (.aload_n 0, 1) := by decide +kernel
theorem dX13_make__58 : decode cX13_make_ 58 = .ok (.getfield 1052, 3) := by decide +kernel
theorem dX13_make__61 : decode cX13_make_ 61 = .ok (.iastore, 1) := by decide +kernel
theorem dX13_make__62 : decode cX13_make_ 62 = .ok (.aload_n 0, 1) := by decide +kernel
theorem dX13_make__63 : decode cX13_make_ 63 = .ok (.getfield 285, 3) := by decide +kernel
theorem dX13_make__66 : decode cX13_make_ 66 = .ok (.aload_n 0, 1) := by decide +kernel
theorem dX13_make__67 : decode cX13_make_ 67 = .ok (.getfield 1049, 3) := by decide +kernel
theorem dX13_make__70 : decode cX13_make_ 70 = .ok (.iload_n 2, 1) := by decide +kernel
theorem dX13_make__71 : decode cX13_make_ 71 = .ok (.iastore, 1) := by decide +kernel
theorem dX13_make__72 : decode cX13_make_ 72 = .ok (.iconst 0, 1) := by decide +kernel
theorem dX13_make__73 : decode cX13_make_ 73 = .ok (.istore_n 3, 1) := by decide +kernel
theorem dX13_make__74 : decode cX13_make_ 74 = .ok (.iload_n 3, 1) := by decide +kernel
theorem dX13_make__75 : decode cX13_make_ 75 = .ok (.iload_n 2, 1) := by decide +kernel
theorem dX13_make__76 : decode cX13_make_ 76 = .ok (.if_icmp .ge 21, 3) := by decide +kernel
theorem dX13_make__79 : decode cX13_make_ 79 = .ok (.aload_n 0, 1) := by decide +kernel
theorem dX13_make__80 : decode cX13_make_ 80 = .ok (.getfield 288, 3) := by decide +kernel
theorem dX13_make__83 : decode cX13_make_ 83 = .ok (.aload_n 0, 1) := by decide +kernel
theorem dX13_make__84 : decode cX13_make_ 84 = .ok (.getfield 1052, 3) := by decide +kernel
theorem dX13_make__87 : decode cX13_make_ 87 = .ok (.iload_n 3, 1) := by decide +kernel
theorem dX13_make__88 : decode cX13_make_ 88 = .ok (.iadd, 1) := by decide +kernel
theorem dX13_make__89 : decode cX13_make_ 89 = .ok (.iconst 0, 1) := by decide +kernel
theorem dX13_make__90 : decode cX13_make_ 90 = .ok (.iastore, 1) := by decide +kernel
theorem dX13_make__91 : decode cX13_make_ 91 = .ok (.iinc 3 1, 3) := by decide +kernel
theorem dX13_make__94 : decode cX13_make_ 94 = .ok (.goto (-20), 3) := by decide +kernel
theorem dX13_make__97 : decode cX13_make_ 97 = .ok (.aload_n 0, 1) := by decide +kernel
theorem dX13_make__98 : decode cX13_make_ 98 = .ok (.dup, 1) := by decide +kernel
theorem dX13_make__99 : decode cX13_make_ 99 = .ok (.getfield 1052, 3) := by decide +kernel
theorem dX13_make__102 : decode cX13_make_ 102 = .ok (.iload_n 2, 1) := by decide +kernel
theorem dX13_make__103 : decode cX13_make_ 103 = .ok (.iadd, 1) := by decide +kernel
theorem dX13_make__104 : decode cX13_make_ 104 = .ok (.putfield 1052, 3) := by decide +kernel
theorem dX13_make__107 : decode cX13_make_ 107 = .ok (.aload_n 0, 1) := by decide +kernel
theorem dX13_make__108 : decode cX13_make_ 108 = .ok (.getfield 1049, 3) := by decide +kernel
theorem dX13_make__111 : decode cX13_make_ 111 = .ok (.ireturn, 1) := by decide +kernel
theorem dX13_isOne_0 : decode cX13_isOne 0 = .ok (.aload_n 0, 1) := by decide +kernel
theorem dX13_isOne_1 : decode cX13_isOne 1 = .ok (.getfield 279, 3) := by decide +kernel
theorem dX13_isOne_4 : decode cX13_isOne 4 = .ok (.iload_n 1, 1) := by decide +kernel
theorem dX13_isOne_5 : decode cX13_isOne 5 = .ok (.iaload, 1) := by decide +kernel
theorem dX13_isOne_6 : decode cX13_isOne 6 = .ok (.bipush 99, 2) := by decide +kernel
theorem dX13_isOne_8 : decode cX13_isOne 8 = .ok (.if_icmp .lt 15, 3) := by decide +kernel
theorem dX13_isOne_11 : decode cX13_isOne 11 = .ok (.iload_n 2, 1) := by decide +kernel
theorem dX13_isOne_12 : decode cX13_isOne 12 = .ok (.ifCond .ne 7, 3) := by decide +kernel
theorem dX13_isOne_15 : decode cX13_isOne 15 = .ok (.iconst 1, 1) := by decide +kernel
theorem dX13_isOne_16 : decode cX13_isOne 16 = .ok (.goto 18, 3) := by decide +kernel
theorem dX13_isOne_19 : decode cX13_isOne 19 = .ok (.iconst 0, 1) := by decide +kernel
theorem dX13_isOne_20 : decode cX13_isOne 20 = .ok (.goto 14, 3) := by decide +kernel
theorem dX13_isOne_23 : decode cX13_isOne 23 = .ok (.aload_n 0, 1) := by decide +kernel
theorem dX13_isOne_24 : decode cX13_isOne 24 = .ok (.aload_n 0, 1) := by decide +kernel
theorem dX13_isOne_25 : decode cX13_isOne 25 = .ok (.getfield 279, 3) := by decide +kernel
theorem dX13_isOne_28 : decode cX13_isOne 28 = .ok (.iload_n 1, 1) := by decide +kernel
theorem dX13_isOne_29 : decode cX13_isOne 29 = .ok (.iaload, 1) := by decide +kernel
theorem dX13_isOne_30 : decode cX13_isOne 30 = .ok (.iload_n 2, 1) := by decide +kernel
theorem dX13_isOne_31 : decode cX13_isOne 31 = .ok (.invokevirtual 891, 3) := by decide +kernel
theorem dX13_isOne_34 : decode cX13_isOne 34 = .ok (.ireturn, 1) := by decide +kernel
theorem dX13_fails_0 : decode cX13_fails 0 = .ok (.aload_n 0, 1) := by decide +kernel
theorem dX13_fails_1 : decode cX13_fails 1 = .ok (.iload_n 1, 1) := by decide +kernel
theorem dX13_fails_2 : decode cX13_fails 2 = .ok (.iconst 0, 1) := by decide +kernel
theorem dX13_fails_3 : decode cX13_fails 3 = .ok (.invokevirtual 1064, 3) := by decide +kernel
theorem dX13_fails_6 : decode cX13_fails 6 = .ok (.istore_n 2, 1) := by decide +kernel
theorem dX13_fails_7 : decode cX13_fails 7 = .ok (.iload_n 2, 1) := by decide +kernel
theorem dX13_fails_8 : decode cX13_fails 8 = .ok (.ifCond .le 8, 3) := by decide +kernel
theorem dX13_fails_11 : decode cX13_fails 11 = .ok (.aload_n 0, 1) := by decide +kernel
theorem dX13_fails_12 : decode cX13_fails 12 = .ok (.iload_n 2, 1) := by decide +kernel
theorem dX13_fails_13 : decode cX13_fails 13 = .ok (.invokevirtual 1066, 3) := by decide +kernel
theorem dX13_fails_16 : decode cX13_fails 16 = .ok (.return_, 1) := by decide +kernel
theorem dX13_thrown_0 : decode cX13_thrown 0 = .ok (.aload_n 0, 1) := by decide +kernel
theorem dX13_thrown_1 : decode cX13_thrown 1 = .ok (.getfield 1058, 3) := by decide +kernel
theorem dX13_thrown_4 : decode cX13_thrown 4 = .ok (.ifCond .le 224, 3) := by decide +kernel
theorem dX13_thrown_7 : decode cX13_thrown 7 = .ok (.aload_n 0, 1) := by decide +kernel
theorem dX13_thrown_8 : decode cX13_thrown 8 = .ok (.getfield 1058, 3) := by decide +kernel
theorem dX13_thrown_11 : decode cX13_thrown 11 = .ok (.iconst 1, 1) := by decide +kernel
theorem dX13_thrown_12 : decode cX13_thrown 12 = .ok (.isub, 1) := by decide +kernel
theorem dX13_thrown_13 : decode cX13_thrown 13 = .ok (.istore_n 2, 1) := by decide +kernel
theorem dX13_thrown_14 : decode cX13_thrown 14 = .ok (.aload_n 0, 1) := by decide +kernel
theorem dX13_thrown_15 : decode cX13_thrown 15 = .ok (.getfield 294, 3) := by decide +kernel
theorem dX13_thrown_18 : decode cX13_thrown 18 = .ok (.iload_n 2, 1) := by decide +kernel
theorem dX13_thrown_19 : decode cX13_thrown 19 = .ok (.iaload, 1) := by decide +kernel
theorem dX13_thrown_20 : decode cX13_thrown 20 = .ok (.bipush 8, 2) := by decide +kernel
theorem dX13_thrown_22 : decode cX13_thrown 22 = .ok (.isub, 1) := by decide +kernel
theorem dX13_thrown_23 : decode cX13_thrown 23 = .ok (.istore_n 3, 1) := by decide +kernel
theorem dX13_thrown_24 : decode cX13_thrown 24 = .ok (.aload_n 0, 1) := by decide +kernel
theorem dX13_thrown_25 : decode cX13_thrown 25 = .ok (.getfield 239, 3) := by decide +kernel
theorem dX13_thrown_28 : decode cX13_thrown 28 = .ok (.bipush 12, 2) := by decide +kernel
theorem dX13_thrown_30 : decode cX13_thrown 30 = .ok (.iload_n 3, 1) := by decide +kernel
theorem dX13_thrown_31 : decode cX13_thrown 31 = .ok (.imul, 1) := by decide +kernel
theorem dX13_thrown_32 : decode cX13_thrown 32 = .ok (.aload_n 0, 1) := by decide +kernel
theorem dX13_thrown_33 : decode cX13_thrown 33 = .ok (.getfield 297, 3) := by decide +kernel
theorem dX13_thrown_36 : decode cX13_thrown 36 = .ok (.iload_n 2, 1) := by decide +kernel
theorem dX13_thrown_37 : decode cX13_thrown 37 = .ok (.iaload, 1) := by decide +kernel
theorem dX13_thrown_38 : decode cX13_thrown 38 = .ok (.iadd, 1) := by decide +kernel
theorem dX13_thrown_39 : decode cX13_thrown 39 = .ok (.iaload, 1) := by decide +kernel
theorem dX13_thrown_40 : decode cX13_thrown 40 = .ok (.istore 4, 2) := by decide +kernel
theorem dX13_thrown_42 : decode cX13_thrown 42 = .ok (.iconst 0, 1) := by decide +kernel
theorem dX13_thrown_43 : decode cX13_thrown 43 = .ok (.istore 5, 2) := by decide +kernel
theorem dX13_thrown_45 : decode cX13_thrown 45 = .ok (.iload 5, 2) := by decide +kernel
theorem dX13_thrown_47 : decode cX13_thrown 47 = .ok (.aload_n 0, 1) := by decide +kernel
theorem dX13_thrown_48 : decode cX13_thrown 48 = .ok (.iload_n 3, 1) := by decide +kernel
theorem dX13_thrown_49 : decode cX13_thrown 49 = .ok (.iload 4, 2) := by decide +kernel
theorem dX13_thrown_51 : decode cX13_thrown 51 = .ok (.invokevirtual 864, 3) := by decide +kernel
theorem dX13_thrown_54 : decode cX13_thrown 54 = .ok (.if_icmp .ge 161, 3) := by decide +kernel
theorem dX13_thrown_57 : decode cX13_thrown 57 = .ok (.iload 4, 2) := by decide +kernel
theorem dX13_thrown_59 : decode cX13_thrown 59 = .ok (.iconst 1, 1) := by decide +kernel
theorem dX13_thrown_60 : decode cX13_thrown 60 = .ok (.iadd, 1) := by decide +kernel
theorem dX13_thrown_61 : decode cX13_thrown 61 = .ok (.bipush 7, 2) := by decide +kernel
theorem dX13_thrown_63 : decode cX13_thrown 63 = .ok (.iload 5, 2) := by decide +kernel
theorem dX13_thrown_65 : decode cX13_thrown 65 = .ok (.imul, 1) := by decide +kernel
theorem dX13_thrown_66 : decode cX13_thrown 66 = .ok (.iadd, 1) := by decide +kernel
theorem dX13_thrown_67 : decode cX13_thrown 67 = .ok (.istore 6, 2) := by decide +kernel
theorem dX13_thrown_69 : decode cX13_thrown 69 = .ok (.aload_n 0, 1) := by decide +kernel
theorem dX13_thrown_70 : decode cX13_thrown 70 = .ok (.iload_n 3, 1) := by decide +kernel
theorem dX13_thrown_71 : decode cX13_thrown 71 = .ok (.iload 6, 2) := by decide +kernel
theorem dX13_thrown_73 : decode cX13_thrown 73 = .ok (.invokevirtual 864, 3) := by decide +kernel
theorem dX13_thrown_76 : decode cX13_thrown 76 = .ok (.bipush 8, 2) := by decide +kernel
theorem dX13_thrown_78 : decode cX13_thrown 78 = .ok (.ishl, 1) := by decide +kernel
theorem dX13_thrown_79 : decode cX13_thrown 79 = .ok (.aload_n 0, 1) := by decide +kernel
theorem dX13_thrown_80 : decode cX13_thrown 80 = .ok (.iload_n 3, 1) := by decide +kernel
theorem dX13_thrown_81 : decode cX13_thrown 81 = .ok (.iload 6, 2) := by decide +kernel
theorem dX13_thrown_83 : decode cX13_thrown 83 = .ok (.iconst 1, 1) := by decide +kernel
theorem dX13_thrown_84 : decode cX13_thrown 84 = .ok (.iadd, 1) := by decide +kernel
theorem dX13_thrown_85 : decode cX13_thrown 85 = .ok (.invokevirtual 864, 3) := by decide +kernel
theorem dX13_thrown_88 : decode cX13_thrown 88 = .ok (.ior, 1) := by decide +kernel
theorem dX13_thrown_89 : decode cX13_thrown 89 = .ok (.istore 7, 2) := by decide +kernel
theorem dX13_thrown_91 : decode cX13_thrown 91 = .ok (.aload_n 0, 1) := by decide +kernel
theorem dX13_thrown_92 : decode cX13_thrown 92 = .ok (.iload_n 3, 1) := by decide +kernel
theorem dX13_thrown_93 : decode cX13_thrown 93 = .ok (.iload 6, 2) := by decide +kernel
theorem dX13_thrown_95 : decode cX13_thrown 95 = .ok (.iconst 2, 1) := by decide +kernel
theorem dX13_thrown_96 : decode cX13_thrown 96 = .ok (.iadd, 1) := by decide +kernel
theorem dX13_thrown_97 : decode cX13_thrown 97 = .ok (.invokevirtual 864, 3) := by decide +kernel
theorem dX13_thrown_100 : decode cX13_thrown 100 = .ok (.bipush 8, 2) := by decide +kernel
theorem dX13_thrown_102 : decode cX13_thrown 102 = .ok (.ishl, 1) := by decide +kernel
theorem dX13_thrown_103 : decode cX13_thrown 103 = .ok (.aload_n 0, 1) := by decide +kernel
theorem dX13_thrown_104 : decode cX13_thrown 104 = .ok (.iload_n 3, 1) := by decide +kernel
theorem dX13_thrown_105 : decode cX13_thrown 105 = .ok (.iload 6, 2) := by decide +kernel
theorem dX13_thrown_107 : decode cX13_thrown 107 = .ok (.iconst 3, 1) := by decide +kernel
theorem dX13_thrown_108 : decode cX13_thrown 108 = .ok (.iadd, 1) := by decide +kernel
theorem dX13_thrown_109 : decode cX13_thrown 109 = .ok (.invokevirtual 864, 3) := by decide +kernel
theorem dX13_thrown_112 : decode cX13_thrown 112 = .ok (.ior, 1) := by decide +kernel
theorem dX13_thrown_113 : decode cX13_thrown 113 = .ok (.istore 8, 2) := by decide +kernel
theorem dX13_thrown_115 : decode cX13_thrown 115 = .ok (.aload_n 0, 1) := by decide +kernel
theorem dX13_thrown_116 : decode cX13_thrown 116 = .ok (.getfield 300, 3) := by decide +kernel
theorem dX13_thrown_119 : decode cX13_thrown 119 = .ok (.iload_n 2, 1) := by decide +kernel
theorem dX13_thrown_120 : decode cX13_thrown 120 = .ok (.iaload, 1) := by decide +kernel
theorem dX13_thrown_121 : decode cX13_thrown 121 = .ok (.iload 7, 2) := by decide +kernel
theorem dX13_thrown_123 : decode cX13_thrown 123 = .ok (.if_icmp .lt 86, 3) := by decide +kernel
theorem dX13_thrown_126 : decode cX13_thrown 126 = .ok (.aload_n 0, 1) := by decide +kernel
theorem dX13_thrown_127 : decode cX13_thrown 127 = .ok (.getfield 300, 3) := by decide +kernel
theorem dX13_thrown_130 : decode cX13_thrown 130 = .ok (.iload_n 2, 1) := by decide +kernel
theorem dX13_thrown_131 : decode cX13_thrown 131 = .ok (.iaload, 1) := by decide +kernel
theorem dX13_thrown_132 : decode cX13_thrown 132 = .ok (.iload 8, 2) := by decide +kernel
theorem dX13_thrown_134 : decode cX13_thrown 134 = .ok (.if_icmp .ge 75, 3) := by decide +kernel
theorem dX13_thrown_137 : decode cX13_thrown 137 = .ok (.aload_n 0, 1) := by decide +kernel
theorem dX13_thrown_138 : decode cX13_thrown 138 = .ok (.iload_n 1, 1) := by decide +kernel
theorem dX13_thrown_139 : decode cX13_thrown 139 = .ok (.aload_n 0, 1) := by decide +kernel
theorem dX13_thrown_140 : decode cX13_thrown 140 = .ok (.iload_n 3, 1) := by decide +kernel
theorem dX13_thrown_141 : decode cX13_thrown 141 = .ok (.aload_n 0, 1) := by decide +kernel
theorem dX13_thrown_142 : decode cX13_thrown 142 = .ok (.iload_n 3, 1) := by decide +kernel
theorem dX13_thrown_143 : decode cX13_thrown 143 = .ok (.aload_n 0, 1) := by decide +kernel
theorem dX13_thrown_144 : decode cX13_thrown 144 = .ok (.iload_n 3, 1) := by decide +kernel
theorem dX13_thrown_145 : decode cX13_thrown 145 = .ok (.iload 6, 2) := by decide +kernel
theorem dX13_thrown_147 : decode cX13_thrown 147 = .ok (.bipush 6, 2) := by decide +kernel
theorem dX13_thrown_149 : decode cX13_thrown 149 = .ok (.iadd, 1) := by decide +kernel
theorem dX13_thrown_150 : decode cX13_thrown 150 = .ok (.invokevirtual 864, 3) := by decide +kernel
theorem dX13_thrown_153 : decode cX13_thrown 153 = .ok (.invokevirtual 867, 3) := by decide +kernel
theorem dX13_thrown_156 : decode cX13_thrown 156 = .ok (.invokevirtual 870, 3) := by decide +kernel
theorem dX13_thrown_159 : decode cX13_thrown 159 = .ok (.invokevirtual 1069, 3) := by decide +kernel
theorem dX13_thrown_162 : decode cX13_thrown 162 = .ok (.ifCond .ne 6, 3) := by decide +kernel
theorem dX13_thrown_165 : decode cX13_thrown 165 = .ok (.goto 44, 3) := by decide +kernel
theorem dX13_thrown_168 : decode cX13_thrown 168 = .ok (.aload_n 0, 1) := by decide +kernel
theorem dX13_thrown_169 : decode cX13_thrown 169 = .ok (.getfield 300, 3) := by decide +kernel
theorem dX13_thrown_172 : decode cX13_thrown 172 = .ok (.iload_n 2, 1) := by decide +kernel
theorem dX13_thrown_173 : decode cX13_thrown 173 = .ok (.aload_n 0, 1) := by decide +kernel
theorem dX13_thrown_174 : decode cX13_thrown 174 = .ok (.iload_n 3, 1) := by decide +kernel
theorem dX13_thrown_175 : decode cX13_thrown 175 = .ok (.iload 6, 2) := by decide +kernel
theorem dX13_thrown_177 : decode cX13_thrown 177 = .ok (.iconst 4, 1) := by decide +kernel
theorem dX13_thrown_178 : decode cX13_thrown 178 = .ok (.iadd, 1) := by decide +kernel
theorem dX13_thrown_179 : decode cX13_thrown 179 = .ok (.invokevirtual 864, 3) := by decide +kernel
theorem dX13_thrown_182 : decode cX13_thrown 182 = .ok (.bipush 8, 2) := by decide +kernel
theorem dX13_thrown_184 : decode cX13_thrown 184 = .ok (.ishl, 1) := by decide +kernel
theorem dX13_thrown_185 : decode cX13_thrown 185 = .ok (.aload_n 0, 1) := by decide +kernel
theorem dX13_thrown_186 : decode cX13_thrown 186 = .ok (.iload_n 3, 1) := by decide +kernel
theorem dX13_thrown_187 : decode cX13_thrown 187 = .ok (.iload 6, 2) := by decide +kernel
theorem dX13_thrown_189 : decode cX13_thrown 189 = .ok (.iconst 5, 1) := by decide +kernel
theorem dX13_thrown_190 : decode cX13_thrown 190 = .ok (.iadd, 1) := by decide +kernel
theorem dX13_thrown_191 : decode cX13_thrown 191 = .ok (.invokevirtual 864, 3) := by decide +kernel
theorem dX13_thrown_194 : decode cX13_thrown 194 = .ok (.ior, 1) := by decide +kernel
theorem dX13_thrown_195 : decode cX13_thrown 195 = .ok (.iastore, 1) := by decide +kernel
theorem dX13_thrown_196 : decode cX13_thrown 196 = .ok (.aload_n 0, 1) := by decide +kernel
theorem dX13_thrown_197 : decode cX13_thrown 197 = .ok (.getfield 303, 3) := by decide +kernel
theorem dX13_thrown_200 : decode cX13_thrown 200 = .ok (.iload_n 2, 1) := by decide +kernel
theorem dX13_thrown_201 : decode cX13_thrown 201 = .ok (.iconst 0, 1) := by decide +kernel
theorem dX13_thrown_202 : decode cX13_thrown 202 = .ok (.iastore, 1) := by decide +kernel
theorem dX13_thrown_203 : decode cX13_thrown 203 = .ok (.aload_n 0, 1) := by decide +kernel
theorem dX13_thrown_204 : decode cX13_thrown 204 = .ok (.iload_n 1, 1) := by decide +kernel
theorem dX13_thrown_205 : decode cX13_thrown 205 = .ok (.invokevirtual 1072, 3) := by decide +kernel
theorem dX13_thrown_208 : decode cX13_thrown 208 = .ok (.return_, 1) := by decide +kernel
theorem dX13_thrown_209 : decode cX13_thrown 209 = .ok (.iinc 5 1, 3) := by decide +kernel
theorem dX13_thrown_212 : decode cX13_thrown 212 = .ok (.goto (-167), 3) := by decide +kernel
theorem dX13_thrown_215 : decode cX13_thrown 215 = .ok (.aload_n 0, 1) := by decide +kernel
theorem dX13_thrown_216 : decode cX13_thrown 216 = .ok (.dup, 1) := by decide +kernel
theorem dX13_thrown_217 : decode cX13_thrown 217 = .ok (.getfield 1058, 3) := by decide +kernel
theorem dX13_thrown_220 : decode cX13_thrown 220 = .ok (.iconst 1, 1) := by decide +kernel
theorem dX13_thrown_221 : decode cX13_thrown 221 = .ok (.isub, 1) := by decide +kernel
theorem dX13_thrown_222 : decode cX13_thrown 222 = .ok (.putfield 1058, 3) := by decide +kernel
theorem dX13_thrown_225 : decode cX13_thrown 225 = .ok (.goto (-225), 3) := by decide +kernel
theorem dX13_thrown_228 : decode cX13_thrown 228 = .ok (.aload_n 0, 1) := by decide +kernel
theorem dX13_thrown_229 : decode cX13_thrown 229 = .ok (.iconst 3, 1) := by decide +kernel
theorem dX13_thrown_230 : decode cX13_thrown 230 = .ok (.putfield 858, 3) := by decide +kernel
theorem dX13_thrown_233 : decode cX13_thrown 233 = .ok (.aload_n 0, 1) := by decide +kernel
theorem dX13_thrown_234 : decode cX13_thrown 234 = .ok (.aload_n 0, 1) := by decide +kernel
theorem dX13_thrown_235 : decode cX13_thrown 235 = .ok (.getfield 279, 3) := by decide +kernel
theorem dX13_thrown_238 : decode cX13_thrown 238 = .ok (.iload_n 1, 1) := by decide +kernel
theorem dX13_thrown_239 : decode cX13_thrown 239 = .ok (.iaload, 1) := by decide +kernel
theorem dX13_thrown_240 : decode cX13_thrown 240 = .ok (.putfield 1043, 3) := by decide +kernel
theorem dX13_thrown_243 : decode cX13_thrown 243 = .ok (.return_, 1) := by decide +kernel
theorem dX13_reckon_0 : decode cX13_reckon 0 = .ok (.iload_n 0, 1) := by decide +kernel
theorem dX13_reckon_1 : decode cX13_reckon 1 = .ok (.tableswitch 187 96 128 #[147, 187, 187, 187, 151, 187, 187, 187, 155, 187, 187, 187, 159, 187, 187, 187, 163, 187, 187, 187, 187, 187, 187, 187, 167, 187, 171, 187, 175, 187, 179, 187, 183], 147) := by decide +kernel
theorem dX13_reckon_148 : decode cX13_reckon 148 = .ok (.iload_n 1, 1) := by decide +kernel
theorem dX13_reckon_149 : decode cX13_reckon 149 = .ok (.iload_n 2, 1) := by decide +kernel
theorem dX13_reckon_150 : decode cX13_reckon 150 = .ok (.iadd, 1) := by decide +kernel
theorem dX13_reckon_151 : decode cX13_reckon 151 = .ok (.ireturn, 1) := by decide +kernel
theorem dX13_reckon_152 : decode cX13_reckon 152 = .ok (.iload_n 1, 1) := by decide +kernel
theorem dX13_reckon_153 : decode cX13_reckon 153 = .ok (.iload_n 2, 1) := by decide +kernel
theorem dX13_reckon_154 : decode cX13_reckon 154 = .ok (.isub, 1) := by decide +kernel
theorem dX13_reckon_155 : decode cX13_reckon 155 = .ok (.ireturn, 1) := by decide +kernel
theorem dX13_reckon_156 : decode cX13_reckon 156 = .ok (.iload_n 1, 1) := by decide +kernel
theorem dX13_reckon_157 : decode cX13_reckon 157 = .ok (.iload_n 2, 1) := by decide +kernel
theorem dX13_reckon_158 : decode cX13_reckon 158 = .ok (.imul, 1) := by decide +kernel
theorem dX13_reckon_159 : decode cX13_reckon 159 = .ok (.ireturn, 1) := by decide +kernel
theorem dX13_reckon_160 : decode cX13_reckon 160 = .ok (.iload_n 1, 1) := by decide +kernel
theorem dX13_reckon_161 : decode cX13_reckon 161 = .ok (.iload_n 2, 1) := by decide +kernel
theorem dX13_reckon_162 : decode cX13_reckon 162 = .ok (.idiv, 1) := by decide +kernel
theorem dX13_reckon_163 : decode cX13_reckon 163 = .ok (.ireturn, 1) := by decide +kernel
theorem dX13_reckon_164 : decode cX13_reckon 164 = .ok (.iload_n 1, 1) := by decide +kernel
theorem dX13_reckon_165 : decode cX13_reckon 165 = .ok (.iload_n 2, 1) := by decide +kernel
theorem dX13_reckon_166 : decode cX13_reckon 166 = .ok (.irem, 1) := by decide +kernel
theorem dX13_reckon_167 : decode cX13_reckon 167 = .ok (.ireturn, 1) := by decide +kernel
theorem dX13_reckon_168 : decode cX13_reckon 168 = .ok (.iload_n 1, 1) := by decide +kernel
theorem dX13_reckon_169 : decode cX13_reckon 169 = .ok (.iload_n 2, 1) := by decide +kernel
theorem dX13_reckon_170 : decode cX13_reckon 170 = .ok (.ishl, 1) := by decide +kernel
theorem dX13_reckon_171 : decode cX13_reckon 171 = .ok (.ireturn, 1) := by decide +kernel
theorem dX13_reckon_172 : decode cX13_reckon 172 = .ok (.iload_n 1, 1) := by decide +kernel
theorem dX13_reckon_173 : decode cX13_reckon 173 = .ok (.iload_n 2, 1) := by decide +kernel
theorem dX13_reckon_174 : decode cX13_reckon 174 = .ok (.ishr, 1) := by decide +kernel
theorem dX13_reckon_175 : decode cX13_reckon 175 = .ok (.ireturn, 1) := by decide +kernel
theorem dX13_reckon_176 : decode cX13_reckon 176 = .ok (.iload_n 1, 1) := by decide +kernel
theorem dX13_reckon_177 : decode cX13_reckon 177 = .ok (.iload_n 2, 1) := by decide +kernel
theorem dX13_reckon_178 : decode cX13_reckon 178 = .ok (.iushr, 1) := by decide +kernel
theorem dX13_reckon_179 : decode cX13_reckon 179 = .ok (.ireturn, 1) := by decide +kernel
theorem dX13_reckon_180 : decode cX13_reckon 180 = .ok (.iload_n 1, 1) := by decide +kernel
theorem dX13_reckon_181 : decode cX13_reckon 181 = .ok (.iload_n 2, 1) := by decide +kernel
theorem dX13_reckon_182 : decode cX13_reckon 182 = .ok (.iand, 1) := by decide +kernel
theorem dX13_reckon_183 : decode cX13_reckon 183 = .ok (.ireturn, 1) := by decide +kernel
theorem dX13_reckon_184 : decode cX13_reckon 184 = .ok (.iload_n 1, 1) := by decide +kernel
theorem dX13_reckon_185 : decode cX13_reckon 185 = .ok (.iload_n 2, 1) := by decide +kernel
theorem dX13_reckon_186 : decode cX13_reckon 186 = .ok (.ior, 1) := by decide +kernel
theorem dX13_reckon_187 : decode cX13_reckon 187 = .ok (.ireturn, 1) := by decide +kernel
theorem dX13_reckon_188 : decode cX13_reckon 188 = .ok (.iload_n 1, 1) := by decide +kernel
theorem dX13_reckon_189 : decode cX13_reckon 189 = .ok (.iload_n 2, 1) := by decide +kernel
theorem dX13_reckon_190 : decode cX13_reckon 190 = .ok (.ixor, 1) := by decide +kernel
theorem dX13_reckon_191 : decode cX13_reckon 191 = .ok (.ireturn, 1) := by decide +kernel
theorem dX13_jumps_0 : decode cX13_jumps 0 = .ok (.iload_n 1, 1) := by decide +kernel
theorem dX13_jumps_1 : decode cX13_jumps 1 = .ok (.sipush 167, 3) := by decide +kernel
theorem dX13_jumps_4 : decode cX13_jumps 4 = .ok (.if_icmp .ne 5, 3) := by decide +kernel
theorem dX13_jumps_7 : decode cX13_jumps 7 = .ok (.iconst 1, 1) := by decide +kernel
theorem dX13_jumps_8 : decode cX13_jumps 8 = .ok (.ireturn, 1) := by decide +kernel
theorem dX13_jumps_9 : decode cX13_jumps 9 = .ok (.aload_n 0, 1) := by decide +kernel
theorem dX13_jumps_10 : decode cX13_jumps 10 = .ok (.invokevirtual 1087, 3) := by decide +kernel
theorem dX13_jumps_13 : decode cX13_jumps 13 = .ok (.istore_n 2, 1) := by decide +kernel
theorem dX13_jumps_14 : decode cX13_jumps 14 = .ok (.iload_n 1, 1) := by decide +kernel
theorem dX13_jumps_15 : decode cX13_jumps 15 = .ok (.sipush 153, 3) := by decide +kernel
theorem dX13_jumps_18 : decode cX13_jumps 18 = .ok (.if_icmp .ne 13, 3) := by decide +kernel
theorem dX13_jumps_21 : decode cX13_jumps 21 = .ok (.iload_n 2, 1) := by decide +kernel
theorem dX13_jumps_22 : decode cX13_jumps 22 = .ok (.ifCond .ne 7, 3) := by decide +kernel
theorem dX13_jumps_25 : decode cX13_jumps 25 = .ok (.iconst 1, 1) := by decide +kernel
theorem dX13_jumps_26 : decode cX13_jumps 26 = .ok (.goto 4, 3) := by decide +kernel
theorem dX13_jumps_29 : decode cX13_jumps 29 = .ok (.iconst 0, 1) := by decide +kernel
theorem dX13_jumps_30 : decode cX13_jumps 30 = .ok (.ireturn, 1) := by decide +kernel
theorem dX13_jumps_31 : decode cX13_jumps 31 = .ok (.iload_n 1, 1) := by decide +kernel
theorem dX13_jumps_32 : decode cX13_jumps 32 = .ok (.sipush 154, 3) := by decide +kernel
theorem dX13_jumps_35 : decode cX13_jumps 35 = .ok (.if_icmp .ne 13, 3) := by decide +kernel
theorem dX13_jumps_38 : decode cX13_jumps 38 = .ok (.iload_n 2, 1) := by decide +kernel
theorem dX13_jumps_39 : decode cX13_jumps 39 = .ok (.ifCond .eq 7, 3) := by decide +kernel
theorem dX13_jumps_42 : decode cX13_jumps 42 = .ok (.iconst 1, 1) := by decide +kernel
theorem dX13_jumps_43 : decode cX13_jumps 43 = .ok (.goto 4, 3) := by decide +kernel
theorem dX13_jumps_46 : decode cX13_jumps 46 = .ok (.iconst 0, 1) := by decide +kernel
theorem dX13_jumps_47 : decode cX13_jumps 47 = .ok (.ireturn, 1) := by decide +kernel
theorem dX13_jumps_48 : decode cX13_jumps 48 = .ok (.aload_n 0, 1) := by decide +kernel
theorem dX13_jumps_49 : decode cX13_jumps 49 = .ok (.invokevirtual 1087, 3) := by decide +kernel
theorem dX13_jumps_52 : decode cX13_jumps 52 = .ok (.istore_n 3, 1) := by decide +kernel
theorem dX13_jumps_53 : decode cX13_jumps 53 = .ok (.iload_n 1, 1) := by decide +kernel
theorem dX13_jumps_54 : decode cX13_jumps 54 = .ok (.tableswitch 101 159 166 #[46, 57, 68, 79, 90, 101, 46, 57], 46) := by decide +kernel
theorem dX13_jumps_100 : decode cX13_jumps 100 = .ok (.iload_n 3, 1) := by decide +kernel
theorem dX13_jumps_101 : decode cX13_jumps 101 = .ok (.iload_n 2, 1) := by decide +kernel
theorem dX13_jumps_102 : decode cX13_jumps 102 = .ok (.if_icmp .ne 7, 3) := by decide +kernel
theorem dX13_jumps_105 : decode cX13_jumps 105 = .ok (.iconst 1, 1) := by decide +kernel
theorem dX13_jumps_106 : decode cX13_jumps 106 = .ok (.goto 4, 3) := by decide +kernel
theorem dX13_jumps_109 : decode cX13_jumps 109 = .ok (.iconst 0, 1) := by decide +kernel
theorem dX13_jumps_110 : decode cX13_jumps 110 = .ok (.ireturn, 1) := by decide +kernel
theorem dX13_jumps_111 : decode cX13_jumps 111 = .ok (.iload_n 3, 1) := by decide +kernel
theorem dX13_jumps_112 : decode cX13_jumps 112 = .ok (.iload_n 2, 1) := by decide +kernel
theorem dX13_jumps_113 : decode cX13_jumps 113 = .ok (.if_icmp .eq 7, 3) := by decide +kernel
theorem dX13_jumps_116 : decode cX13_jumps 116 = .ok (.iconst 1, 1) := by decide +kernel
theorem dX13_jumps_117 : decode cX13_jumps 117 = .ok (.goto 4, 3) := by decide +kernel
theorem dX13_jumps_120 : decode cX13_jumps 120 = .ok (.iconst 0, 1) := by decide +kernel
theorem dX13_jumps_121 : decode cX13_jumps 121 = .ok (.ireturn, 1) := by decide +kernel
theorem dX13_jumps_122 : decode cX13_jumps 122 = .ok (.iload_n 3, 1) := by decide +kernel
theorem dX13_jumps_123 : decode cX13_jumps 123 = .ok (.iload_n 2, 1) := by decide +kernel
theorem dX13_jumps_124 : decode cX13_jumps 124 = .ok (.if_icmp .ge 7, 3) := by decide +kernel
theorem dX13_jumps_127 : decode cX13_jumps 127 = .ok (.iconst 1, 1) := by decide +kernel
theorem dX13_jumps_128 : decode cX13_jumps 128 = .ok (.goto 4, 3) := by decide +kernel
theorem dX13_jumps_131 : decode cX13_jumps 131 = .ok (.iconst 0, 1) := by decide +kernel
theorem dX13_jumps_132 : decode cX13_jumps 132 = .ok (.ireturn, 1) := by decide +kernel
theorem dX13_jumps_133 : decode cX13_jumps 133 = .ok (.iload_n 3, 1) := by decide +kernel
theorem dX13_jumps_134 : decode cX13_jumps 134 = .ok (.iload_n 2, 1) := by decide +kernel
theorem dX13_jumps_135 : decode cX13_jumps 135 = .ok (.if_icmp .lt 7, 3) := by decide +kernel
theorem dX13_jumps_138 : decode cX13_jumps 138 = .ok (.iconst 1, 1) := by decide +kernel
theorem dX13_jumps_139 : decode cX13_jumps 139 = .ok (.goto 4, 3) := by decide +kernel
theorem dX13_jumps_142 : decode cX13_jumps 142 = .ok (.iconst 0, 1) := by decide +kernel
theorem dX13_jumps_143 : decode cX13_jumps 143 = .ok (.ireturn, 1) := by decide +kernel
theorem dX13_jumps_144 : decode cX13_jumps 144 = .ok (.iload_n 3, 1) := by decide +kernel
theorem dX13_jumps_145 : decode cX13_jumps 145 = .ok (.iload_n 2, 1) := by decide +kernel
theorem dX13_jumps_146 : decode cX13_jumps 146 = .ok (.if_icmp .le 7, 3) := by decide +kernel
theorem dX13_jumps_149 : decode cX13_jumps 149 = .ok (.iconst 1, 1) := by decide +kernel
theorem dX13_jumps_150 : decode cX13_jumps 150 = .ok (.goto 4, 3) := by decide +kernel
theorem dX13_jumps_153 : decode cX13_jumps 153 = .ok (.iconst 0, 1) := by decide +kernel
theorem dX13_jumps_154 : decode cX13_jumps 154 = .ok (.ireturn, 1) := by decide +kernel
theorem dX13_jumps_155 : decode cX13_jumps 155 = .ok (.iload_n 3, 1) := by decide +kernel
theorem dX13_jumps_156 : decode cX13_jumps 156 = .ok (.iload_n 2, 1) := by decide +kernel
theorem dX13_jumps_157 : decode cX13_jumps 157 = .ok (.if_icmp .gt 7, 3) := by decide +kernel
theorem dX13_jumps_160 : decode cX13_jumps 160 = .ok (.iconst 1, 1) := by decide +kernel
theorem dX13_jumps_161 : decode cX13_jumps 161 = .ok (.goto 4, 3) := by decide +kernel
theorem dX13_jumps_164 : decode cX13_jumps 164 = .ok (.iconst 0, 1) := by decide +kernel
theorem dX13_jumps_165 : decode cX13_jumps 165 = .ok (.ireturn, 1) := by decide +kernel
theorem dX13_element_0 : decode cX13_element 0 = .ok (.iload_n 1, 1) := by decide +kernel
theorem dX13_element_1 : decode cX13_element 1 = .ok (.bipush 50, 2) := by decide +kernel
theorem dX13_element_3 : decode cX13_element 3 = .ok (.if_icmp .le 10, 3) := by decide +kernel
theorem dX13_element_6 : decode cX13_element 6 = .ok (.aload_n 0, 1) := by decide +kernel
theorem dX13_element_7 : decode cX13_element 7 = .ok (.invokevirtual 1087, 3) := by decide +kernel
theorem dX13_element_10 : decode cX13_element 10 = .ok (.goto 4, 3) := by decide +kernel
theorem dX13_element_13 : decode cX13_element 13 = .ok (.iconst 0, 1) := by decide +kernel
theorem dX13_element_14 : decode cX13_element 14 = .ok (.istore_n 2, 1) := by decide +kernel
theorem dX13_element_15 : decode cX13_element 15 = .ok (.aload_n 0, 1) := by decide +kernel
theorem dX13_element_16 : decode cX13_element 16 = .ok (.invokevirtual 1087, 3) := by decide +kernel
theorem dX13_element_19 : decode cX13_element 19 = .ok (.istore_n 3, 1) := by decide +kernel
theorem dX13_element_20 : decode cX13_element 20 = .ok (.aload_n 0, 1) := by decide +kernel
theorem dX13_element_21 : decode cX13_element 21 = .ok (.invokevirtual 1087, 3) := by decide +kernel
theorem dX13_element_24 : decode cX13_element 24 = .ok (.istore 4, 2) := by decide +kernel
theorem dX13_element_26 : decode cX13_element 26 = .ok (.iload 4, 2) := by decide +kernel
theorem dX13_element_28 : decode cX13_element 28 = .ok (.ifCond .ne 11, 3) := by decide +kernel
theorem dX13_element_31 : decode cX13_element 31 = .ok (.aload_n 0, 1) := by decide +kernel
theorem dX13_element_32 : decode cX13_element 32 = .ok (.iconst 2, 1) := by decide +kernel
theorem dX13_element_33 : decode cX13_element 33 = .ok (.invokevirtual 1093, 3) := by decide +kernel
theorem dX13_element_36 : decode cX13_element 36 = .ok (.goto 110, 3) := by decide +kernel
theorem dX13_element_39 : decode cX13_element 39 = .ok (.iload_n 3, 1) := by decide +kernel
theorem dX13_element_40 : decode cX13_element 40 = .ok (.ifCond .lt 14, 3) := by decide +kernel
theorem dX13_element_43 : decode cX13_element 43 = .ok (.iload_n 3, 1) := by decide +kernel
theorem dX13_element_44 : decode cX13_element 44 = .ok (.aload_n 0, 1) := by decide +kernel
theorem dX13_element_45 : decode cX13_element 45 = .ok (.getfield 285, 3) := by decide +kernel
theorem dX13_element_48 : decode cX13_element 48 = .ok (.iload 4, 2) := by decide +kernel
theorem dX13_element_50 : decode cX13_element 50 = .ok (.iaload, 1) := by decide +kernel
theorem dX13_element_51 : decode cX13_element 51 = .ok (.if_icmp .lt 11, 3) := by decide +kernel
theorem dX13_element_54 : decode cX13_element 54 = .ok (.aload_n 0, 1) := by decide +kernel
theorem dX13_element_55 : decode cX13_element 55 = .ok (.iconst 3, 1) := by decide +kernel
theorem dX13_element_56 : decode cX13_element 56 = .ok (.invokevirtual 1093, 3) := by decide +kernel
theorem dX13_element_59 : decode cX13_element 59 = .ok (.goto 87, 3) := by decide +kernel
theorem dX13_element_62 : decode cX13_element 62 = .ok (.iload_n 1, 1) := by decide +kernel
theorem dX13_element_63 : decode cX13_element 63 = .ok (.bipush 83, 2) := by decide +kernel
theorem dX13_element_65 : decode cX13_element 65 = .ok (.if_icmp .ne 34, 3) := by decide +kernel
theorem dX13_element_68 : decode cX13_element 68 = .ok (.iload_n 2, 1) := by decide +kernel
theorem dX13_element_69 : decode cX13_element 69 = .ok (.ifCond .eq 30, 3) := by decide +kernel
theorem dX13_element_72 : decode cX13_element 72 = .ok (.aload_n 0, 1) := by decide +kernel
theorem dX13_element_73 : decode cX13_element 73 = .ok (.iload_n 2, 1) := by decide +kernel
theorem dX13_element_74 : decode cX13_element 74 = .ok (.aload_n 0, 1) := by decide +kernel
theorem dX13_element_75 : decode cX13_element 75 = .ok (.getfield 279, 3) := by decide +kernel
theorem dX13_element_78 : decode cX13_element 78 = .ok (.iload 4, 2) := by decide +kernel
theorem dX13_element_80 : decode cX13_element 80 = .ok (.iaload, 1) := by decide +kernel
theorem dX13_element_81 : decode cX13_element 81 = .ok (.bipush 100, 2) := by decide +kernel
theorem dX13_element_83 : decode cX13_element 83 = .ok (.isub, 1) := by decide +kernel
theorem dX13_element_84 : decode cX13_element 84 = .ok (.invokevirtual 1119, 3) := by decide +kernel
theorem dX13_element_87 : decode cX13_element 87 = .ok (.ifCond .ne 12, 3) := by decide +kernel
theorem dX13_element_90 : decode cX13_element 90 = .ok (.aload_n 0, 1) := by decide +kernel
theorem dX13_element_91 : decode cX13_element 91 = .ok (.bipush 7, 2) := by decide +kernel
theorem dX13_element_93 : decode cX13_element 93 = .ok (.invokevirtual 1093, 3) := by decide +kernel
theorem dX13_element_96 : decode cX13_element 96 = .ok (.goto 50, 3) := by decide +kernel
theorem dX13_element_99 : decode cX13_element 99 = .ok (.iload_n 1, 1) := by decide +kernel
theorem dX13_element_100 : decode cX13_element 100 = .ok (.bipush 50, 2) := by decide +kernel
theorem dX13_element_102 : decode cX13_element 102 = .ok (.if_icmp .le 21, 3) := by decide +kernel
theorem dX13_element_105 : decode cX13_element 105 = .ok (.aload_n 0, 1) := by decide +kernel
theorem dX13_element_106 : decode cX13_element 106 = .ok (.getfield 288, 3) := by decide +kernel
theorem dX13_element_109 : decode cX13_element 109 = .ok (.aload_n 0, 1) := by decide +kernel
theorem dX13_element_110 : decode cX13_element 110 = .ok (.getfield 282, 3) := by decide +kernel
theorem dX13_element_113 : decode cX13_element 113 = .ok (.iload 4, 2) := by decide +kernel
theorem dX13_element_115 : decode cX13_element 115 = .ok (.iaload, 1) := by decide +kernel
theorem dX13_element_116 : decode cX13_element 116 = .ok (.iload_n 3, 1) := by decide +kernel
theorem dX13_element_117 : decode cX13_element 117 = .ok (.iadd, 1) := by decide +kernel
theorem dX13_element_118 : decode cX13_element 118 = .ok (.iload_n 2, 1) := by decide +kernel
theorem dX13_element_119 : decode cX13_element 119 = .ok (.iastore, 1) := by decide +kernel
theorem dX13_element_120 : decode cX13_element 120 = .ok (.goto 21, 3) := by decide +kernel
theorem dX13_element_123 : decode cX13_element 123 = .ok (.aload_n 0, 1) := by decide +kernel
theorem dX13_element_124 : decode cX13_element 124 = .ok (.aload_n 0, 1) := by decide +kernel
theorem dX13_element_125 : decode cX13_element 125 = .ok (.getfield 288, 3) := by decide +kernel
theorem dX13_element_128 : decode cX13_element 128 = .ok (.aload_n 0, 1) := by decide +kernel
theorem dX13_element_129 : decode cX13_element 129 = .ok (.getfield 282, 3) := by decide +kernel
theorem dX13_element_132 : decode cX13_element 132 = .ok (.iload 4, 2) := by decide +kernel
theorem dX13_element_134 : decode cX13_element 134 = .ok (.iaload, 1) := by decide +kernel
theorem dX13_element_135 : decode cX13_element 135 = .ok (.iload_n 3, 1) := by decide +kernel
theorem dX13_element_136 : decode cX13_element 136 = .ok (.iadd, 1) := by decide +kernel
theorem dX13_element_137 : decode cX13_element 137 = .ok (.iaload, 1) := by decide +kernel
theorem dX13_element_138 : decode cX13_element 138 = .ok (.invokevirtual 1072, 3) := by decide +kernel
theorem dX13_element_141 : decode cX13_element 141 = .ok (.aload_n 0, 1) := by decide +kernel
theorem dX13_element_142 : decode cX13_element 142 = .ok (.iconst 1, 1) := by decide +kernel
theorem dX13_element_143 : decode cX13_element 143 = .ok (.invokevirtual 1116, 3) := by decide +kernel
theorem dX13_element_146 : decode cX13_element 146 = .ok (.return_, 1) := by decide +kernel
theorem dX13_storesIn_0 : decode cX13_storesIn 0 = .ok (.aload_n 0, 1) := by decide +kernel
theorem dX13_storesIn_1 : decode cX13_storesIn 1 = .ok (.iload_n 1, 1) := by decide +kernel
theorem dX13_storesIn_2 : decode cX13_storesIn 2 = .ok (.iload_n 2, 1) := by decide +kernel
theorem dX13_storesIn_3 : decode cX13_storesIn 3 = .ok (.invokevirtual 1069, 3) := by decide +kernel
theorem dX13_storesIn_6 : decode cX13_storesIn 6 = .ok (.ireturn, 1) := by decide +kernel
theorem dX13_classIn_0 : decode cX13_classIn 0 = .ok (.aload_n 0, 1) := by decide +kernel
theorem dX13_classIn_1 : decode cX13_classIn 1 = .ok (.getfield 294, 3) := by decide +kernel
theorem dX13_classIn_4 : decode cX13_classIn 4 = .ok (.aload_n 0, 1) := by decide +kernel
theorem dX13_classIn_5 : decode cX13_classIn 5 = .ok (.getfield 1058, 3) := by decide +kernel
theorem dX13_classIn_8 : decode cX13_classIn 8 = .ok (.iconst 1, 1) := by decide +kernel
theorem dX13_classIn_9 : decode cX13_classIn 9 = .ok (.isub, 1) := by decide +kernel
theorem dX13_classIn_10 : decode cX13_classIn 10 = .ok (.iaload, 1) := by decide +kernel
theorem dX13_classIn_11 : decode cX13_classIn 11 = .ok (.bipush 8, 2) := by decide +kernel
theorem dX13_classIn_13 : decode cX13_classIn 13 = .ok (.isub, 1) := by decide +kernel
theorem dX13_classIn_14 : decode cX13_classIn 14 = .ok (.istore_n 2, 1) := by decide +kernel
theorem dX13_classIn_15 : decode cX13_classIn 15 = .ok (.aload_n 0, 1) := by decide +kernel
theorem dX13_classIn_16 : decode cX13_classIn 16 = .ok (.iload_n 2, 1) := by decide +kernel
theorem dX13_classIn_17 : decode cX13_classIn 17 = .ok (.aload_n 0, 1) := by decide +kernel
theorem dX13_classIn_18 : decode cX13_classIn 18 = .ok (.iload_n 2, 1) := by decide +kernel
theorem dX13_classIn_19 : decode cX13_classIn 19 = .ok (.iload_n 1, 1) := by decide +kernel
theorem dX13_classIn_20 : decode cX13_classIn 20 = .ok (.invokevirtual 867, 3) := by decide +kernel
theorem dX13_classIn_23 : decode cX13_classIn 23 = .ok (.invokevirtual 870, 3) := by decide +kernel
theorem dX13_classIn_26 : decode cX13_classIn 26 = .ok (.ireturn, 1) := by decide +kernel
theorem dX13_fieldOf_0 : decode cX13_fieldOf 0 = .ok (.iload_n 1, 1) := by decide +kernel
theorem dX13_fieldOf_1 : decode cX13_fieldOf 1 = .ok (.sipush 181, 3) := by decide +kernel
theorem dX13_fieldOf_4 : decode cX13_fieldOf 4 = .ok (.if_icmp .ne 10, 3) := by decide +kernel
theorem dX13_fieldOf_7 : decode cX13_fieldOf 7 = .ok (.aload_n 0, 1) := by decide +kernel
theorem dX13_fieldOf_8 : decode cX13_fieldOf 8 = .ok (.invokevirtual 1087, 3) := by decide +kernel
theorem dX13_fieldOf_11 : decode cX13_fieldOf 11 = .ok (.goto 4, 3) := by decide +kernel
theorem dX13_fieldOf_14 : decode cX13_fieldOf 14 = .ok (.iconst 0, 1) := by decide +kernel
theorem dX13_fieldOf_15 : decode cX13_fieldOf 15 = .ok (.istore 4, 2) := by decide +kernel
theorem dX13_fieldOf_17 : decode cX13_fieldOf 17 = .ok (.aload_n 0, 1) := by decide +kernel
theorem dX13_fieldOf_18 : decode cX13_fieldOf 18 = .ok (.invokevirtual 1087, 3) := by decide +kernel
theorem dX13_fieldOf_21 : decode cX13_fieldOf 21 = .ok (.istore 5, 2) := by decide +kernel
theorem dX13_fieldOf_23 : decode cX13_fieldOf 23 = .ok (.iload 5, 2) := by decide +kernel
theorem dX13_fieldOf_25 : decode cX13_fieldOf 25 = .ok (.ifCond .ne 9, 3) := by decide +kernel
theorem dX13_fieldOf_28 : decode cX13_fieldOf 28 = .ok (.aload_n 0, 1) := by decide +kernel
theorem dX13_fieldOf_29 : decode cX13_fieldOf 29 = .ok (.iconst 2, 1) := by decide +kernel
theorem dX13_fieldOf_30 : decode cX13_fieldOf 30 = .ok (.invokevirtual 1093, 3) := by decide +kernel
theorem dX13_fieldOf_33 : decode cX13_fieldOf 33 = .ok (.return_, 1) := by decide +kernel
theorem dX13_fieldOf_34 : decode cX13_fieldOf 34 = .ok (.iload_n 1, 1) := by decide +kernel
theorem dX13_fieldOf_35 : decode cX13_fieldOf 35 = .ok (.sipush 190, 3) := by decide +kernel
theorem dX13_fieldOf_38 : decode cX13_fieldOf 38 = .ok (.if_icmp .ne 17, 3) := by decide +kernel
theorem dX13_fieldOf_41 : decode cX13_fieldOf 41 = .ok (.aload_n 0, 1) := by decide +kernel
theorem dX13_fieldOf_42 : decode cX13_fieldOf 42 = .ok (.aload_n 0, 1) := by decide +kernel
theorem dX13_fieldOf_43 : decode cX13_fieldOf 43 = .ok (.getfield 285, 3) := by decide +kernel
theorem dX13_fieldOf_46 : decode cX13_fieldOf 46 = .ok (.iload 5, 2) := by decide +kernel
theorem dX13_fieldOf_48 : decode cX13_fieldOf 48 = .ok (.iaload, 1) := by decide +kernel
theorem dX13_fieldOf_49 : decode cX13_fieldOf 49 = .ok (.invokevirtual 1072, 3) := by decide +kernel
theorem dX13_fieldOf_52 : decode cX13_fieldOf 52 = .ok (.goto 95, 3) := by decide +kernel
theorem dX13_fieldOf_55 : decode cX13_fieldOf 55 = .ok (.aload_n 0, 1) := by decide +kernel
theorem dX13_fieldOf_56 : decode cX13_fieldOf 56 = .ok (.aload_n 0, 1) := by decide +kernel
theorem dX13_fieldOf_57 : decode cX13_fieldOf 57 = .ok (.aload_n 0, 1) := by decide +kernel
theorem dX13_fieldOf_58 : decode cX13_fieldOf 58 = .ok (.iload_n 2, 1) := by decide +kernel
theorem dX13_fieldOf_59 : decode cX13_fieldOf 59 = .ok (.iconst 0, 1) := by decide +kernel
theorem dX13_fieldOf_60 : decode cX13_fieldOf 60 = .ok (.invokevirtual 1122, 3) := by decide +kernel
theorem dX13_fieldOf_63 : decode cX13_fieldOf 63 = .ok (.invokevirtual 1125, 3) := by decide +kernel
theorem dX13_fieldOf_66 : decode cX13_fieldOf 66 = .ok (.aload_n 0, 1) := by decide +kernel
theorem dX13_fieldOf_67 : decode cX13_fieldOf 67 = .ok (.getfield 294, 3) := by decide +kernel
theorem dX13_fieldOf_70 : decode cX13_fieldOf 70 = .ok (.aload_n 0, 1) := by decide +kernel
theorem dX13_fieldOf_71 : decode cX13_fieldOf 71 = .ok (.getfield 1058, 3) := by decide +kernel
theorem dX13_fieldOf_74 : decode cX13_fieldOf 74 = .ok (.iconst 1, 1) := by decide +kernel
theorem dX13_fieldOf_75 : decode cX13_fieldOf 75 = .ok (.isub, 1) := by decide +kernel
theorem dX13_fieldOf_76 : decode cX13_fieldOf 76 = .ok (.iaload, 1) := by decide +kernel
theorem dX13_fieldOf_77 : decode cX13_fieldOf 77 = .ok (.bipush 8, 2) := by decide +kernel
theorem dX13_fieldOf_79 : decode cX13_fieldOf 79 = .ok (.isub, 1) := by decide +kernel
theorem dX13_fieldOf_80 : decode cX13_fieldOf 80 = .ok (.aload_n 0, 1) := by decide +kernel
theorem dX13_fieldOf_81 : decode cX13_fieldOf 81 = .ok (.iload_n 2, 1) := by decide +kernel
theorem dX13_fieldOf_82 : decode cX13_fieldOf 82 = .ok (.iconst 1, 1) := by decide +kernel
theorem dX13_fieldOf_83 : decode cX13_fieldOf 83 = .ok (.invokevirtual 1122, 3) := by decide +kernel
theorem dX13_fieldOf_86 : decode cX13_fieldOf 86 = .ok (.iconst 0, 1) := by decide +kernel
theorem dX13_fieldOf_87 : decode cX13_fieldOf 87 = .ok (.invokevirtual 928, 3) := by decide +kernel
theorem dX13_fieldOf_90 : decode cX13_fieldOf 90 = .ok (.istore 6, 2) := by decide +kernel
theorem dX13_fieldOf_92 : decode cX13_fieldOf 92 = .ok (.aload_n 0, 1) := by decide +kernel
theorem dX13_fieldOf_93 : decode cX13_fieldOf 93 = .ok (.getfield 282, 3) := by decide +kernel
theorem dX13_fieldOf_96 : decode cX13_fieldOf 96 = .ok (.iload 5, 2) := by decide +kernel
theorem dX13_fieldOf_98 : decode cX13_fieldOf 98 = .ok (.iaload, 1) := by decide +kernel
theorem dX13_fieldOf_99 : decode cX13_fieldOf 99 = .ok (.aload_n 0, 1) := by decide +kernel
theorem dX13_fieldOf_100 : decode cX13_fieldOf 100 = .ok (.aload_n 0, 1) := by decide +kernel
theorem dX13_fieldOf_101 : decode cX13_fieldOf 101 = .ok (.iload 6, 2) := by decide +kernel
theorem dX13_fieldOf_103 : decode cX13_fieldOf 103 = .ok (.invokevirtual 873, 3) := by decide +kernel
theorem dX13_fieldOf_106 : decode cX13_fieldOf 106 = .ok (.invokevirtual 1128, 3) := by decide +kernel
theorem dX13_fieldOf_109 : decode cX13_fieldOf 109 = .ok (.iadd, 1) := by decide +kernel
theorem dX13_fieldOf_110 : decode cX13_fieldOf 110 = .ok (.aload_n 0, 1) := by decide +kernel
theorem dX13_fieldOf_111 : decode cX13_fieldOf 111 = .ok (.getfield 898, 3) := by decide +kernel
theorem dX13_fieldOf_114 : decode cX13_fieldOf 114 = .ok (.iadd, 1) := by decide +kernel
theorem dX13_fieldOf_115 : decode cX13_fieldOf 115 = .ok (.istore 7, 2) := by decide +kernel
theorem dX13_fieldOf_117 : decode cX13_fieldOf 117 = .ok (.iload_n 1, 1) := by decide +kernel
theorem dX13_fieldOf_118 : decode cX13_fieldOf 118 = .ok (.sipush 180, 3) := by decide +kernel
theorem dX13_fieldOf_121 : decode cX13_fieldOf 121 = .ok (.if_icmp .ne 17, 3) := by decide +kernel
theorem dX13_fieldOf_124 : decode cX13_fieldOf 124 = .ok (.aload_n 0, 1) := by decide +kernel
theorem dX13_fieldOf_125 : decode cX13_fieldOf 125 = .ok (.aload_n 0, 1) := by decide +kernel
theorem dX13_fieldOf_126 : decode cX13_fieldOf 126 = .ok (.getfield 288, 3) := by decide +kernel
theorem dX13_fieldOf_129 : decode cX13_fieldOf 129 = .ok (.iload 7, 2) := by decide +kernel
theorem dX13_fieldOf_131 : decode cX13_fieldOf 131 = .ok (.iaload, 1) := by decide +kernel
theorem dX13_fieldOf_132 : decode cX13_fieldOf 132 = .ok (.invokevirtual 1072, 3) := by decide +kernel
theorem dX13_fieldOf_135 : decode cX13_fieldOf 135 = .ok (.goto 12, 3) := by decide +kernel
theorem dX13_fieldOf_138 : decode cX13_fieldOf 138 = .ok (.aload_n 0, 1) := by decide +kernel
theorem dX13_fieldOf_139 : decode cX13_fieldOf 139 = .ok (.getfield 288, 3) := by decide +kernel
theorem dX13_fieldOf_142 : decode cX13_fieldOf 142 = .ok (.iload 7, 2) := by decide +kernel
theorem dX13_fieldOf_144 : decode cX13_fieldOf 144 = .ok (.iload 4, 2) := by decide +kernel
theorem dX13_fieldOf_146 : decode cX13_fieldOf 146 = .ok (.iastore, 1) := by decide +kernel
theorem dX13_fieldOf_147 : decode cX13_fieldOf 147 = .ok (.aload_n 0, 1) := by decide +kernel
theorem dX13_fieldOf_148 : decode cX13_fieldOf 148 = .ok (.iload_n 3, 1) := by decide +kernel
theorem dX13_fieldOf_149 : decode cX13_fieldOf 149 = .ok (.invokevirtual 1116, 3) := by decide +kernel
theorem dX13_fieldOf_152 : decode cX13_fieldOf 152 = .ok (.return_, 1) := by decide +kernel
theorem dX13_call_0 : decode cX13_call 0 = .ok (.aload_n 0, 1) := by decide +kernel
theorem dX13_call_1 : decode cX13_call 1 = .ok (.getfield 294, 3) := by decide +kernel
theorem dX13_call_4 : decode cX13_call 4 = .ok (.aload_n 0, 1) := by decide +kernel
theorem dX13_call_5 : decode cX13_call 5 = .ok (.getfield 1058, 3) := by decide +kernel
theorem dX13_call_8 : decode cX13_call 8 = .ok (.iconst 1, 1) := by decide +kernel
theorem dX13_call_9 : decode cX13_call 9 = .ok (.isub, 1) := by decide +kernel
theorem dX13_call_10 : decode cX13_call 10 = .ok (.iaload, 1) := by decide +kernel
theorem dX13_call_11 : decode cX13_call 11 = .ok (.bipush 8, 2) := by decide +kernel
theorem dX13_call_13 : decode cX13_call 13 = .ok (.isub, 1) := by decide +kernel
theorem dX13_call_14 : decode cX13_call 14 = .ok (.istore_n 3, 1) := by decide +kernel
theorem dX13_call_15 : decode cX13_call 15 = .ok (.sipush 6000, 3) := by decide +kernel
theorem dX13_call_18 : decode cX13_call 18 = .ok (.iload_n 3, 1) := by decide +kernel
theorem dX13_call_19 : decode cX13_call 19 = .ok (.imul, 1) := by decide +kernel
theorem dX13_call_20 : decode cX13_call 20 = .ok (.aload_n 0, 1) := by decide +kernel
theorem dX13_call_21 : decode cX13_call 21 = .ok (.getfield 215, 3) := by decide +kernel
theorem dX13_call_24 : decode cX13_call 24 = .ok (.sipush 256, 3) := by decide +kernel
theorem dX13_call_27 : decode cX13_call 27 = .ok (.iload_n 3, 1) := by decide +kernel
theorem dX13_call_28 : decode cX13_call 28 = .ok (.imul, 1) := by decide +kernel
theorem dX13_call_29 : decode cX13_call 29 = .ok (.aload_n 0, 1) := by decide +kernel
theorem dX13_call_30 : decode cX13_call 30 = .ok (.iload_n 2, 1) := by decide +kernel
theorem dX13_call_31 : decode cX13_call 31 = .ok (.iconst 2, 1) := by decide +kernel
theorem dX13_call_32 : decode cX13_call 32 = .ok (.invokevirtual 1122, 3) := by decide +kernel
theorem dX13_call_35 : decode cX13_call 35 = .ok (.iadd, 1) := by decide +kernel
theorem dX13_call_36 : decode cX13_call 36 = .ok (.iaload, 1) := by decide +kernel
theorem dX13_call_37 : decode cX13_call 37 = .ok (.iadd, 1) := by decide +kernel
theorem dX13_call_38 : decode cX13_call 38 = .ok (.istore 4, 2) := by decide +kernel
theorem dX13_call_40 : decode cX13_call 40 = .ok (.aload_n 0, 1) := by decide +kernel
theorem dX13_call_41 : decode cX13_call 41 = .ok (.getfield 209, 3) := by decide +kernel
theorem dX13_call_44 : decode cX13_call 44 = .ok (.iload 4, 2) := by decide +kernel
theorem dX13_call_46 : decode cX13_call 46 = .ok (.iconst 2, 1) := by decide +kernel
theorem dX13_call_47 : decode cX13_call 47 = .ok (.iadd, 1) := by decide +kernel
theorem dX13_call_48 : decode cX13_call 48 = .ok (.aload_n 0, 1) := by decide +kernel
theorem dX13_call_49 : decode cX13_call 49 = .ok (.getfield 209, 3) := by decide +kernel
theorem dX13_call_52 : decode cX13_call 52 = .ok (.iload 4, 2) := by decide +kernel
theorem dX13_call_54 : decode cX13_call 54 = .ok (.iconst 1, 1) := by decide +kernel
theorem dX13_call_55 : decode cX13_call 55 = .ok (.iadd, 1) := by decide +kernel
theorem dX13_call_56 : decode cX13_call 56 = .ok (.iaload, 1) := by decide +kernel
theorem dX13_call_57 : decode cX13_call 57 = .ok (.invokestatic 785, 3) := by decide +kernel
theorem dX13_call_60 : decode cX13_call 60 = .ok (.iload_n 1, 1) := by decide +kernel
theorem dX13_call_61 : decode cX13_call 61 = .ok (.sipush 182, 3) := by decide +kernel
theorem dX13_call_64 : decode cX13_call 64 = .ok (.if_icmp .ne 7, 3) := by decide +kernel
theorem dX13_call_67 : decode cX13_call 67 = .ok (.iconst 1, 1) := by decide +kernel
theorem dX13_call_68 : decode cX13_call 68 = .ok (.goto 4, 3) := by decide +kernel
theorem dX13_call_71 : decode cX13_call 71 = .ok (.iconst 0, 1) := by decide +kernel
theorem dX13_call_72 : decode cX13_call 72 = .ok (.iadd, 1) := by decide +kernel
theorem dX13_call_73 : decode cX13_call 73 = .ok (.istore 5, 2) := by decide +kernel
theorem dX13_call_75 : decode cX13_call 75 = .ok (.aload_n 0, 1) := by decide +kernel
theorem dX13_call_76 : decode cX13_call 76 = .ok (.getfield 1058, 3) := by decide +kernel
theorem dX13_call_79 : decode cX13_call 79 = .ok (.iconst 1, 1) := by decide +kernel
theorem dX13_call_80 : decode cX13_call 80 = .ok (.isub, 1) := by decide +kernel
theorem dX13_call_81 : decode cX13_call 81 = .ok (.istore 6, 2) := by decide +kernel
theorem dX13_call_83 : decode cX13_call 83 = .ok (.bipush 60, 2) := by decide +kernel
theorem dX13_call_85 : decode cX13_call 85 = .ok (.iload 6, 2) := by decide +kernel
theorem dX13_call_87 : decode cX13_call 87 = .ok (.imul, 1) := by decide +kernel
theorem dX13_call_88 : decode cX13_call 88 = .ok (.bipush 30, 2) := by decide +kernel
theorem dX13_call_90 : decode cX13_call 90 = .ok (.iadd, 1) := by decide +kernel
theorem dX13_call_91 : decode cX13_call 91 = .ok (.aload_n 0, 1) := by decide +kernel
theorem dX13_call_92 : decode cX13_call 92 = .ok (.getfield 303, 3) := by decide +kernel
theorem dX13_call_95 : decode cX13_call 95 = .ok (.iload 6, 2) := by decide +kernel
theorem dX13_call_97 : decode cX13_call 97 = .ok (.iaload, 1) := by decide +kernel
theorem dX13_call_98 : decode cX13_call 98 = .ok (.iadd, 1) := by decide +kernel
theorem dX13_call_99 : decode cX13_call 99 = .ok (.iload 5, 2) := by decide +kernel
theorem dX13_call_101 : decode cX13_call 101 = .ok (.isub, 1) := by decide +kernel
theorem dX13_call_102 : decode cX13_call 102 = .ok (.istore 7, 2) := by decide +kernel
theorem dX13_call_104 : decode cX13_call 104 = .ok (.aload_n 0, 1) := by decide +kernel
theorem dX13_call_105 : decode cX13_call 105 = .ok (.aload_n 0, 1) := by decide +kernel
theorem dX13_call_106 : decode cX13_call 106 = .ok (.iload_n 2, 1) := by decide +kernel
theorem dX13_call_107 : decode cX13_call 107 = .ok (.iconst 0, 1) := by decide +kernel
theorem dX13_call_108 : decode cX13_call 108 = .ok (.invokevirtual 1122, 3) := by decide +kernel
theorem dX13_call_111 : decode cX13_call 111 = .ok (.invokevirtual 1125, 3) := by decide +kernel
theorem dX13_call_114 : decode cX13_call 114 = .ok (.istore 8, 2) := by decide +kernel
theorem dX13_call_116 : decode cX13_call 116 = .ok (.iload_n 1, 1) := by decide +kernel
theorem dX13_call_117 : decode cX13_call 117 = .ok (.sipush 182, 3) := by decide +kernel
theorem dX13_call_120 : decode cX13_call 120 = .ok (.if_icmp .ne 48, 3) := by decide +kernel
theorem dX13_call_123 : decode cX13_call 123 = .ok (.aload_n 0, 1) := by decide +kernel
theorem dX13_call_124 : decode cX13_call 124 = .ok (.getfield 306, 3) := by decide +kernel
theorem dX13_call_127 : decode cX13_call 127 = .ok (.iload 7, 2) := by decide +kernel
theorem dX13_call_129 : decode cX13_call 129 = .ok (.iaload, 1) := by decide +kernel
theorem dX13_call_130 : decode cX13_call 130 = .ok (.istore 9, 2) := by decide +kernel
theorem dX13_call_132 : decode cX13_call 132 = .ok (.iload 9, 2) := by decide +kernel
theorem dX13_call_134 : decode cX13_call 134 = .ok (.ifCond .ne 9, 3) := by decide +kernel
theorem dX13_call_137 : decode cX13_call 137 = .ok (.aload_n 0, 1) := by decide +kernel
theorem dX13_call_138 : decode cX13_call 138 = .ok (.iconst 2, 1) := by decide +kernel
theorem dX13_call_139 : decode cX13_call 139 = .ok (.invokevirtual 1093, 3) := by decide +kernel
theorem dX13_call_142 : decode cX13_call 142 = .ok (.return_, 1) := by decide +kernel
theorem dX13_call_143 : decode cX13_call 143 = .ok (.aload_n 0, 1) := by decide +kernel
theorem dX13_call_144 : decode cX13_call 144 = .ok (.getfield 279, 3) := by decide +kernel
theorem dX13_call_147 : decode cX13_call 147 = .ok (.iload 9, 2) := by decide +kernel
theorem dX13_call_149 : decode cX13_call 149 = .ok (.iaload, 1) := by decide +kernel
theorem dX13_call_150 : decode cX13_call 150 = .ok (.bipush 99, 2) := by decide +kernel
theorem dX13_call_152 : decode cX13_call 152 = .ok (.if_icmp .lt 7, 3) := by decide +kernel
theorem dX13_call_155 : decode cX13_call 155 = .ok (.iconst 0, 1) := by decide +kernel
theorem dX13_call_156 : decode cX13_call 156 = .ok (.goto 10, 3) := by decide +kernel
theorem dX13_call_159 : decode cX13_call 159 = .ok (.aload_n 0, 1) := by decide +kernel
theorem dX13_call_160 : decode cX13_call 160 = .ok (.getfield 279, 3) := by decide +kernel
theorem dX13_call_163 : decode cX13_call 163 = .ok (.iload 9, 2) := by decide +kernel
theorem dX13_call_165 : decode cX13_call 165 = .ok (.iaload, 1) := by decide +kernel
theorem dX13_call_166 : decode cX13_call 166 = .ok (.istore 8, 2) := by decide +kernel
theorem dX13_call_168 : decode cX13_call 168 = .ok (.aload_n 0, 1) := by decide +kernel
theorem dX13_call_169 : decode cX13_call 169 = .ok (.iload 8, 2) := by decide +kernel
theorem dX13_call_171 : decode cX13_call 171 = .ok (.iload_n 3, 1) := by decide +kernel
theorem dX13_call_172 : decode cX13_call 172 = .ok (.aload_n 0, 1) := by decide +kernel
theorem dX13_call_173 : decode cX13_call 173 = .ok (.iload_n 2, 1) := by decide +kernel
theorem dX13_call_174 : decode cX13_call 174 = .ok (.iconst 1, 1) := by decide +kernel
theorem dX13_call_175 : decode cX13_call 175 = .ok (.invokevirtual 1122, 3) := by decide +kernel
theorem dX13_call_178 : decode cX13_call 178 = .ok (.iconst 1, 1) := by decide +kernel
theorem dX13_call_179 : decode cX13_call 179 = .ok (.invokevirtual 928, 3) := by decide +kernel
theorem dX13_call_182 : decode cX13_call 182 = .ok (.istore 9, 2) := by decide +kernel
theorem dX13_call_184 : decode cX13_call 184 = .ok (.aload_n 0, 1) := by decide +kernel
theorem dX13_call_185 : decode cX13_call 185 = .ok (.getfield 898, 3) := by decide +kernel
theorem dX13_call_188 : decode cX13_call 188 = .ok (.istore 10, 2) := by decide +kernel
theorem dX13_call_190 : decode cX13_call 190 = .ok (.aload_n 0, 1) := by decide +kernel
theorem dX13_call_191 : decode cX13_call 191 = .ok (.getfield 1058, 3) := by decide +kernel
theorem dX13_call_194 : decode cX13_call 194 = .ok (.bipush 60, 2) := by decide +kernel
theorem dX13_call_196 : decode cX13_call 196 = .ok (.if_icmp .ne 9, 3) := by decide +kernel
theorem dX13_call_199 : decode cX13_call 199 = .ok (.aload_n 0, 1) := by decide +kernel
theorem dX13_call_200 : decode cX13_call 200 = .ok (.iconst 5, 1) := by decide +kernel
theorem dX13_call_201 : decode cX13_call 201 = .ok (.putfield 858, 3) := by decide +kernel
theorem dX13_call_204 : decode cX13_call 204 = .ok (.return_, 1) := by decide +kernel
theorem dX13_call_205 : decode cX13_call 205 = .ok (.aload_n 0, 1) := by decide +kernel
theorem dX13_call_206 : decode cX13_call 206 = .ok (.getfield 303, 3) := by decide +kernel
theorem dX13_call_209 : decode cX13_call 209 = .ok (.iload 6, 2) := by decide +kernel
theorem dX13_call_211 : decode cX13_call 211 = .ok (.dup2, 1) := by decide +kernel
theorem dX13_call_212 : decode cX13_call 212 = .ok (.iaload, 1) := by decide +kernel
theorem dX13_call_213 : decode cX13_call 213 = .ok (.iload 5, 2) := by decide +kernel
theorem dX13_call_215 : decode cX13_call 215 = .ok (.isub, 1) := by decide +kernel
theorem dX13_call_216 : decode cX13_call 216 = .ok (.iastore, 1) := by decide +kernel
theorem dX13_call_217 : decode cX13_call 217 = .ok (.aload_n 0, 1) := by decide +kernel
theorem dX13_call_218 : decode cX13_call 218 = .ok (.iload 9, 2) := by decide +kernel
theorem dX13_call_220 : decode cX13_call 220 = .ok (.iload 10, 2) := by decide +kernel
theorem dX13_call_222 : decode cX13_call 222 = .ok (.invokevirtual 1061, 3) := by decide +kernel
theorem dX13_call_225 : decode cX13_call 225 = .ok (.iconst 0, 1) := by decide +kernel
theorem dX13_call_226 : decode cX13_call 226 = .ok (.istore 11, 2) := by decide +kernel
theorem dX13_call_228 : decode cX13_call 228 = .ok (.iload 11, 2) := by decide +kernel
theorem dX13_call_230 : decode cX13_call 230 = .ok (.iload 5, 2) := by decide +kernel
theorem dX13_call_232 : decode cX13_call 232 = .ok (.if_icmp .ge 36, 3) := by decide +kernel
theorem dX13_call_235 : decode cX13_call 235 = .ok (.aload_n 0, 1) := by decide +kernel
theorem dX13_call_236 : decode cX13_call 236 = .ok (.getfield 306, 3) := by decide +kernel
theorem dX13_call_239 : decode cX13_call 239 = .ok (.bipush 60, 2) := by decide +kernel
theorem dX13_call_241 : decode cX13_call 241 = .ok (.aload_n 0, 1) := by decide +kernel
theorem dX13_call_242 : decode cX13_call 242 = .ok (.getfield 1058, 3) := by decide +kernel
theorem dX13_call_245 : decode cX13_call 245 = .ok (.iconst 1, 1) := by decide +kernel
theorem dX13_call_246 : decode cX13_call 246 = .ok (.isub, 1) := by decide +kernel
theorem dX13_call_247 : decode cX13_call 247 = .ok (.imul, 1) := by decide +kernel
theorem dX13_call_248 : decode cX13_call 248 = .ok (.iload 11, 2) := by decide +kernel
theorem dX13_call_250 : decode cX13_call 250 = .ok (.iadd, 1) := by decide +kernel
theorem dX13_call_251 : decode cX13_call 251 = .ok (.aload_n 0, 1) := by decide +kernel
theorem dX13_call_252 : decode cX13_call 252 = .ok (.getfield 306, 3) := by decide +kernel
theorem dX13_call_255 : decode cX13_call 255 = .ok (.iload 7, 2) := by decide +kernel
theorem dX13_call_257 : decode cX13_call 257 = .ok (.iload 11, 2) := by decide +kernel
theorem dX13_call_259 : decode cX13_call 259 = .ok (.iadd, 1) := by decide +kernel
theorem dX13_call_260 : decode cX13_call 260 = .ok (.iaload, 1) := by decide +kernel
theorem dX13_call_261 : decode cX13_call 261 = .ok (.iastore, 1) := by decide +kernel
theorem dX13_call_262 : decode cX13_call 262 = .ok (.iinc 11 1, 3) := by decide +kernel
theorem dX13_call_265 : decode cX13_call 265 = .ok (.goto (-37), 3) := by decide +kernel
theorem dX13_call_268 : decode cX13_call 268 = .ok (.return_, 1) := by decide +kernel
theorem dX13_fresh__0 : decode cX13_fresh_ 0 = .ok (.iload_n 1, 1) := by decide +kernel
theorem dX13_fresh__1 : decode cX13_fresh_ 1 = .ok (.sipush 187, 3) := by decide +kernel
theorem dX13_fresh__4 : decode cX13_fresh_ 4 = .ok (.if_icmp .ne 7, 3) := by decide +kernel
theorem dX13_fresh__7 : decode cX13_fresh_ 7 = .ok (.iconst 0, 1) := by decide +kernel
theorem dX13_fresh__8 : decode cX13_fresh_ 8 = .ok (.goto 7, 3) := by decide +kernel
theorem dX13_fresh__11 : decode cX13_fresh_ 11 = .ok (.aload_n 0, 1) := by decide +kernel
theorem dX13_fresh__12 : decode cX13_fresh_ 12 = .ok (.invokevirtual 1087, 3) := by decide +kernel
theorem dX13_fresh__15 : decode cX13_fresh_ 15 = .ok (.istore_n 3, 1) := by decide +kernel
theorem dX13_fresh__16 : decode cX13_fresh_ 16 = .ok (.iload_n 3, 1) := by decide +kernel
theorem dX13_fresh__17 : decode cX13_fresh_ 17 = .ok (.ifCond .ge 10, 3) := by decide +kernel
theorem dX13_fresh__20 : decode cX13_fresh_ 20 = .ok (.aload_n 0, 1) := by decide +kernel
theorem dX13_fresh__21 : decode cX13_fresh_ 21 = .ok (.bipush 6, 2) := by decide +kernel
theorem dX13_fresh__23 : decode cX13_fresh_ 23 = .ok (.invokevirtual 1093, 3) := by decide +kernel
theorem dX13_fresh__26 : decode cX13_fresh_ 26 = .ok (.return_, 1) := by decide +kernel
theorem dX13_fresh__27 : decode cX13_fresh_ 27 = .ok (.iload_n 1, 1) := by decide +kernel
theorem dX13_fresh__28 : decode cX13_fresh_ 28 = .ok (.sipush 188, 3) := by decide +kernel
theorem dX13_fresh__31 : decode cX13_fresh_ 31 = .ok (.if_icmp .ne 7, 3) := by decide +kernel
theorem dX13_fresh__34 : decode cX13_fresh_ 34 = .ok (.iconst 0, 1) := by decide +kernel
theorem dX13_fresh__35 : decode cX13_fresh_ 35 = .ok (.goto 8, 3) := by decide +kernel
theorem dX13_fresh__38 : decode cX13_fresh_ 38 = .ok (.aload_n 0, 1) := by decide +kernel
theorem dX13_fresh__39 : decode cX13_fresh_ 39 = .ok (.iload_n 2, 1) := by decide +kernel
theorem dX13_fresh__40 : decode cX13_fresh_ 40 = .ok (.invokevirtual 1125, 3) := by decide +kernel
theorem dX13_fresh__43 : decode cX13_fresh_ 43 = .ok (.istore 4, 2) := by decide +kernel
theorem dX13_fresh__45 : decode cX13_fresh_ 45 = .ok (.iload_n 1, 1) := by decide +kernel
theorem dX13_fresh__46 : decode cX13_fresh_ 46 = .ok (.sipush 187, 3) := by decide +kernel
theorem dX13_fresh__49 : decode cX13_fresh_ 49 = .ok (.if_icmp .ne 18, 3) := by decide +kernel
theorem dX13_fresh__52 : decode cX13_fresh_ 52 = .ok (.aload_n 0, 1) := by decide +kernel
theorem dX13_fresh__53 : decode cX13_fresh_ 53 = .ok (.iload 4, 2) := by decide +kernel
theorem dX13_fresh__55 : decode cX13_fresh_ 55 = .ok (.aload_n 0, 1) := by decide +kernel
theorem dX13_fresh__56 : decode cX13_fresh_ 56 = .ok (.iload 4, 2) := by decide +kernel
theorem dX13_fresh__58 : decode cX13_fresh_ 58 = .ok (.invokevirtual 1128, 3) := by decide +kernel
theorem dX13_fresh__61 : decode cX13_fresh_ 61 = .ok (.invokevirtual 1064, 3) := by decide +kernel
theorem dX13_fresh__64 : decode cX13_fresh_ 64 = .ok (.goto 25, 3) := by decide +kernel
theorem dX13_fresh__67 : decode cX13_fresh_ 67 = .ok (.aload_n 0, 1) := by decide +kernel
theorem dX13_fresh__68 : decode cX13_fresh_ 68 = .ok (.iload_n 1, 1) := by decide +kernel
theorem dX13_fresh__69 : decode cX13_fresh_ 69 = .ok (.sipush 188, 3) := by decide +kernel
theorem dX13_fresh__72 : decode cX13_fresh_ 72 = .ok (.if_icmp .ne 8, 3) := by decide +kernel
theorem dX13_fresh__75 : decode cX13_fresh_ 75 = .ok (.bipush 99, 2) := by decide +kernel
theorem dX13_fresh__77 : decode cX13_fresh_ 77 = .ok (.goto 8, 3) := by decide +kernel
theorem dX13_fresh__80 : decode cX13_fresh_ 80 = .ok (.bipush 100, 2) := by decide +kernel
theorem dX13_fresh__82 : decode cX13_fresh_ 82 = .ok (.iload 4, 2) := by decide +kernel
theorem dX13_fresh__84 : decode cX13_fresh_ 84 = .ok (.iadd, 1) := by decide +kernel
theorem dX13_fresh__85 : decode cX13_fresh_ 85 = .ok (.iload_n 3, 1) := by decide +kernel
theorem dX13_fresh__86 : decode cX13_fresh_ 86 = .ok (.invokevirtual 1064, 3) := by decide +kernel
theorem dX13_fresh__89 : decode cX13_fresh_ 89 = .ok (.istore 5, 2) := by decide +kernel
theorem dX13_fresh__91 : decode cX13_fresh_ 91 = .ok (.iload 5, 2) := by decide +kernel
theorem dX13_fresh__93 : decode cX13_fresh_ 93 = .ok (.ifCond .ne 4, 3) := by decide +kernel
theorem dX13_fresh__96 : decode cX13_fresh_ 96 = .ok (.return_, 1) := by decide +kernel
theorem dX13_fresh__97 : decode cX13_fresh_ 97 = .ok (.aload_n 0, 1) := by decide +kernel
theorem dX13_fresh__98 : decode cX13_fresh_ 98 = .ok (.iload 5, 2) := by decide +kernel
theorem dX13_fresh__100 : decode cX13_fresh_ 100 = .ok (.invokevirtual 1072, 3) := by decide +kernel
theorem dX13_fresh__103 : decode cX13_fresh_ 103 = .ok (.aload_n 0, 1) := by decide +kernel
theorem dX13_fresh__104 : decode cX13_fresh_ 104 = .ok (.iconst 2, 1) := by decide +kernel
theorem dX13_fresh__105 : decode cX13_fresh_ 105 = .ok (.invokevirtual 1116, 3) := by decide +kernel
theorem dX13_fresh__108 : decode cX13_fresh_ 108 = .ok (.return_, 1) := by decide +kernel
theorem dX13_is_0 : decode cX13_is 0 = .ok (.aload_n 0, 1) := by decide +kernel
theorem dX13_is_1 : decode cX13_is 1 = .ok (.invokevirtual 1087, 3) := by decide +kernel
theorem dX13_is_4 : decode cX13_is 4 = .ok (.istore_n 3, 1) := by decide +kernel
theorem dX13_is_5 : decode cX13_is 5 = .ok (.iload_n 3, 1) := by decide +kernel
theorem dX13_is_6 : decode cX13_is 6 = .ok (.ifCond .eq 20, 3) := by decide +kernel
theorem dX13_is_9 : decode cX13_is 9 = .ok (.aload_n 0, 1) := by decide +kernel
theorem dX13_is_10 : decode cX13_is 10 = .ok (.iload_n 3, 1) := by decide +kernel
theorem dX13_is_11 : decode cX13_is 11 = .ok (.aload_n 0, 1) := by decide +kernel
theorem dX13_is_12 : decode cX13_is 12 = .ok (.iload_n 2, 1) := by decide +kernel
theorem dX13_is_13 : decode cX13_is 13 = .ok (.invokevirtual 1125, 3) := by decide +kernel
theorem dX13_is_16 : decode cX13_is 16 = .ok (.invokevirtual 1069, 3) := by decide +kernel
theorem dX13_is_19 : decode cX13_is 19 = .ok (.ifCond .eq 7, 3) := by decide +kernel
theorem dX13_is_22 : decode cX13_is 22 = .ok (.iconst 1, 1) := by decide +kernel
theorem dX13_is_23 : decode cX13_is 23 = .ok (.goto 4, 3) := by decide +kernel
theorem dX13_is_26 : decode cX13_is 26 = .ok (.iconst 0, 1) := by decide +kernel
theorem dX13_is_27 : decode cX13_is 27 = .ok (.istore 4, 2) := by decide +kernel
theorem dX13_is_29 : decode cX13_is 29 = .ok (.iload_n 1, 1) := by decide +kernel
theorem dX13_is_30 : decode cX13_is 30 = .ok (.sipush 193, 3) := by decide +kernel
theorem dX13_is_33 : decode cX13_is 33 = .ok (.if_icmp .ne 19, 3) := by decide +kernel
theorem dX13_is_36 : decode cX13_is 36 = .ok (.aload_n 0, 1) := by decide +kernel
theorem dX13_is_37 : decode cX13_is 37 = .ok (.iload 4, 2) := by decide +kernel
theorem dX13_is_39 : decode cX13_is 39 = .ok (.ifCond .eq 7, 3) := by decide +kernel
theorem dX13_is_42 : decode cX13_is 42 = .ok (.iconst 1, 1) := by decide +kernel
theorem dX13_is_43 : decode cX13_is 43 = .ok (.goto 4, 3) := by decide +kernel
theorem dX13_is_46 : decode cX13_is 46 = .ok (.iconst 0, 1) := by decide +kernel
theorem dX13_is_47 : decode cX13_is 47 = .ok (.invokevirtual 1072, 3) := by decide +kernel
theorem dX13_is_50 : decode cX13_is 50 = .ok (.iconst 1, 1) := by decide +kernel
theorem dX13_is_51 : decode cX13_is 51 = .ok (.ireturn, 1) := by decide +kernel
theorem dX13_is_52 : decode cX13_is 52 = .ok (.iload_n 3, 1) := by decide +kernel
theorem dX13_is_53 : decode cX13_is 53 = .ok (.ifCond .eq 15, 3) := by decide +kernel
theorem dX13_is_56 : decode cX13_is 56 = .ok (.iload 4, 2) := by decide +kernel
theorem dX13_is_58 : decode cX13_is 58 = .ok (.ifCond .ne 10, 3) := by decide +kernel
theorem dX13_is_61 : decode cX13_is 61 = .ok (.aload_n 0, 1) := by decide +kernel
theorem dX13_is_62 : decode cX13_is 62 = .ok (.iconst 5, 1) := by decide +kernel
theorem dX13_is_63 : decode cX13_is 63 = .ok (.invokevirtual 1093, 3) := by decide +kernel
theorem dX13_is_66 : decode cX13_is 66 = .ok (.iconst 0, 1) := by decide +kernel
theorem dX13_is_67 : decode cX13_is 67 = .ok (.ireturn, 1) := by decide +kernel
