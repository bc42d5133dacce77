theorem d_L_law_1157 : decode code 1157 = .ok (.iload 4, 2) := by decide +kernel
theorem d_L_law_1159 : decode code 1159 = .ok (.iconst 3, 1) := by decide +kernel
theorem d_L_law_1160 : decode code 1160 = .ok (.iadd, 1) := by decide +kernel
theorem d_L_law_1161 : decode code 1161 = .ok (.iaload, 1) := by decide +kernel
theorem d_L_law_1162 : decode code 1162 = .ok (.invokevirtual 117, 3) := by decide +kernel
theorem d_L_law_1165 : decode code 1165 = .ok (.lstore 6, 2) := by decide +kernel
theorem d_L_law_1167 : decode code 1167 = .ok (.aload_n 2, 1) := by decide +kernel
theorem d_L_law_1168 : decode code 1168 = .ok (.invokevirtual 85, 3) := by decide +kernel
theorem d_L_law_1171 : decode code 1171 = .ok (.iload 5, 2) := by decide +kernel
theorem d_L_law_1173 : decode code 1173 = .ok (.if_icmp .eq 5, 3) := by decide +kernel
theorem d_L_law_1176 : decode code 1176 = .ok (.iconst 0, 1) := by decide +kernel
theorem d_L_law_1177 : decode code 1177 = .ok (.ireturn, 1) := by decide +kernel
theorem d_L_law_1178 : decode code 1178 = .ok (.iload 5, 2) := by decide +kernel
theorem d_L_law_1180 : decode code 1180 = .ok (.ifCond .ne 14, 3) := by decide +kernel
theorem d_L_law_1183 : decode code 1183 = .ok (.aload_n 3, 1) := by decide +kernel
theorem d_L_law_1184 : decode code 1184 = .ok (.iconst 0, 1) := by decide +kernel
theorem d_L_law_1185 : decode code 1185 = .ok (.laload, 1) := by decide +kernel
theorem d_L_law_1186 : decode code 1186 = .ok (.lload 6, 2) := by decide +kernel
theorem d_L_law_1188 : decode code 1188 = .ok (.lcmp, 1) := by decide +kernel
theorem d_L_law_1189 : decode code 1189 = .ok (.ifCond .eq 5, 3) := by decide +kernel
theorem d_L_law_1192 : decode code 1192 = .ok (.iconst 0, 1) := by decide +kernel
theorem d_L_law_1193 : decode code 1193 = .ok (.ireturn, 1) := by decide +kernel
theorem d_L_law_1194 : decode code 1194 = .ok (.goto 405, 3) := by decide +kernel
theorem d_L_law_1197 : decode code 1197 = .ok (.aload_n 1, 1) := by decide +kernel
theorem d_L_law_1198 : decode code 1198 = .ok (.aload_n 0, 1) := by decide +kernel
theorem d_L_law_1199 : decode code 1199 = .ok (.iload 4, 2) := by decide +kernel
theorem d_L_law_1201 : decode code 1201 = .ok (.iconst 1, 1) := by decide +kernel
theorem d_L_law_1202 : decode code 1202 = .ok (.iadd, 1) := by decide +kernel
theorem d_L_law_1203 : decode code 1203 = .ok (.iaload, 1) := by decide +kernel
theorem d_L_law_1204 : decode code 1204 = .ok (.aload_n 0, 1) := by decide +kernel
theorem d_L_law_1205 : decode code 1205 = .ok (.iload 4, 2) := by decide +kernel
theorem d_L_law_1207 : decode code 1207 = .ok (.iconst 2, 1) := by decide +kernel
theorem d_L_law_1208 : decode code 1208 = .ok (.iadd, 1) := by decide +kernel
theorem d_L_law_1209 : decode code 1209 = .ok (.iaload, 1) := by decide +kernel
theorem d_L_law_1210 : decode code 1210 = .ok (.aload_n 0, 1) := by decide +kernel
theorem d_L_law_1211 : decode code 1211 = .ok (.iload 4, 2) := by decide +kernel
theorem d_L_law_1213 : decode code 1213 = .ok (.iconst 3, 1) := by decide +kernel
theorem d_L_law_1214 : decode code 1214 = .ok (.iadd, 1) := by decide +kernel
theorem d_L_law_1215 : decode code 1215 = .ok (.iaload, 1) := by decide +kernel
theorem d_L_law_1216 : decode code 1216 = .ok (.aload_n 0, 1) := by decide +kernel
theorem d_L_law_1217 : decode code 1217 = .ok (.iload 4, 2) := by decide +kernel
theorem d_L_law_1219 : decode code 1219 = .ok (.iconst 4, 1) := by decide +kernel
theorem d_L_law_1220 : decode code 1220 = .ok (.iadd, 1) := by decide +kernel
theorem d_L_law_1221 : decode code 1221 = .ok (.iaload, 1) := by decide +kernel
theorem d_L_law_1222 : decode code 1222 = .ok (.aload_n 3, 1) := by decide +kernel
theorem d_L_law_1223 : decode code 1223 = .ok (.invokestatic 118, 3) := by decide +kernel
theorem d_L_law_1226 : decode code 1226 = .ok (.istore 5, 2) := by decide +kernel
theorem d_L_law_1228 : decode code 1228 = .ok (.aload_n 2, 1) := by decide +kernel
theorem d_L_law_1229 : decode code 1229 = .ok (.aload_n 0, 1) := by decide +kernel
theorem d_L_law_1230 : decode code 1230 = .ok (.iload 4, 2) := by decide +kernel
theorem d_L_law_1232 : decode code 1232 = .ok (.iconst 1, 1) := by decide +kernel
theorem d_L_law_1233 : decode code 1233 = .ok (.iadd, 1) := by decide +kernel
theorem d_L_law_1234 : decode code 1234 = .ok (.iaload, 1) := by decide +kernel
theorem d_L_law_1235 : decode code 1235 = .ok (.aload_n 0, 1) := by decide +kernel
theorem d_L_law_1236 : decode code 1236 = .ok (.iload 4, 2) := by decide +kernel
theorem d_L_law_1238 : decode code 1238 = .ok (.iconst 2, 1) := by decide +kernel
theorem d_L_law_1239 : decode code 1239 = .ok (.iadd, 1) := by decide +kernel
theorem d_L_law_1240 : decode code 1240 = .ok (.iaload, 1) := by decide +kernel
theorem d_L_law_1241 : decode code 1241 = .ok (.aload_n 0, 1) := by decide +kernel
theorem d_L_law_1242 : decode code 1242 = .ok (.iload 4, 2) := by decide +kernel
theorem d_L_law_1244 : decode code 1244 = .ok (.iconst 3, 1) := by decide +kernel
theorem d_L_law_1245 : decode code 1245 = .ok (.iadd, 1) := by decide +kernel
theorem d_L_law_1246 : decode code 1246 = .ok (.iaload, 1) := by decide +kernel
theorem d_L_law_1247 : decode code 1247 = .ok (.aload_n 0, 1) := by decide +kernel
theorem d_L_law_1248 : decode code 1248 = .ok (.iload 4, 2) := by decide +kernel
theorem d_L_law_1250 : decode code 1250 = .ok (.iconst 4, 1) := by decide +kernel
theorem d_L_law_1251 : decode code 1251 = .ok (.iadd, 1) := by decide +kernel
theorem d_L_law_1252 : decode code 1252 = .ok (.iaload, 1) := by decide +kernel
theorem d_L_law_1253 : decode code 1253 = .ok (.invokevirtual 121, 3) := by decide +kernel
theorem d_L_law_1256 : decode code 1256 = .ok (.istore 6, 2) := by decide +kernel
theorem d_L_law_1258 : decode code 1258 = .ok (.aload_n 2, 1) := by decide +kernel
theorem d_L_law_1259 : decode code 1259 = .ok (.invokevirtual 85, 3) := by decide +kernel
theorem d_L_law_1262 : decode code 1262 = .ok (.iload 5, 2) := by decide +kernel
theorem d_L_law_1264 : decode code 1264 = .ok (.if_icmp .eq 5, 3) := by decide +kernel
theorem d_L_law_1267 : decode code 1267 = .ok (.iconst 0, 1) := by decide +kernel
theorem d_L_law_1268 : decode code 1268 = .ok (.ireturn, 1) := by decide +kernel
theorem d_L_law_1269 : decode code 1269 = .ok (.iload 5, 2) := by decide +kernel
theorem d_L_law_1271 : decode code 1271 = .ok (.ifCond .ne 15, 3) := by decide +kernel
theorem d_L_law_1274 : decode code 1274 = .ok (.aload_n 3, 1) := by decide +kernel
theorem d_L_law_1275 : decode code 1275 = .ok (.iconst 0, 1) := by decide +kernel
theorem d_L_law_1276 : decode code 1276 = .ok (.laload, 1) := by decide +kernel
theorem d_L_law_1277 : decode code 1277 = .ok (.iload 6, 2) := by decide +kernel
theorem d_L_law_1279 : decode code 1279 = .ok (.i2l, 1) := by decide +kernel
theorem d_L_law_1280 : decode code 1280 = .ok (.lcmp, 1) := by decide +kernel
theorem d_L_law_1281 : decode code 1281 = .ok (.ifCond .eq 5, 3) := by decide +kernel
theorem d_L_law_1284 : decode code 1284 = .ok (.iconst 0, 1) := by decide +kernel
theorem d_L_law_1285 : decode code 1285 = .ok (.ireturn, 1) := by decide +kernel
theorem d_L_law_1286 : decode code 1286 = .ok (.goto 313, 3) := by decide +kernel
theorem d_L_law_1289 : decode code 1289 = .ok (.aload_n 1, 1) := by decide +kernel
theorem d_L_law_1290 : decode code 1290 = .ok (.aload_n 0, 1) := by decide +kernel
theorem d_L_law_1291 : decode code 1291 = .ok (.iload 4, 2) := by decide +kernel
theorem d_L_law_1293 : decode code 1293 = .ok (.iconst 1, 1) := by decide +kernel
theorem d_L_law_1294 : decode code 1294 = .ok (.iadd, 1) := by decide +kernel
theorem d_L_law_1295 : decode code 1295 = .ok (.iaload, 1) := by decide +kernel
theorem d_L_law_1296 : decode code 1296 = .ok (.aload_n 0, 1) := by decide +kernel
theorem d_L_law_1297 : decode code 1297 = .ok (.iload 4, 2) := by decide +kernel
theorem d_L_law_1299 : decode code 1299 = .ok (.iconst 2, 1) := by decide +kernel
theorem d_L_law_1300 : decode code 1300 = .ok (.iadd, 1) := by decide +kernel
theorem d_L_law_1301 : decode code 1301 = .ok (.iaload, 1) := by decide +kernel
theorem d_L_law_1302 : decode code 1302 = .ok (.aload_n 0, 1) := by decide +kernel
theorem d_L_law_1303 : decode code 1303 = .ok (.iload 4, 2) := by decide +kernel
theorem d_L_law_1305 : decode code 1305 = .ok (.iconst 3, 1) := by decide +kernel
theorem d_L_law_1306 : decode code 1306 = .ok (.iadd, 1) := by decide +kernel
theorem d_L_law_1307 : decode code 1307 = .ok (.iaload, 1) := by decide +kernel
theorem d_L_law_1308 : decode code 1308 = .ok (.aload_n 0, 1) := by decide +kernel
theorem d_L_law_1309 : decode code 1309 = .ok (.iload 4, 2) := by decide +kernel
theorem d_L_law_1311 : decode code 1311 = .ok (.iconst 4, 1) := by decide +kernel
theorem d_L_law_1312 : decode code 1312 = .ok (.iadd, 1) := by decide +kernel
theorem d_L_law_1313 : decode code 1313 = .ok (.iaload, 1) := by decide +kernel
theorem d_L_law_1314 : decode code 1314 = .ok (.aload_n 3, 1) := by decide +kernel
theorem d_L_law_1315 : decode code 1315 = .ok (.invokestatic 122, 3) := by decide +kernel
theorem d_L_law_1318 : decode code 1318 = .ok (.istore 5, 2) := by decide +kernel
theorem d_L_law_1320 : decode code 1320 = .ok (.aload_n 2, 1) := by decide +kernel
theorem d_L_law_1321 : decode code 1321 = .ok (.aload_n 0, 1) := by decide +kernel
theorem d_L_law_1322 : decode code 1322 = .ok (.iload 4, 2) := by decide +kernel
theorem d_L_law_1324 : decode code 1324 = .ok (.iconst 1, 1) := by decide +kernel
theorem d_L_law_1325 : decode code 1325 = .ok (.iadd, 1) := by decide +kernel
theorem d_L_law_1326 : decode code 1326 = .ok (.iaload, 1) := by decide +kernel
theorem d_L_law_1327 : decode code 1327 = .ok (.aload_n 0, 1) := by decide +kernel
theorem d_L_law_1328 : decode code 1328 = .ok (.iload 4, 2) := by decide +kernel
theorem d_L_law_1330 : decode code 1330 = .ok (.iconst 2, 1) := by decide +kernel
theorem d_L_law_1331 : decode code 1331 = .ok (.iadd, 1) := by decide +kernel
theorem d_L_law_1332 : decode code 1332 = .ok (.iaload, 1) := by decide +kernel
theorem d_L_law_1333 : decode code 1333 = .ok (.aload_n 0, 1) := by decide +kernel
theorem d_L_law_1334 : decode code 1334 = .ok (.iload 4, 2) := by decide +kernel
theorem d_L_law_1336 : decode code 1336 = .ok (.iconst 3, 1) := by decide +kernel
theorem d_L_law_1337 : decode code 1337 = .ok (.iadd, 1) := by decide +kernel
theorem d_L_law_1338 : decode code 1338 = .ok (.iaload, 1) := by decide +kernel
theorem d_L_law_1339 : decode code 1339 = .ok (.aload_n 0, 1) := by decide +kernel
theorem d_L_law_1340 : decode code 1340 = .ok (.iload 4, 2) := by decide +kernel
theorem d_L_law_1342 : decode code 1342 = .ok (.iconst 4, 1) := by decide +kernel
theorem d_L_law_1343 : decode code 1343 = .ok (.iadd, 1) := by decide +kernel
theorem d_L_law_1344 : decode code 1344 = .ok (.iaload, 1) := by decide +kernel
theorem d_L_law_1345 : decode code 1345 = .ok (.invokevirtual 124, 3) := by decide +kernel
theorem d_L_law_1348 : decode code 1348 = .ok (.istore 6, 2) := by decide +kernel
theorem d_L_law_1350 : decode code 1350 = .ok (.aload_n 2, 1) := by decide +kernel
theorem d_L_law_1351 : decode code 1351 = .ok (.invokevirtual 85, 3) := by decide +kernel
theorem d_L_law_1354 : decode code 1354 = .ok (.iload 5, 2) := by decide +kernel
theorem d_L_law_1356 : decode code 1356 = .ok (.if_icmp .eq 5, 3) := by decide +kernel
theorem d_L_law_1359 : decode code 1359 = .ok (.iconst 0, 1) := by decide +kernel
theorem d_L_law_1360 : decode code 1360 = .ok (.ireturn, 1) := by decide +kernel
theorem d_L_law_1361 : decode code 1361 = .ok (.iload 5, 2) := by decide +kernel
theorem d_L_law_1363 : decode code 1363 = .ok (.ifCond .ne 15, 3) := by decide +kernel
theorem d_L_law_1366 : decode code 1366 = .ok (.aload_n 3, 1) := by decide +kernel
theorem d_L_law_1367 : decode code 1367 = .ok (.iconst 0, 1) := by decide +kernel
theorem d_L_law_1368 : decode code 1368 = .ok (.laload, 1) := by decide +kernel
theorem d_L_law_1369 : decode code 1369 = .ok (.iload 6, 2) := by decide +kernel
theorem d_L_law_1371 : decode code 1371 = .ok (.i2l, 1) := by decide +kernel
theorem d_L_law_1372 : decode code 1372 = .ok (.lcmp, 1) := by decide +kernel
theorem d_L_law_1373 : decode code 1373 = .ok (.ifCond .eq 5, 3) := by decide +kernel
