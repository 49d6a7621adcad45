theorem dK_1193 : decode code 1193 = .ok (.ireturn, 1) := by decide +kernel
theorem dK_1194 : decode code 1194 = .ok (.goto 164, 3) := by decide +kernel
theorem dK_1197 : decode code 1197 = .ok (.aload_n 1, 1) := by decide +kernel
theorem dK_1198 : decode code 1198 = .ok (.invokevirtual 146, 3) := by decide +kernel
theorem dK_1201 : decode code 1201 = .ok (.aload_n 2, 1) := by decide +kernel
theorem dK_1202 : decode code 1202 = .ok (.invokevirtual 149, 3) := by decide +kernel
theorem dK_1205 : decode code 1205 = .ok (.if_icmp .eq 153, 3) := by decide +kernel
theorem dK_1208 : decode code 1208 = .ok (.iconst 0, 1) := by decide +kernel
theorem dK_1209 : decode code 1209 = .ok (.ireturn, 1) := by decide +kernel
theorem dK_1210 : decode code 1210 = .ok (.aload_n 1, 1) := by decide +kernel
theorem dK_1211 : decode code 1211 = .ok (.aload_n 0, 1) := by decide +kernel
theorem dK_1212 : decode code 1212 = .ok (.iload 4, 2) := by decide +kernel
theorem dK_1214 : decode code 1214 = .ok (.iconst 1, 1) := by decide +kernel
theorem dK_1215 : decode code 1215 = .ok (.iadd, 1) := by decide +kernel
theorem dK_1216 : decode code 1216 = .ok (.iaload, 1) := by decide +kernel
theorem dK_1217 : decode code 1217 = .ok (.aload_n 0, 1) := by decide +kernel
theorem dK_1218 : decode code 1218 = .ok (.iload 4, 2) := by decide +kernel
theorem dK_1220 : decode code 1220 = .ok (.iconst 2, 1) := by decide +kernel
theorem dK_1221 : decode code 1221 = .ok (.iadd, 1) := by decide +kernel
theorem dK_1222 : decode code 1222 = .ok (.iaload, 1) := by decide +kernel
theorem dK_1223 : decode code 1223 = .ok (.aload_n 3, 1) := by decide +kernel
theorem dK_1224 : decode code 1224 = .ok (.invokestatic 150, 3) := by decide +kernel
theorem dK_1227 : decode code 1227 = .ok (.istore 5, 2) := by decide +kernel
theorem dK_1229 : decode code 1229 = .ok (.aload_n 2, 1) := by decide +kernel
theorem dK_1230 : decode code 1230 = .ok (.aload_n 0, 1) := by decide +kernel
theorem dK_1231 : decode code 1231 = .ok (.iload 4, 2) := by decide +kernel
theorem dK_1233 : decode code 1233 = .ok (.iconst 1, 1) := by decide +kernel
theorem dK_1234 : decode code 1234 = .ok (.iadd, 1) := by decide +kernel
theorem dK_1235 : decode code 1235 = .ok (.iaload, 1) := by decide +kernel
theorem dK_1236 : decode code 1236 = .ok (.aload_n 0, 1) := by decide +kernel
theorem dK_1237 : decode code 1237 = .ok (.iload 4, 2) := by decide +kernel
theorem dK_1239 : decode code 1239 = .ok (.iconst 2, 1) := by decide +kernel
theorem dK_1240 : decode code 1240 = .ok (.iadd, 1) := by decide +kernel
theorem dK_1241 : decode code 1241 = .ok (.iaload, 1) := by decide +kernel
theorem dK_1242 : decode code 1242 = .ok (.invokevirtual 152, 3) := by decide +kernel
theorem dK_1245 : decode code 1245 = .ok (.lstore 6, 2) := by decide +kernel
theorem dK_1247 : decode code 1247 = .ok (.aload_n 2, 1) := by decide +kernel
theorem dK_1248 : decode code 1248 = .ok (.invokevirtual 90, 3) := by decide +kernel
theorem dK_1251 : decode code 1251 = .ok (.iload 5, 2) := by decide +kernel
theorem dK_1253 : decode code 1253 = .ok (.if_icmp .eq 5, 3) := by decide +kernel
theorem dK_1256 : decode code 1256 = .ok (.iconst 0, 1) := by decide +kernel
theorem dK_1257 : decode code 1257 = .ok (.ireturn, 1) := by decide +kernel
theorem dK_1258 : decode code 1258 = .ok (.iload 5, 2) := by decide +kernel
theorem dK_1260 : decode code 1260 = .ok (.ifCond .ne 14, 3) := by decide +kernel
theorem dK_1263 : decode code 1263 = .ok (.aload_n 3, 1) := by decide +kernel
theorem dK_1264 : decode code 1264 = .ok (.iconst 0, 1) := by decide +kernel
theorem dK_1265 : decode code 1265 = .ok (.laload, 1) := by decide +kernel
theorem dK_1266 : decode code 1266 = .ok (.lload 6, 2) := by decide +kernel
theorem dK_1268 : decode code 1268 = .ok (.lcmp, 1) := by decide +kernel
theorem dK_1269 : decode code 1269 = .ok (.ifCond .eq 5, 3) := by decide +kernel
theorem dK_1272 : decode code 1272 = .ok (.iconst 0, 1) := by decide +kernel
theorem dK_1273 : decode code 1273 = .ok (.ireturn, 1) := by decide +kernel
theorem dK_1274 : decode code 1274 = .ok (.goto 84, 3) := by decide +kernel
theorem dK_1277 : decode code 1277 = .ok (.aload_n 1, 1) := by decide +kernel
theorem dK_1278 : decode code 1278 = .ok (.aload_n 0, 1) := by decide +kernel
theorem dK_1279 : decode code 1279 = .ok (.iload 4, 2) := by decide +kernel
theorem dK_1281 : decode code 1281 = .ok (.iconst 1, 1) := by decide +kernel
theorem dK_1282 : decode code 1282 = .ok (.iadd, 1) := by decide +kernel
theorem dK_1283 : decode code 1283 = .ok (.iaload, 1) := by decide +kernel
theorem dK_1284 : decode code 1284 = .ok (.aload_n 3, 1) := by decide +kernel
theorem dK_1285 : decode code 1285 = .ok (.invokestatic 153, 3) := by decide +kernel
theorem dK_1288 : decode code 1288 = .ok (.istore 5, 2) := by decide +kernel
theorem dK_1290 : decode code 1290 = .ok (.aload_n 2, 1) := by decide +kernel
theorem dK_1291 : decode code 1291 = .ok (.aload_n 0, 1) := by decide +kernel
theorem dK_1292 : decode code 1292 = .ok (.iload 4, 2) := by decide +kernel
theorem dK_1294 : decode code 1294 = .ok (.iconst 1, 1) := by decide +kernel
theorem dK_1295 : decode code 1295 = .ok (.iadd, 1) := by decide +kernel
theorem dK_1296 : decode code 1296 = .ok (.iaload, 1) := by decide +kernel
theorem dK_1297 : decode code 1297 = .ok (.invokevirtual 155, 3) := by decide +kernel
theorem dK_1300 : decode code 1300 = .ok (.istore 6, 2) := by decide +kernel
theorem dK_1302 : decode code 1302 = .ok (.aload_n 2, 1) := by decide +kernel
theorem dK_1303 : decode code 1303 = .ok (.invokevirtual 90, 3) := by decide +kernel
theorem dK_1306 : decode code 1306 = .ok (.iload 5, 2) := by decide +kernel
theorem dK_1308 : decode code 1308 = .ok (.if_icmp .eq 5, 3) := by decide +kernel
theorem dK_1311 : decode code 1311 = .ok (.iconst 0, 1) := by decide +kernel
theorem dK_1312 : decode code 1312 = .ok (.ireturn, 1) := by decide +kernel
theorem dK_1313 : decode code 1313 = .ok (.iload 5, 2) := by decide +kernel
theorem dK_1315 : decode code 1315 = .ok (.ifCond .ne 15, 3) := by decide +kernel
theorem dK_1318 : decode code 1318 = .ok (.aload_n 3, 1) := by decide +kernel
theorem dK_1319 : decode code 1319 = .ok (.iconst 0, 1) := by decide +kernel
theorem dK_1320 : decode code 1320 = .ok (.laload, 1) := by decide +kernel
theorem dK_1321 : decode code 1321 = .ok (.iload 6, 2) := by decide +kernel
theorem dK_1323 : decode code 1323 = .ok (.i2l, 1) := by decide +kernel
theorem dK_1324 : decode code 1324 = .ok (.lcmp, 1) := by decide +kernel
theorem dK_1325 : decode code 1325 = .ok (.ifCond .eq 5, 3) := by decide +kernel
theorem dK_1328 : decode code 1328 = .ok (.iconst 0, 1) := by decide +kernel
theorem dK_1329 : decode code 1329 = .ok (.ireturn, 1) := by decide +kernel
theorem dK_1330 : decode code 1330 = .ok (.goto 28, 3) := by decide +kernel
theorem dK_1333 : decode code 1333 = .ok (.aload_n 1, 1) := by decide +kernel
theorem dK_1334 : decode code 1334 = .ok (.aload_n 0, 1) := by decide +kernel
theorem dK_1335 : decode code 1335 = .ok (.iload 4, 2) := by decide +kernel
theorem dK_1337 : decode code 1337 = .ok (.iconst 1, 1) := by decide +kernel
theorem dK_1338 : decode code 1338 = .ok (.iadd, 1) := by decide +kernel
theorem dK_1339 : decode code 1339 = .ok (.iaload, 1) := by decide +kernel
theorem dK_1340 : decode code 1340 = .ok (.invokevirtual 156, 3) := by decide +kernel
theorem dK_1343 : decode code 1343 = .ok (.aload_n 2, 1) := by decide +kernel
theorem dK_1344 : decode code 1344 = .ok (.aload_n 0, 1) := by decide +kernel
theorem dK_1345 : decode code 1345 = .ok (.iload 4, 2) := by decide +kernel
theorem dK_1347 : decode code 1347 = .ok (.iconst 1, 1) := by decide +kernel
theorem dK_1348 : decode code 1348 = .ok (.iadd, 1) := by decide +kernel
theorem dK_1349 : decode code 1349 = .ok (.iaload, 1) := by decide +kernel
theorem dK_1350 : decode code 1350 = .ok (.invokevirtual 159, 3) := by decide +kernel
theorem dK_1353 : decode code 1353 = .ok (.if_icmp .eq 5, 3) := by decide +kernel
theorem dK_1356 : decode code 1356 = .ok (.iconst 0, 1) := by decide +kernel
theorem dK_1357 : decode code 1357 = .ok (.ireturn, 1) := by decide +kernel
theorem dK_1358 : decode code 1358 = .ok (.iinc 4 7, 3) := by decide +kernel
theorem dK_1361 : decode code 1361 = .ok (.goto (-1328), 3) := by decide +kernel
theorem dK_1364 : decode code 1364 = .ok (.iconst 1, 1) := by decide +kernel
theorem dK_1365 : decode code 1365 = .ok (.ireturn, 1) := by decide +kernel
