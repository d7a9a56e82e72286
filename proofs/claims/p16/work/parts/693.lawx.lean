/-! A CASE WALKED BY HAND: THE TEXT'S BYTES COME -/
def T0_1434 : List Tok := []
def T0_1433 : List Tok := (.ireturn, 1, 0, 0) :: T0_1434
def T0_1432 : List Tok := (.iconst 1, 1, 0, 0) :: T0_1433
def T0_1431 : List Tok := (.goto (-1975), 3, 0, 0) :: T0_1432
def T0_1430 : List Tok := (.iinc 3 6, 3, 0, 0) :: T0_1431
def T0_1429 : List Tok := (.goto 3, 3, 0, 0) :: T0_1430
def T0_1428 : List Tok := (.pop, 1, 0, 0) :: T0_1429
def T0_1427 : List Tok := (.invokevirtual 216, 3, 296, 1938) :: T0_1428
def T0_1426 : List Tok := (.aload_n 2, 1, 0, 0) :: T0_1427
def T0_1425 : List Tok := (.pop, 1, 0, 0) :: T0_1426
def T0_1424 : List Tok := (.invokevirtual 213, 3, 170, 1335) :: T0_1425
def T0_1423 : List Tok := (.aload_n 1, 1, 0, 0) :: T0_1424
def T0_1422 : List Tok := (.goto 16, 3, 0, 0) :: T0_1423
def T0_1421 : List Tok := (.pop, 1, 0, 0) :: T0_1422
def T0_1420 : List Tok := (.invokevirtual 212, 3, 295, 1934) :: T0_1421
def T0_1419 : List Tok := (.aload_n 2, 1, 0, 0) :: T0_1420
def T0_1418 : List Tok := (.pop, 1, 0, 0) :: T0_1419
def T0_1417 : List Tok := (.invokevirtual 209, 3, 169, 1307) :: T0_1418
def T0_1416 : List Tok := (.aload_n 1, 1, 0, 0) :: T0_1417
def T0_1415 : List Tok := (.goto 29, 3, 0, 0) :: T0_1416
def T0_1414 : List Tok := (.pop, 1, 0, 0) :: T0_1415
def T0_1413 : List Tok := (.invokevirtual 208, 3, 294, 1926) :: T0_1414
def T0_1412 : List Tok := (.iaload, 1, 0, 0) :: T0_1413
def T0_1411 : List Tok := (.iadd, 1, 0, 0) :: T0_1412
def T0_1410 : List Tok := (.iconst 1, 1, 0, 0) :: T0_1411
def T0_1409 : List Tok := (.iload_n 3, 1, 0, 0) :: T0_1410
def T0_1408 : List Tok := (.aload_n 0, 1, 0, 0) :: T0_1409
def T0_1407 : List Tok := (.aload_n 2, 1, 0, 0) :: T0_1408
def T0_1406 : List Tok := (.pop, 1, 0, 0) :: T0_1407
def T0_1405 : List Tok := (.invokevirtual 205, 3, 168, 1295) :: T0_1406
def T0_1404 : List Tok := (.iaload, 1, 0, 0) :: T0_1405
def T0_1403 : List Tok := (.iadd, 1, 0, 0) :: T0_1404
def T0_1402 : List Tok := (.iconst 1, 1, 0, 0) :: T0_1403
def T0_1401 : List Tok := (.iload_n 3, 1, 0, 0) :: T0_1402
def T0_1400 : List Tok := (.aload_n 0, 1, 0, 0) :: T0_1401
def T0_1399 : List Tok := (.aload_n 1, 1, 0, 0) :: T0_1400
def T0_1398 : List Tok := (.goto 52, 3, 0, 0) :: T0_1399
def T0_1397 : List Tok := (.pop, 1, 0, 0) :: T0_1398
def T0_1396 : List Tok := (.invokevirtual 204, 3, 292, 1922) :: T0_1397
def T0_1395 : List Tok := (.iaload, 1, 0, 0) :: T0_1396
def T0_1394 : List Tok := (.iadd, 1, 0, 0) :: T0_1395
def T0_1393 : List Tok := (.iconst 1, 1, 0, 0) :: T0_1394
def T0_1392 : List Tok := (.iload_n 3, 1, 0, 0) :: T0_1393
def T0_1391 : List Tok := (.aload_n 0, 1, 0, 0) :: T0_1392
def T0_1390 : List Tok := (.aload_n 2, 1, 0, 0) :: T0_1391
def T0_1389 : List Tok := (.pop, 1, 0, 0) :: T0_1390
def T0_1388 : List Tok := (.invokevirtual 201, 3, 167, 1287) :: T0_1389
def T0_1387 : List Tok := (.iaload, 1, 0, 0) :: T0_1388
def T0_1386 : List Tok := (.iadd, 1, 0, 0) :: T0_1387
def T0_1385 : List Tok := (.iconst 1, 1, 0, 0) :: T0_1386
def T0_1384 : List Tok := (.iload_n 3, 1, 0, 0) :: T0_1385
def T0_1383 : List Tok := (.aload_n 0, 1, 0, 0) :: T0_1384
def T0_1382 : List Tok := (.aload_n 1, 1, 0, 0) :: T0_1383
def T0_1381 : List Tok := (.goto 75, 3, 0, 0) :: T0_1382
def T0_1380 : List Tok := (.pop, 1, 0, 0) :: T0_1381
def T0_1379 : List Tok := (.invokevirtual 200, 3, 291, 1878) :: T0_1380
def T0_1378 : List Tok := (.iaload, 1, 0, 0) :: T0_1379
def T0_1377 : List Tok := (.iadd, 1, 0, 0) :: T0_1378
def T0_1376 : List Tok := (.iconst 3, 1, 0, 0) :: T0_1377
def T0_1375 : List Tok := (.iload_n 3, 1, 0, 0) :: T0_1376
def T0_1374 : List Tok := (.aload_n 0, 1, 0, 0) :: T0_1375
def T0_1373 : List Tok := (.iaload, 1, 0, 0) :: T0_1374
def T0_1372 : List Tok := (.iadd, 1, 0, 0) :: T0_1373
def T0_1371 : List Tok := (.iconst 2, 1, 0, 0) :: T0_1372
def T0_1370 : List Tok := (.iload_n 3, 1, 0, 0) :: T0_1371
def T0_1369 : List Tok := (.aload_n 0, 1, 0, 0) :: T0_1370
def T0_1368 : List Tok := (.iaload, 1, 0, 0) :: T0_1369
def T0_1367 : List Tok := (.iadd, 1, 0, 0) :: T0_1368
def T0_1366 : List Tok := (.iconst 1, 1, 0, 0) :: T0_1367
def T0_1365 : List Tok := (.iload_n 3, 1, 0, 0) :: T0_1366
def T0_1364 : List Tok := (.aload_n 0, 1, 0, 0) :: T0_1365
def T0_1363 : List Tok := (.aload_n 2, 1, 0, 0) :: T0_1364
def T0_1362 : List Tok := (.pop, 1, 0, 0) :: T0_1363
def T0_1361 : List Tok := (.invokevirtual 197, 3, 166, 1247) :: T0_1362
def T0_1360 : List Tok := (.iaload, 1, 0, 0) :: T0_1361
def T0_1359 : List Tok := (.iadd, 1, 0, 0) :: T0_1360
def T0_1358 : List Tok := (.iconst 3, 1, 0, 0) :: T0_1359
def T0_1357 : List Tok := (.iload_n 3, 1, 0, 0) :: T0_1358
def T0_1356 : List Tok := (.aload_n 0, 1, 0, 0) :: T0_1357
def T0_1355 : List Tok := (.iaload, 1, 0, 0) :: T0_1356
def T0_1354 : List Tok := (.iadd, 1, 0, 0) :: T0_1355
def T0_1353 : List Tok := (.iconst 2, 1, 0, 0) :: T0_1354
def T0_1352 : List Tok := (.iload_n 3, 1, 0, 0) :: T0_1353
def T0_1351 : List Tok := (.aload_n 0, 1, 0, 0) :: T0_1352
def T0_1350 : List Tok := (.iaload, 1, 0, 0) :: T0_1351
def T0_1349 : List Tok := (.iadd, 1, 0, 0) :: T0_1350
def T0_1348 : List Tok := (.iconst 1, 1, 0, 0) :: T0_1349
def T0_1347 : List Tok := (.iload_n 3, 1, 0, 0) :: T0_1348
def T0_1346 : List Tok := (.aload_n 0, 1, 0, 0) :: T0_1347
def T0_1345 : List Tok := (.aload_n 1, 1, 0, 0) :: T0_1346
def T0_1344 : List Tok := (.goto 118, 3, 0, 0) :: T0_1345
def T0_1343 : List Tok := (.pop, 1, 0, 0) :: T0_1344
def T0_1342 : List Tok := (.invokevirtual 196, 3, 280, 1866) :: T0_1343
def T0_1341 : List Tok := (.iaload, 1, 0, 0) :: T0_1342
def T0_1340 : List Tok := (.iadd, 1, 0, 0) :: T0_1341
def T0_1339 : List Tok := (.iconst 2, 1, 0, 0) :: T0_1340
def T0_1338 : List Tok := (.iload_n 3, 1, 0, 0) :: T0_1339
def T0_1337 : List Tok := (.aload_n 0, 1, 0, 0) :: T0_1338
def T0_1336 : List Tok := (.iaload, 1, 0, 0) :: T0_1337
def T0_1335 : List Tok := (.iadd, 1, 0, 0) :: T0_1336
def T0_1334 : List Tok := (.iconst 1, 1, 0, 0) :: T0_1335
def T0_1333 : List Tok := (.iload_n 3, 1, 0, 0) :: T0_1334
def T0_1332 : List Tok := (.aload_n 0, 1, 0, 0) :: T0_1333
def T0_1331 : List Tok := (.aload_n 2, 1, 0, 0) :: T0_1332
def T0_1330 : List Tok := (.pop, 1, 0, 0) :: T0_1331
def T0_1329 : List Tok := (.invokevirtual 193, 3, 165, 1227) :: T0_1330
def T0_1328 : List Tok := (.iaload, 1, 0, 0) :: T0_1329
def T0_1327 : List Tok := (.iadd, 1, 0, 0) :: T0_1328
def T0_1326 : List Tok := (.iconst 2, 1, 0, 0) :: T0_1327
def T0_1325 : List Tok := (.iload_n 3, 1, 0, 0) :: T0_1326
def T0_1324 : List Tok := (.aload_n 0, 1, 0, 0) :: T0_1325
def T0_1323 : List Tok := (.iaload, 1, 0, 0) :: T0_1324
def T0_1322 : List Tok := (.iadd, 1, 0, 0) :: T0_1323
def T0_1321 : List Tok := (.iconst 1, 1, 0, 0) :: T0_1322
def T0_1320 : List Tok := (.iload_n 3, 1, 0, 0) :: T0_1321
def T0_1319 : List Tok := (.aload_n 0, 1, 0, 0) :: T0_1320
def T0_1318 : List Tok := (.aload_n 1, 1, 0, 0) :: T0_1319
def T0_1317 : List Tok := (.goto 151, 3, 0, 0) :: T0_1318
def T0_1316 : List Tok := (.pop, 1, 0, 0) :: T0_1317
def T0_1315 : List Tok := (.invokevirtual 192, 3, 277, 1862) :: T0_1316
def T0_1314 : List Tok := (.iaload, 1, 0, 0) :: T0_1315
def T0_1313 : List Tok := (.iadd, 1, 0, 0) :: T0_1314
def T0_1312 : List Tok := (.iconst 3, 1, 0, 0) :: T0_1313
def T0_1311 : List Tok := (.iload_n 3, 1, 0, 0) :: T0_1312
def T0_1310 : List Tok := (.aload_n 0, 1, 0, 0) :: T0_1311
def T0_1309 : List Tok := (.iaload, 1, 0, 0) :: T0_1310
def T0_1308 : List Tok := (.iadd, 1, 0, 0) :: T0_1309
def T0_1307 : List Tok := (.iconst 2, 1, 0, 0) :: T0_1308
def T0_1306 : List Tok := (.iload_n 3, 1, 0, 0) :: T0_1307
def T0_1305 : List Tok := (.aload_n 0, 1, 0, 0) :: T0_1306
def T0_1304 : List Tok := (.iaload, 1, 0, 0) :: T0_1305
def T0_1303 : List Tok := (.iadd, 1, 0, 0) :: T0_1304
def T0_1302 : List Tok := (.iconst 1, 1, 0, 0) :: T0_1303
def T0_1301 : List Tok := (.iload_n 3, 1, 0, 0) :: T0_1302
def T0_1300 : List Tok := (.aload_n 0, 1, 0, 0) :: T0_1301
def T0_1299 : List Tok := (.aload_n 2, 1, 0, 0) :: T0_1300
def T0_1298 : List Tok := (.pop, 1, 0, 0) :: T0_1299
def T0_1297 : List Tok := (.invokevirtual 189, 3, 164, 1212) :: T0_1298
def T0_1296 : List Tok := (.iaload, 1, 0, 0) :: T0_1297
def T0_1295 : List Tok := (.iadd, 1, 0, 0) :: T0_1296
def T0_1294 : List Tok := (.iconst 3, 1, 0, 0) :: T0_1295
def T0_1293 : List Tok := (.iload_n 3, 1, 0, 0) :: T0_1294
def T0_1292 : List Tok := (.aload_n 0, 1, 0, 0) :: T0_1293
def T0_1291 : List Tok := (.iaload, 1, 0, 0) :: T0_1292
def T0_1290 : List Tok := (.iadd, 1, 0, 0) :: T0_1291
def T0_1289 : List Tok := (.iconst 2, 1, 0, 0) :: T0_1290
def T0_1288 : List Tok := (.iload_n 3, 1, 0, 0) :: T0_1289
def T0_1287 : List Tok := (.aload_n 0, 1, 0, 0) :: T0_1288
def T0_1286 : List Tok := (.iaload, 1, 0, 0) :: T0_1287
def T0_1285 : List Tok := (.iadd, 1, 0, 0) :: T0_1286
def T0_1284 : List Tok := (.iconst 1, 1, 0, 0) :: T0_1285
def T0_1283 : List Tok := (.iload_n 3, 1, 0, 0) :: T0_1284
def T0_1282 : List Tok := (.aload_n 0, 1, 0, 0) :: T0_1283
def T0_1281 : List Tok := (.aload_n 1, 1, 0, 0) :: T0_1282
def T0_1280 : List Tok := (.goto 194, 3, 0, 0) :: T0_1281
def T0_1279 : List Tok := (.pop, 1, 0, 0) :: T0_1280
def T0_1278 : List Tok := (.invokevirtual 188, 3, 276, 1856) :: T0_1279
def T0_1277 : List Tok := (.iaload, 1, 0, 0) :: T0_1278
def T0_1276 : List Tok := (.iadd, 1, 0, 0) :: T0_1277
def T0_1275 : List Tok := (.iconst 3, 1, 0, 0) :: T0_1276
def T0_1274 : List Tok := (.iload_n 3, 1, 0, 0) :: T0_1275
def T0_1273 : List Tok := (.aload_n 0, 1, 0, 0) :: T0_1274
def T0_1272 : List Tok := (.iaload, 1, 0, 0) :: T0_1273
def T0_1271 : List Tok := (.iadd, 1, 0, 0) :: T0_1272
def T0_1270 : List Tok := (.iconst 2, 1, 0, 0) :: T0_1271
def T0_1269 : List Tok := (.iload_n 3, 1, 0, 0) :: T0_1270
def T0_1268 : List Tok := (.aload_n 0, 1, 0, 0) :: T0_1269
def T0_1267 : List Tok := (.iaload, 1, 0, 0) :: T0_1268
def T0_1266 : List Tok := (.iadd, 1, 0, 0) :: T0_1267
def T0_1265 : List Tok := (.iconst 1, 1, 0, 0) :: T0_1266
def T0_1264 : List Tok := (.iload_n 3, 1, 0, 0) :: T0_1265
def T0_1263 : List Tok := (.aload_n 0, 1, 0, 0) :: T0_1264
def T0_1262 : List Tok := (.aload_n 2, 1, 0, 0) :: T0_1263
def T0_1261 : List Tok := (.pop, 1, 0, 0) :: T0_1262
def T0_1260 : List Tok := (.invokevirtual 185, 3, 163, 1194) :: T0_1261
def T0_1259 : List Tok := (.iaload, 1, 0, 0) :: T0_1260
def T0_1258 : List Tok := (.iadd, 1, 0, 0) :: T0_1259
def T0_1257 : List Tok := (.iconst 3, 1, 0, 0) :: T0_1258
def T0_1256 : List Tok := (.iload_n 3, 1, 0, 0) :: T0_1257
def T0_1255 : List Tok := (.aload_n 0, 1, 0, 0) :: T0_1256
def T0_1254 : List Tok := (.iaload, 1, 0, 0) :: T0_1255
def T0_1253 : List Tok := (.iadd, 1, 0, 0) :: T0_1254
def T0_1252 : List Tok := (.iconst 2, 1, 0, 0) :: T0_1253
def T0_1251 : List Tok := (.iload_n 3, 1, 0, 0) :: T0_1252
def T0_1250 : List Tok := (.aload_n 0, 1, 0, 0) :: T0_1251
def T0_1249 : List Tok := (.iaload, 1, 0, 0) :: T0_1250
def T0_1248 : List Tok := (.iadd, 1, 0, 0) :: T0_1249
def T0_1247 : List Tok := (.iconst 1, 1, 0, 0) :: T0_1248
def T0_1246 : List Tok := (.iload_n 3, 1, 0, 0) :: T0_1247
def T0_1245 : List Tok := (.aload_n 0, 1, 0, 0) :: T0_1246
def T0_1244 : List Tok := (.aload_n 1, 1, 0, 0) :: T0_1245
def T0_1243 : List Tok := (.goto 237, 3, 0, 0) :: T0_1244
def T0_1242 : List Tok := (.pop, 1, 0, 0) :: T0_1243
def T0_1241 : List Tok := (.invokevirtual 184, 3, 275, 1852) :: T0_1242
def T0_1240 : List Tok := (.iaload, 1, 0, 0) :: T0_1241
def T0_1239 : List Tok := (.iadd, 1, 0, 0) :: T0_1240
def T0_1238 : List Tok := (.iconst 3, 1, 0, 0) :: T0_1239
def T0_1237 : List Tok := (.iload_n 3, 1, 0, 0) :: T0_1238
def T0_1236 : List Tok := (.aload_n 0, 1, 0, 0) :: T0_1237
def T0_1235 : List Tok := (.iaload, 1, 0, 0) :: T0_1236
def T0_1234 : List Tok := (.iadd, 1, 0, 0) :: T0_1235
def T0_1233 : List Tok := (.iconst 2, 1, 0, 0) :: T0_1234
def T0_1232 : List Tok := (.iload_n 3, 1, 0, 0) :: T0_1233
def T0_1231 : List Tok := (.aload_n 0, 1, 0, 0) :: T0_1232
def T0_1230 : List Tok := (.iaload, 1, 0, 0) :: T0_1231
def T0_1229 : List Tok := (.iadd, 1, 0, 0) :: T0_1230
def T0_1228 : List Tok := (.iconst 1, 1, 0, 0) :: T0_1229
def T0_1227 : List Tok := (.iload_n 3, 1, 0, 0) :: T0_1228
def T0_1226 : List Tok := (.aload_n 0, 1, 0, 0) :: T0_1227
def T0_1225 : List Tok := (.aload_n 2, 1, 0, 0) :: T0_1226
def T0_1224 : List Tok := (.pop, 1, 0, 0) :: T0_1225
def T0_1223 : List Tok := (.invokevirtual 181, 3, 162, 1186) :: T0_1224
def T0_1222 : List Tok := (.iaload, 1, 0, 0) :: T0_1223
def T0_1221 : List Tok := (.iadd, 1, 0, 0) :: T0_1222
def T0_1220 : List Tok := (.iconst 3, 1, 0, 0) :: T0_1221
def T0_1219 : List Tok := (.iload_n 3, 1, 0, 0) :: T0_1220
def T0_1218 : List Tok := (.aload_n 0, 1, 0, 0) :: T0_1219
def T0_1217 : List Tok := (.iaload, 1, 0, 0) :: T0_1218
def T0_1216 : List Tok := (.iadd, 1, 0, 0) :: T0_1217
def T0_1215 : List Tok := (.iconst 2, 1, 0, 0) :: T0_1216
def T0_1214 : List Tok := (.iload_n 3, 1, 0, 0) :: T0_1215
def T0_1213 : List Tok := (.aload_n 0, 1, 0, 0) :: T0_1214
def T0_1212 : List Tok := (.iaload, 1, 0, 0) :: T0_1213
def T0_1211 : List Tok := (.iadd, 1, 0, 0) :: T0_1212
def T0_1210 : List Tok := (.iconst 1, 1, 0, 0) :: T0_1211
def T0_1209 : List Tok := (.iload_n 3, 1, 0, 0) :: T0_1210
def T0_1208 : List Tok := (.aload_n 0, 1, 0, 0) :: T0_1209
def T0_1207 : List Tok := (.aload_n 1, 1, 0, 0) :: T0_1208
def T0_1206 : List Tok := (.goto 280, 3, 0, 0) :: T0_1207
def T0_1205 : List Tok := (.pop, 1, 0, 0) :: T0_1206
def T0_1204 : List Tok := (.invokevirtual 180, 3, 274, 1848) :: T0_1205
def T0_1203 : List Tok := (.iaload, 1, 0, 0) :: T0_1204
def T0_1202 : List Tok := (.iadd, 1, 0, 0) :: T0_1203
def T0_1201 : List Tok := (.iconst 3, 1, 0, 0) :: T0_1202
def T0_1200 : List Tok := (.iload_n 3, 1, 0, 0) :: T0_1201
def T0_1199 : List Tok := (.aload_n 0, 1, 0, 0) :: T0_1200
def T0_1198 : List Tok := (.iaload, 1, 0, 0) :: T0_1199
def T0_1197 : List Tok := (.iadd, 1, 0, 0) :: T0_1198
def T0_1196 : List Tok := (.iconst 2, 1, 0, 0) :: T0_1197
def T0_1195 : List Tok := (.iload_n 3, 1, 0, 0) :: T0_1196
def T0_1194 : List Tok := (.aload_n 0, 1, 0, 0) :: T0_1195
def T0_1193 : List Tok := (.iaload, 1, 0, 0) :: T0_1194
def T0_1192 : List Tok := (.iadd, 1, 0, 0) :: T0_1193
def T0_1191 : List Tok := (.iconst 1, 1, 0, 0) :: T0_1192
def T0_1190 : List Tok := (.iload_n 3, 1, 0, 0) :: T0_1191
def T0_1189 : List Tok := (.aload_n 0, 1, 0, 0) :: T0_1190
def T0_1188 : List Tok := (.aload_n 2, 1, 0, 0) :: T0_1189
def T0_1187 : List Tok := (.pop, 1, 0, 0) :: T0_1188
def T0_1186 : List Tok := (.invokevirtual 177, 3, 161, 1175) :: T0_1187
def T0_1185 : List Tok := (.iaload, 1, 0, 0) :: T0_1186
def T0_1184 : List Tok := (.iadd, 1, 0, 0) :: T0_1185
def T0_1183 : List Tok := (.iconst 3, 1, 0, 0) :: T0_1184
def T0_1182 : List Tok := (.iload_n 3, 1, 0, 0) :: T0_1183
def T0_1181 : List Tok := (.aload_n 0, 1, 0, 0) :: T0_1182
def T0_1180 : List Tok := (.iaload, 1, 0, 0) :: T0_1181
def T0_1179 : List Tok := (.iadd, 1, 0, 0) :: T0_1180
def T0_1178 : List Tok := (.iconst 2, 1, 0, 0) :: T0_1179
def T0_1177 : List Tok := (.iload_n 3, 1, 0, 0) :: T0_1178
def T0_1176 : List Tok := (.aload_n 0, 1, 0, 0) :: T0_1177
def T0_1175 : List Tok := (.iaload, 1, 0, 0) :: T0_1176
def T0_1174 : List Tok := (.iadd, 1, 0, 0) :: T0_1175
def T0_1173 : List Tok := (.iconst 1, 1, 0, 0) :: T0_1174
def T0_1172 : List Tok := (.iload_n 3, 1, 0, 0) :: T0_1173
def T0_1171 : List Tok := (.aload_n 0, 1, 0, 0) :: T0_1172
def T0_1170 : List Tok := (.aload_n 1, 1, 0, 0) :: T0_1171
def T0_1169 : List Tok := (.goto 323, 3, 0, 0) :: T0_1170
def T0_1168 : List Tok := (.pop, 1, 0, 0) :: T0_1169
def T0_1167 : List Tok := (.invokevirtual 176, 3, 273, 1837) :: T0_1168
def T0_1166 : List Tok := (.iaload, 1, 0, 0) :: T0_1167
def T0_1165 : List Tok := (.iadd, 1, 0, 0) :: T0_1166
def T0_1164 : List Tok := (.iconst 3, 1, 0, 0) :: T0_1165
def T0_1163 : List Tok := (.iload_n 3, 1, 0, 0) :: T0_1164
def T0_1162 : List Tok := (.aload_n 0, 1, 0, 0) :: T0_1163
def T0_1161 : List Tok := (.iaload, 1, 0, 0) :: T0_1162
def T0_1160 : List Tok := (.iadd, 1, 0, 0) :: T0_1161
def T0_1159 : List Tok := (.iconst 2, 1, 0, 0) :: T0_1160
def T0_1158 : List Tok := (.iload_n 3, 1, 0, 0) :: T0_1159
def T0_1157 : List Tok := (.aload_n 0, 1, 0, 0) :: T0_1158
def T0_1156 : List Tok := (.iaload, 1, 0, 0) :: T0_1157
def T0_1155 : List Tok := (.iadd, 1, 0, 0) :: T0_1156
def T0_1154 : List Tok := (.iconst 1, 1, 0, 0) :: T0_1155
def T0_1153 : List Tok := (.iload_n 3, 1, 0, 0) :: T0_1154
def T0_1152 : List Tok := (.aload_n 0, 1, 0, 0) :: T0_1153
def T0_1151 : List Tok := (.aload_n 2, 1, 0, 0) :: T0_1152
def T0_1150 : List Tok := (.pop, 1, 0, 0) :: T0_1151
def T0_1149 : List Tok := (.invokevirtual 173, 3, 160, 1164) :: T0_1150
def T0_1148 : List Tok := (.iaload, 1, 0, 0) :: T0_1149
def T0_1147 : List Tok := (.iadd, 1, 0, 0) :: T0_1148
def T0_1146 : List Tok := (.iconst 3, 1, 0, 0) :: T0_1147
def T0_1145 : List Tok := (.iload_n 3, 1, 0, 0) :: T0_1146
def T0_1144 : List Tok := (.aload_n 0, 1, 0, 0) :: T0_1145
def T0_1143 : List Tok := (.iaload, 1, 0, 0) :: T0_1144
def T0_1142 : List Tok := (.iadd, 1, 0, 0) :: T0_1143
def T0_1141 : List Tok := (.iconst 2, 1, 0, 0) :: T0_1142
def T0_1140 : List Tok := (.iload_n 3, 1, 0, 0) :: T0_1141
def T0_1139 : List Tok := (.aload_n 0, 1, 0, 0) :: T0_1140
def T0_1138 : List Tok := (.iaload, 1, 0, 0) :: T0_1139
def T0_1137 : List Tok := (.iadd, 1, 0, 0) :: T0_1138
def T0_1136 : List Tok := (.iconst 1, 1, 0, 0) :: T0_1137
def T0_1135 : List Tok := (.iload_n 3, 1, 0, 0) :: T0_1136
def T0_1134 : List Tok := (.aload_n 0, 1, 0, 0) :: T0_1135
def T0_1133 : List Tok := (.aload_n 1, 1, 0, 0) :: T0_1134
def T0_1132 : List Tok := (.goto 366, 3, 0, 0) :: T0_1133
def T0_1131 : List Tok := (.pop, 1, 0, 0) :: T0_1132
def T0_1130 : List Tok := (.invokevirtual 172, 3, 270, 1827) :: T0_1131
def T0_1129 : List Tok := (.iaload, 1, 0, 0) :: T0_1130
def T0_1128 : List Tok := (.iadd, 1, 0, 0) :: T0_1129
def T0_1127 : List Tok := (.iconst 3, 1, 0, 0) :: T0_1128
def T0_1126 : List Tok := (.iload_n 3, 1, 0, 0) :: T0_1127
def T0_1125 : List Tok := (.aload_n 0, 1, 0, 0) :: T0_1126
def T0_1124 : List Tok := (.iaload, 1, 0, 0) :: T0_1125
def T0_1123 : List Tok := (.iadd, 1, 0, 0) :: T0_1124
def T0_1122 : List Tok := (.iconst 2, 1, 0, 0) :: T0_1123
def T0_1121 : List Tok := (.iload_n 3, 1, 0, 0) :: T0_1122
def T0_1120 : List Tok := (.aload_n 0, 1, 0, 0) :: T0_1121
def T0_1119 : List Tok := (.iaload, 1, 0, 0) :: T0_1120
def T0_1118 : List Tok := (.iadd, 1, 0, 0) :: T0_1119
def T0_1117 : List Tok := (.iconst 1, 1, 0, 0) :: T0_1118
def T0_1116 : List Tok := (.iload_n 3, 1, 0, 0) :: T0_1117
def T0_1115 : List Tok := (.aload_n 0, 1, 0, 0) :: T0_1116
def T0_1114 : List Tok := (.aload_n 2, 1, 0, 0) :: T0_1115
def T0_1113 : List Tok := (.pop, 1, 0, 0) :: T0_1114
def T0_1112 : List Tok := (.invokevirtual 169, 3, 159, 1150) :: T0_1113
def T0_1111 : List Tok := (.iaload, 1, 0, 0) :: T0_1112
def T0_1110 : List Tok := (.iadd, 1, 0, 0) :: T0_1111
def T0_1109 : List Tok := (.iconst 3, 1, 0, 0) :: T0_1110
def T0_1108 : List Tok := (.iload_n 3, 1, 0, 0) :: T0_1109
def T0_1107 : List Tok := (.aload_n 0, 1, 0, 0) :: T0_1108
def T0_1106 : List Tok := (.iaload, 1, 0, 0) :: T0_1107
def T0_1105 : List Tok := (.iadd, 1, 0, 0) :: T0_1106
def T0_1104 : List Tok := (.iconst 2, 1, 0, 0) :: T0_1105
def T0_1103 : List Tok := (.iload_n 3, 1, 0, 0) :: T0_1104
def T0_1102 : List Tok := (.aload_n 0, 1, 0, 0) :: T0_1103
def T0_1101 : List Tok := (.iaload, 1, 0, 0) :: T0_1102
def T0_1100 : List Tok := (.iadd, 1, 0, 0) :: T0_1101
def T0_1099 : List Tok := (.iconst 1, 1, 0, 0) :: T0_1100
def T0_1098 : List Tok := (.iload_n 3, 1, 0, 0) :: T0_1099
def T0_1097 : List Tok := (.aload_n 0, 1, 0, 0) :: T0_1098
def T0_1096 : List Tok := (.aload_n 1, 1, 0, 0) :: T0_1097
def T0_1095 : List Tok := (.goto 409, 3, 0, 0) :: T0_1096
def T0_1094 : List Tok := (.pop, 1, 0, 0) :: T0_1095
def T0_1093 : List Tok := (.invokevirtual 168, 3, 268, 1823) :: T0_1094
def T0_1092 : List Tok := (.iaload, 1, 0, 0) :: T0_1093
def T0_1091 : List Tok := (.iadd, 1, 0, 0) :: T0_1092
def T0_1090 : List Tok := (.iconst 2, 1, 0, 0) :: T0_1091
def T0_1089 : List Tok := (.iload_n 3, 1, 0, 0) :: T0_1090
def T0_1088 : List Tok := (.aload_n 0, 1, 0, 0) :: T0_1089
def T0_1087 : List Tok := (.iaload, 1, 0, 0) :: T0_1088
def T0_1086 : List Tok := (.iadd, 1, 0, 0) :: T0_1087
def T0_1085 : List Tok := (.iconst 1, 1, 0, 0) :: T0_1086
def T0_1084 : List Tok := (.iload_n 3, 1, 0, 0) :: T0_1085
def T0_1083 : List Tok := (.aload_n 0, 1, 0, 0) :: T0_1084
def T0_1082 : List Tok := (.aload_n 2, 1, 0, 0) :: T0_1083
def T0_1081 : List Tok := (.pop, 1, 0, 0) :: T0_1082
def T0_1080 : List Tok := (.invokevirtual 165, 3, 158, 1142) :: T0_1081
def T0_1079 : List Tok := (.iaload, 1, 0, 0) :: T0_1080
def T0_1078 : List Tok := (.iadd, 1, 0, 0) :: T0_1079
def T0_1077 : List Tok := (.iconst 2, 1, 0, 0) :: T0_1078
def T0_1076 : List Tok := (.iload_n 3, 1, 0, 0) :: T0_1077
def T0_1075 : List Tok := (.aload_n 0, 1, 0, 0) :: T0_1076
def T0_1074 : List Tok := (.iaload, 1, 0, 0) :: T0_1075
def T0_1073 : List Tok := (.iadd, 1, 0, 0) :: T0_1074
def T0_1072 : List Tok := (.iconst 1, 1, 0, 0) :: T0_1073
def T0_1071 : List Tok := (.iload_n 3, 1, 0, 0) :: T0_1072
def T0_1070 : List Tok := (.aload_n 0, 1, 0, 0) :: T0_1071
def T0_1069 : List Tok := (.aload_n 1, 1, 0, 0) :: T0_1070
def T0_1068 : List Tok := (.goto 442, 3, 0, 0) :: T0_1069
def T0_1067 : List Tok := (.pop, 1, 0, 0) :: T0_1068
def T0_1066 : List Tok := (.invokevirtual 164, 3, 267, 1815) :: T0_1067
def T0_1065 : List Tok := (.iconst 0, 1, 0, 0) :: T0_1066
def T0_1064 : List Tok := (.goto 4, 3, 0, 0) :: T0_1065
def T0_1063 : List Tok := (.iconst 1, 1, 0, 0) :: T0_1064
def T0_1062 : List Tok := (.ifCond .eq 7, 3, 0, 0) :: T0_1063
def T0_1061 : List Tok := (.iaload, 1, 0, 0) :: T0_1062
def T0_1060 : List Tok := (.iadd, 1, 0, 0) :: T0_1061
def T0_1059 : List Tok := (.iconst 3, 1, 0, 0) :: T0_1060
def T0_1058 : List Tok := (.iload_n 3, 1, 0, 0) :: T0_1059
def T0_1057 : List Tok := (.aload_n 0, 1, 0, 0) :: T0_1058
def T0_1056 : List Tok := (.iaload, 1, 0, 0) :: T0_1057
def T0_1055 : List Tok := (.iadd, 1, 0, 0) :: T0_1056
def T0_1054 : List Tok := (.iconst 2, 1, 0, 0) :: T0_1055
def T0_1053 : List Tok := (.iload_n 3, 1, 0, 0) :: T0_1054
def T0_1052 : List Tok := (.aload_n 0, 1, 0, 0) :: T0_1053
def T0_1051 : List Tok := (.iaload, 1, 0, 0) :: T0_1052
def T0_1050 : List Tok := (.iadd, 1, 0, 0) :: T0_1051
def T0_1049 : List Tok := (.iconst 1, 1, 0, 0) :: T0_1050
def T0_1048 : List Tok := (.iload_n 3, 1, 0, 0) :: T0_1049
def T0_1047 : List Tok := (.aload_n 0, 1, 0, 0) :: T0_1048
def T0_1046 : List Tok := (.aload_n 2, 1, 0, 0) :: T0_1047
def T0_1045 : List Tok := (.pop, 1, 0, 0) :: T0_1046
def T0_1044 : List Tok := (.invokevirtual 161, 3, 157, 1129) :: T0_1045
def T0_1043 : List Tok := (.iconst 0, 1, 0, 0) :: T0_1044
def T0_1042 : List Tok := (.goto 4, 3, 0, 0) :: T0_1043
def T0_1041 : List Tok := (.iconst 1, 1, 0, 0) :: T0_1042
def T0_1040 : List Tok := (.ifCond .eq 7, 3, 0, 0) :: T0_1041
def T0_1039 : List Tok := (.iaload, 1, 0, 0) :: T0_1040
def T0_1038 : List Tok := (.iadd, 1, 0, 0) :: T0_1039
def T0_1037 : List Tok := (.iconst 3, 1, 0, 0) :: T0_1038
def T0_1036 : List Tok := (.iload_n 3, 1, 0, 0) :: T0_1037
def T0_1035 : List Tok := (.aload_n 0, 1, 0, 0) :: T0_1036
def T0_1034 : List Tok := (.iaload, 1, 0, 0) :: T0_1035
def T0_1033 : List Tok := (.iadd, 1, 0, 0) :: T0_1034
def T0_1032 : List Tok := (.iconst 2, 1, 0, 0) :: T0_1033
def T0_1031 : List Tok := (.iload_n 3, 1, 0, 0) :: T0_1032
def T0_1030 : List Tok := (.aload_n 0, 1, 0, 0) :: T0_1031
def T0_1029 : List Tok := (.iaload, 1, 0, 0) :: T0_1030
def T0_1028 : List Tok := (.iadd, 1, 0, 0) :: T0_1029
def T0_1027 : List Tok := (.iconst 1, 1, 0, 0) :: T0_1028
def T0_1026 : List Tok := (.iload_n 3, 1, 0, 0) :: T0_1027
def T0_1025 : List Tok := (.aload_n 0, 1, 0, 0) :: T0_1026
def T0_1024 : List Tok := (.aload_n 1, 1, 0, 0) :: T0_1025
def T0_1023 : List Tok := (.goto 501, 3, 0, 0) :: T0_1024
def T0_1022 : List Tok := (.pop, 1, 0, 0) :: T0_1023
def T0_1021 : List Tok := (.invokevirtual 160, 3, 265, 1811) :: T0_1022
def T0_1020 : List Tok := (.iconst 0, 1, 0, 0) :: T0_1021
def T0_1019 : List Tok := (.goto 4, 3, 0, 0) :: T0_1020
def T0_1018 : List Tok := (.iconst 1, 1, 0, 0) :: T0_1019
def T0_1017 : List Tok := (.ifCond .eq 7, 3, 0, 0) :: T0_1018
def T0_1016 : List Tok := (.iaload, 1, 0, 0) :: T0_1017
def T0_1015 : List Tok := (.iadd, 1, 0, 0) :: T0_1016
def T0_1014 : List Tok := (.iconst 3, 1, 0, 0) :: T0_1015
def T0_1013 : List Tok := (.iload_n 3, 1, 0, 0) :: T0_1014
def T0_1012 : List Tok := (.aload_n 0, 1, 0, 0) :: T0_1013
def T0_1011 : List Tok := (.iaload, 1, 0, 0) :: T0_1012
def T0_1010 : List Tok := (.iadd, 1, 0, 0) :: T0_1011
def T0_1009 : List Tok := (.iconst 2, 1, 0, 0) :: T0_1010
def T0_1008 : List Tok := (.iload_n 3, 1, 0, 0) :: T0_1009
def T0_1007 : List Tok := (.aload_n 0, 1, 0, 0) :: T0_1008
def T0_1006 : List Tok := (.iaload, 1, 0, 0) :: T0_1007
def T0_1005 : List Tok := (.iadd, 1, 0, 0) :: T0_1006
def T0_1004 : List Tok := (.iconst 1, 1, 0, 0) :: T0_1005
def T0_1003 : List Tok := (.iload_n 3, 1, 0, 0) :: T0_1004
def T0_1002 : List Tok := (.aload_n 0, 1, 0, 0) :: T0_1003
def T0_1001 : List Tok := (.aload_n 2, 1, 0, 0) :: T0_1002
def T0_1000 : List Tok := (.pop, 1, 0, 0) :: T0_1001
def T0_999 : List Tok := (.invokevirtual 156, 3, 156, 1115) :: T0_1000
def T0_998 : List Tok := (.iconst 0, 1, 0, 0) :: T0_999
def T0_997 : List Tok := (.goto 4, 3, 0, 0) :: T0_998
def T0_996 : List Tok := (.iconst 1, 1, 0, 0) :: T0_997
def T0_995 : List Tok := (.ifCond .eq 7, 3, 0, 0) :: T0_996
def T0_994 : List Tok := (.iaload, 1, 0, 0) :: T0_995
def T0_993 : List Tok := (.iadd, 1, 0, 0) :: T0_994
def T0_992 : List Tok := (.iconst 3, 1, 0, 0) :: T0_993
def T0_991 : List Tok := (.iload_n 3, 1, 0, 0) :: T0_992
def T0_990 : List Tok := (.aload_n 0, 1, 0, 0) :: T0_991
def T0_989 : List Tok := (.iaload, 1, 0, 0) :: T0_990
def T0_988 : List Tok := (.iadd, 1, 0, 0) :: T0_989
def T0_987 : List Tok := (.iconst 2, 1, 0, 0) :: T0_988
def T0_986 : List Tok := (.iload_n 3, 1, 0, 0) :: T0_987
def T0_985 : List Tok := (.aload_n 0, 1, 0, 0) :: T0_986
def T0_984 : List Tok := (.iaload, 1, 0, 0) :: T0_985
def T0_983 : List Tok := (.iadd, 1, 0, 0) :: T0_984
def T0_982 : List Tok := (.iconst 1, 1, 0, 0) :: T0_983
def T0_981 : List Tok := (.iload_n 3, 1, 0, 0) :: T0_982
def T0_980 : List Tok := (.aload_n 0, 1, 0, 0) :: T0_981
def T0_979 : List Tok := (.aload_n 1, 1, 0, 0) :: T0_980
def T0_978 : List Tok := (.goto 560, 3, 0, 0) :: T0_979
def T0_977 : List Tok := (.pop, 1, 0, 0) :: T0_978
def T0_976 : List Tok := (.invokevirtual 155, 3, 264, 1806) :: T0_977
def T0_975 : List Tok := (.iaload, 1, 0, 0) :: T0_976
def T0_974 : List Tok := (.iadd, 1, 0, 0) :: T0_975
def T0_973 : List Tok := (.iconst 2, 1, 0, 0) :: T0_974
def T0_972 : List Tok := (.iload_n 3, 1, 0, 0) :: T0_973
def T0_971 : List Tok := (.aload_n 0, 1, 0, 0) :: T0_972
def T0_970 : List Tok := (.iaload, 1, 0, 0) :: T0_971
def T0_969 : List Tok := (.iadd, 1, 0, 0) :: T0_970
def T0_968 : List Tok := (.iconst 1, 1, 0, 0) :: T0_969
def T0_967 : List Tok := (.iload_n 3, 1, 0, 0) :: T0_968
def T0_966 : List Tok := (.aload_n 0, 1, 0, 0) :: T0_967
def T0_965 : List Tok := (.aload_n 2, 1, 0, 0) :: T0_966
def T0_964 : List Tok := (.pop, 1, 0, 0) :: T0_965
def T0_963 : List Tok := (.invokevirtual 152, 3, 155, 1105) :: T0_964
def T0_962 : List Tok := (.iaload, 1, 0, 0) :: T0_963
def T0_961 : List Tok := (.iadd, 1, 0, 0) :: T0_962
def T0_960 : List Tok := (.iconst 2, 1, 0, 0) :: T0_961
def T0_959 : List Tok := (.iload_n 3, 1, 0, 0) :: T0_960
def T0_958 : List Tok := (.aload_n 0, 1, 0, 0) :: T0_959
def T0_957 : List Tok := (.iaload, 1, 0, 0) :: T0_958
def T0_956 : List Tok := (.iadd, 1, 0, 0) :: T0_957
def T0_955 : List Tok := (.iconst 1, 1, 0, 0) :: T0_956
def T0_954 : List Tok := (.iload_n 3, 1, 0, 0) :: T0_955
def T0_953 : List Tok := (.aload_n 0, 1, 0, 0) :: T0_954
def T0_952 : List Tok := (.aload_n 1, 1, 0, 0) :: T0_953
def T0_951 : List Tok := (.goto 593, 3, 0, 0) :: T0_952
def T0_950 : List Tok := (.pop, 1, 0, 0) :: T0_951
def T0_949 : List Tok := (.invokevirtual 151, 3, 263, 1791) :: T0_950
def T0_948 : List Tok := (.iaload, 1, 0, 0) :: T0_949
def T0_947 : List Tok := (.iadd, 1, 0, 0) :: T0_948
def T0_946 : List Tok := (.iconst 2, 1, 0, 0) :: T0_947
def T0_945 : List Tok := (.iload_n 3, 1, 0, 0) :: T0_946
def T0_944 : List Tok := (.aload_n 0, 1, 0, 0) :: T0_945
def T0_943 : List Tok := (.iaload, 1, 0, 0) :: T0_944
def T0_942 : List Tok := (.iadd, 1, 0, 0) :: T0_943
def T0_941 : List Tok := (.iconst 1, 1, 0, 0) :: T0_942
def T0_940 : List Tok := (.iload_n 3, 1, 0, 0) :: T0_941
def T0_939 : List Tok := (.aload_n 0, 1, 0, 0) :: T0_940
def T0_938 : List Tok := (.aload_n 2, 1, 0, 0) :: T0_939
def T0_937 : List Tok := (.pop, 1, 0, 0) :: T0_938
def T0_936 : List Tok := (.invokevirtual 148, 3, 154, 1084) :: T0_937
def T0_935 : List Tok := (.iaload, 1, 0, 0) :: T0_936
def T0_934 : List Tok := (.iadd, 1, 0, 0) :: T0_935
def T0_933 : List Tok := (.iconst 2, 1, 0, 0) :: T0_934
def T0_932 : List Tok := (.iload_n 3, 1, 0, 0) :: T0_933
def T0_931 : List Tok := (.aload_n 0, 1, 0, 0) :: T0_932
def T0_930 : List Tok := (.iaload, 1, 0, 0) :: T0_931
def T0_929 : List Tok := (.iadd, 1, 0, 0) :: T0_930
def T0_928 : List Tok := (.iconst 1, 1, 0, 0) :: T0_929
def T0_927 : List Tok := (.iload_n 3, 1, 0, 0) :: T0_928
def T0_926 : List Tok := (.aload_n 0, 1, 0, 0) :: T0_927
def T0_925 : List Tok := (.aload_n 1, 1, 0, 0) :: T0_926
def T0_924 : List Tok := (.goto 626, 3, 0, 0) :: T0_925
def T0_923 : List Tok := (.pop, 1, 0, 0) :: T0_924
def T0_922 : List Tok := (.invokevirtual 147, 3, 259, 1787) :: T0_923
def T0_921 : List Tok := (.iaload, 1, 0, 0) :: T0_922
def T0_920 : List Tok := (.iadd, 1, 0, 0) :: T0_921
def T0_919 : List Tok := (.iconst 2, 1, 0, 0) :: T0_920
def T0_918 : List Tok := (.iload_n 3, 1, 0, 0) :: T0_919
def T0_917 : List Tok := (.aload_n 0, 1, 0, 0) :: T0_918
def T0_916 : List Tok := (.iaload, 1, 0, 0) :: T0_917
def T0_915 : List Tok := (.iadd, 1, 0, 0) :: T0_916
def T0_914 : List Tok := (.iconst 1, 1, 0, 0) :: T0_915
def T0_913 : List Tok := (.iload_n 3, 1, 0, 0) :: T0_914
def T0_912 : List Tok := (.aload_n 0, 1, 0, 0) :: T0_913
def T0_911 : List Tok := (.aload_n 2, 1, 0, 0) :: T0_912
def T0_910 : List Tok := (.pop, 1, 0, 0) :: T0_911
def T0_909 : List Tok := (.invokevirtual 144, 3, 153, 1080) :: T0_910
def T0_908 : List Tok := (.iaload, 1, 0, 0) :: T0_909
def T0_907 : List Tok := (.iadd, 1, 0, 0) :: T0_908
def T0_906 : List Tok := (.iconst 2, 1, 0, 0) :: T0_907
def T0_905 : List Tok := (.iload_n 3, 1, 0, 0) :: T0_906
def T0_904 : List Tok := (.aload_n 0, 1, 0, 0) :: T0_905
def T0_903 : List Tok := (.iaload, 1, 0, 0) :: T0_904
def T0_902 : List Tok := (.iadd, 1, 0, 0) :: T0_903
def T0_901 : List Tok := (.iconst 1, 1, 0, 0) :: T0_902
def T0_900 : List Tok := (.iload_n 3, 1, 0, 0) :: T0_901
def T0_899 : List Tok := (.aload_n 0, 1, 0, 0) :: T0_900
def T0_898 : List Tok := (.aload_n 1, 1, 0, 0) :: T0_899
def T0_897 : List Tok := (.goto 659, 3, 0, 0) :: T0_898
def T0_896 : List Tok := (.pop, 1, 0, 0) :: T0_897
def T0_895 : List Tok := (.invokevirtual 143, 3, 258, 1783) :: T0_896
def T0_894 : List Tok := (.iaload, 1, 0, 0) :: T0_895
def T0_893 : List Tok := (.iadd, 1, 0, 0) :: T0_894
def T0_892 : List Tok := (.iconst 1, 1, 0, 0) :: T0_893
def T0_891 : List Tok := (.iload_n 3, 1, 0, 0) :: T0_892
def T0_890 : List Tok := (.aload_n 0, 1, 0, 0) :: T0_891
def T0_889 : List Tok := (.aload_n 2, 1, 0, 0) :: T0_890
def T0_888 : List Tok := (.pop, 1, 0, 0) :: T0_889
def T0_887 : List Tok := (.invokevirtual 140, 3, 152, 1066) :: T0_888
def T0_886 : List Tok := (.iaload, 1, 0, 0) :: T0_887
def T0_885 : List Tok := (.iadd, 1, 0, 0) :: T0_886
def T0_884 : List Tok := (.iconst 1, 1, 0, 0) :: T0_885
def T0_883 : List Tok := (.iload_n 3, 1, 0, 0) :: T0_884
def T0_882 : List Tok := (.aload_n 0, 1, 0, 0) :: T0_883
def T0_881 : List Tok := (.aload_n 1, 1, 0, 0) :: T0_882
def T0_880 : List Tok := (.goto 682, 3, 0, 0) :: T0_881
def T0_879 : List Tok := (.pop, 1, 0, 0) :: T0_880
def T0_878 : List Tok := (.invokevirtual 139, 3, 257, 1779) :: T0_879
def T0_877 : List Tok := (.iaload, 1, 0, 0) :: T0_878
def T0_876 : List Tok := (.iadd, 1, 0, 0) :: T0_877
def T0_875 : List Tok := (.iconst 3, 1, 0, 0) :: T0_876
def T0_874 : List Tok := (.iload_n 3, 1, 0, 0) :: T0_875
def T0_873 : List Tok := (.aload_n 0, 1, 0, 0) :: T0_874
def T0_872 : List Tok := (.iaload, 1, 0, 0) :: T0_873
def T0_871 : List Tok := (.iadd, 1, 0, 0) :: T0_872
def T0_870 : List Tok := (.iconst 2, 1, 0, 0) :: T0_871
def T0_869 : List Tok := (.iload_n 3, 1, 0, 0) :: T0_870
def T0_868 : List Tok := (.aload_n 0, 1, 0, 0) :: T0_869
def T0_867 : List Tok := (.iaload, 1, 0, 0) :: T0_868
def T0_866 : List Tok := (.iadd, 1, 0, 0) :: T0_867
def T0_865 : List Tok := (.iconst 1, 1, 0, 0) :: T0_866
def T0_864 : List Tok := (.iload_n 3, 1, 0, 0) :: T0_865
def T0_863 : List Tok := (.aload_n 0, 1, 0, 0) :: T0_864
def T0_862 : List Tok := (.aload_n 2, 1, 0, 0) :: T0_863
def T0_861 : List Tok := (.pop, 1, 0, 0) :: T0_862
def T0_860 : List Tok := (.invokevirtual 136, 3, 151, 1057) :: T0_861
def T0_859 : List Tok := (.iaload, 1, 0, 0) :: T0_860
def T0_858 : List Tok := (.iadd, 1, 0, 0) :: T0_859
def T0_857 : List Tok := (.iconst 3, 1, 0, 0) :: T0_858
def T0_856 : List Tok := (.iload_n 3, 1, 0, 0) :: T0_857
def T0_855 : List Tok := (.aload_n 0, 1, 0, 0) :: T0_856
def T0_854 : List Tok := (.iaload, 1, 0, 0) :: T0_855
def T0_853 : List Tok := (.iadd, 1, 0, 0) :: T0_854
def T0_852 : List Tok := (.iconst 2, 1, 0, 0) :: T0_853
def T0_851 : List Tok := (.iload_n 3, 1, 0, 0) :: T0_852
def T0_850 : List Tok := (.aload_n 0, 1, 0, 0) :: T0_851
def T0_849 : List Tok := (.iaload, 1, 0, 0) :: T0_850
def T0_848 : List Tok := (.iadd, 1, 0, 0) :: T0_849
def T0_847 : List Tok := (.iconst 1, 1, 0, 0) :: T0_848
def T0_846 : List Tok := (.iload_n 3, 1, 0, 0) :: T0_847
def T0_845 : List Tok := (.aload_n 0, 1, 0, 0) :: T0_846
def T0_844 : List Tok := (.aload_n 1, 1, 0, 0) :: T0_845
def T0_843 : List Tok := (.goto 725, 3, 0, 0) :: T0_844
def T0_842 : List Tok := (.pop, 1, 0, 0) :: T0_843
def T0_841 : List Tok := (.invokevirtual 135, 3, 256, 1771) :: T0_842
def T0_840 : List Tok := (.iaload, 1, 0, 0) :: T0_841
def T0_839 : List Tok := (.iadd, 1, 0, 0) :: T0_840
def T0_838 : List Tok := (.iconst 2, 1, 0, 0) :: T0_839
def T0_837 : List Tok := (.iload_n 3, 1, 0, 0) :: T0_838
def T0_836 : List Tok := (.aload_n 0, 1, 0, 0) :: T0_837
def T0_835 : List Tok := (.iaload, 1, 0, 0) :: T0_836
def T0_834 : List Tok := (.iadd, 1, 0, 0) :: T0_835
def T0_833 : List Tok := (.iconst 1, 1, 0, 0) :: T0_834
def T0_832 : List Tok := (.iload_n 3, 1, 0, 0) :: T0_833
def T0_831 : List Tok := (.aload_n 0, 1, 0, 0) :: T0_832
def T0_830 : List Tok := (.aload_n 2, 1, 0, 0) :: T0_831
def T0_829 : List Tok := (.pop, 1, 0, 0) :: T0_830
def T0_828 : List Tok := (.invokevirtual 132, 3, 150, 1045) :: T0_829
def T0_827 : List Tok := (.iaload, 1, 0, 0) :: T0_828
def T0_826 : List Tok := (.iadd, 1, 0, 0) :: T0_827
def T0_825 : List Tok := (.iconst 2, 1, 0, 0) :: T0_826
def T0_824 : List Tok := (.iload_n 3, 1, 0, 0) :: T0_825
def T0_823 : List Tok := (.aload_n 0, 1, 0, 0) :: T0_824
def T0_822 : List Tok := (.iaload, 1, 0, 0) :: T0_823
def T0_821 : List Tok := (.iadd, 1, 0, 0) :: T0_822
def T0_820 : List Tok := (.iconst 1, 1, 0, 0) :: T0_821
def T0_819 : List Tok := (.iload_n 3, 1, 0, 0) :: T0_820
def T0_818 : List Tok := (.aload_n 0, 1, 0, 0) :: T0_819
def T0_817 : List Tok := (.aload_n 1, 1, 0, 0) :: T0_818
def T0_816 : List Tok := (.goto 758, 3, 0, 0) :: T0_817
def T0_815 : List Tok := (.pop, 1, 0, 0) :: T0_816
def T0_814 : List Tok := (.invokevirtual 131, 3, 254, 1767) :: T0_815
def T0_813 : List Tok := (.iaload, 1, 0, 0) :: T0_814
def T0_812 : List Tok := (.iadd, 1, 0, 0) :: T0_813
def T0_811 : List Tok := (.iconst 1, 1, 0, 0) :: T0_812
def T0_810 : List Tok := (.iload_n 3, 1, 0, 0) :: T0_811
def T0_809 : List Tok := (.aload_n 0, 1, 0, 0) :: T0_810
def T0_808 : List Tok := (.aload_n 2, 1, 0, 0) :: T0_809
def T0_807 : List Tok := (.pop, 1, 0, 0) :: T0_808
def T0_806 : List Tok := (.invokevirtual 128, 3, 149, 1034) :: T0_807
def T0_805 : List Tok := (.iaload, 1, 0, 0) :: T0_806
def T0_804 : List Tok := (.iadd, 1, 0, 0) :: T0_805
def T0_803 : List Tok := (.iconst 1, 1, 0, 0) :: T0_804
def T0_802 : List Tok := (.iload_n 3, 1, 0, 0) :: T0_803
def T0_801 : List Tok := (.aload_n 0, 1, 0, 0) :: T0_802
def T0_800 : List Tok := (.aload_n 1, 1, 0, 0) :: T0_801
def T0_799 : List Tok := (.goto 781, 3, 0, 0) :: T0_800
def T0_798 : List Tok := (.pop, 1, 0, 0) :: T0_799
def T0_797 : List Tok := (.invokevirtual 127, 3, 253, 1747) :: T0_798
def T0_796 : List Tok := (.iaload, 1, 0, 0) :: T0_797
def T0_795 : List Tok := (.iadd, 1, 0, 0) :: T0_796
def T0_794 : List Tok := (.iconst 3, 1, 0, 0) :: T0_795
def T0_793 : List Tok := (.iload_n 3, 1, 0, 0) :: T0_794
def T0_792 : List Tok := (.aload_n 0, 1, 0, 0) :: T0_793
def T0_791 : List Tok := (.iaload, 1, 0, 0) :: T0_792
def T0_790 : List Tok := (.iadd, 1, 0, 0) :: T0_791
def T0_789 : List Tok := (.iconst 2, 1, 0, 0) :: T0_790
def T0_788 : List Tok := (.iload_n 3, 1, 0, 0) :: T0_789
def T0_787 : List Tok := (.aload_n 0, 1, 0, 0) :: T0_788
def T0_786 : List Tok := (.iaload, 1, 0, 0) :: T0_787
def T0_785 : List Tok := (.iadd, 1, 0, 0) :: T0_786
def T0_784 : List Tok := (.iconst 1, 1, 0, 0) :: T0_785
def T0_783 : List Tok := (.iload_n 3, 1, 0, 0) :: T0_784
def T0_782 : List Tok := (.aload_n 0, 1, 0, 0) :: T0_783
def T0_781 : List Tok := (.aload_n 2, 1, 0, 0) :: T0_782
def T0_780 : List Tok := (.pop, 1, 0, 0) :: T0_781
def T0_779 : List Tok := (.invokevirtual 124, 3, 148, 1007) :: T0_780
def T0_778 : List Tok := (.iaload, 1, 0, 0) :: T0_779
def T0_777 : List Tok := (.iadd, 1, 0, 0) :: T0_778
def T0_776 : List Tok := (.iconst 3, 1, 0, 0) :: T0_777
def T0_775 : List Tok := (.iload_n 3, 1, 0, 0) :: T0_776
def T0_774 : List Tok := (.aload_n 0, 1, 0, 0) :: T0_775
def T0_773 : List Tok := (.iaload, 1, 0, 0) :: T0_774
def T0_772 : List Tok := (.iadd, 1, 0, 0) :: T0_773
def T0_771 : List Tok := (.iconst 2, 1, 0, 0) :: T0_772
def T0_770 : List Tok := (.iload_n 3, 1, 0, 0) :: T0_771
def T0_769 : List Tok := (.aload_n 0, 1, 0, 0) :: T0_770
def T0_768 : List Tok := (.iaload, 1, 0, 0) :: T0_769
def T0_767 : List Tok := (.iadd, 1, 0, 0) :: T0_768
def T0_766 : List Tok := (.iconst 1, 1, 0, 0) :: T0_767
def T0_765 : List Tok := (.iload_n 3, 1, 0, 0) :: T0_766
def T0_764 : List Tok := (.aload_n 0, 1, 0, 0) :: T0_765
def T0_763 : List Tok := (.aload_n 1, 1, 0, 0) :: T0_764
def T0_762 : List Tok := (.goto 824, 3, 0, 0) :: T0_763
def T0_761 : List Tok := (.pop, 1, 0, 0) :: T0_762
def T0_760 : List Tok := (.invokevirtual 123, 3, 248, 1739) :: T0_761
def T0_759 : List Tok := (.iaload, 1, 0, 0) :: T0_760
def T0_758 : List Tok := (.iadd, 1, 0, 0) :: T0_759
def T0_757 : List Tok := (.iconst 2, 1, 0, 0) :: T0_758
def T0_756 : List Tok := (.iload_n 3, 1, 0, 0) :: T0_757
def T0_755 : List Tok := (.aload_n 0, 1, 0, 0) :: T0_756
def T0_754 : List Tok := (.iaload, 1, 0, 0) :: T0_755
def T0_753 : List Tok := (.iadd, 1, 0, 0) :: T0_754
def T0_752 : List Tok := (.iconst 1, 1, 0, 0) :: T0_753
def T0_751 : List Tok := (.iload_n 3, 1, 0, 0) :: T0_752
def T0_750 : List Tok := (.aload_n 0, 1, 0, 0) :: T0_751
def T0_749 : List Tok := (.aload_n 2, 1, 0, 0) :: T0_750
def T0_748 : List Tok := (.pop, 1, 0, 0) :: T0_749
def T0_747 : List Tok := (.invokevirtual 120, 3, 147, 999) :: T0_748
def T0_746 : List Tok := (.iaload, 1, 0, 0) :: T0_747
def T0_745 : List Tok := (.iadd, 1, 0, 0) :: T0_746
def T0_744 : List Tok := (.iconst 2, 1, 0, 0) :: T0_745
def T0_743 : List Tok := (.iload_n 3, 1, 0, 0) :: T0_744
def T0_742 : List Tok := (.aload_n 0, 1, 0, 0) :: T0_743
def T0_741 : List Tok := (.iaload, 1, 0, 0) :: T0_742
def T0_740 : List Tok := (.iadd, 1, 0, 0) :: T0_741
def T0_739 : List Tok := (.iconst 1, 1, 0, 0) :: T0_740
def T0_738 : List Tok := (.iload_n 3, 1, 0, 0) :: T0_739
def T0_737 : List Tok := (.aload_n 0, 1, 0, 0) :: T0_738
def T0_736 : List Tok := (.aload_n 1, 1, 0, 0) :: T0_737
def T0_735 : List Tok := (.goto 857, 3, 0, 0) :: T0_736
def T0_734 : List Tok := (.pop, 1, 0, 0) :: T0_735
def T0_733 : List Tok := (.invokevirtual 119, 3, 246, 1731) :: T0_734
def T0_732 : List Tok := (.iaload, 1, 0, 0) :: T0_733
def T0_731 : List Tok := (.iadd, 1, 0, 0) :: T0_732
def T0_730 : List Tok := (.iconst 2, 1, 0, 0) :: T0_731
def T0_729 : List Tok := (.iload_n 3, 1, 0, 0) :: T0_730
def T0_728 : List Tok := (.aload_n 0, 1, 0, 0) :: T0_729
def T0_727 : List Tok := (.iaload, 1, 0, 0) :: T0_728
def T0_726 : List Tok := (.iadd, 1, 0, 0) :: T0_727
def T0_725 : List Tok := (.iconst 1, 1, 0, 0) :: T0_726
def T0_724 : List Tok := (.iload_n 3, 1, 0, 0) :: T0_725
def T0_723 : List Tok := (.aload_n 0, 1, 0, 0) :: T0_724
def T0_722 : List Tok := (.aload_n 2, 1, 0, 0) :: T0_723
def T0_721 : List Tok := (.pop, 1, 0, 0) :: T0_722
def T0_720 : List Tok := (.invokevirtual 116, 3, 146, 979) :: T0_721
def T0_719 : List Tok := (.iaload, 1, 0, 0) :: T0_720
def T0_718 : List Tok := (.iadd, 1, 0, 0) :: T0_719
def T0_717 : List Tok := (.iconst 2, 1, 0, 0) :: T0_718
def T0_716 : List Tok := (.iload_n 3, 1, 0, 0) :: T0_717
def T0_715 : List Tok := (.aload_n 0, 1, 0, 0) :: T0_716
def T0_714 : List Tok := (.iaload, 1, 0, 0) :: T0_715
def T0_713 : List Tok := (.iadd, 1, 0, 0) :: T0_714
def T0_712 : List Tok := (.iconst 1, 1, 0, 0) :: T0_713
def T0_711 : List Tok := (.iload_n 3, 1, 0, 0) :: T0_712
def T0_710 : List Tok := (.aload_n 0, 1, 0, 0) :: T0_711
def T0_709 : List Tok := (.aload_n 1, 1, 0, 0) :: T0_710
def T0_708 : List Tok := (.goto 890, 3, 0, 0) :: T0_709
def T0_707 : List Tok := (.pop, 1, 0, 0) :: T0_708
def T0_706 : List Tok := (.invokevirtual 115, 3, 244, 1727) :: T0_707
def T0_705 : List Tok := (.iaload, 1, 0, 0) :: T0_706
def T0_704 : List Tok := (.iadd, 1, 0, 0) :: T0_705
def T0_703 : List Tok := (.iconst 3, 1, 0, 0) :: T0_704
def T0_702 : List Tok := (.iload_n 3, 1, 0, 0) :: T0_703
def T0_701 : List Tok := (.aload_n 0, 1, 0, 0) :: T0_702
def T0_700 : List Tok := (.iaload, 1, 0, 0) :: T0_701
def T0_699 : List Tok := (.iadd, 1, 0, 0) :: T0_700
def T0_698 : List Tok := (.iconst 2, 1, 0, 0) :: T0_699
def T0_697 : List Tok := (.iload_n 3, 1, 0, 0) :: T0_698
def T0_696 : List Tok := (.aload_n 0, 1, 0, 0) :: T0_697
def T0_695 : List Tok := (.iaload, 1, 0, 0) :: T0_696
def T0_694 : List Tok := (.iadd, 1, 0, 0) :: T0_695
def T0_693 : List Tok := (.iconst 1, 1, 0, 0) :: T0_694
def T0_692 : List Tok := (.iload_n 3, 1, 0, 0) :: T0_693
def T0_691 : List Tok := (.aload_n 0, 1, 0, 0) :: T0_692
def T0_690 : List Tok := (.aload_n 2, 1, 0, 0) :: T0_691
def T0_689 : List Tok := (.pop, 1, 0, 0) :: T0_690
def T0_688 : List Tok := (.invokevirtual 112, 3, 145, 970) :: T0_689
def T0_687 : List Tok := (.iaload, 1, 0, 0) :: T0_688
def T0_686 : List Tok := (.iadd, 1, 0, 0) :: T0_687
def T0_685 : List Tok := (.iconst 3, 1, 0, 0) :: T0_686
def T0_684 : List Tok := (.iload_n 3, 1, 0, 0) :: T0_685
def T0_683 : List Tok := (.aload_n 0, 1, 0, 0) :: T0_684
def T0_682 : List Tok := (.iaload, 1, 0, 0) :: T0_683
def T0_681 : List Tok := (.iadd, 1, 0, 0) :: T0_682
def T0_680 : List Tok := (.iconst 2, 1, 0, 0) :: T0_681
def T0_679 : List Tok := (.iload_n 3, 1, 0, 0) :: T0_680
def T0_678 : List Tok := (.aload_n 0, 1, 0, 0) :: T0_679
def T0_677 : List Tok := (.iaload, 1, 0, 0) :: T0_678
def T0_676 : List Tok := (.iadd, 1, 0, 0) :: T0_677
def T0_675 : List Tok := (.iconst 1, 1, 0, 0) :: T0_676
def T0_674 : List Tok := (.iload_n 3, 1, 0, 0) :: T0_675
def T0_673 : List Tok := (.aload_n 0, 1, 0, 0) :: T0_674
def T0_672 : List Tok := (.aload_n 1, 1, 0, 0) :: T0_673
def T0_671 : List Tok := (.goto 933, 3, 0, 0) :: T0_672
def T0_670 : List Tok := (.pop, 1, 0, 0) :: T0_671
def T0_669 : List Tok := (.invokevirtual 111, 3, 243, 1721) :: T0_670
def T0_668 : List Tok := (.iaload, 1, 0, 0) :: T0_669
def T0_667 : List Tok := (.iadd, 1, 0, 0) :: T0_668
def T0_666 : List Tok := (.iconst 2, 1, 0, 0) :: T0_667
def T0_665 : List Tok := (.iload_n 3, 1, 0, 0) :: T0_666
def T0_664 : List Tok := (.aload_n 0, 1, 0, 0) :: T0_665
def T0_663 : List Tok := (.iaload, 1, 0, 0) :: T0_664
def T0_662 : List Tok := (.iadd, 1, 0, 0) :: T0_663
def T0_661 : List Tok := (.iconst 1, 1, 0, 0) :: T0_662
def T0_660 : List Tok := (.iload_n 3, 1, 0, 0) :: T0_661
def T0_659 : List Tok := (.aload_n 0, 1, 0, 0) :: T0_660
def T0_658 : List Tok := (.aload_n 2, 1, 0, 0) :: T0_659
def T0_657 : List Tok := (.pop, 1, 0, 0) :: T0_658
def T0_656 : List Tok := (.invokevirtual 108, 3, 144, 953) :: T0_657
def T0_655 : List Tok := (.iaload, 1, 0, 0) :: T0_656
def T0_654 : List Tok := (.iadd, 1, 0, 0) :: T0_655
def T0_653 : List Tok := (.iconst 2, 1, 0, 0) :: T0_654
def T0_652 : List Tok := (.iload_n 3, 1, 0, 0) :: T0_653
def T0_651 : List Tok := (.aload_n 0, 1, 0, 0) :: T0_652
def T0_650 : List Tok := (.iaload, 1, 0, 0) :: T0_651
def T0_649 : List Tok := (.iadd, 1, 0, 0) :: T0_650
def T0_648 : List Tok := (.iconst 1, 1, 0, 0) :: T0_649
def T0_647 : List Tok := (.iload_n 3, 1, 0, 0) :: T0_648
def T0_646 : List Tok := (.aload_n 0, 1, 0, 0) :: T0_647
def T0_645 : List Tok := (.aload_n 1, 1, 0, 0) :: T0_646
def T0_644 : List Tok := (.goto 966, 3, 0, 0) :: T0_645
def T0_643 : List Tok := (.pop, 1, 0, 0) :: T0_644
def T0_642 : List Tok := (.invokevirtual 107, 3, 242, 1716) :: T0_643
def T0_641 : List Tok := (.iaload, 1, 0, 0) :: T0_642
def T0_640 : List Tok := (.iadd, 1, 0, 0) :: T0_641
def T0_639 : List Tok := (.iconst 3, 1, 0, 0) :: T0_640
def T0_638 : List Tok := (.iload_n 3, 1, 0, 0) :: T0_639
def T0_637 : List Tok := (.aload_n 0, 1, 0, 0) :: T0_638
def T0_636 : List Tok := (.iaload, 1, 0, 0) :: T0_637
def T0_635 : List Tok := (.iadd, 1, 0, 0) :: T0_636
def T0_634 : List Tok := (.iconst 2, 1, 0, 0) :: T0_635
def T0_633 : List Tok := (.iload_n 3, 1, 0, 0) :: T0_634
def T0_632 : List Tok := (.aload_n 0, 1, 0, 0) :: T0_633
def T0_631 : List Tok := (.iaload, 1, 0, 0) :: T0_632
def T0_630 : List Tok := (.iadd, 1, 0, 0) :: T0_631
def T0_629 : List Tok := (.iconst 1, 1, 0, 0) :: T0_630
def T0_628 : List Tok := (.iload_n 3, 1, 0, 0) :: T0_629
def T0_627 : List Tok := (.aload_n 0, 1, 0, 0) :: T0_628
def T0_626 : List Tok := (.aload_n 2, 1, 0, 0) :: T0_627
def T0_625 : List Tok := (.pop, 1, 0, 0) :: T0_626
def T0_624 : List Tok := (.invokevirtual 104, 3, 143, 944) :: T0_625
def T0_623 : List Tok := (.iaload, 1, 0, 0) :: T0_624
def T0_622 : List Tok := (.iadd, 1, 0, 0) :: T0_623
def T0_621 : List Tok := (.iconst 3, 1, 0, 0) :: T0_622
def T0_620 : List Tok := (.iload_n 3, 1, 0, 0) :: T0_621
def T0_619 : List Tok := (.aload_n 0, 1, 0, 0) :: T0_620
def T0_618 : List Tok := (.iaload, 1, 0, 0) :: T0_619
def T0_617 : List Tok := (.iadd, 1, 0, 0) :: T0_618
def T0_616 : List Tok := (.iconst 2, 1, 0, 0) :: T0_617
def T0_615 : List Tok := (.iload_n 3, 1, 0, 0) :: T0_616
def T0_614 : List Tok := (.aload_n 0, 1, 0, 0) :: T0_615
def T0_613 : List Tok := (.iaload, 1, 0, 0) :: T0_614
def T0_612 : List Tok := (.iadd, 1, 0, 0) :: T0_613
def T0_611 : List Tok := (.iconst 1, 1, 0, 0) :: T0_612
def T0_610 : List Tok := (.iload_n 3, 1, 0, 0) :: T0_611
def T0_609 : List Tok := (.aload_n 0, 1, 0, 0) :: T0_610
def T0_608 : List Tok := (.aload_n 1, 1, 0, 0) :: T0_609
def T0_607 : List Tok := (.goto 1009, 3, 0, 0) :: T0_608
def T0_606 : List Tok := (.pop, 1, 0, 0) :: T0_607
def T0_605 : List Tok := (.invokevirtual 103, 3, 241, 1695) :: T0_606
def T0_604 : List Tok := (.iaload, 1, 0, 0) :: T0_605
def T0_603 : List Tok := (.iadd, 1, 0, 0) :: T0_604
def T0_602 : List Tok := (.iconst 3, 1, 0, 0) :: T0_603
def T0_601 : List Tok := (.iload_n 3, 1, 0, 0) :: T0_602
def T0_600 : List Tok := (.aload_n 0, 1, 0, 0) :: T0_601
def T0_599 : List Tok := (.iaload, 1, 0, 0) :: T0_600
def T0_598 : List Tok := (.iadd, 1, 0, 0) :: T0_599
def T0_597 : List Tok := (.iconst 2, 1, 0, 0) :: T0_598
def T0_596 : List Tok := (.iload_n 3, 1, 0, 0) :: T0_597
def T0_595 : List Tok := (.aload_n 0, 1, 0, 0) :: T0_596
def T0_594 : List Tok := (.iaload, 1, 0, 0) :: T0_595
def T0_593 : List Tok := (.iadd, 1, 0, 0) :: T0_594
def T0_592 : List Tok := (.iconst 1, 1, 0, 0) :: T0_593
def T0_591 : List Tok := (.iload_n 3, 1, 0, 0) :: T0_592
def T0_590 : List Tok := (.aload_n 0, 1, 0, 0) :: T0_591
def T0_589 : List Tok := (.aload_n 2, 1, 0, 0) :: T0_590
def T0_588 : List Tok := (.pop, 1, 0, 0) :: T0_589
def T0_587 : List Tok := (.invokevirtual 100, 3, 142, 902) :: T0_588
def T0_586 : List Tok := (.iaload, 1, 0, 0) :: T0_587
def T0_585 : List Tok := (.iadd, 1, 0, 0) :: T0_586
def T0_584 : List Tok := (.iconst 3, 1, 0, 0) :: T0_585
def T0_583 : List Tok := (.iload_n 3, 1, 0, 0) :: T0_584
def T0_582 : List Tok := (.aload_n 0, 1, 0, 0) :: T0_583
def T0_581 : List Tok := (.iaload, 1, 0, 0) :: T0_582
def T0_580 : List Tok := (.iadd, 1, 0, 0) :: T0_581
def T0_579 : List Tok := (.iconst 2, 1, 0, 0) :: T0_580
def T0_578 : List Tok := (.iload_n 3, 1, 0, 0) :: T0_579
def T0_577 : List Tok := (.aload_n 0, 1, 0, 0) :: T0_578
def T0_576 : List Tok := (.iaload, 1, 0, 0) :: T0_577
def T0_575 : List Tok := (.iadd, 1, 0, 0) :: T0_576
def T0_574 : List Tok := (.iconst 1, 1, 0, 0) :: T0_575
def T0_573 : List Tok := (.iload_n 3, 1, 0, 0) :: T0_574
def T0_572 : List Tok := (.aload_n 0, 1, 0, 0) :: T0_573
def T0_571 : List Tok := (.aload_n 1, 1, 0, 0) :: T0_572
def T0_570 : List Tok := (.goto 1052, 3, 0, 0) :: T0_571
def T0_569 : List Tok := (.pop, 1, 0, 0) :: T0_570
def T0_568 : List Tok := (.invokevirtual 99, 3, 237, 1679) :: T0_569
def T0_567 : List Tok := (.iaload, 1, 0, 0) :: T0_568
def T0_566 : List Tok := (.iadd, 1, 0, 0) :: T0_567
def T0_565 : List Tok := (.iconst 2, 1, 0, 0) :: T0_566
def T0_564 : List Tok := (.iload_n 3, 1, 0, 0) :: T0_565
def T0_563 : List Tok := (.aload_n 0, 1, 0, 0) :: T0_564
def T0_562 : List Tok := (.iaload, 1, 0, 0) :: T0_563
def T0_561 : List Tok := (.iadd, 1, 0, 0) :: T0_562
def T0_560 : List Tok := (.iconst 1, 1, 0, 0) :: T0_561
def T0_559 : List Tok := (.iload_n 3, 1, 0, 0) :: T0_560
def T0_558 : List Tok := (.aload_n 0, 1, 0, 0) :: T0_559
def T0_557 : List Tok := (.aload_n 2, 1, 0, 0) :: T0_558
def T0_556 : List Tok := (.pop, 1, 0, 0) :: T0_557
def T0_555 : List Tok := (.invokevirtual 96, 3, 141, 876) :: T0_556
def T0_554 : List Tok := (.iaload, 1, 0, 0) :: T0_555
def T0_553 : List Tok := (.iadd, 1, 0, 0) :: T0_554
def T0_552 : List Tok := (.iconst 2, 1, 0, 0) :: T0_553
def T0_551 : List Tok := (.iload_n 3, 1, 0, 0) :: T0_552
def T0_550 : List Tok := (.aload_n 0, 1, 0, 0) :: T0_551
def T0_549 : List Tok := (.iaload, 1, 0, 0) :: T0_550
def T0_548 : List Tok := (.iadd, 1, 0, 0) :: T0_549
def T0_547 : List Tok := (.iconst 1, 1, 0, 0) :: T0_548
def T0_546 : List Tok := (.iload_n 3, 1, 0, 0) :: T0_547
def T0_545 : List Tok := (.aload_n 0, 1, 0, 0) :: T0_546
def T0_544 : List Tok := (.aload_n 1, 1, 0, 0) :: T0_545
def T0_543 : List Tok := (.goto 1085, 3, 0, 0) :: T0_544
def T0_542 : List Tok := (.pop, 1, 0, 0) :: T0_543
def T0_541 : List Tok := (.invokevirtual 95, 3, 233, 1672) :: T0_542
def T0_540 : List Tok := (.iconst 0, 1, 0, 0) :: T0_541
def T0_539 : List Tok := (.goto 4, 3, 0, 0) :: T0_540
def T0_538 : List Tok := (.iconst 1, 1, 0, 0) :: T0_539
def T0_537 : List Tok := (.ifCond .eq 7, 3, 0, 0) :: T0_538
def T0_536 : List Tok := (.iaload, 1, 0, 0) :: T0_537
def T0_535 : List Tok := (.iadd, 1, 0, 0) :: T0_536
def T0_534 : List Tok := (.iconst 5, 1, 0, 0) :: T0_535
def T0_533 : List Tok := (.iload_n 3, 1, 0, 0) :: T0_534
def T0_532 : List Tok := (.aload_n 0, 1, 0, 0) :: T0_533
def T0_531 : List Tok := (.iaload, 1, 0, 0) :: T0_532
def T0_530 : List Tok := (.iadd, 1, 0, 0) :: T0_531
def T0_529 : List Tok := (.iconst 4, 1, 0, 0) :: T0_530
def T0_528 : List Tok := (.iload_n 3, 1, 0, 0) :: T0_529
def T0_527 : List Tok := (.aload_n 0, 1, 0, 0) :: T0_528
def T0_526 : List Tok := (.iaload, 1, 0, 0) :: T0_527
def T0_525 : List Tok := (.iadd, 1, 0, 0) :: T0_526
def T0_524 : List Tok := (.iconst 3, 1, 0, 0) :: T0_525
def T0_523 : List Tok := (.iload_n 3, 1, 0, 0) :: T0_524
def T0_522 : List Tok := (.aload_n 0, 1, 0, 0) :: T0_523
def T0_521 : List Tok := (.iaload, 1, 0, 0) :: T0_522
def T0_520 : List Tok := (.iadd, 1, 0, 0) :: T0_521
def T0_519 : List Tok := (.iconst 2, 1, 0, 0) :: T0_520
def T0_518 : List Tok := (.iload_n 3, 1, 0, 0) :: T0_519
def T0_517 : List Tok := (.aload_n 0, 1, 0, 0) :: T0_518
def T0_516 : List Tok := (.iaload, 1, 0, 0) :: T0_517
def T0_515 : List Tok := (.iadd, 1, 0, 0) :: T0_516
def T0_514 : List Tok := (.iconst 1, 1, 0, 0) :: T0_515
def T0_513 : List Tok := (.iload_n 3, 1, 0, 0) :: T0_514
def T0_512 : List Tok := (.aload_n 0, 1, 0, 0) :: T0_513
def T0_511 : List Tok := (.aload_n 2, 1, 0, 0) :: T0_512
def T0_510 : List Tok := (.pop, 1, 0, 0) :: T0_511
def T0_509 : List Tok := (.invokevirtual 91, 3, 140, 863) :: T0_510
def T0_508 : List Tok := (.iconst 0, 1, 0, 0) :: T0_509
def T0_507 : List Tok := (.goto 4, 3, 0, 0) :: T0_508
def T0_506 : List Tok := (.iconst 1, 1, 0, 0) :: T0_507
def T0_505 : List Tok := (.ifCond .eq 7, 3, 0, 0) :: T0_506
def T0_504 : List Tok := (.iaload, 1, 0, 0) :: T0_505
def T0_503 : List Tok := (.iadd, 1, 0, 0) :: T0_504
def T0_502 : List Tok := (.iconst 5, 1, 0, 0) :: T0_503
def T0_501 : List Tok := (.iload_n 3, 1, 0, 0) :: T0_502
def T0_500 : List Tok := (.aload_n 0, 1, 0, 0) :: T0_501
def T0_499 : List Tok := (.iaload, 1, 0, 0) :: T0_500
def T0_498 : List Tok := (.iadd, 1, 0, 0) :: T0_499
def T0_497 : List Tok := (.iconst 4, 1, 0, 0) :: T0_498
def T0_496 : List Tok := (.iload_n 3, 1, 0, 0) :: T0_497
def T0_495 : List Tok := (.aload_n 0, 1, 0, 0) :: T0_496
def T0_494 : List Tok := (.iaload, 1, 0, 0) :: T0_495
def T0_493 : List Tok := (.iadd, 1, 0, 0) :: T0_494
def T0_492 : List Tok := (.iconst 3, 1, 0, 0) :: T0_493
def T0_491 : List Tok := (.iload_n 3, 1, 0, 0) :: T0_492
def T0_490 : List Tok := (.aload_n 0, 1, 0, 0) :: T0_491
def T0_489 : List Tok := (.iaload, 1, 0, 0) :: T0_490
def T0_488 : List Tok := (.iadd, 1, 0, 0) :: T0_489
def T0_487 : List Tok := (.iconst 2, 1, 0, 0) :: T0_488
def T0_486 : List Tok := (.iload_n 3, 1, 0, 0) :: T0_487
def T0_485 : List Tok := (.aload_n 0, 1, 0, 0) :: T0_486
def T0_484 : List Tok := (.iaload, 1, 0, 0) :: T0_485
def T0_483 : List Tok := (.iadd, 1, 0, 0) :: T0_484
def T0_482 : List Tok := (.iconst 1, 1, 0, 0) :: T0_483
def T0_481 : List Tok := (.iload_n 3, 1, 0, 0) :: T0_482
def T0_480 : List Tok := (.aload_n 0, 1, 0, 0) :: T0_481
def T0_479 : List Tok := (.aload_n 1, 1, 0, 0) :: T0_480
def T0_478 : List Tok := (.goto 1164, 3, 0, 0) :: T0_479
def T0_477 : List Tok := (.pop, 1, 0, 0) :: T0_478
def T0_476 : List Tok := (.invokevirtual 90, 3, 232, 1664) :: T0_477
def T0_475 : List Tok := (.iaload, 1, 0, 0) :: T0_476
def T0_474 : List Tok := (.iadd, 1, 0, 0) :: T0_475
def T0_473 : List Tok := (.iconst 2, 1, 0, 0) :: T0_474
def T0_472 : List Tok := (.iload_n 3, 1, 0, 0) :: T0_473
def T0_471 : List Tok := (.aload_n 0, 1, 0, 0) :: T0_472
def T0_470 : List Tok := (.iaload, 1, 0, 0) :: T0_471
def T0_469 : List Tok := (.iadd, 1, 0, 0) :: T0_470
def T0_468 : List Tok := (.iconst 1, 1, 0, 0) :: T0_469
def T0_467 : List Tok := (.iload_n 3, 1, 0, 0) :: T0_468
def T0_466 : List Tok := (.aload_n 0, 1, 0, 0) :: T0_467
def T0_465 : List Tok := (.aload_n 2, 1, 0, 0) :: T0_466
def T0_464 : List Tok := (.pop, 1, 0, 0) :: T0_465
def T0_463 : List Tok := (.invokevirtual 87, 3, 139, 855) :: T0_464
def T0_462 : List Tok := (.iaload, 1, 0, 0) :: T0_463
def T0_461 : List Tok := (.iadd, 1, 0, 0) :: T0_462
def T0_460 : List Tok := (.iconst 2, 1, 0, 0) :: T0_461
def T0_459 : List Tok := (.iload_n 3, 1, 0, 0) :: T0_460
def T0_458 : List Tok := (.aload_n 0, 1, 0, 0) :: T0_459
def T0_457 : List Tok := (.iaload, 1, 0, 0) :: T0_458
def T0_456 : List Tok := (.iadd, 1, 0, 0) :: T0_457
def T0_455 : List Tok := (.iconst 1, 1, 0, 0) :: T0_456
def T0_454 : List Tok := (.iload_n 3, 1, 0, 0) :: T0_455
def T0_453 : List Tok := (.aload_n 0, 1, 0, 0) :: T0_454
def T0_452 : List Tok := (.aload_n 1, 1, 0, 0) :: T0_453
def T0_451 : List Tok := (.goto 1197, 3, 0, 0) :: T0_452
def T0_450 : List Tok := (.pop, 1, 0, 0) :: T0_451
def T0_449 : List Tok := (.invokevirtual 86, 3, 230, 1656) :: T0_450
def T0_448 : List Tok := (.iaload, 1, 0, 0) :: T0_449
def T0_447 : List Tok := (.iadd, 1, 0, 0) :: T0_448
def T0_446 : List Tok := (.iconst 2, 1, 0, 0) :: T0_447
def T0_445 : List Tok := (.iload_n 3, 1, 0, 0) :: T0_446
def T0_444 : List Tok := (.aload_n 0, 1, 0, 0) :: T0_445
def T0_443 : List Tok := (.iaload, 1, 0, 0) :: T0_444
def T0_442 : List Tok := (.iadd, 1, 0, 0) :: T0_443
def T0_441 : List Tok := (.iconst 1, 1, 0, 0) :: T0_442
def T0_440 : List Tok := (.iload_n 3, 1, 0, 0) :: T0_441
def T0_439 : List Tok := (.aload_n 0, 1, 0, 0) :: T0_440
def T0_438 : List Tok := (.aload_n 2, 1, 0, 0) :: T0_439
def T0_437 : List Tok := (.pop, 1, 0, 0) :: T0_438
def T0_436 : List Tok := (.invokevirtual 83, 3, 138, 844) :: T0_437
def T0_435 : List Tok := (.iaload, 1, 0, 0) :: T0_436
def T0_434 : List Tok := (.iadd, 1, 0, 0) :: T0_435
def T0_433 : List Tok := (.iconst 2, 1, 0, 0) :: T0_434
def T0_432 : List Tok := (.iload_n 3, 1, 0, 0) :: T0_433
def T0_431 : List Tok := (.aload_n 0, 1, 0, 0) :: T0_432
def T0_430 : List Tok := (.iaload, 1, 0, 0) :: T0_431
def T0_429 : List Tok := (.iadd, 1, 0, 0) :: T0_430
def T0_428 : List Tok := (.iconst 1, 1, 0, 0) :: T0_429
def T0_427 : List Tok := (.iload_n 3, 1, 0, 0) :: T0_428
def T0_426 : List Tok := (.aload_n 0, 1, 0, 0) :: T0_427
def T0_425 : List Tok := (.aload_n 1, 1, 0, 0) :: T0_426
def T0_424 : List Tok := (.ireturn, 1, 0, 0) :: T0_425
def T0_423 : List Tok := (.iconst 0, 1, 0, 0) :: T0_424
def T0_422 : List Tok := (.if_icmp .eq 1232, 3, 0, 0) :: T0_423
def T0_421 : List Tok := (.invokevirtual 82, 3, 227, 1652) :: T0_422
def T0_420 : List Tok := (.iaload, 1, 0, 0) :: T0_421
def T0_419 : List Tok := (.iadd, 1, 0, 0) :: T0_420
def T0_418 : List Tok := (.iconst 2, 1, 0, 0) :: T0_419
def T0_417 : List Tok := (.iload_n 3, 1, 0, 0) :: T0_418
def T0_416 : List Tok := (.aload_n 0, 1, 0, 0) :: T0_417
def T0_415 : List Tok := (.iaload, 1, 0, 0) :: T0_416
def T0_414 : List Tok := (.iadd, 1, 0, 0) :: T0_415
def T0_413 : List Tok := (.iconst 1, 1, 0, 0) :: T0_414
def T0_412 : List Tok := (.iload_n 3, 1, 0, 0) :: T0_413
def T0_411 : List Tok := (.aload_n 0, 1, 0, 0) :: T0_412
def T0_410 : List Tok := (.aload_n 2, 1, 0, 0) :: T0_411
def T0_409 : List Tok := (.invokevirtual 79, 3, 137, 832) :: T0_410
def T0_408 : List Tok := (.iaload, 1, 0, 0) :: T0_409
def T0_407 : List Tok := (.iadd, 1, 0, 0) :: T0_408
def T0_406 : List Tok := (.iconst 2, 1, 0, 0) :: T0_407
def T0_405 : List Tok := (.iload_n 3, 1, 0, 0) :: T0_406
def T0_404 : List Tok := (.aload_n 0, 1, 0, 0) :: T0_405
def T0_403 : List Tok := (.iaload, 1, 0, 0) :: T0_404
def T0_402 : List Tok := (.iadd, 1, 0, 0) :: T0_403
def T0_401 : List Tok := (.iconst 1, 1, 0, 0) :: T0_402
def T0_400 : List Tok := (.iload_n 3, 1, 0, 0) :: T0_401
def T0_399 : List Tok := (.aload_n 0, 1, 0, 0) :: T0_400
def T0_398 : List Tok := (.aload_n 1, 1, 0, 0) :: T0_399
def T0_397 : List Tok := (.goto 1263, 3, 0, 0) :: T0_398
def T0_396 : List Tok := (.pop, 1, 0, 0) :: T0_397
def T0_395 : List Tok := (.invokevirtual 78, 3, 226, 1588) :: T0_396
def T0_394 : List Tok := (.aload_n 2, 1, 0, 0) :: T0_395
def T0_393 : List Tok := (.pop, 1, 0, 0) :: T0_394
def T0_392 : List Tok := (.invokevirtual 74, 3, 136, 670) :: T0_393
def T0_391 : List Tok := (.aload_n 1, 1, 0, 0) :: T0_392
def T0_390 : List Tok := (.goto 1276, 3, 0, 0) :: T0_391
def T0_389 : List Tok := (.pop, 1, 0, 0) :: T0_390
def T0_388 : List Tok := (.invokevirtual 73, 3, 210, 1583) :: T0_389
def T0_387 : List Tok := (.iaload, 1, 0, 0) :: T0_388
def T0_386 : List Tok := (.iadd, 1, 0, 0) :: T0_387
def T0_385 : List Tok := (.iconst 3, 1, 0, 0) :: T0_386
def T0_384 : List Tok := (.iload_n 3, 1, 0, 0) :: T0_385
def T0_383 : List Tok := (.aload_n 0, 1, 0, 0) :: T0_384
def T0_382 : List Tok := (.lor, 1, 0, 0) :: T0_383
def T0_381 : List Tok := (.land, 1, 0, 0) :: T0_382
def T0_380 : List Tok := (.ldc2_w 67, 3, 17, 1942) :: T0_381
def T0_379 : List Tok := (.i2l, 1, 0, 0) :: T0_380
def T0_378 : List Tok := (.iaload, 1, 0, 0) :: T0_379
def T0_377 : List Tok := (.iadd, 1, 0, 0) :: T0_378
def T0_376 : List Tok := (.iconst 2, 1, 0, 0) :: T0_377
def T0_375 : List Tok := (.iload_n 3, 1, 0, 0) :: T0_376
def T0_374 : List Tok := (.aload_n 0, 1, 0, 0) :: T0_375
def T0_373 : List Tok := (.lshl, 1, 0, 0) :: T0_374
def T0_372 : List Tok := (.bipush 32, 2, 0, 0) :: T0_373
def T0_371 : List Tok := (.i2l, 1, 0, 0) :: T0_372
def T0_370 : List Tok := (.iaload, 1, 0, 0) :: T0_371
def T0_369 : List Tok := (.iadd, 1, 0, 0) :: T0_370
def T0_368 : List Tok := (.iconst 1, 1, 0, 0) :: T0_369
def T0_367 : List Tok := (.iload_n 3, 1, 0, 0) :: T0_368
def T0_366 : List Tok := (.aload_n 0, 1, 0, 0) :: T0_367
def T0_365 : List Tok := (.aload_n 2, 1, 0, 0) :: T0_366
def T0_364 : List Tok := (.pop, 1, 0, 0) :: T0_365
def T0_363 : List Tok := (.invokevirtual 69, 3, 135, 661) :: T0_364
def T0_362 : List Tok := (.iaload, 1, 0, 0) :: T0_363
def T0_361 : List Tok := (.iadd, 1, 0, 0) :: T0_362
def T0_360 : List Tok := (.iconst 3, 1, 0, 0) :: T0_361
def T0_359 : List Tok := (.iload_n 3, 1, 0, 0) :: T0_360
def T0_358 : List Tok := (.aload_n 0, 1, 0, 0) :: T0_359
def T0_357 : List Tok := (.lor, 1, 0, 0) :: T0_358
def T0_356 : List Tok := (.land, 1, 0, 0) :: T0_357
def T0_355 : List Tok := (.ldc2_w 67, 3, 17, 1942) :: T0_356
def T0_354 : List Tok := (.i2l, 1, 0, 0) :: T0_355
def T0_353 : List Tok := (.iaload, 1, 0, 0) :: T0_354
def T0_352 : List Tok := (.iadd, 1, 0, 0) :: T0_353
def T0_351 : List Tok := (.iconst 2, 1, 0, 0) :: T0_352
def T0_350 : List Tok := (.iload_n 3, 1, 0, 0) :: T0_351
def T0_349 : List Tok := (.aload_n 0, 1, 0, 0) :: T0_350
def T0_348 : List Tok := (.lshl, 1, 0, 0) :: T0_349
def T0_347 : List Tok := (.bipush 32, 2, 0, 0) :: T0_348
def T0_346 : List Tok := (.i2l, 1, 0, 0) :: T0_347
def T0_345 : List Tok := (.iaload, 1, 0, 0) :: T0_346
def T0_344 : List Tok := (.iadd, 1, 0, 0) :: T0_345
def T0_343 : List Tok := (.iconst 1, 1, 0, 0) :: T0_344
def T0_342 : List Tok := (.iload_n 3, 1, 0, 0) :: T0_343
def T0_341 : List Tok := (.aload_n 0, 1, 0, 0) :: T0_342
def T0_340 : List Tok := (.aload_n 1, 1, 0, 0) :: T0_341
def T0_339 : List Tok := (.goto 1339, 3, 0, 0) :: T0_340
def T0_338 : List Tok := (.pop, 1, 0, 0) :: T0_339
def T0_337 : List Tok := (.invokevirtual 66, 3, 209, 1575) :: T0_338
def T0_336 : List Tok := (.iconst 0, 1, 0, 0) :: T0_337
def T0_335 : List Tok := (.goto 4, 3, 0, 0) :: T0_336
def T0_334 : List Tok := (.iconst 1, 1, 0, 0) :: T0_335
def T0_333 : List Tok := (.ifCond .eq 7, 3, 0, 0) :: T0_334
def T0_332 : List Tok := (.iaload, 1, 0, 0) :: T0_333
def T0_331 : List Tok := (.iadd, 1, 0, 0) :: T0_332
def T0_330 : List Tok := (.iconst 1, 1, 0, 0) :: T0_331
def T0_329 : List Tok := (.iload_n 3, 1, 0, 0) :: T0_330
def T0_328 : List Tok := (.aload_n 0, 1, 0, 0) :: T0_329
def T0_327 : List Tok := (.aload_n 2, 1, 0, 0) :: T0_328
def T0_326 : List Tok := (.pop, 1, 0, 0) :: T0_327
def T0_325 : List Tok := (.invokevirtual 62, 3, 134, 650) :: T0_326
def T0_324 : List Tok := (.iconst 0, 1, 0, 0) :: T0_325
def T0_323 : List Tok := (.goto 4, 3, 0, 0) :: T0_324
def T0_322 : List Tok := (.iconst 1, 1, 0, 0) :: T0_323
def T0_321 : List Tok := (.ifCond .eq 7, 3, 0, 0) :: T0_322
def T0_320 : List Tok := (.iaload, 1, 0, 0) :: T0_321
def T0_319 : List Tok := (.iadd, 1, 0, 0) :: T0_320
def T0_318 : List Tok := (.iconst 1, 1, 0, 0) :: T0_319
def T0_317 : List Tok := (.iload_n 3, 1, 0, 0) :: T0_318
def T0_316 : List Tok := (.aload_n 0, 1, 0, 0) :: T0_317
def T0_315 : List Tok := (.aload_n 1, 1, 0, 0) :: T0_316
def T0_314 : List Tok := (.goto 1378, 3, 0, 0) :: T0_315
def T0_313 : List Tok := (.pop, 1, 0, 0) :: T0_314
def T0_312 : List Tok := (.invokevirtual 61, 3, 208, 1571) :: T0_313
def T0_311 : List Tok := (.iaload, 1, 0, 0) :: T0_312
def T0_310 : List Tok := (.iadd, 1, 0, 0) :: T0_311
def T0_309 : List Tok := (.iconst 2, 1, 0, 0) :: T0_310
def T0_308 : List Tok := (.iload_n 3, 1, 0, 0) :: T0_309
def T0_307 : List Tok := (.aload_n 0, 1, 0, 0) :: T0_308
def T0_306 : List Tok := (.iaload, 1, 0, 0) :: T0_307
def T0_305 : List Tok := (.iadd, 1, 0, 0) :: T0_306
def T0_304 : List Tok := (.iconst 1, 1, 0, 0) :: T0_305
def T0_303 : List Tok := (.iload_n 3, 1, 0, 0) :: T0_304
def T0_302 : List Tok := (.aload_n 0, 1, 0, 0) :: T0_303
def T0_301 : List Tok := (.aload_n 2, 1, 0, 0) :: T0_302
def T0_300 : List Tok := (.pop, 1, 0, 0) :: T0_301
def T0_299 : List Tok := (.invokevirtual 58, 3, 133, 630) :: T0_300
def T0_298 : List Tok := (.iaload, 1, 0, 0) :: T0_299
def T0_297 : List Tok := (.iadd, 1, 0, 0) :: T0_298
def T0_296 : List Tok := (.iconst 2, 1, 0, 0) :: T0_297
def T0_295 : List Tok := (.iload_n 3, 1, 0, 0) :: T0_296
def T0_294 : List Tok := (.aload_n 0, 1, 0, 0) :: T0_295
def T0_293 : List Tok := (.iaload, 1, 0, 0) :: T0_294
def T0_292 : List Tok := (.iadd, 1, 0, 0) :: T0_293
def T0_291 : List Tok := (.iconst 1, 1, 0, 0) :: T0_292
def T0_290 : List Tok := (.iload_n 3, 1, 0, 0) :: T0_291
def T0_289 : List Tok := (.aload_n 0, 1, 0, 0) :: T0_290
def T0_288 : List Tok := (.aload_n 1, 1, 0, 0) :: T0_289
def T0_287 : List Tok := (.goto 1411, 3, 0, 0) :: T0_288
def T0_286 : List Tok := (.pop, 1, 0, 0) :: T0_287
def T0_285 : List Tok := (.invokevirtual 57, 3, 207, 1567) :: T0_286
def T0_284 : List Tok := (.iaload, 1, 0, 0) :: T0_285
def T0_283 : List Tok := (.iadd, 1, 0, 0) :: T0_284
def T0_282 : List Tok := (.iconst 1, 1, 0, 0) :: T0_283
def T0_281 : List Tok := (.iload_n 3, 1, 0, 0) :: T0_282
def T0_280 : List Tok := (.aload_n 0, 1, 0, 0) :: T0_281
def T0_279 : List Tok := (.aload_n 2, 1, 0, 0) :: T0_280
def T0_278 : List Tok := (.pop, 1, 0, 0) :: T0_279
def T0_277 : List Tok := (.invokevirtual 54, 3, 132, 621) :: T0_278
def T0_276 : List Tok := (.iaload, 1, 0, 0) :: T0_277
def T0_275 : List Tok := (.iadd, 1, 0, 0) :: T0_276
def T0_274 : List Tok := (.iconst 1, 1, 0, 0) :: T0_275
def T0_273 : List Tok := (.iload_n 3, 1, 0, 0) :: T0_274
def T0_272 : List Tok := (.aload_n 0, 1, 0, 0) :: T0_273
def T0_271 : List Tok := (.aload_n 1, 1, 0, 0) :: T0_272
def T0_270 : List Tok := (.goto 1434, 3, 0, 0) :: T0_271
def T0_269 : List Tok := (.pop, 1, 0, 0) :: T0_270
def T0_268 : List Tok := (.invokevirtual 53, 3, 206, 1547) :: T0_269
def T0_267 : List Tok := (.iaload, 1, 0, 0) :: T0_268
def T0_266 : List Tok := (.iadd, 1, 0, 0) :: T0_267
def T0_265 : List Tok := (.iconst 1, 1, 0, 0) :: T0_266
def T0_264 : List Tok := (.iload_n 3, 1, 0, 0) :: T0_265
def T0_263 : List Tok := (.aload_n 0, 1, 0, 0) :: T0_264
def T0_262 : List Tok := (.aload_n 2, 1, 0, 0) :: T0_263
def T0_261 : List Tok := (.pop, 1, 0, 0) :: T0_262
def T0_260 : List Tok := (.invokevirtual 50, 3, 131, 608) :: T0_261
def T0_259 : List Tok := (.iaload, 1, 0, 0) :: T0_260
def T0_258 : List Tok := (.iadd, 1, 0, 0) :: T0_259
def T0_257 : List Tok := (.iconst 1, 1, 0, 0) :: T0_258
def T0_256 : List Tok := (.iload_n 3, 1, 0, 0) :: T0_257
def T0_255 : List Tok := (.aload_n 0, 1, 0, 0) :: T0_256
def T0_254 : List Tok := (.aload_n 1, 1, 0, 0) :: T0_255
def T0_253 : List Tok := (.goto 1457, 3, 0, 0) :: T0_254
def T0_252 : List Tok := (.pop, 1, 0, 0) :: T0_253
def T0_251 : List Tok := (.invokevirtual 49, 3, 200, 1543) :: T0_252
def T0_250 : List Tok := (.iaload, 1, 0, 0) :: T0_251
def T0_249 : List Tok := (.iadd, 1, 0, 0) :: T0_250
def T0_248 : List Tok := (.iconst 2, 1, 0, 0) :: T0_249
def T0_247 : List Tok := (.iload_n 3, 1, 0, 0) :: T0_248
def T0_246 : List Tok := (.aload_n 0, 1, 0, 0) :: T0_247
def T0_245 : List Tok := (.iaload, 1, 0, 0) :: T0_246
def T0_244 : List Tok := (.iadd, 1, 0, 0) :: T0_245
def T0_243 : List Tok := (.iconst 1, 1, 0, 0) :: T0_244
def T0_242 : List Tok := (.iload_n 3, 1, 0, 0) :: T0_243
def T0_241 : List Tok := (.aload_n 0, 1, 0, 0) :: T0_242
def T0_240 : List Tok := (.aload_n 2, 1, 0, 0) :: T0_241
def T0_239 : List Tok := (.pop, 1, 0, 0) :: T0_240
def T0_238 : List Tok := (.invokevirtual 45, 3, 130, 600) :: T0_239
def T0_237 : List Tok := (.iaload, 1, 0, 0) :: T0_238
def T0_236 : List Tok := (.iadd, 1, 0, 0) :: T0_237
def T0_235 : List Tok := (.iconst 2, 1, 0, 0) :: T0_236
def T0_234 : List Tok := (.iload_n 3, 1, 0, 0) :: T0_235
def T0_233 : List Tok := (.aload_n 0, 1, 0, 0) :: T0_234
def T0_232 : List Tok := (.iaload, 1, 0, 0) :: T0_233
def T0_231 : List Tok := (.iadd, 1, 0, 0) :: T0_232
def T0_230 : List Tok := (.iconst 1, 1, 0, 0) :: T0_231
def T0_229 : List Tok := (.iload_n 3, 1, 0, 0) :: T0_230
def T0_228 : List Tok := (.aload_n 0, 1, 0, 0) :: T0_229
def T0_227 : List Tok := (.aload_n 1, 1, 0, 0) :: T0_228
def T0_226 : List Tok := (.goto 1490, 3, 0, 0) :: T0_227
def T0_225 : List Tok := (.pop, 1, 0, 0) :: T0_226
def T0_224 : List Tok := (.invokevirtual 44, 3, 199, 1539) :: T0_225
def T0_223 : List Tok := (.iaload, 1, 0, 0) :: T0_224
def T0_222 : List Tok := (.iadd, 1, 0, 0) :: T0_223
def T0_221 : List Tok := (.iconst 1, 1, 0, 0) :: T0_222
def T0_220 : List Tok := (.iload_n 3, 1, 0, 0) :: T0_221
def T0_219 : List Tok := (.aload_n 0, 1, 0, 0) :: T0_220
def T0_218 : List Tok := (.aload_n 2, 1, 0, 0) :: T0_219
def T0_217 : List Tok := (.pop, 1, 0, 0) :: T0_218
def T0_216 : List Tok := (.invokevirtual 41, 3, 129, 591) :: T0_217
def T0_215 : List Tok := (.iaload, 1, 0, 0) :: T0_216
def T0_214 : List Tok := (.iadd, 1, 0, 0) :: T0_215
def T0_213 : List Tok := (.iconst 1, 1, 0, 0) :: T0_214
def T0_212 : List Tok := (.iload_n 3, 1, 0, 0) :: T0_213
def T0_211 : List Tok := (.aload_n 0, 1, 0, 0) :: T0_212
def T0_210 : List Tok := (.aload_n 1, 1, 0, 0) :: T0_211
def T0_209 : List Tok := (.goto 1513, 3, 0, 0) :: T0_210
def T0_208 : List Tok := (.pop, 1, 0, 0) :: T0_209
def T0_207 : List Tok := (.invokevirtual 40, 3, 198, 1535) :: T0_208
def T0_206 : List Tok := (.iaload, 1, 0, 0) :: T0_207
def T0_205 : List Tok := (.iadd, 1, 0, 0) :: T0_206
def T0_204 : List Tok := (.iconst 1, 1, 0, 0) :: T0_205
def T0_203 : List Tok := (.iload_n 3, 1, 0, 0) :: T0_204
def T0_202 : List Tok := (.aload_n 0, 1, 0, 0) :: T0_203
def T0_201 : List Tok := (.aload_n 2, 1, 0, 0) :: T0_202
def T0_200 : List Tok := (.pop, 1, 0, 0) :: T0_201
def T0_199 : List Tok := (.invokevirtual 37, 3, 128, 583) :: T0_200
def T0_198 : List Tok := (.iaload, 1, 0, 0) :: T0_199
def T0_197 : List Tok := (.iadd, 1, 0, 0) :: T0_198
def T0_196 : List Tok := (.iconst 1, 1, 0, 0) :: T0_197
def T0_195 : List Tok := (.iload_n 3, 1, 0, 0) :: T0_196
def T0_194 : List Tok := (.aload_n 0, 1, 0, 0) :: T0_195
def T0_193 : List Tok := (.aload_n 1, 1, 0, 0) :: T0_194
def T0_192 : List Tok := (.goto 1536, 3, 0, 0) :: T0_193
def T0_191 : List Tok := (.pop, 1, 0, 0) :: T0_192
def T0_190 : List Tok := (.invokevirtual 36, 3, 197, 1524) :: T0_191
def T0_189 : List Tok := (.iconst 0, 1, 0, 0) :: T0_190
def T0_188 : List Tok := (.goto 4, 3, 0, 0) :: T0_189
def T0_187 : List Tok := (.iconst 1, 1, 0, 0) :: T0_188
def T0_186 : List Tok := (.ifCond .eq 7, 3, 0, 0) :: T0_187
def T0_185 : List Tok := (.iaload, 1, 0, 0) :: T0_186
def T0_184 : List Tok := (.iadd, 1, 0, 0) :: T0_185
def T0_183 : List Tok := (.iconst 2, 1, 0, 0) :: T0_184
def T0_182 : List Tok := (.iload_n 3, 1, 0, 0) :: T0_183
def T0_181 : List Tok := (.aload_n 0, 1, 0, 0) :: T0_182
def T0_180 : List Tok := (.iaload, 1, 0, 0) :: T0_181
def T0_179 : List Tok := (.iadd, 1, 0, 0) :: T0_180
def T0_178 : List Tok := (.iconst 1, 1, 0, 0) :: T0_179
def T0_177 : List Tok := (.iload_n 3, 1, 0, 0) :: T0_178
def T0_176 : List Tok := (.aload_n 0, 1, 0, 0) :: T0_177
def T0_175 : List Tok := (.aload_n 2, 1, 0, 0) :: T0_176
def T0_174 : List Tok := (.pop, 1, 0, 0) :: T0_175
def T0_173 : List Tok := (.invokevirtual 33, 3, 127, 568) :: T0_174
def T0_172 : List Tok := (.iconst 0, 1, 0, 0) :: T0_173
def T0_171 : List Tok := (.goto 4, 3, 0, 0) :: T0_172
def T0_170 : List Tok := (.iconst 1, 1, 0, 0) :: T0_171
def T0_169 : List Tok := (.ifCond .eq 7, 3, 0, 0) :: T0_170
def T0_168 : List Tok := (.iaload, 1, 0, 0) :: T0_169
def T0_167 : List Tok := (.iadd, 1, 0, 0) :: T0_168
def T0_166 : List Tok := (.iconst 2, 1, 0, 0) :: T0_167
def T0_165 : List Tok := (.iload_n 3, 1, 0, 0) :: T0_166
def T0_164 : List Tok := (.aload_n 0, 1, 0, 0) :: T0_165
def T0_163 : List Tok := (.iaload, 1, 0, 0) :: T0_164
def T0_162 : List Tok := (.iadd, 1, 0, 0) :: T0_163
def T0_161 : List Tok := (.iconst 1, 1, 0, 0) :: T0_162
def T0_160 : List Tok := (.iload_n 3, 1, 0, 0) :: T0_161
def T0_159 : List Tok := (.aload_n 0, 1, 0, 0) :: T0_160
def T0_158 : List Tok := (.aload_n 1, 1, 0, 0) :: T0_159
def T0_157 : List Tok := (.goto 1585, 3, 0, 0) :: T0_158
def T0_156 : List Tok := (.pop, 1, 0, 0) :: T0_157
def T0_155 : List Tok := (.invokevirtual 32, 3, 195, 1512) :: T0_156
def T0_154 : List Tok := (.iaload, 1, 0, 0) :: T0_155
def T0_153 : List Tok := (.iadd, 1, 0, 0) :: T0_154
def T0_152 : List Tok := (.iconst 3, 1, 0, 0) :: T0_153
def T0_151 : List Tok := (.iload_n 3, 1, 0, 0) :: T0_152
def T0_150 : List Tok := (.aload_n 0, 1, 0, 0) :: T0_151
def T0_149 : List Tok := (.iaload, 1, 0, 0) :: T0_150
def T0_148 : List Tok := (.iadd, 1, 0, 0) :: T0_149
def T0_147 : List Tok := (.iconst 2, 1, 0, 0) :: T0_148
def T0_146 : List Tok := (.iload_n 3, 1, 0, 0) :: T0_147
def T0_145 : List Tok := (.aload_n 0, 1, 0, 0) :: T0_146
def T0_144 : List Tok := (.iaload, 1, 0, 0) :: T0_145
def T0_143 : List Tok := (.iadd, 1, 0, 0) :: T0_144
def T0_142 : List Tok := (.iconst 1, 1, 0, 0) :: T0_143
def T0_141 : List Tok := (.iload_n 3, 1, 0, 0) :: T0_142
def T0_140 : List Tok := (.aload_n 0, 1, 0, 0) :: T0_141
def T0_139 : List Tok := (.aload_n 2, 1, 0, 0) :: T0_140
def T0_138 : List Tok := (.pop, 1, 0, 0) :: T0_139
def T0_137 : List Tok := (.invokevirtual 28, 3, 126, 558) :: T0_138
def T0_136 : List Tok := (.iaload, 1, 0, 0) :: T0_137
def T0_135 : List Tok := (.iadd, 1, 0, 0) :: T0_136
def T0_134 : List Tok := (.iconst 3, 1, 0, 0) :: T0_135
def T0_133 : List Tok := (.iload_n 3, 1, 0, 0) :: T0_134
def T0_132 : List Tok := (.aload_n 0, 1, 0, 0) :: T0_133
def T0_131 : List Tok := (.iaload, 1, 0, 0) :: T0_132
def T0_130 : List Tok := (.iadd, 1, 0, 0) :: T0_131
def T0_129 : List Tok := (.iconst 2, 1, 0, 0) :: T0_130
def T0_128 : List Tok := (.iload_n 3, 1, 0, 0) :: T0_129
def T0_127 : List Tok := (.aload_n 0, 1, 0, 0) :: T0_128
def T0_126 : List Tok := (.iaload, 1, 0, 0) :: T0_127
def T0_125 : List Tok := (.iadd, 1, 0, 0) :: T0_126
def T0_124 : List Tok := (.iconst 1, 1, 0, 0) :: T0_125
def T0_123 : List Tok := (.iload_n 3, 1, 0, 0) :: T0_124
def T0_122 : List Tok := (.aload_n 0, 1, 0, 0) :: T0_123
def T0_121 : List Tok := (.aload_n 1, 1, 0, 0) :: T0_122
def T0_120 : List Tok := (.goto 1628, 3, 0, 0) :: T0_121
def T0_119 : List Tok := (.pop, 1, 0, 0) :: T0_120
def T0_118 : List Tok := (.invokevirtual 27, 3, 193, 1504) :: T0_119
def T0_117 : List Tok := (.iconst 0, 1, 0, 0) :: T0_118
def T0_116 : List Tok := (.goto 4, 3, 0, 0) :: T0_117
def T0_115 : List Tok := (.iconst 1, 1, 0, 0) :: T0_116
def T0_114 : List Tok := (.ifCond .eq 7, 3, 0, 0) :: T0_115
def T0_113 : List Tok := (.iaload, 1, 0, 0) :: T0_114
def T0_112 : List Tok := (.iadd, 1, 0, 0) :: T0_113
def T0_111 : List Tok := (.iconst 2, 1, 0, 0) :: T0_112
def T0_110 : List Tok := (.iload_n 3, 1, 0, 0) :: T0_111
def T0_109 : List Tok := (.aload_n 0, 1, 0, 0) :: T0_110
def T0_108 : List Tok := (.iaload, 1, 0, 0) :: T0_109
def T0_107 : List Tok := (.iadd, 1, 0, 0) :: T0_108
def T0_106 : List Tok := (.iconst 1, 1, 0, 0) :: T0_107
def T0_105 : List Tok := (.iload_n 3, 1, 0, 0) :: T0_106
def T0_104 : List Tok := (.aload_n 0, 1, 0, 0) :: T0_105
def T0_103 : List Tok := (.aload_n 2, 1, 0, 0) :: T0_104
def T0_102 : List Tok := (.pop, 1, 0, 0) :: T0_103
def T0_101 : List Tok := (.invokevirtual 23, 3, 125, 543) :: T0_102
def T0_100 : List Tok := (.iconst 0, 1, 0, 0) :: T0_101
def T0_99 : List Tok := (.goto 4, 3, 0, 0) :: T0_100
def T0_98 : List Tok := (.iconst 1, 1, 0, 0) :: T0_99
def T0_97 : List Tok := (.ifCond .eq 7, 3, 0, 0) :: T0_98
def T0_96 : List Tok := (.iaload, 1, 0, 0) :: T0_97
def T0_95 : List Tok := (.iadd, 1, 0, 0) :: T0_96
def T0_94 : List Tok := (.iconst 2, 1, 0, 0) :: T0_95
def T0_93 : List Tok := (.iload_n 3, 1, 0, 0) :: T0_94
def T0_92 : List Tok := (.aload_n 0, 1, 0, 0) :: T0_93
def T0_91 : List Tok := (.iaload, 1, 0, 0) :: T0_92
def T0_90 : List Tok := (.iadd, 1, 0, 0) :: T0_91
def T0_89 : List Tok := (.iconst 1, 1, 0, 0) :: T0_90
def T0_88 : List Tok := (.iload_n 3, 1, 0, 0) :: T0_89
def T0_87 : List Tok := (.aload_n 0, 1, 0, 0) :: T0_88
def T0_86 : List Tok := (.aload_n 1, 1, 0, 0) :: T0_87
def T0_85 : List Tok := (.goto 1677, 3, 0, 0) :: T0_86
def T0_84 : List Tok := (.pop, 1, 0, 0) :: T0_85
def T0_83 : List Tok := (.invokevirtual 22, 3, 192, 1494) :: T0_84
def T0_82 : List Tok := (.iaload, 1, 0, 0) :: T0_83
def T0_81 : List Tok := (.iadd, 1, 0, 0) :: T0_82
def T0_80 : List Tok := (.iconst 4, 1, 0, 0) :: T0_81
def T0_79 : List Tok := (.iload_n 3, 1, 0, 0) :: T0_80
def T0_78 : List Tok := (.aload_n 0, 1, 0, 0) :: T0_79
def T0_77 : List Tok := (.iaload, 1, 0, 0) :: T0_78
def T0_76 : List Tok := (.iadd, 1, 0, 0) :: T0_77
def T0_75 : List Tok := (.iconst 3, 1, 0, 0) :: T0_76
def T0_74 : List Tok := (.iload_n 3, 1, 0, 0) :: T0_75
def T0_73 : List Tok := (.aload_n 0, 1, 0, 0) :: T0_74
def T0_72 : List Tok := (.iaload, 1, 0, 0) :: T0_73
def T0_71 : List Tok := (.iadd, 1, 0, 0) :: T0_72
def T0_70 : List Tok := (.iconst 2, 1, 0, 0) :: T0_71
def T0_69 : List Tok := (.iload_n 3, 1, 0, 0) :: T0_70
def T0_68 : List Tok := (.aload_n 0, 1, 0, 0) :: T0_69
def T0_67 : List Tok := (.iaload, 1, 0, 0) :: T0_68
def T0_66 : List Tok := (.iadd, 1, 0, 0) :: T0_67
def T0_65 : List Tok := (.iconst 1, 1, 0, 0) :: T0_66
def T0_64 : List Tok := (.iload_n 3, 1, 0, 0) :: T0_65
def T0_63 : List Tok := (.aload_n 0, 1, 0, 0) :: T0_64
def T0_62 : List Tok := (.aload_n 2, 1, 0, 0) :: T0_63
def T0_61 : List Tok := (.pop, 1, 0, 0) :: T0_62
def T0_60 : List Tok := (.invokevirtual 18, 3, 124, 529) :: T0_61
def T0_59 : List Tok := (.iaload, 1, 0, 0) :: T0_60
def T0_58 : List Tok := (.iadd, 1, 0, 0) :: T0_59
def T0_57 : List Tok := (.iconst 4, 1, 0, 0) :: T0_58
def T0_56 : List Tok := (.iload_n 3, 1, 0, 0) :: T0_57
def T0_55 : List Tok := (.aload_n 0, 1, 0, 0) :: T0_56
def T0_54 : List Tok := (.iaload, 1, 0, 0) :: T0_55
def T0_53 : List Tok := (.iadd, 1, 0, 0) :: T0_54
def T0_52 : List Tok := (.iconst 3, 1, 0, 0) :: T0_53
def T0_51 : List Tok := (.iload_n 3, 1, 0, 0) :: T0_52
def T0_50 : List Tok := (.aload_n 0, 1, 0, 0) :: T0_51
def T0_49 : List Tok := (.iaload, 1, 0, 0) :: T0_50
def T0_48 : List Tok := (.iadd, 1, 0, 0) :: T0_49
def T0_47 : List Tok := (.iconst 2, 1, 0, 0) :: T0_48
def T0_46 : List Tok := (.iload_n 3, 1, 0, 0) :: T0_47
def T0_45 : List Tok := (.aload_n 0, 1, 0, 0) :: T0_46
def T0_44 : List Tok := (.iaload, 1, 0, 0) :: T0_45
def T0_43 : List Tok := (.iadd, 1, 0, 0) :: T0_44
def T0_42 : List Tok := (.iconst 1, 1, 0, 0) :: T0_43
def T0_41 : List Tok := (.iload_n 3, 1, 0, 0) :: T0_42
def T0_40 : List Tok := (.aload_n 0, 1, 0, 0) :: T0_41
def T0_39 : List Tok := (.aload_n 1, 1, 0, 0) :: T0_40
def T0_38 : List Tok := (.goto 1730, 3, 0, 0) :: T0_39
def T0_37 : List Tok := (.pop, 1, 0, 0) :: T0_38
def T0_36 : List Tok := (.invokevirtual 17, 3, 189, 1487) :: T0_37
def T0_35 : List Tok := (.iaload, 1, 0, 0) :: T0_36
def T0_34 : List Tok := (.iadd, 1, 0, 0) :: T0_35
def T0_33 : List Tok := (.iconst 1, 1, 0, 0) :: T0_34
def T0_32 : List Tok := (.iload_n 3, 1, 0, 0) :: T0_33
def T0_31 : List Tok := (.aload_n 0, 1, 0, 0) :: T0_32
def T0_30 : List Tok := (.aload_n 2, 1, 0, 0) :: T0_31
def T0_29 : List Tok := (.pop, 1, 0, 0) :: T0_30
def T0_28 : List Tok := (.invokevirtual 13, 3, 123, 525) :: T0_29
def T0_27 : List Tok := (.iaload, 1, 0, 0) :: T0_28
def T0_26 : List Tok := (.iadd, 1, 0, 0) :: T0_27
def T0_25 : List Tok := (.iconst 1, 1, 0, 0) :: T0_26
def T0_24 : List Tok := (.iload_n 3, 1, 0, 0) :: T0_25
def T0_23 : List Tok := (.aload_n 0, 1, 0, 0) :: T0_24
def T0_22 : List Tok := (.aload_n 1, 1, 0, 0) :: T0_23
def T0_21 : List Tok := (.tableswitch 1957 0 47 #[207, 230, 283, 332, 375, 424, 447, 470, 503, 526, 549, 582, 621, 684, 697, 730, 763, 796, 875, 908, 951, 994, 1027, 1070, 1103, 1136, 1179, 1202, 1235, 1278, 1301, 1334, 1367, 1400, 1459, 1518, 1551, 1594, 1637, 1680, 1723, 1766, 1809, 1842, 1885, 1908, 1931, 1944], 207, 0, 0) :: T0_22
def T0_20 : List Tok := (.iand, 1, 0, 0) :: T0_21
def T0_19 : List Tok := (.bipush 63, 2, 0, 0) :: T0_20
def T0_18 : List Tok := (.iaload, 1, 0, 0) :: T0_19
def T0_17 : List Tok := (.iload_n 3, 1, 0, 0) :: T0_18
def T0_16 : List Tok := (.aload_n 0, 1, 0, 0) :: T0_17
def T0_15 : List Tok := (.if_icmp .gt 1972, 3, 0, 0) :: T0_16
def T0_14 : List Tok := (.isub, 1, 0, 0) :: T0_15
def T0_13 : List Tok := (.bipush 6, 2, 0, 0) :: T0_14
def T0_12 : List Tok := (.arraylength, 1, 0, 0) :: T0_13
def T0_11 : List Tok := (.aload_n 0, 1, 0, 0) :: T0_12
def T0_10 : List Tok := (.iload_n 3, 1, 0, 0) :: T0_11
def T0_9 : List Tok := (.istore_n 3, 1, 0, 0) :: T0_10
def T0_8 : List Tok := (.iconst 0, 1, 0, 0) :: T0_9
def T0_7 : List Tok := (.astore_n 2, 1, 0, 0) :: T0_8
def T0_6 : List Tok := (.invokespecial 12, 3, 183, 1341) :: T0_7
def T0_5 : List Tok := (.dup, 1, 0, 0) :: T0_6
def T0_4 : List Tok := (.new 10, 3, 11, 1339) :: T0_5
def T0_3 : List Tok := (.astore_n 1, 1, 0, 0) :: T0_4
def T0_2 : List Tok := (.invokespecial 9, 3, 122, 102) :: T0_3
def T0_1 : List Tok := (.dup, 1, 0, 0) :: T0_2
def T0_0 : List Tok := (.new 7, 3, 10, 100) :: T0_1
theorem o0_0 (hB : BytesOK) : okL 0 0 T0_0 = true := by
  have h := hB.1 0
  rw [show tk 0 = T0_0 from by decide +kernel] at h
  exact h
theorem o0_1 (hB : BytesOK) : okL 0 3 T0_1 = true := (okL_c (o0_0 hB)).2.2
theorem o0_2 (hB : BytesOK) : okL 0 4 T0_2 = true := (okL_c (o0_1 hB)).2.2
theorem o0_3 (hB : BytesOK) : okL 0 7 T0_3 = true := (okL_c (o0_2 hB)).2.2
theorem o0_4 (hB : BytesOK) : okL 0 8 T0_4 = true := (okL_c (o0_3 hB)).2.2
theorem o0_5 (hB : BytesOK) : okL 0 11 T0_5 = true := (okL_c (o0_4 hB)).2.2
theorem o0_6 (hB : BytesOK) : okL 0 12 T0_6 = true := (okL_c (o0_5 hB)).2.2
theorem o0_7 (hB : BytesOK) : okL 0 15 T0_7 = true := (okL_c (o0_6 hB)).2.2
theorem o0_8 (hB : BytesOK) : okL 0 16 T0_8 = true := (okL_c (o0_7 hB)).2.2
theorem o0_9 (hB : BytesOK) : okL 0 17 T0_9 = true := (okL_c (o0_8 hB)).2.2
theorem o0_10 (hB : BytesOK) : okL 0 18 T0_10 = true := (okL_c (o0_9 hB)).2.2
theorem o0_11 (hB : BytesOK) : okL 0 19 T0_11 = true := (okL_c (o0_10 hB)).2.2
theorem o0_12 (hB : BytesOK) : okL 0 20 T0_12 = true := (okL_c (o0_11 hB)).2.2
theorem o0_13 (hB : BytesOK) : okL 0 21 T0_13 = true := (okL_c (o0_12 hB)).2.2
theorem o0_14 (hB : BytesOK) : okL 0 23 T0_14 = true := (okL_c (o0_13 hB)).2.2
theorem o0_15 (hB : BytesOK) : okL 0 24 T0_15 = true := (okL_c (o0_14 hB)).2.2
theorem o0_16 (hB : BytesOK) : okL 0 27 T0_16 = true := (okL_c (o0_15 hB)).2.2
theorem o0_17 (hB : BytesOK) : okL 0 28 T0_17 = true := (okL_c (o0_16 hB)).2.2
theorem o0_18 (hB : BytesOK) : okL 0 29 T0_18 = true := (okL_c (o0_17 hB)).2.2
theorem o0_19 (hB : BytesOK) : okL 0 30 T0_19 = true := (okL_c (o0_18 hB)).2.2
theorem o0_20 (hB : BytesOK) : okL 0 32 T0_20 = true := (okL_c (o0_19 hB)).2.2
theorem o0_21 (hB : BytesOK) : okL 0 33 T0_21 = true := (okL_c (o0_20 hB)).2.2
theorem o0_22 (hB : BytesOK) : okL 0 240 T0_22 = true := (okL_c (o0_21 hB)).2.2
theorem o0_23 (hB : BytesOK) : okL 0 241 T0_23 = true := (okL_c (o0_22 hB)).2.2
theorem o0_24 (hB : BytesOK) : okL 0 242 T0_24 = true := (okL_c (o0_23 hB)).2.2
theorem o0_25 (hB : BytesOK) : okL 0 243 T0_25 = true := (okL_c (o0_24 hB)).2.2
theorem o0_26 (hB : BytesOK) : okL 0 244 T0_26 = true := (okL_c (o0_25 hB)).2.2
theorem o0_27 (hB : BytesOK) : okL 0 245 T0_27 = true := (okL_c (o0_26 hB)).2.2
theorem o0_28 (hB : BytesOK) : okL 0 246 T0_28 = true := (okL_c (o0_27 hB)).2.2
theorem o0_29 (hB : BytesOK) : okL 0 249 T0_29 = true := (okL_c (o0_28 hB)).2.2
theorem o0_30 (hB : BytesOK) : okL 0 250 T0_30 = true := (okL_c (o0_29 hB)).2.2
theorem o0_31 (hB : BytesOK) : okL 0 251 T0_31 = true := (okL_c (o0_30 hB)).2.2
theorem o0_32 (hB : BytesOK) : okL 0 252 T0_32 = true := (okL_c (o0_31 hB)).2.2
theorem o0_33 (hB : BytesOK) : okL 0 253 T0_33 = true := (okL_c (o0_32 hB)).2.2
theorem o0_34 (hB : BytesOK) : okL 0 254 T0_34 = true := (okL_c (o0_33 hB)).2.2
theorem o0_35 (hB : BytesOK) : okL 0 255 T0_35 = true := (okL_c (o0_34 hB)).2.2
theorem o0_36 (hB : BytesOK) : okL 0 256 T0_36 = true := (okL_c (o0_35 hB)).2.2
theorem o0_37 (hB : BytesOK) : okL 0 259 T0_37 = true := (okL_c (o0_36 hB)).2.2
theorem o0_38 (hB : BytesOK) : okL 0 260 T0_38 = true := (okL_c (o0_37 hB)).2.2
theorem o0_39 (hB : BytesOK) : okL 0 263 T0_39 = true := (okL_c (o0_38 hB)).2.2
theorem o0_40 (hB : BytesOK) : okL 0 264 T0_40 = true := (okL_c (o0_39 hB)).2.2
theorem o0_41 (hB : BytesOK) : okL 0 265 T0_41 = true := (okL_c (o0_40 hB)).2.2
theorem o0_42 (hB : BytesOK) : okL 0 266 T0_42 = true := (okL_c (o0_41 hB)).2.2
theorem o0_43 (hB : BytesOK) : okL 0 267 T0_43 = true := (okL_c (o0_42 hB)).2.2
theorem o0_44 (hB : BytesOK) : okL 0 268 T0_44 = true := (okL_c (o0_43 hB)).2.2
theorem o0_45 (hB : BytesOK) : okL 0 269 T0_45 = true := (okL_c (o0_44 hB)).2.2
theorem o0_46 (hB : BytesOK) : okL 0 270 T0_46 = true := (okL_c (o0_45 hB)).2.2
theorem o0_47 (hB : BytesOK) : okL 0 271 T0_47 = true := (okL_c (o0_46 hB)).2.2
theorem o0_48 (hB : BytesOK) : okL 0 272 T0_48 = true := (okL_c (o0_47 hB)).2.2
theorem o0_49 (hB : BytesOK) : okL 0 273 T0_49 = true := (okL_c (o0_48 hB)).2.2
theorem o0_50 (hB : BytesOK) : okL 0 274 T0_50 = true := (okL_c (o0_49 hB)).2.2
theorem o0_51 (hB : BytesOK) : okL 0 275 T0_51 = true := (okL_c (o0_50 hB)).2.2
theorem o0_52 (hB : BytesOK) : okL 0 276 T0_52 = true := (okL_c (o0_51 hB)).2.2
theorem o0_53 (hB : BytesOK) : okL 0 277 T0_53 = true := (okL_c (o0_52 hB)).2.2
theorem o0_54 (hB : BytesOK) : okL 0 278 T0_54 = true := (okL_c (o0_53 hB)).2.2
theorem o0_55 (hB : BytesOK) : okL 0 279 T0_55 = true := (okL_c (o0_54 hB)).2.2
theorem o0_56 (hB : BytesOK) : okL 0 280 T0_56 = true := (okL_c (o0_55 hB)).2.2
theorem o0_57 (hB : BytesOK) : okL 0 281 T0_57 = true := (okL_c (o0_56 hB)).2.2
theorem o0_58 (hB : BytesOK) : okL 0 282 T0_58 = true := (okL_c (o0_57 hB)).2.2
theorem o0_59 (hB : BytesOK) : okL 0 283 T0_59 = true := (okL_c (o0_58 hB)).2.2
theorem o0_60 (hB : BytesOK) : okL 0 284 T0_60 = true := (okL_c (o0_59 hB)).2.2
theorem o0_61 (hB : BytesOK) : okL 0 287 T0_61 = true := (okL_c (o0_60 hB)).2.2
theorem o0_62 (hB : BytesOK) : okL 0 288 T0_62 = true := (okL_c (o0_61 hB)).2.2
theorem o0_63 (hB : BytesOK) : okL 0 289 T0_63 = true := (okL_c (o0_62 hB)).2.2
theorem o0_64 (hB : BytesOK) : okL 0 290 T0_64 = true := (okL_c (o0_63 hB)).2.2
theorem o0_65 (hB : BytesOK) : okL 0 291 T0_65 = true := (okL_c (o0_64 hB)).2.2
theorem o0_66 (hB : BytesOK) : okL 0 292 T0_66 = true := (okL_c (o0_65 hB)).2.2
theorem o0_67 (hB : BytesOK) : okL 0 293 T0_67 = true := (okL_c (o0_66 hB)).2.2
theorem o0_68 (hB : BytesOK) : okL 0 294 T0_68 = true := (okL_c (o0_67 hB)).2.2
theorem o0_69 (hB : BytesOK) : okL 0 295 T0_69 = true := (okL_c (o0_68 hB)).2.2
theorem o0_70 (hB : BytesOK) : okL 0 296 T0_70 = true := (okL_c (o0_69 hB)).2.2
theorem o0_71 (hB : BytesOK) : okL 0 297 T0_71 = true := (okL_c (o0_70 hB)).2.2
theorem o0_72 (hB : BytesOK) : okL 0 298 T0_72 = true := (okL_c (o0_71 hB)).2.2
theorem o0_73 (hB : BytesOK) : okL 0 299 T0_73 = true := (okL_c (o0_72 hB)).2.2
theorem o0_74 (hB : BytesOK) : okL 0 300 T0_74 = true := (okL_c (o0_73 hB)).2.2
theorem o0_75 (hB : BytesOK) : okL 0 301 T0_75 = true := (okL_c (o0_74 hB)).2.2
theorem o0_76 (hB : BytesOK) : okL 0 302 T0_76 = true := (okL_c (o0_75 hB)).2.2
theorem o0_77 (hB : BytesOK) : okL 0 303 T0_77 = true := (okL_c (o0_76 hB)).2.2
theorem o0_78 (hB : BytesOK) : okL 0 304 T0_78 = true := (okL_c (o0_77 hB)).2.2
theorem o0_79 (hB : BytesOK) : okL 0 305 T0_79 = true := (okL_c (o0_78 hB)).2.2
theorem o0_80 (hB : BytesOK) : okL 0 306 T0_80 = true := (okL_c (o0_79 hB)).2.2
theorem o0_81 (hB : BytesOK) : okL 0 307 T0_81 = true := (okL_c (o0_80 hB)).2.2
theorem o0_82 (hB : BytesOK) : okL 0 308 T0_82 = true := (okL_c (o0_81 hB)).2.2
theorem o0_83 (hB : BytesOK) : okL 0 309 T0_83 = true := (okL_c (o0_82 hB)).2.2
theorem o0_84 (hB : BytesOK) : okL 0 312 T0_84 = true := (okL_c (o0_83 hB)).2.2
theorem o0_85 (hB : BytesOK) : okL 0 313 T0_85 = true := (okL_c (o0_84 hB)).2.2
theorem o0_86 (hB : BytesOK) : okL 0 316 T0_86 = true := (okL_c (o0_85 hB)).2.2
theorem o0_87 (hB : BytesOK) : okL 0 317 T0_87 = true := (okL_c (o0_86 hB)).2.2
theorem o0_88 (hB : BytesOK) : okL 0 318 T0_88 = true := (okL_c (o0_87 hB)).2.2
theorem o0_89 (hB : BytesOK) : okL 0 319 T0_89 = true := (okL_c (o0_88 hB)).2.2
theorem o0_90 (hB : BytesOK) : okL 0 320 T0_90 = true := (okL_c (o0_89 hB)).2.2
theorem o0_91 (hB : BytesOK) : okL 0 321 T0_91 = true := (okL_c (o0_90 hB)).2.2
theorem o0_92 (hB : BytesOK) : okL 0 322 T0_92 = true := (okL_c (o0_91 hB)).2.2
theorem o0_93 (hB : BytesOK) : okL 0 323 T0_93 = true := (okL_c (o0_92 hB)).2.2
theorem o0_94 (hB : BytesOK) : okL 0 324 T0_94 = true := (okL_c (o0_93 hB)).2.2
theorem o0_95 (hB : BytesOK) : okL 0 325 T0_95 = true := (okL_c (o0_94 hB)).2.2
theorem o0_96 (hB : BytesOK) : okL 0 326 T0_96 = true := (okL_c (o0_95 hB)).2.2
theorem o0_97 (hB : BytesOK) : okL 0 327 T0_97 = true := (okL_c (o0_96 hB)).2.2
theorem o0_98 (hB : BytesOK) : okL 0 330 T0_98 = true := (okL_c (o0_97 hB)).2.2
theorem o0_99 (hB : BytesOK) : okL 0 331 T0_99 = true := (okL_c (o0_98 hB)).2.2
theorem o0_100 (hB : BytesOK) : okL 0 334 T0_100 = true := (okL_c (o0_99 hB)).2.2
theorem o0_101 (hB : BytesOK) : okL 0 335 T0_101 = true := (okL_c (o0_100 hB)).2.2
theorem o0_102 (hB : BytesOK) : okL 0 338 T0_102 = true := (okL_c (o0_101 hB)).2.2
theorem o0_103 (hB : BytesOK) : okL 0 339 T0_103 = true := (okL_c (o0_102 hB)).2.2
theorem o0_104 (hB : BytesOK) : okL 0 340 T0_104 = true := (okL_c (o0_103 hB)).2.2
theorem o0_105 (hB : BytesOK) : okL 0 341 T0_105 = true := (okL_c (o0_104 hB)).2.2
theorem o0_106 (hB : BytesOK) : okL 0 342 T0_106 = true := (okL_c (o0_105 hB)).2.2
theorem o0_107 (hB : BytesOK) : okL 0 343 T0_107 = true := (okL_c (o0_106 hB)).2.2
theorem o0_108 (hB : BytesOK) : okL 0 344 T0_108 = true := (okL_c (o0_107 hB)).2.2
theorem o0_109 (hB : BytesOK) : okL 0 345 T0_109 = true := (okL_c (o0_108 hB)).2.2
theorem o0_110 (hB : BytesOK) : okL 0 346 T0_110 = true := (okL_c (o0_109 hB)).2.2
theorem o0_111 (hB : BytesOK) : okL 0 347 T0_111 = true := (okL_c (o0_110 hB)).2.2
theorem o0_112 (hB : BytesOK) : okL 0 348 T0_112 = true := (okL_c (o0_111 hB)).2.2
theorem o0_113 (hB : BytesOK) : okL 0 349 T0_113 = true := (okL_c (o0_112 hB)).2.2
theorem o0_114 (hB : BytesOK) : okL 0 350 T0_114 = true := (okL_c (o0_113 hB)).2.2
theorem o0_115 (hB : BytesOK) : okL 0 353 T0_115 = true := (okL_c (o0_114 hB)).2.2
theorem o0_116 (hB : BytesOK) : okL 0 354 T0_116 = true := (okL_c (o0_115 hB)).2.2
theorem o0_117 (hB : BytesOK) : okL 0 357 T0_117 = true := (okL_c (o0_116 hB)).2.2
theorem o0_118 (hB : BytesOK) : okL 0 358 T0_118 = true := (okL_c (o0_117 hB)).2.2
theorem o0_119 (hB : BytesOK) : okL 0 361 T0_119 = true := (okL_c (o0_118 hB)).2.2
theorem o0_120 (hB : BytesOK) : okL 0 362 T0_120 = true := (okL_c (o0_119 hB)).2.2
theorem o0_121 (hB : BytesOK) : okL 0 365 T0_121 = true := (okL_c (o0_120 hB)).2.2
theorem o0_122 (hB : BytesOK) : okL 0 366 T0_122 = true := (okL_c (o0_121 hB)).2.2
theorem o0_123 (hB : BytesOK) : okL 0 367 T0_123 = true := (okL_c (o0_122 hB)).2.2
theorem o0_124 (hB : BytesOK) : okL 0 368 T0_124 = true := (okL_c (o0_123 hB)).2.2
theorem o0_125 (hB : BytesOK) : okL 0 369 T0_125 = true := (okL_c (o0_124 hB)).2.2
theorem o0_126 (hB : BytesOK) : okL 0 370 T0_126 = true := (okL_c (o0_125 hB)).2.2
theorem o0_127 (hB : BytesOK) : okL 0 371 T0_127 = true := (okL_c (o0_126 hB)).2.2
theorem o0_128 (hB : BytesOK) : okL 0 372 T0_128 = true := (okL_c (o0_127 hB)).2.2
theorem o0_129 (hB : BytesOK) : okL 0 373 T0_129 = true := (okL_c (o0_128 hB)).2.2
theorem o0_130 (hB : BytesOK) : okL 0 374 T0_130 = true := (okL_c (o0_129 hB)).2.2
theorem o0_131 (hB : BytesOK) : okL 0 375 T0_131 = true := (okL_c (o0_130 hB)).2.2
theorem o0_132 (hB : BytesOK) : okL 0 376 T0_132 = true := (okL_c (o0_131 hB)).2.2
theorem o0_133 (hB : BytesOK) : okL 0 377 T0_133 = true := (okL_c (o0_132 hB)).2.2
theorem o0_134 (hB : BytesOK) : okL 0 378 T0_134 = true := (okL_c (o0_133 hB)).2.2
theorem o0_135 (hB : BytesOK) : okL 0 379 T0_135 = true := (okL_c (o0_134 hB)).2.2
theorem o0_136 (hB : BytesOK) : okL 0 380 T0_136 = true := (okL_c (o0_135 hB)).2.2
theorem o0_137 (hB : BytesOK) : okL 0 381 T0_137 = true := (okL_c (o0_136 hB)).2.2
theorem o0_138 (hB : BytesOK) : okL 0 384 T0_138 = true := (okL_c (o0_137 hB)).2.2
theorem o0_139 (hB : BytesOK) : okL 0 385 T0_139 = true := (okL_c (o0_138 hB)).2.2
theorem o0_140 (hB : BytesOK) : okL 0 386 T0_140 = true := (okL_c (o0_139 hB)).2.2
theorem o0_141 (hB : BytesOK) : okL 0 387 T0_141 = true := (okL_c (o0_140 hB)).2.2
theorem o0_142 (hB : BytesOK) : okL 0 388 T0_142 = true := (okL_c (o0_141 hB)).2.2
theorem o0_143 (hB : BytesOK) : okL 0 389 T0_143 = true := (okL_c (o0_142 hB)).2.2
theorem o0_144 (hB : BytesOK) : okL 0 390 T0_144 = true := (okL_c (o0_143 hB)).2.2
theorem o0_145 (hB : BytesOK) : okL 0 391 T0_145 = true := (okL_c (o0_144 hB)).2.2
theorem o0_146 (hB : BytesOK) : okL 0 392 T0_146 = true := (okL_c (o0_145 hB)).2.2
theorem o0_147 (hB : BytesOK) : okL 0 393 T0_147 = true := (okL_c (o0_146 hB)).2.2
theorem o0_148 (hB : BytesOK) : okL 0 394 T0_148 = true := (okL_c (o0_147 hB)).2.2
theorem o0_149 (hB : BytesOK) : okL 0 395 T0_149 = true := (okL_c (o0_148 hB)).2.2
theorem o0_150 (hB : BytesOK) : okL 0 396 T0_150 = true := (okL_c (o0_149 hB)).2.2
theorem o0_151 (hB : BytesOK) : okL 0 397 T0_151 = true := (okL_c (o0_150 hB)).2.2
theorem o0_152 (hB : BytesOK) : okL 0 398 T0_152 = true := (okL_c (o0_151 hB)).2.2
theorem o0_153 (hB : BytesOK) : okL 0 399 T0_153 = true := (okL_c (o0_152 hB)).2.2
theorem o0_154 (hB : BytesOK) : okL 0 400 T0_154 = true := (okL_c (o0_153 hB)).2.2
theorem o0_155 (hB : BytesOK) : okL 0 401 T0_155 = true := (okL_c (o0_154 hB)).2.2
theorem o0_156 (hB : BytesOK) : okL 0 404 T0_156 = true := (okL_c (o0_155 hB)).2.2
theorem o0_157 (hB : BytesOK) : okL 0 405 T0_157 = true := (okL_c (o0_156 hB)).2.2
theorem o0_158 (hB : BytesOK) : okL 0 408 T0_158 = true := (okL_c (o0_157 hB)).2.2
theorem o0_159 (hB : BytesOK) : okL 0 409 T0_159 = true := (okL_c (o0_158 hB)).2.2
theorem o0_160 (hB : BytesOK) : okL 0 410 T0_160 = true := (okL_c (o0_159 hB)).2.2
theorem o0_161 (hB : BytesOK) : okL 0 411 T0_161 = true := (okL_c (o0_160 hB)).2.2
theorem o0_162 (hB : BytesOK) : okL 0 412 T0_162 = true := (okL_c (o0_161 hB)).2.2
theorem o0_163 (hB : BytesOK) : okL 0 413 T0_163 = true := (okL_c (o0_162 hB)).2.2
theorem o0_164 (hB : BytesOK) : okL 0 414 T0_164 = true := (okL_c (o0_163 hB)).2.2
theorem o0_165 (hB : BytesOK) : okL 0 415 T0_165 = true := (okL_c (o0_164 hB)).2.2
theorem o0_166 (hB : BytesOK) : okL 0 416 T0_166 = true := (okL_c (o0_165 hB)).2.2
theorem o0_167 (hB : BytesOK) : okL 0 417 T0_167 = true := (okL_c (o0_166 hB)).2.2
theorem o0_168 (hB : BytesOK) : okL 0 418 T0_168 = true := (okL_c (o0_167 hB)).2.2
theorem o0_169 (hB : BytesOK) : okL 0 419 T0_169 = true := (okL_c (o0_168 hB)).2.2
theorem o0_170 (hB : BytesOK) : okL 0 422 T0_170 = true := (okL_c (o0_169 hB)).2.2
theorem o0_171 (hB : BytesOK) : okL 0 423 T0_171 = true := (okL_c (o0_170 hB)).2.2
theorem o0_172 (hB : BytesOK) : okL 0 426 T0_172 = true := (okL_c (o0_171 hB)).2.2
theorem o0_173 (hB : BytesOK) : okL 0 427 T0_173 = true := (okL_c (o0_172 hB)).2.2
theorem o0_174 (hB : BytesOK) : okL 0 430 T0_174 = true := (okL_c (o0_173 hB)).2.2
theorem o0_175 (hB : BytesOK) : okL 0 431 T0_175 = true := (okL_c (o0_174 hB)).2.2
theorem o0_176 (hB : BytesOK) : okL 0 432 T0_176 = true := (okL_c (o0_175 hB)).2.2
theorem o0_177 (hB : BytesOK) : okL 0 433 T0_177 = true := (okL_c (o0_176 hB)).2.2
theorem o0_178 (hB : BytesOK) : okL 0 434 T0_178 = true := (okL_c (o0_177 hB)).2.2
theorem o0_179 (hB : BytesOK) : okL 0 435 T0_179 = true := (okL_c (o0_178 hB)).2.2
theorem o0_180 (hB : BytesOK) : okL 0 436 T0_180 = true := (okL_c (o0_179 hB)).2.2
theorem o0_181 (hB : BytesOK) : okL 0 437 T0_181 = true := (okL_c (o0_180 hB)).2.2
theorem o0_182 (hB : BytesOK) : okL 0 438 T0_182 = true := (okL_c (o0_181 hB)).2.2
theorem o0_183 (hB : BytesOK) : okL 0 439 T0_183 = true := (okL_c (o0_182 hB)).2.2
theorem o0_184 (hB : BytesOK) : okL 0 440 T0_184 = true := (okL_c (o0_183 hB)).2.2
theorem o0_185 (hB : BytesOK) : okL 0 441 T0_185 = true := (okL_c (o0_184 hB)).2.2
theorem o0_186 (hB : BytesOK) : okL 0 442 T0_186 = true := (okL_c (o0_185 hB)).2.2
theorem o0_187 (hB : BytesOK) : okL 0 445 T0_187 = true := (okL_c (o0_186 hB)).2.2
theorem o0_188 (hB : BytesOK) : okL 0 446 T0_188 = true := (okL_c (o0_187 hB)).2.2
theorem o0_189 (hB : BytesOK) : okL 0 449 T0_189 = true := (okL_c (o0_188 hB)).2.2
theorem o0_190 (hB : BytesOK) : okL 0 450 T0_190 = true := (okL_c (o0_189 hB)).2.2
theorem o0_191 (hB : BytesOK) : okL 0 453 T0_191 = true := (okL_c (o0_190 hB)).2.2
theorem o0_192 (hB : BytesOK) : okL 0 454 T0_192 = true := (okL_c (o0_191 hB)).2.2
theorem o0_193 (hB : BytesOK) : okL 0 457 T0_193 = true := (okL_c (o0_192 hB)).2.2
theorem o0_194 (hB : BytesOK) : okL 0 458 T0_194 = true := (okL_c (o0_193 hB)).2.2
theorem o0_195 (hB : BytesOK) : okL 0 459 T0_195 = true := (okL_c (o0_194 hB)).2.2
theorem o0_196 (hB : BytesOK) : okL 0 460 T0_196 = true := (okL_c (o0_195 hB)).2.2
theorem o0_197 (hB : BytesOK) : okL 0 461 T0_197 = true := (okL_c (o0_196 hB)).2.2
theorem o0_198 (hB : BytesOK) : okL 0 462 T0_198 = true := (okL_c (o0_197 hB)).2.2
theorem o0_199 (hB : BytesOK) : okL 0 463 T0_199 = true := (okL_c (o0_198 hB)).2.2
theorem o0_200 (hB : BytesOK) : okL 0 466 T0_200 = true := (okL_c (o0_199 hB)).2.2
theorem o0_201 (hB : BytesOK) : okL 0 467 T0_201 = true := (okL_c (o0_200 hB)).2.2
theorem o0_202 (hB : BytesOK) : okL 0 468 T0_202 = true := (okL_c (o0_201 hB)).2.2
theorem o0_203 (hB : BytesOK) : okL 0 469 T0_203 = true := (okL_c (o0_202 hB)).2.2
theorem o0_204 (hB : BytesOK) : okL 0 470 T0_204 = true := (okL_c (o0_203 hB)).2.2
theorem o0_205 (hB : BytesOK) : okL 0 471 T0_205 = true := (okL_c (o0_204 hB)).2.2
theorem o0_206 (hB : BytesOK) : okL 0 472 T0_206 = true := (okL_c (o0_205 hB)).2.2
theorem o0_207 (hB : BytesOK) : okL 0 473 T0_207 = true := (okL_c (o0_206 hB)).2.2
theorem o0_208 (hB : BytesOK) : okL 0 476 T0_208 = true := (okL_c (o0_207 hB)).2.2
theorem o0_209 (hB : BytesOK) : okL 0 477 T0_209 = true := (okL_c (o0_208 hB)).2.2
theorem o0_210 (hB : BytesOK) : okL 0 480 T0_210 = true := (okL_c (o0_209 hB)).2.2
theorem o0_211 (hB : BytesOK) : okL 0 481 T0_211 = true := (okL_c (o0_210 hB)).2.2
theorem o0_212 (hB : BytesOK) : okL 0 482 T0_212 = true := (okL_c (o0_211 hB)).2.2
theorem o0_213 (hB : BytesOK) : okL 0 483 T0_213 = true := (okL_c (o0_212 hB)).2.2
theorem o0_214 (hB : BytesOK) : okL 0 484 T0_214 = true := (okL_c (o0_213 hB)).2.2
theorem o0_215 (hB : BytesOK) : okL 0 485 T0_215 = true := (okL_c (o0_214 hB)).2.2
theorem o0_216 (hB : BytesOK) : okL 0 486 T0_216 = true := (okL_c (o0_215 hB)).2.2
theorem o0_217 (hB : BytesOK) : okL 0 489 T0_217 = true := (okL_c (o0_216 hB)).2.2
theorem o0_218 (hB : BytesOK) : okL 0 490 T0_218 = true := (okL_c (o0_217 hB)).2.2
theorem o0_219 (hB : BytesOK) : okL 0 491 T0_219 = true := (okL_c (o0_218 hB)).2.2
theorem o0_220 (hB : BytesOK) : okL 0 492 T0_220 = true := (okL_c (o0_219 hB)).2.2
theorem o0_221 (hB : BytesOK) : okL 0 493 T0_221 = true := (okL_c (o0_220 hB)).2.2
theorem o0_222 (hB : BytesOK) : okL 0 494 T0_222 = true := (okL_c (o0_221 hB)).2.2
theorem o0_223 (hB : BytesOK) : okL 0 495 T0_223 = true := (okL_c (o0_222 hB)).2.2
theorem o0_224 (hB : BytesOK) : okL 0 496 T0_224 = true := (okL_c (o0_223 hB)).2.2
theorem o0_225 (hB : BytesOK) : okL 0 499 T0_225 = true := (okL_c (o0_224 hB)).2.2
theorem o0_226 (hB : BytesOK) : okL 0 500 T0_226 = true := (okL_c (o0_225 hB)).2.2
theorem o0_227 (hB : BytesOK) : okL 0 503 T0_227 = true := (okL_c (o0_226 hB)).2.2
theorem o0_228 (hB : BytesOK) : okL 0 504 T0_228 = true := (okL_c (o0_227 hB)).2.2
theorem o0_229 (hB : BytesOK) : okL 0 505 T0_229 = true := (okL_c (o0_228 hB)).2.2
theorem o0_230 (hB : BytesOK) : okL 0 506 T0_230 = true := (okL_c (o0_229 hB)).2.2
theorem o0_231 (hB : BytesOK) : okL 0 507 T0_231 = true := (okL_c (o0_230 hB)).2.2
theorem o0_232 (hB : BytesOK) : okL 0 508 T0_232 = true := (okL_c (o0_231 hB)).2.2
theorem o0_233 (hB : BytesOK) : okL 0 509 T0_233 = true := (okL_c (o0_232 hB)).2.2
theorem o0_234 (hB : BytesOK) : okL 0 510 T0_234 = true := (okL_c (o0_233 hB)).2.2
theorem o0_235 (hB : BytesOK) : okL 0 511 T0_235 = true := (okL_c (o0_234 hB)).2.2
theorem o0_236 (hB : BytesOK) : okL 0 512 T0_236 = true := (okL_c (o0_235 hB)).2.2
theorem o0_237 (hB : BytesOK) : okL 0 513 T0_237 = true := (okL_c (o0_236 hB)).2.2
theorem o0_238 (hB : BytesOK) : okL 0 514 T0_238 = true := (okL_c (o0_237 hB)).2.2
theorem o0_239 (hB : BytesOK) : okL 0 517 T0_239 = true := (okL_c (o0_238 hB)).2.2
theorem o0_240 (hB : BytesOK) : okL 0 518 T0_240 = true := (okL_c (o0_239 hB)).2.2
theorem o0_241 (hB : BytesOK) : okL 0 519 T0_241 = true := (okL_c (o0_240 hB)).2.2
theorem o0_242 (hB : BytesOK) : okL 0 520 T0_242 = true := (okL_c (o0_241 hB)).2.2
theorem o0_243 (hB : BytesOK) : okL 0 521 T0_243 = true := (okL_c (o0_242 hB)).2.2
theorem o0_244 (hB : BytesOK) : okL 0 522 T0_244 = true := (okL_c (o0_243 hB)).2.2
theorem o0_245 (hB : BytesOK) : okL 0 523 T0_245 = true := (okL_c (o0_244 hB)).2.2
theorem o0_246 (hB : BytesOK) : okL 0 524 T0_246 = true := (okL_c (o0_245 hB)).2.2
theorem o0_247 (hB : BytesOK) : okL 0 525 T0_247 = true := (okL_c (o0_246 hB)).2.2
theorem o0_248 (hB : BytesOK) : okL 0 526 T0_248 = true := (okL_c (o0_247 hB)).2.2
theorem o0_249 (hB : BytesOK) : okL 0 527 T0_249 = true := (okL_c (o0_248 hB)).2.2
theorem o0_250 (hB : BytesOK) : okL 0 528 T0_250 = true := (okL_c (o0_249 hB)).2.2
theorem o0_251 (hB : BytesOK) : okL 0 529 T0_251 = true := (okL_c (o0_250 hB)).2.2
theorem o0_252 (hB : BytesOK) : okL 0 532 T0_252 = true := (okL_c (o0_251 hB)).2.2
theorem o0_253 (hB : BytesOK) : okL 0 533 T0_253 = true := (okL_c (o0_252 hB)).2.2
theorem o0_254 (hB : BytesOK) : okL 0 536 T0_254 = true := (okL_c (o0_253 hB)).2.2
theorem o0_255 (hB : BytesOK) : okL 0 537 T0_255 = true := (okL_c (o0_254 hB)).2.2
theorem o0_256 (hB : BytesOK) : okL 0 538 T0_256 = true := (okL_c (o0_255 hB)).2.2
theorem o0_257 (hB : BytesOK) : okL 0 539 T0_257 = true := (okL_c (o0_256 hB)).2.2
theorem o0_258 (hB : BytesOK) : okL 0 540 T0_258 = true := (okL_c (o0_257 hB)).2.2
theorem o0_259 (hB : BytesOK) : okL 0 541 T0_259 = true := (okL_c (o0_258 hB)).2.2
theorem o0_260 (hB : BytesOK) : okL 0 542 T0_260 = true := (okL_c (o0_259 hB)).2.2
theorem o0_261 (hB : BytesOK) : okL 0 545 T0_261 = true := (okL_c (o0_260 hB)).2.2
theorem o0_262 (hB : BytesOK) : okL 0 546 T0_262 = true := (okL_c (o0_261 hB)).2.2
theorem o0_263 (hB : BytesOK) : okL 0 547 T0_263 = true := (okL_c (o0_262 hB)).2.2
theorem o0_264 (hB : BytesOK) : okL 0 548 T0_264 = true := (okL_c (o0_263 hB)).2.2
theorem o0_265 (hB : BytesOK) : okL 0 549 T0_265 = true := (okL_c (o0_264 hB)).2.2
theorem o0_266 (hB : BytesOK) : okL 0 550 T0_266 = true := (okL_c (o0_265 hB)).2.2
theorem o0_267 (hB : BytesOK) : okL 0 551 T0_267 = true := (okL_c (o0_266 hB)).2.2
theorem o0_268 (hB : BytesOK) : okL 0 552 T0_268 = true := (okL_c (o0_267 hB)).2.2
theorem o0_269 (hB : BytesOK) : okL 0 555 T0_269 = true := (okL_c (o0_268 hB)).2.2
theorem o0_270 (hB : BytesOK) : okL 0 556 T0_270 = true := (okL_c (o0_269 hB)).2.2
theorem o0_271 (hB : BytesOK) : okL 0 559 T0_271 = true := (okL_c (o0_270 hB)).2.2
theorem o0_272 (hB : BytesOK) : okL 0 560 T0_272 = true := (okL_c (o0_271 hB)).2.2
theorem o0_273 (hB : BytesOK) : okL 0 561 T0_273 = true := (okL_c (o0_272 hB)).2.2
theorem o0_274 (hB : BytesOK) : okL 0 562 T0_274 = true := (okL_c (o0_273 hB)).2.2
theorem o0_275 (hB : BytesOK) : okL 0 563 T0_275 = true := (okL_c (o0_274 hB)).2.2
theorem o0_276 (hB : BytesOK) : okL 0 564 T0_276 = true := (okL_c (o0_275 hB)).2.2
theorem o0_277 (hB : BytesOK) : okL 0 565 T0_277 = true := (okL_c (o0_276 hB)).2.2
theorem o0_278 (hB : BytesOK) : okL 0 568 T0_278 = true := (okL_c (o0_277 hB)).2.2
theorem o0_279 (hB : BytesOK) : okL 0 569 T0_279 = true := (okL_c (o0_278 hB)).2.2
theorem o0_280 (hB : BytesOK) : okL 0 570 T0_280 = true := (okL_c (o0_279 hB)).2.2
theorem o0_281 (hB : BytesOK) : okL 0 571 T0_281 = true := (okL_c (o0_280 hB)).2.2
theorem o0_282 (hB : BytesOK) : okL 0 572 T0_282 = true := (okL_c (o0_281 hB)).2.2
theorem o0_283 (hB : BytesOK) : okL 0 573 T0_283 = true := (okL_c (o0_282 hB)).2.2
theorem o0_284 (hB : BytesOK) : okL 0 574 T0_284 = true := (okL_c (o0_283 hB)).2.2
theorem o0_285 (hB : BytesOK) : okL 0 575 T0_285 = true := (okL_c (o0_284 hB)).2.2
theorem o0_286 (hB : BytesOK) : okL 0 578 T0_286 = true := (okL_c (o0_285 hB)).2.2
theorem o0_287 (hB : BytesOK) : okL 0 579 T0_287 = true := (okL_c (o0_286 hB)).2.2
theorem o0_288 (hB : BytesOK) : okL 0 582 T0_288 = true := (okL_c (o0_287 hB)).2.2
theorem o0_289 (hB : BytesOK) : okL 0 583 T0_289 = true := (okL_c (o0_288 hB)).2.2
theorem o0_290 (hB : BytesOK) : okL 0 584 T0_290 = true := (okL_c (o0_289 hB)).2.2
theorem o0_291 (hB : BytesOK) : okL 0 585 T0_291 = true := (okL_c (o0_290 hB)).2.2
theorem o0_292 (hB : BytesOK) : okL 0 586 T0_292 = true := (okL_c (o0_291 hB)).2.2
theorem o0_293 (hB : BytesOK) : okL 0 587 T0_293 = true := (okL_c (o0_292 hB)).2.2
theorem o0_294 (hB : BytesOK) : okL 0 588 T0_294 = true := (okL_c (o0_293 hB)).2.2
theorem o0_295 (hB : BytesOK) : okL 0 589 T0_295 = true := (okL_c (o0_294 hB)).2.2
theorem o0_296 (hB : BytesOK) : okL 0 590 T0_296 = true := (okL_c (o0_295 hB)).2.2
theorem o0_297 (hB : BytesOK) : okL 0 591 T0_297 = true := (okL_c (o0_296 hB)).2.2
theorem o0_298 (hB : BytesOK) : okL 0 592 T0_298 = true := (okL_c (o0_297 hB)).2.2
theorem o0_299 (hB : BytesOK) : okL 0 593 T0_299 = true := (okL_c (o0_298 hB)).2.2
theorem o0_300 (hB : BytesOK) : okL 0 596 T0_300 = true := (okL_c (o0_299 hB)).2.2
theorem o0_301 (hB : BytesOK) : okL 0 597 T0_301 = true := (okL_c (o0_300 hB)).2.2
theorem o0_302 (hB : BytesOK) : okL 0 598 T0_302 = true := (okL_c (o0_301 hB)).2.2
theorem o0_303 (hB : BytesOK) : okL 0 599 T0_303 = true := (okL_c (o0_302 hB)).2.2
theorem o0_304 (hB : BytesOK) : okL 0 600 T0_304 = true := (okL_c (o0_303 hB)).2.2
theorem o0_305 (hB : BytesOK) : okL 0 601 T0_305 = true := (okL_c (o0_304 hB)).2.2
theorem o0_306 (hB : BytesOK) : okL 0 602 T0_306 = true := (okL_c (o0_305 hB)).2.2
theorem o0_307 (hB : BytesOK) : okL 0 603 T0_307 = true := (okL_c (o0_306 hB)).2.2
theorem o0_308 (hB : BytesOK) : okL 0 604 T0_308 = true := (okL_c (o0_307 hB)).2.2
theorem o0_309 (hB : BytesOK) : okL 0 605 T0_309 = true := (okL_c (o0_308 hB)).2.2
theorem o0_310 (hB : BytesOK) : okL 0 606 T0_310 = true := (okL_c (o0_309 hB)).2.2
theorem o0_311 (hB : BytesOK) : okL 0 607 T0_311 = true := (okL_c (o0_310 hB)).2.2
theorem o0_312 (hB : BytesOK) : okL 0 608 T0_312 = true := (okL_c (o0_311 hB)).2.2
theorem o0_313 (hB : BytesOK) : okL 0 611 T0_313 = true := (okL_c (o0_312 hB)).2.2
theorem o0_314 (hB : BytesOK) : okL 0 612 T0_314 = true := (okL_c (o0_313 hB)).2.2
theorem o0_315 (hB : BytesOK) : okL 0 615 T0_315 = true := (okL_c (o0_314 hB)).2.2
theorem o0_316 (hB : BytesOK) : okL 0 616 T0_316 = true := (okL_c (o0_315 hB)).2.2
theorem o0_317 (hB : BytesOK) : okL 0 617 T0_317 = true := (okL_c (o0_316 hB)).2.2
theorem o0_318 (hB : BytesOK) : okL 0 618 T0_318 = true := (okL_c (o0_317 hB)).2.2
theorem o0_319 (hB : BytesOK) : okL 0 619 T0_319 = true := (okL_c (o0_318 hB)).2.2
theorem o0_320 (hB : BytesOK) : okL 0 620 T0_320 = true := (okL_c (o0_319 hB)).2.2
theorem o0_321 (hB : BytesOK) : okL 0 621 T0_321 = true := (okL_c (o0_320 hB)).2.2
theorem o0_322 (hB : BytesOK) : okL 0 624 T0_322 = true := (okL_c (o0_321 hB)).2.2
theorem o0_323 (hB : BytesOK) : okL 0 625 T0_323 = true := (okL_c (o0_322 hB)).2.2
theorem o0_324 (hB : BytesOK) : okL 0 628 T0_324 = true := (okL_c (o0_323 hB)).2.2
theorem o0_325 (hB : BytesOK) : okL 0 629 T0_325 = true := (okL_c (o0_324 hB)).2.2
theorem o0_326 (hB : BytesOK) : okL 0 632 T0_326 = true := (okL_c (o0_325 hB)).2.2
theorem o0_327 (hB : BytesOK) : okL 0 633 T0_327 = true := (okL_c (o0_326 hB)).2.2
theorem o0_328 (hB : BytesOK) : okL 0 634 T0_328 = true := (okL_c (o0_327 hB)).2.2
theorem o0_329 (hB : BytesOK) : okL 0 635 T0_329 = true := (okL_c (o0_328 hB)).2.2
theorem o0_330 (hB : BytesOK) : okL 0 636 T0_330 = true := (okL_c (o0_329 hB)).2.2
theorem o0_331 (hB : BytesOK) : okL 0 637 T0_331 = true := (okL_c (o0_330 hB)).2.2
theorem o0_332 (hB : BytesOK) : okL 0 638 T0_332 = true := (okL_c (o0_331 hB)).2.2
theorem o0_333 (hB : BytesOK) : okL 0 639 T0_333 = true := (okL_c (o0_332 hB)).2.2
theorem o0_334 (hB : BytesOK) : okL 0 642 T0_334 = true := (okL_c (o0_333 hB)).2.2
theorem o0_335 (hB : BytesOK) : okL 0 643 T0_335 = true := (okL_c (o0_334 hB)).2.2
theorem o0_336 (hB : BytesOK) : okL 0 646 T0_336 = true := (okL_c (o0_335 hB)).2.2
theorem o0_337 (hB : BytesOK) : okL 0 647 T0_337 = true := (okL_c (o0_336 hB)).2.2
theorem o0_338 (hB : BytesOK) : okL 0 650 T0_338 = true := (okL_c (o0_337 hB)).2.2
theorem o0_339 (hB : BytesOK) : okL 0 651 T0_339 = true := (okL_c (o0_338 hB)).2.2
theorem o0_340 (hB : BytesOK) : okL 0 654 T0_340 = true := (okL_c (o0_339 hB)).2.2
theorem o0_341 (hB : BytesOK) : okL 0 655 T0_341 = true := (okL_c (o0_340 hB)).2.2
theorem o0_342 (hB : BytesOK) : okL 0 656 T0_342 = true := (okL_c (o0_341 hB)).2.2
theorem o0_343 (hB : BytesOK) : okL 0 657 T0_343 = true := (okL_c (o0_342 hB)).2.2
theorem o0_344 (hB : BytesOK) : okL 0 658 T0_344 = true := (okL_c (o0_343 hB)).2.2
theorem o0_345 (hB : BytesOK) : okL 0 659 T0_345 = true := (okL_c (o0_344 hB)).2.2
theorem o0_346 (hB : BytesOK) : okL 0 660 T0_346 = true := (okL_c (o0_345 hB)).2.2
theorem o0_347 (hB : BytesOK) : okL 0 661 T0_347 = true := (okL_c (o0_346 hB)).2.2
theorem o0_348 (hB : BytesOK) : okL 0 663 T0_348 = true := (okL_c (o0_347 hB)).2.2
theorem o0_349 (hB : BytesOK) : okL 0 664 T0_349 = true := (okL_c (o0_348 hB)).2.2
theorem o0_350 (hB : BytesOK) : okL 0 665 T0_350 = true := (okL_c (o0_349 hB)).2.2
theorem o0_351 (hB : BytesOK) : okL 0 666 T0_351 = true := (okL_c (o0_350 hB)).2.2
theorem o0_352 (hB : BytesOK) : okL 0 667 T0_352 = true := (okL_c (o0_351 hB)).2.2
theorem o0_353 (hB : BytesOK) : okL 0 668 T0_353 = true := (okL_c (o0_352 hB)).2.2
theorem o0_354 (hB : BytesOK) : okL 0 669 T0_354 = true := (okL_c (o0_353 hB)).2.2
theorem o0_355 (hB : BytesOK) : okL 0 670 T0_355 = true := (okL_c (o0_354 hB)).2.2
theorem o0_356 (hB : BytesOK) : okL 0 673 T0_356 = true := (okL_c (o0_355 hB)).2.2
theorem o0_357 (hB : BytesOK) : okL 0 674 T0_357 = true := (okL_c (o0_356 hB)).2.2
theorem o0_358 (hB : BytesOK) : okL 0 675 T0_358 = true := (okL_c (o0_357 hB)).2.2
theorem o0_359 (hB : BytesOK) : okL 0 676 T0_359 = true := (okL_c (o0_358 hB)).2.2
theorem o0_360 (hB : BytesOK) : okL 0 677 T0_360 = true := (okL_c (o0_359 hB)).2.2
theorem o0_361 (hB : BytesOK) : okL 0 678 T0_361 = true := (okL_c (o0_360 hB)).2.2
theorem o0_362 (hB : BytesOK) : okL 0 679 T0_362 = true := (okL_c (o0_361 hB)).2.2
theorem o0_363 (hB : BytesOK) : okL 0 680 T0_363 = true := (okL_c (o0_362 hB)).2.2
theorem o0_364 (hB : BytesOK) : okL 0 683 T0_364 = true := (okL_c (o0_363 hB)).2.2
theorem o0_365 (hB : BytesOK) : okL 0 684 T0_365 = true := (okL_c (o0_364 hB)).2.2
theorem o0_366 (hB : BytesOK) : okL 0 685 T0_366 = true := (okL_c (o0_365 hB)).2.2
theorem o0_367 (hB : BytesOK) : okL 0 686 T0_367 = true := (okL_c (o0_366 hB)).2.2
theorem o0_368 (hB : BytesOK) : okL 0 687 T0_368 = true := (okL_c (o0_367 hB)).2.2
theorem o0_369 (hB : BytesOK) : okL 0 688 T0_369 = true := (okL_c (o0_368 hB)).2.2
theorem o0_370 (hB : BytesOK) : okL 0 689 T0_370 = true := (okL_c (o0_369 hB)).2.2
theorem o0_371 (hB : BytesOK) : okL 0 690 T0_371 = true := (okL_c (o0_370 hB)).2.2
theorem o0_372 (hB : BytesOK) : okL 0 691 T0_372 = true := (okL_c (o0_371 hB)).2.2
theorem o0_373 (hB : BytesOK) : okL 0 693 T0_373 = true := (okL_c (o0_372 hB)).2.2
theorem o0_374 (hB : BytesOK) : okL 0 694 T0_374 = true := (okL_c (o0_373 hB)).2.2
theorem o0_375 (hB : BytesOK) : okL 0 695 T0_375 = true := (okL_c (o0_374 hB)).2.2
theorem o0_376 (hB : BytesOK) : okL 0 696 T0_376 = true := (okL_c (o0_375 hB)).2.2
theorem o0_377 (hB : BytesOK) : okL 0 697 T0_377 = true := (okL_c (o0_376 hB)).2.2
theorem o0_378 (hB : BytesOK) : okL 0 698 T0_378 = true := (okL_c (o0_377 hB)).2.2
theorem o0_379 (hB : BytesOK) : okL 0 699 T0_379 = true := (okL_c (o0_378 hB)).2.2
theorem o0_380 (hB : BytesOK) : okL 0 700 T0_380 = true := (okL_c (o0_379 hB)).2.2
theorem o0_381 (hB : BytesOK) : okL 0 703 T0_381 = true := (okL_c (o0_380 hB)).2.2
theorem o0_382 (hB : BytesOK) : okL 0 704 T0_382 = true := (okL_c (o0_381 hB)).2.2
theorem o0_383 (hB : BytesOK) : okL 0 705 T0_383 = true := (okL_c (o0_382 hB)).2.2
theorem o0_384 (hB : BytesOK) : okL 0 706 T0_384 = true := (okL_c (o0_383 hB)).2.2
theorem o0_385 (hB : BytesOK) : okL 0 707 T0_385 = true := (okL_c (o0_384 hB)).2.2
theorem o0_386 (hB : BytesOK) : okL 0 708 T0_386 = true := (okL_c (o0_385 hB)).2.2
theorem o0_387 (hB : BytesOK) : okL 0 709 T0_387 = true := (okL_c (o0_386 hB)).2.2
theorem o0_388 (hB : BytesOK) : okL 0 710 T0_388 = true := (okL_c (o0_387 hB)).2.2
theorem o0_389 (hB : BytesOK) : okL 0 713 T0_389 = true := (okL_c (o0_388 hB)).2.2
theorem o0_390 (hB : BytesOK) : okL 0 714 T0_390 = true := (okL_c (o0_389 hB)).2.2
theorem o0_391 (hB : BytesOK) : okL 0 717 T0_391 = true := (okL_c (o0_390 hB)).2.2
theorem o0_392 (hB : BytesOK) : okL 0 718 T0_392 = true := (okL_c (o0_391 hB)).2.2
theorem o0_393 (hB : BytesOK) : okL 0 721 T0_393 = true := (okL_c (o0_392 hB)).2.2
theorem o0_394 (hB : BytesOK) : okL 0 722 T0_394 = true := (okL_c (o0_393 hB)).2.2
theorem o0_395 (hB : BytesOK) : okL 0 723 T0_395 = true := (okL_c (o0_394 hB)).2.2
theorem o0_396 (hB : BytesOK) : okL 0 726 T0_396 = true := (okL_c (o0_395 hB)).2.2
theorem o0_397 (hB : BytesOK) : okL 0 727 T0_397 = true := (okL_c (o0_396 hB)).2.2
theorem o0_398 (hB : BytesOK) : okL 0 730 T0_398 = true := (okL_c (o0_397 hB)).2.2
theorem o0_399 (hB : BytesOK) : okL 0 731 T0_399 = true := (okL_c (o0_398 hB)).2.2
theorem o0_400 (hB : BytesOK) : okL 0 732 T0_400 = true := (okL_c (o0_399 hB)).2.2
theorem o0_401 (hB : BytesOK) : okL 0 733 T0_401 = true := (okL_c (o0_400 hB)).2.2
theorem o0_402 (hB : BytesOK) : okL 0 734 T0_402 = true := (okL_c (o0_401 hB)).2.2
theorem o0_403 (hB : BytesOK) : okL 0 735 T0_403 = true := (okL_c (o0_402 hB)).2.2
theorem o0_404 (hB : BytesOK) : okL 0 736 T0_404 = true := (okL_c (o0_403 hB)).2.2
theorem o0_405 (hB : BytesOK) : okL 0 737 T0_405 = true := (okL_c (o0_404 hB)).2.2
theorem o0_406 (hB : BytesOK) : okL 0 738 T0_406 = true := (okL_c (o0_405 hB)).2.2
theorem o0_407 (hB : BytesOK) : okL 0 739 T0_407 = true := (okL_c (o0_406 hB)).2.2
theorem o0_408 (hB : BytesOK) : okL 0 740 T0_408 = true := (okL_c (o0_407 hB)).2.2
theorem o0_409 (hB : BytesOK) : okL 0 741 T0_409 = true := (okL_c (o0_408 hB)).2.2
theorem o0_410 (hB : BytesOK) : okL 0 744 T0_410 = true := (okL_c (o0_409 hB)).2.2
theorem o0_411 (hB : BytesOK) : okL 0 745 T0_411 = true := (okL_c (o0_410 hB)).2.2
theorem o0_412 (hB : BytesOK) : okL 0 746 T0_412 = true := (okL_c (o0_411 hB)).2.2
theorem o0_413 (hB : BytesOK) : okL 0 747 T0_413 = true := (okL_c (o0_412 hB)).2.2
theorem o0_414 (hB : BytesOK) : okL 0 748 T0_414 = true := (okL_c (o0_413 hB)).2.2
theorem o0_415 (hB : BytesOK) : okL 0 749 T0_415 = true := (okL_c (o0_414 hB)).2.2
theorem o0_416 (hB : BytesOK) : okL 0 750 T0_416 = true := (okL_c (o0_415 hB)).2.2
theorem o0_417 (hB : BytesOK) : okL 0 751 T0_417 = true := (okL_c (o0_416 hB)).2.2
theorem o0_418 (hB : BytesOK) : okL 0 752 T0_418 = true := (okL_c (o0_417 hB)).2.2
theorem o0_419 (hB : BytesOK) : okL 0 753 T0_419 = true := (okL_c (o0_418 hB)).2.2
theorem o0_420 (hB : BytesOK) : okL 0 754 T0_420 = true := (okL_c (o0_419 hB)).2.2
theorem o0_421 (hB : BytesOK) : okL 0 755 T0_421 = true := (okL_c (o0_420 hB)).2.2
theorem o0_422 (hB : BytesOK) : okL 0 758 T0_422 = true := (okL_c (o0_421 hB)).2.2
theorem o0_423 (hB : BytesOK) : okL 0 761 T0_423 = true := (okL_c (o0_422 hB)).2.2
theorem o0_424 (hB : BytesOK) : okL 0 762 T0_424 = true := (okL_c (o0_423 hB)).2.2
theorem o0_425 (hB : BytesOK) : okL 0 763 T0_425 = true := (okL_c (o0_424 hB)).2.2
theorem o0_426 (hB : BytesOK) : okL 0 764 T0_426 = true := (okL_c (o0_425 hB)).2.2
theorem o0_427 (hB : BytesOK) : okL 0 765 T0_427 = true := (okL_c (o0_426 hB)).2.2
theorem o0_428 (hB : BytesOK) : okL 0 766 T0_428 = true := (okL_c (o0_427 hB)).2.2
theorem o0_429 (hB : BytesOK) : okL 0 767 T0_429 = true := (okL_c (o0_428 hB)).2.2
theorem o0_430 (hB : BytesOK) : okL 0 768 T0_430 = true := (okL_c (o0_429 hB)).2.2
theorem o0_431 (hB : BytesOK) : okL 0 769 T0_431 = true := (okL_c (o0_430 hB)).2.2
theorem o0_432 (hB : BytesOK) : okL 0 770 T0_432 = true := (okL_c (o0_431 hB)).2.2
theorem o0_433 (hB : BytesOK) : okL 0 771 T0_433 = true := (okL_c (o0_432 hB)).2.2
theorem o0_434 (hB : BytesOK) : okL 0 772 T0_434 = true := (okL_c (o0_433 hB)).2.2
theorem o0_435 (hB : BytesOK) : okL 0 773 T0_435 = true := (okL_c (o0_434 hB)).2.2
theorem o0_436 (hB : BytesOK) : okL 0 774 T0_436 = true := (okL_c (o0_435 hB)).2.2
theorem o0_437 (hB : BytesOK) : okL 0 777 T0_437 = true := (okL_c (o0_436 hB)).2.2
theorem o0_438 (hB : BytesOK) : okL 0 778 T0_438 = true := (okL_c (o0_437 hB)).2.2
theorem o0_439 (hB : BytesOK) : okL 0 779 T0_439 = true := (okL_c (o0_438 hB)).2.2
theorem o0_440 (hB : BytesOK) : okL 0 780 T0_440 = true := (okL_c (o0_439 hB)).2.2
theorem o0_441 (hB : BytesOK) : okL 0 781 T0_441 = true := (okL_c (o0_440 hB)).2.2
theorem o0_442 (hB : BytesOK) : okL 0 782 T0_442 = true := (okL_c (o0_441 hB)).2.2
theorem o0_443 (hB : BytesOK) : okL 0 783 T0_443 = true := (okL_c (o0_442 hB)).2.2
theorem o0_444 (hB : BytesOK) : okL 0 784 T0_444 = true := (okL_c (o0_443 hB)).2.2
theorem o0_445 (hB : BytesOK) : okL 0 785 T0_445 = true := (okL_c (o0_444 hB)).2.2
theorem o0_446 (hB : BytesOK) : okL 0 786 T0_446 = true := (okL_c (o0_445 hB)).2.2
theorem o0_447 (hB : BytesOK) : okL 0 787 T0_447 = true := (okL_c (o0_446 hB)).2.2
theorem o0_448 (hB : BytesOK) : okL 0 788 T0_448 = true := (okL_c (o0_447 hB)).2.2
theorem o0_449 (hB : BytesOK) : okL 0 789 T0_449 = true := (okL_c (o0_448 hB)).2.2
theorem o0_450 (hB : BytesOK) : okL 0 792 T0_450 = true := (okL_c (o0_449 hB)).2.2
theorem o0_451 (hB : BytesOK) : okL 0 793 T0_451 = true := (okL_c (o0_450 hB)).2.2
theorem o0_452 (hB : BytesOK) : okL 0 796 T0_452 = true := (okL_c (o0_451 hB)).2.2
theorem o0_453 (hB : BytesOK) : okL 0 797 T0_453 = true := (okL_c (o0_452 hB)).2.2
theorem o0_454 (hB : BytesOK) : okL 0 798 T0_454 = true := (okL_c (o0_453 hB)).2.2
theorem o0_455 (hB : BytesOK) : okL 0 799 T0_455 = true := (okL_c (o0_454 hB)).2.2
theorem o0_456 (hB : BytesOK) : okL 0 800 T0_456 = true := (okL_c (o0_455 hB)).2.2
theorem o0_457 (hB : BytesOK) : okL 0 801 T0_457 = true := (okL_c (o0_456 hB)).2.2
theorem o0_458 (hB : BytesOK) : okL 0 802 T0_458 = true := (okL_c (o0_457 hB)).2.2
theorem o0_459 (hB : BytesOK) : okL 0 803 T0_459 = true := (okL_c (o0_458 hB)).2.2
theorem o0_460 (hB : BytesOK) : okL 0 804 T0_460 = true := (okL_c (o0_459 hB)).2.2
theorem o0_461 (hB : BytesOK) : okL 0 805 T0_461 = true := (okL_c (o0_460 hB)).2.2
theorem o0_462 (hB : BytesOK) : okL 0 806 T0_462 = true := (okL_c (o0_461 hB)).2.2
theorem o0_463 (hB : BytesOK) : okL 0 807 T0_463 = true := (okL_c (o0_462 hB)).2.2
theorem o0_464 (hB : BytesOK) : okL 0 810 T0_464 = true := (okL_c (o0_463 hB)).2.2
theorem o0_465 (hB : BytesOK) : okL 0 811 T0_465 = true := (okL_c (o0_464 hB)).2.2
theorem o0_466 (hB : BytesOK) : okL 0 812 T0_466 = true := (okL_c (o0_465 hB)).2.2
theorem o0_467 (hB : BytesOK) : okL 0 813 T0_467 = true := (okL_c (o0_466 hB)).2.2
theorem o0_468 (hB : BytesOK) : okL 0 814 T0_468 = true := (okL_c (o0_467 hB)).2.2
theorem o0_469 (hB : BytesOK) : okL 0 815 T0_469 = true := (okL_c (o0_468 hB)).2.2
theorem o0_470 (hB : BytesOK) : okL 0 816 T0_470 = true := (okL_c (o0_469 hB)).2.2
theorem o0_471 (hB : BytesOK) : okL 0 817 T0_471 = true := (okL_c (o0_470 hB)).2.2
theorem o0_472 (hB : BytesOK) : okL 0 818 T0_472 = true := (okL_c (o0_471 hB)).2.2
theorem o0_473 (hB : BytesOK) : okL 0 819 T0_473 = true := (okL_c (o0_472 hB)).2.2
theorem o0_474 (hB : BytesOK) : okL 0 820 T0_474 = true := (okL_c (o0_473 hB)).2.2
theorem o0_475 (hB : BytesOK) : okL 0 821 T0_475 = true := (okL_c (o0_474 hB)).2.2
theorem o0_476 (hB : BytesOK) : okL 0 822 T0_476 = true := (okL_c (o0_475 hB)).2.2
theorem o0_477 (hB : BytesOK) : okL 0 825 T0_477 = true := (okL_c (o0_476 hB)).2.2
theorem o0_478 (hB : BytesOK) : okL 0 826 T0_478 = true := (okL_c (o0_477 hB)).2.2
theorem o0_479 (hB : BytesOK) : okL 0 829 T0_479 = true := (okL_c (o0_478 hB)).2.2
theorem o0_480 (hB : BytesOK) : okL 0 830 T0_480 = true := (okL_c (o0_479 hB)).2.2
theorem o0_481 (hB : BytesOK) : okL 0 831 T0_481 = true := (okL_c (o0_480 hB)).2.2
theorem o0_482 (hB : BytesOK) : okL 0 832 T0_482 = true := (okL_c (o0_481 hB)).2.2
theorem o0_483 (hB : BytesOK) : okL 0 833 T0_483 = true := (okL_c (o0_482 hB)).2.2
theorem o0_484 (hB : BytesOK) : okL 0 834 T0_484 = true := (okL_c (o0_483 hB)).2.2
theorem o0_485 (hB : BytesOK) : okL 0 835 T0_485 = true := (okL_c (o0_484 hB)).2.2
theorem o0_486 (hB : BytesOK) : okL 0 836 T0_486 = true := (okL_c (o0_485 hB)).2.2
theorem o0_487 (hB : BytesOK) : okL 0 837 T0_487 = true := (okL_c (o0_486 hB)).2.2
theorem o0_488 (hB : BytesOK) : okL 0 838 T0_488 = true := (okL_c (o0_487 hB)).2.2
theorem o0_489 (hB : BytesOK) : okL 0 839 T0_489 = true := (okL_c (o0_488 hB)).2.2
theorem o0_490 (hB : BytesOK) : okL 0 840 T0_490 = true := (okL_c (o0_489 hB)).2.2
theorem o0_491 (hB : BytesOK) : okL 0 841 T0_491 = true := (okL_c (o0_490 hB)).2.2
theorem o0_492 (hB : BytesOK) : okL 0 842 T0_492 = true := (okL_c (o0_491 hB)).2.2
theorem o0_493 (hB : BytesOK) : okL 0 843 T0_493 = true := (okL_c (o0_492 hB)).2.2
theorem o0_494 (hB : BytesOK) : okL 0 844 T0_494 = true := (okL_c (o0_493 hB)).2.2
theorem o0_495 (hB : BytesOK) : okL 0 845 T0_495 = true := (okL_c (o0_494 hB)).2.2
theorem o0_496 (hB : BytesOK) : okL 0 846 T0_496 = true := (okL_c (o0_495 hB)).2.2
theorem o0_497 (hB : BytesOK) : okL 0 847 T0_497 = true := (okL_c (o0_496 hB)).2.2
theorem o0_498 (hB : BytesOK) : okL 0 848 T0_498 = true := (okL_c (o0_497 hB)).2.2
theorem o0_499 (hB : BytesOK) : okL 0 849 T0_499 = true := (okL_c (o0_498 hB)).2.2
theorem o0_500 (hB : BytesOK) : okL 0 850 T0_500 = true := (okL_c (o0_499 hB)).2.2
theorem o0_501 (hB : BytesOK) : okL 0 851 T0_501 = true := (okL_c (o0_500 hB)).2.2
theorem o0_502 (hB : BytesOK) : okL 0 852 T0_502 = true := (okL_c (o0_501 hB)).2.2
theorem o0_503 (hB : BytesOK) : okL 0 853 T0_503 = true := (okL_c (o0_502 hB)).2.2
theorem o0_504 (hB : BytesOK) : okL 0 854 T0_504 = true := (okL_c (o0_503 hB)).2.2
theorem o0_505 (hB : BytesOK) : okL 0 855 T0_505 = true := (okL_c (o0_504 hB)).2.2
theorem o0_506 (hB : BytesOK) : okL 0 858 T0_506 = true := (okL_c (o0_505 hB)).2.2
theorem o0_507 (hB : BytesOK) : okL 0 859 T0_507 = true := (okL_c (o0_506 hB)).2.2
theorem o0_508 (hB : BytesOK) : okL 0 862 T0_508 = true := (okL_c (o0_507 hB)).2.2
theorem o0_509 (hB : BytesOK) : okL 0 863 T0_509 = true := (okL_c (o0_508 hB)).2.2
theorem o0_510 (hB : BytesOK) : okL 0 866 T0_510 = true := (okL_c (o0_509 hB)).2.2
theorem o0_511 (hB : BytesOK) : okL 0 867 T0_511 = true := (okL_c (o0_510 hB)).2.2
theorem o0_512 (hB : BytesOK) : okL 0 868 T0_512 = true := (okL_c (o0_511 hB)).2.2
theorem o0_513 (hB : BytesOK) : okL 0 869 T0_513 = true := (okL_c (o0_512 hB)).2.2
theorem o0_514 (hB : BytesOK) : okL 0 870 T0_514 = true := (okL_c (o0_513 hB)).2.2
theorem o0_515 (hB : BytesOK) : okL 0 871 T0_515 = true := (okL_c (o0_514 hB)).2.2
theorem o0_516 (hB : BytesOK) : okL 0 872 T0_516 = true := (okL_c (o0_515 hB)).2.2
theorem o0_517 (hB : BytesOK) : okL 0 873 T0_517 = true := (okL_c (o0_516 hB)).2.2
theorem o0_518 (hB : BytesOK) : okL 0 874 T0_518 = true := (okL_c (o0_517 hB)).2.2
theorem o0_519 (hB : BytesOK) : okL 0 875 T0_519 = true := (okL_c (o0_518 hB)).2.2
theorem o0_520 (hB : BytesOK) : okL 0 876 T0_520 = true := (okL_c (o0_519 hB)).2.2
theorem o0_521 (hB : BytesOK) : okL 0 877 T0_521 = true := (okL_c (o0_520 hB)).2.2
theorem o0_522 (hB : BytesOK) : okL 0 878 T0_522 = true := (okL_c (o0_521 hB)).2.2
theorem o0_523 (hB : BytesOK) : okL 0 879 T0_523 = true := (okL_c (o0_522 hB)).2.2
theorem o0_524 (hB : BytesOK) : okL 0 880 T0_524 = true := (okL_c (o0_523 hB)).2.2
theorem o0_525 (hB : BytesOK) : okL 0 881 T0_525 = true := (okL_c (o0_524 hB)).2.2
theorem o0_526 (hB : BytesOK) : okL 0 882 T0_526 = true := (okL_c (o0_525 hB)).2.2
theorem o0_527 (hB : BytesOK) : okL 0 883 T0_527 = true := (okL_c (o0_526 hB)).2.2
theorem o0_528 (hB : BytesOK) : okL 0 884 T0_528 = true := (okL_c (o0_527 hB)).2.2
theorem o0_529 (hB : BytesOK) : okL 0 885 T0_529 = true := (okL_c (o0_528 hB)).2.2
theorem o0_530 (hB : BytesOK) : okL 0 886 T0_530 = true := (okL_c (o0_529 hB)).2.2
theorem o0_531 (hB : BytesOK) : okL 0 887 T0_531 = true := (okL_c (o0_530 hB)).2.2
theorem o0_532 (hB : BytesOK) : okL 0 888 T0_532 = true := (okL_c (o0_531 hB)).2.2
theorem o0_533 (hB : BytesOK) : okL 0 889 T0_533 = true := (okL_c (o0_532 hB)).2.2
theorem o0_534 (hB : BytesOK) : okL 0 890 T0_534 = true := (okL_c (o0_533 hB)).2.2
theorem o0_535 (hB : BytesOK) : okL 0 891 T0_535 = true := (okL_c (o0_534 hB)).2.2
theorem o0_536 (hB : BytesOK) : okL 0 892 T0_536 = true := (okL_c (o0_535 hB)).2.2
theorem o0_537 (hB : BytesOK) : okL 0 893 T0_537 = true := (okL_c (o0_536 hB)).2.2
theorem o0_538 (hB : BytesOK) : okL 0 896 T0_538 = true := (okL_c (o0_537 hB)).2.2
theorem o0_539 (hB : BytesOK) : okL 0 897 T0_539 = true := (okL_c (o0_538 hB)).2.2
theorem o0_540 (hB : BytesOK) : okL 0 900 T0_540 = true := (okL_c (o0_539 hB)).2.2
theorem o0_541 (hB : BytesOK) : okL 0 901 T0_541 = true := (okL_c (o0_540 hB)).2.2
theorem o0_542 (hB : BytesOK) : okL 0 904 T0_542 = true := (okL_c (o0_541 hB)).2.2
theorem o0_543 (hB : BytesOK) : okL 0 905 T0_543 = true := (okL_c (o0_542 hB)).2.2
theorem o0_544 (hB : BytesOK) : okL 0 908 T0_544 = true := (okL_c (o0_543 hB)).2.2
theorem o0_545 (hB : BytesOK) : okL 0 909 T0_545 = true := (okL_c (o0_544 hB)).2.2
theorem o0_546 (hB : BytesOK) : okL 0 910 T0_546 = true := (okL_c (o0_545 hB)).2.2
theorem o0_547 (hB : BytesOK) : okL 0 911 T0_547 = true := (okL_c (o0_546 hB)).2.2
theorem o0_548 (hB : BytesOK) : okL 0 912 T0_548 = true := (okL_c (o0_547 hB)).2.2
theorem o0_549 (hB : BytesOK) : okL 0 913 T0_549 = true := (okL_c (o0_548 hB)).2.2
theorem o0_550 (hB : BytesOK) : okL 0 914 T0_550 = true := (okL_c (o0_549 hB)).2.2
theorem o0_551 (hB : BytesOK) : okL 0 915 T0_551 = true := (okL_c (o0_550 hB)).2.2
theorem o0_552 (hB : BytesOK) : okL 0 916 T0_552 = true := (okL_c (o0_551 hB)).2.2
theorem o0_553 (hB : BytesOK) : okL 0 917 T0_553 = true := (okL_c (o0_552 hB)).2.2
theorem o0_554 (hB : BytesOK) : okL 0 918 T0_554 = true := (okL_c (o0_553 hB)).2.2
theorem o0_555 (hB : BytesOK) : okL 0 919 T0_555 = true := (okL_c (o0_554 hB)).2.2
theorem o0_556 (hB : BytesOK) : okL 0 922 T0_556 = true := (okL_c (o0_555 hB)).2.2
theorem o0_557 (hB : BytesOK) : okL 0 923 T0_557 = true := (okL_c (o0_556 hB)).2.2
theorem o0_558 (hB : BytesOK) : okL 0 924 T0_558 = true := (okL_c (o0_557 hB)).2.2
theorem o0_559 (hB : BytesOK) : okL 0 925 T0_559 = true := (okL_c (o0_558 hB)).2.2
theorem o0_560 (hB : BytesOK) : okL 0 926 T0_560 = true := (okL_c (o0_559 hB)).2.2
theorem o0_561 (hB : BytesOK) : okL 0 927 T0_561 = true := (okL_c (o0_560 hB)).2.2
theorem o0_562 (hB : BytesOK) : okL 0 928 T0_562 = true := (okL_c (o0_561 hB)).2.2
theorem o0_563 (hB : BytesOK) : okL 0 929 T0_563 = true := (okL_c (o0_562 hB)).2.2
theorem o0_564 (hB : BytesOK) : okL 0 930 T0_564 = true := (okL_c (o0_563 hB)).2.2
theorem o0_565 (hB : BytesOK) : okL 0 931 T0_565 = true := (okL_c (o0_564 hB)).2.2
theorem o0_566 (hB : BytesOK) : okL 0 932 T0_566 = true := (okL_c (o0_565 hB)).2.2
theorem o0_567 (hB : BytesOK) : okL 0 933 T0_567 = true := (okL_c (o0_566 hB)).2.2
theorem o0_568 (hB : BytesOK) : okL 0 934 T0_568 = true := (okL_c (o0_567 hB)).2.2
theorem o0_569 (hB : BytesOK) : okL 0 937 T0_569 = true := (okL_c (o0_568 hB)).2.2
theorem o0_570 (hB : BytesOK) : okL 0 938 T0_570 = true := (okL_c (o0_569 hB)).2.2
theorem o0_571 (hB : BytesOK) : okL 0 941 T0_571 = true := (okL_c (o0_570 hB)).2.2
theorem o0_572 (hB : BytesOK) : okL 0 942 T0_572 = true := (okL_c (o0_571 hB)).2.2
theorem o0_573 (hB : BytesOK) : okL 0 943 T0_573 = true := (okL_c (o0_572 hB)).2.2
theorem o0_574 (hB : BytesOK) : okL 0 944 T0_574 = true := (okL_c (o0_573 hB)).2.2
theorem o0_575 (hB : BytesOK) : okL 0 945 T0_575 = true := (okL_c (o0_574 hB)).2.2
theorem o0_576 (hB : BytesOK) : okL 0 946 T0_576 = true := (okL_c (o0_575 hB)).2.2
theorem o0_577 (hB : BytesOK) : okL 0 947 T0_577 = true := (okL_c (o0_576 hB)).2.2
theorem o0_578 (hB : BytesOK) : okL 0 948 T0_578 = true := (okL_c (o0_577 hB)).2.2
theorem o0_579 (hB : BytesOK) : okL 0 949 T0_579 = true := (okL_c (o0_578 hB)).2.2
theorem o0_580 (hB : BytesOK) : okL 0 950 T0_580 = true := (okL_c (o0_579 hB)).2.2
theorem o0_581 (hB : BytesOK) : okL 0 951 T0_581 = true := (okL_c (o0_580 hB)).2.2
theorem o0_582 (hB : BytesOK) : okL 0 952 T0_582 = true := (okL_c (o0_581 hB)).2.2
theorem o0_583 (hB : BytesOK) : okL 0 953 T0_583 = true := (okL_c (o0_582 hB)).2.2
theorem o0_584 (hB : BytesOK) : okL 0 954 T0_584 = true := (okL_c (o0_583 hB)).2.2
theorem o0_585 (hB : BytesOK) : okL 0 955 T0_585 = true := (okL_c (o0_584 hB)).2.2
theorem o0_586 (hB : BytesOK) : okL 0 956 T0_586 = true := (okL_c (o0_585 hB)).2.2
theorem o0_587 (hB : BytesOK) : okL 0 957 T0_587 = true := (okL_c (o0_586 hB)).2.2
theorem o0_588 (hB : BytesOK) : okL 0 960 T0_588 = true := (okL_c (o0_587 hB)).2.2
theorem o0_589 (hB : BytesOK) : okL 0 961 T0_589 = true := (okL_c (o0_588 hB)).2.2
theorem o0_590 (hB : BytesOK) : okL 0 962 T0_590 = true := (okL_c (o0_589 hB)).2.2
theorem o0_591 (hB : BytesOK) : okL 0 963 T0_591 = true := (okL_c (o0_590 hB)).2.2
theorem o0_592 (hB : BytesOK) : okL 0 964 T0_592 = true := (okL_c (o0_591 hB)).2.2
theorem o0_593 (hB : BytesOK) : okL 0 965 T0_593 = true := (okL_c (o0_592 hB)).2.2
theorem o0_594 (hB : BytesOK) : okL 0 966 T0_594 = true := (okL_c (o0_593 hB)).2.2
theorem o0_595 (hB : BytesOK) : okL 0 967 T0_595 = true := (okL_c (o0_594 hB)).2.2
theorem o0_596 (hB : BytesOK) : okL 0 968 T0_596 = true := (okL_c (o0_595 hB)).2.2
theorem o0_597 (hB : BytesOK) : okL 0 969 T0_597 = true := (okL_c (o0_596 hB)).2.2
theorem o0_598 (hB : BytesOK) : okL 0 970 T0_598 = true := (okL_c (o0_597 hB)).2.2
theorem o0_599 (hB : BytesOK) : okL 0 971 T0_599 = true := (okL_c (o0_598 hB)).2.2
theorem o0_600 (hB : BytesOK) : okL 0 972 T0_600 = true := (okL_c (o0_599 hB)).2.2
theorem o0_601 (hB : BytesOK) : okL 0 973 T0_601 = true := (okL_c (o0_600 hB)).2.2
theorem o0_602 (hB : BytesOK) : okL 0 974 T0_602 = true := (okL_c (o0_601 hB)).2.2
theorem o0_603 (hB : BytesOK) : okL 0 975 T0_603 = true := (okL_c (o0_602 hB)).2.2
theorem o0_604 (hB : BytesOK) : okL 0 976 T0_604 = true := (okL_c (o0_603 hB)).2.2
theorem o0_605 (hB : BytesOK) : okL 0 977 T0_605 = true := (okL_c (o0_604 hB)).2.2
theorem o0_606 (hB : BytesOK) : okL 0 980 T0_606 = true := (okL_c (o0_605 hB)).2.2
theorem o0_607 (hB : BytesOK) : okL 0 981 T0_607 = true := (okL_c (o0_606 hB)).2.2
theorem o0_608 (hB : BytesOK) : okL 0 984 T0_608 = true := (okL_c (o0_607 hB)).2.2
theorem o0_609 (hB : BytesOK) : okL 0 985 T0_609 = true := (okL_c (o0_608 hB)).2.2
theorem o0_610 (hB : BytesOK) : okL 0 986 T0_610 = true := (okL_c (o0_609 hB)).2.2
theorem o0_611 (hB : BytesOK) : okL 0 987 T0_611 = true := (okL_c (o0_610 hB)).2.2
theorem o0_612 (hB : BytesOK) : okL 0 988 T0_612 = true := (okL_c (o0_611 hB)).2.2
theorem o0_613 (hB : BytesOK) : okL 0 989 T0_613 = true := (okL_c (o0_612 hB)).2.2
theorem o0_614 (hB : BytesOK) : okL 0 990 T0_614 = true := (okL_c (o0_613 hB)).2.2
theorem o0_615 (hB : BytesOK) : okL 0 991 T0_615 = true := (okL_c (o0_614 hB)).2.2
theorem o0_616 (hB : BytesOK) : okL 0 992 T0_616 = true := (okL_c (o0_615 hB)).2.2
theorem o0_617 (hB : BytesOK) : okL 0 993 T0_617 = true := (okL_c (o0_616 hB)).2.2
theorem o0_618 (hB : BytesOK) : okL 0 994 T0_618 = true := (okL_c (o0_617 hB)).2.2
theorem o0_619 (hB : BytesOK) : okL 0 995 T0_619 = true := (okL_c (o0_618 hB)).2.2
theorem o0_620 (hB : BytesOK) : okL 0 996 T0_620 = true := (okL_c (o0_619 hB)).2.2
theorem o0_621 (hB : BytesOK) : okL 0 997 T0_621 = true := (okL_c (o0_620 hB)).2.2
theorem o0_622 (hB : BytesOK) : okL 0 998 T0_622 = true := (okL_c (o0_621 hB)).2.2
theorem o0_623 (hB : BytesOK) : okL 0 999 T0_623 = true := (okL_c (o0_622 hB)).2.2
theorem o0_624 (hB : BytesOK) : okL 0 1000 T0_624 = true := (okL_c (o0_623 hB)).2.2
theorem o0_625 (hB : BytesOK) : okL 0 1003 T0_625 = true := (okL_c (o0_624 hB)).2.2
theorem o0_626 (hB : BytesOK) : okL 0 1004 T0_626 = true := (okL_c (o0_625 hB)).2.2
theorem o0_627 (hB : BytesOK) : okL 0 1005 T0_627 = true := (okL_c (o0_626 hB)).2.2
theorem o0_628 (hB : BytesOK) : okL 0 1006 T0_628 = true := (okL_c (o0_627 hB)).2.2
theorem o0_629 (hB : BytesOK) : okL 0 1007 T0_629 = true := (okL_c (o0_628 hB)).2.2
theorem o0_630 (hB : BytesOK) : okL 0 1008 T0_630 = true := (okL_c (o0_629 hB)).2.2
theorem o0_631 (hB : BytesOK) : okL 0 1009 T0_631 = true := (okL_c (o0_630 hB)).2.2
theorem o0_632 (hB : BytesOK) : okL 0 1010 T0_632 = true := (okL_c (o0_631 hB)).2.2
theorem o0_633 (hB : BytesOK) : okL 0 1011 T0_633 = true := (okL_c (o0_632 hB)).2.2
theorem o0_634 (hB : BytesOK) : okL 0 1012 T0_634 = true := (okL_c (o0_633 hB)).2.2
theorem o0_635 (hB : BytesOK) : okL 0 1013 T0_635 = true := (okL_c (o0_634 hB)).2.2
theorem o0_636 (hB : BytesOK) : okL 0 1014 T0_636 = true := (okL_c (o0_635 hB)).2.2
theorem o0_637 (hB : BytesOK) : okL 0 1015 T0_637 = true := (okL_c (o0_636 hB)).2.2
theorem o0_638 (hB : BytesOK) : okL 0 1016 T0_638 = true := (okL_c (o0_637 hB)).2.2
theorem o0_639 (hB : BytesOK) : okL 0 1017 T0_639 = true := (okL_c (o0_638 hB)).2.2
theorem o0_640 (hB : BytesOK) : okL 0 1018 T0_640 = true := (okL_c (o0_639 hB)).2.2
theorem o0_641 (hB : BytesOK) : okL 0 1019 T0_641 = true := (okL_c (o0_640 hB)).2.2
theorem o0_642 (hB : BytesOK) : okL 0 1020 T0_642 = true := (okL_c (o0_641 hB)).2.2
theorem o0_643 (hB : BytesOK) : okL 0 1023 T0_643 = true := (okL_c (o0_642 hB)).2.2
theorem o0_644 (hB : BytesOK) : okL 0 1024 T0_644 = true := (okL_c (o0_643 hB)).2.2
theorem o0_645 (hB : BytesOK) : okL 0 1027 T0_645 = true := (okL_c (o0_644 hB)).2.2
theorem o0_646 (hB : BytesOK) : okL 0 1028 T0_646 = true := (okL_c (o0_645 hB)).2.2
theorem o0_647 (hB : BytesOK) : okL 0 1029 T0_647 = true := (okL_c (o0_646 hB)).2.2
theorem o0_648 (hB : BytesOK) : okL 0 1030 T0_648 = true := (okL_c (o0_647 hB)).2.2
theorem o0_649 (hB : BytesOK) : okL 0 1031 T0_649 = true := (okL_c (o0_648 hB)).2.2
theorem o0_650 (hB : BytesOK) : okL 0 1032 T0_650 = true := (okL_c (o0_649 hB)).2.2
theorem o0_651 (hB : BytesOK) : okL 0 1033 T0_651 = true := (okL_c (o0_650 hB)).2.2
theorem o0_652 (hB : BytesOK) : okL 0 1034 T0_652 = true := (okL_c (o0_651 hB)).2.2
theorem o0_653 (hB : BytesOK) : okL 0 1035 T0_653 = true := (okL_c (o0_652 hB)).2.2
theorem o0_654 (hB : BytesOK) : okL 0 1036 T0_654 = true := (okL_c (o0_653 hB)).2.2
theorem o0_655 (hB : BytesOK) : okL 0 1037 T0_655 = true := (okL_c (o0_654 hB)).2.2
theorem o0_656 (hB : BytesOK) : okL 0 1038 T0_656 = true := (okL_c (o0_655 hB)).2.2
theorem o0_657 (hB : BytesOK) : okL 0 1041 T0_657 = true := (okL_c (o0_656 hB)).2.2
theorem o0_658 (hB : BytesOK) : okL 0 1042 T0_658 = true := (okL_c (o0_657 hB)).2.2
theorem o0_659 (hB : BytesOK) : okL 0 1043 T0_659 = true := (okL_c (o0_658 hB)).2.2
theorem o0_660 (hB : BytesOK) : okL 0 1044 T0_660 = true := (okL_c (o0_659 hB)).2.2
theorem o0_661 (hB : BytesOK) : okL 0 1045 T0_661 = true := (okL_c (o0_660 hB)).2.2
theorem o0_662 (hB : BytesOK) : okL 0 1046 T0_662 = true := (okL_c (o0_661 hB)).2.2
theorem o0_663 (hB : BytesOK) : okL 0 1047 T0_663 = true := (okL_c (o0_662 hB)).2.2
theorem o0_664 (hB : BytesOK) : okL 0 1048 T0_664 = true := (okL_c (o0_663 hB)).2.2
theorem o0_665 (hB : BytesOK) : okL 0 1049 T0_665 = true := (okL_c (o0_664 hB)).2.2
theorem o0_666 (hB : BytesOK) : okL 0 1050 T0_666 = true := (okL_c (o0_665 hB)).2.2
theorem o0_667 (hB : BytesOK) : okL 0 1051 T0_667 = true := (okL_c (o0_666 hB)).2.2
theorem o0_668 (hB : BytesOK) : okL 0 1052 T0_668 = true := (okL_c (o0_667 hB)).2.2
theorem o0_669 (hB : BytesOK) : okL 0 1053 T0_669 = true := (okL_c (o0_668 hB)).2.2
theorem o0_670 (hB : BytesOK) : okL 0 1056 T0_670 = true := (okL_c (o0_669 hB)).2.2
theorem o0_671 (hB : BytesOK) : okL 0 1057 T0_671 = true := (okL_c (o0_670 hB)).2.2
theorem o0_672 (hB : BytesOK) : okL 0 1060 T0_672 = true := (okL_c (o0_671 hB)).2.2
theorem o0_673 (hB : BytesOK) : okL 0 1061 T0_673 = true := (okL_c (o0_672 hB)).2.2
theorem o0_674 (hB : BytesOK) : okL 0 1062 T0_674 = true := (okL_c (o0_673 hB)).2.2
theorem o0_675 (hB : BytesOK) : okL 0 1063 T0_675 = true := (okL_c (o0_674 hB)).2.2
theorem o0_676 (hB : BytesOK) : okL 0 1064 T0_676 = true := (okL_c (o0_675 hB)).2.2
theorem o0_677 (hB : BytesOK) : okL 0 1065 T0_677 = true := (okL_c (o0_676 hB)).2.2
theorem o0_678 (hB : BytesOK) : okL 0 1066 T0_678 = true := (okL_c (o0_677 hB)).2.2
theorem o0_679 (hB : BytesOK) : okL 0 1067 T0_679 = true := (okL_c (o0_678 hB)).2.2
theorem o0_680 (hB : BytesOK) : okL 0 1068 T0_680 = true := (okL_c (o0_679 hB)).2.2
theorem o0_681 (hB : BytesOK) : okL 0 1069 T0_681 = true := (okL_c (o0_680 hB)).2.2
theorem o0_682 (hB : BytesOK) : okL 0 1070 T0_682 = true := (okL_c (o0_681 hB)).2.2
theorem o0_683 (hB : BytesOK) : okL 0 1071 T0_683 = true := (okL_c (o0_682 hB)).2.2
theorem o0_684 (hB : BytesOK) : okL 0 1072 T0_684 = true := (okL_c (o0_683 hB)).2.2
theorem o0_685 (hB : BytesOK) : okL 0 1073 T0_685 = true := (okL_c (o0_684 hB)).2.2
theorem o0_686 (hB : BytesOK) : okL 0 1074 T0_686 = true := (okL_c (o0_685 hB)).2.2
theorem o0_687 (hB : BytesOK) : okL 0 1075 T0_687 = true := (okL_c (o0_686 hB)).2.2
theorem o0_688 (hB : BytesOK) : okL 0 1076 T0_688 = true := (okL_c (o0_687 hB)).2.2
theorem o0_689 (hB : BytesOK) : okL 0 1079 T0_689 = true := (okL_c (o0_688 hB)).2.2
theorem o0_690 (hB : BytesOK) : okL 0 1080 T0_690 = true := (okL_c (o0_689 hB)).2.2
theorem o0_691 (hB : BytesOK) : okL 0 1081 T0_691 = true := (okL_c (o0_690 hB)).2.2
theorem o0_692 (hB : BytesOK) : okL 0 1082 T0_692 = true := (okL_c (o0_691 hB)).2.2
theorem o0_693 (hB : BytesOK) : okL 0 1083 T0_693 = true := (okL_c (o0_692 hB)).2.2
theorem o0_694 (hB : BytesOK) : okL 0 1084 T0_694 = true := (okL_c (o0_693 hB)).2.2
theorem o0_695 (hB : BytesOK) : okL 0 1085 T0_695 = true := (okL_c (o0_694 hB)).2.2
theorem o0_696 (hB : BytesOK) : okL 0 1086 T0_696 = true := (okL_c (o0_695 hB)).2.2
theorem o0_697 (hB : BytesOK) : okL 0 1087 T0_697 = true := (okL_c (o0_696 hB)).2.2
theorem o0_698 (hB : BytesOK) : okL 0 1088 T0_698 = true := (okL_c (o0_697 hB)).2.2
theorem o0_699 (hB : BytesOK) : okL 0 1089 T0_699 = true := (okL_c (o0_698 hB)).2.2
theorem o0_700 (hB : BytesOK) : okL 0 1090 T0_700 = true := (okL_c (o0_699 hB)).2.2
theorem o0_701 (hB : BytesOK) : okL 0 1091 T0_701 = true := (okL_c (o0_700 hB)).2.2
theorem o0_702 (hB : BytesOK) : okL 0 1092 T0_702 = true := (okL_c (o0_701 hB)).2.2
theorem o0_703 (hB : BytesOK) : okL 0 1093 T0_703 = true := (okL_c (o0_702 hB)).2.2
theorem o0_704 (hB : BytesOK) : okL 0 1094 T0_704 = true := (okL_c (o0_703 hB)).2.2
theorem o0_705 (hB : BytesOK) : okL 0 1095 T0_705 = true := (okL_c (o0_704 hB)).2.2
theorem o0_706 (hB : BytesOK) : okL 0 1096 T0_706 = true := (okL_c (o0_705 hB)).2.2
theorem o0_707 (hB : BytesOK) : okL 0 1099 T0_707 = true := (okL_c (o0_706 hB)).2.2
theorem o0_708 (hB : BytesOK) : okL 0 1100 T0_708 = true := (okL_c (o0_707 hB)).2.2
theorem o0_709 (hB : BytesOK) : okL 0 1103 T0_709 = true := (okL_c (o0_708 hB)).2.2
theorem o0_710 (hB : BytesOK) : okL 0 1104 T0_710 = true := (okL_c (o0_709 hB)).2.2
theorem o0_711 (hB : BytesOK) : okL 0 1105 T0_711 = true := (okL_c (o0_710 hB)).2.2
theorem o0_712 (hB : BytesOK) : okL 0 1106 T0_712 = true := (okL_c (o0_711 hB)).2.2
theorem o0_713 (hB : BytesOK) : okL 0 1107 T0_713 = true := (okL_c (o0_712 hB)).2.2
theorem o0_714 (hB : BytesOK) : okL 0 1108 T0_714 = true := (okL_c (o0_713 hB)).2.2
theorem o0_715 (hB : BytesOK) : okL 0 1109 T0_715 = true := (okL_c (o0_714 hB)).2.2
theorem o0_716 (hB : BytesOK) : okL 0 1110 T0_716 = true := (okL_c (o0_715 hB)).2.2
theorem o0_717 (hB : BytesOK) : okL 0 1111 T0_717 = true := (okL_c (o0_716 hB)).2.2
theorem o0_718 (hB : BytesOK) : okL 0 1112 T0_718 = true := (okL_c (o0_717 hB)).2.2
theorem o0_719 (hB : BytesOK) : okL 0 1113 T0_719 = true := (okL_c (o0_718 hB)).2.2
theorem o0_720 (hB : BytesOK) : okL 0 1114 T0_720 = true := (okL_c (o0_719 hB)).2.2
theorem o0_721 (hB : BytesOK) : okL 0 1117 T0_721 = true := (okL_c (o0_720 hB)).2.2
theorem o0_722 (hB : BytesOK) : okL 0 1118 T0_722 = true := (okL_c (o0_721 hB)).2.2
theorem o0_723 (hB : BytesOK) : okL 0 1119 T0_723 = true := (okL_c (o0_722 hB)).2.2
theorem o0_724 (hB : BytesOK) : okL 0 1120 T0_724 = true := (okL_c (o0_723 hB)).2.2
theorem o0_725 (hB : BytesOK) : okL 0 1121 T0_725 = true := (okL_c (o0_724 hB)).2.2
theorem o0_726 (hB : BytesOK) : okL 0 1122 T0_726 = true := (okL_c (o0_725 hB)).2.2
theorem o0_727 (hB : BytesOK) : okL 0 1123 T0_727 = true := (okL_c (o0_726 hB)).2.2
theorem o0_728 (hB : BytesOK) : okL 0 1124 T0_728 = true := (okL_c (o0_727 hB)).2.2
theorem o0_729 (hB : BytesOK) : okL 0 1125 T0_729 = true := (okL_c (o0_728 hB)).2.2
theorem o0_730 (hB : BytesOK) : okL 0 1126 T0_730 = true := (okL_c (o0_729 hB)).2.2
theorem o0_731 (hB : BytesOK) : okL 0 1127 T0_731 = true := (okL_c (o0_730 hB)).2.2
theorem o0_732 (hB : BytesOK) : okL 0 1128 T0_732 = true := (okL_c (o0_731 hB)).2.2
theorem o0_733 (hB : BytesOK) : okL 0 1129 T0_733 = true := (okL_c (o0_732 hB)).2.2
theorem o0_734 (hB : BytesOK) : okL 0 1132 T0_734 = true := (okL_c (o0_733 hB)).2.2
theorem o0_735 (hB : BytesOK) : okL 0 1133 T0_735 = true := (okL_c (o0_734 hB)).2.2
theorem o0_736 (hB : BytesOK) : okL 0 1136 T0_736 = true := (okL_c (o0_735 hB)).2.2
theorem o0_737 (hB : BytesOK) : okL 0 1137 T0_737 = true := (okL_c (o0_736 hB)).2.2
theorem o0_738 (hB : BytesOK) : okL 0 1138 T0_738 = true := (okL_c (o0_737 hB)).2.2
theorem o0_739 (hB : BytesOK) : okL 0 1139 T0_739 = true := (okL_c (o0_738 hB)).2.2
theorem o0_740 (hB : BytesOK) : okL 0 1140 T0_740 = true := (okL_c (o0_739 hB)).2.2
theorem o0_741 (hB : BytesOK) : okL 0 1141 T0_741 = true := (okL_c (o0_740 hB)).2.2
theorem o0_742 (hB : BytesOK) : okL 0 1142 T0_742 = true := (okL_c (o0_741 hB)).2.2
theorem o0_743 (hB : BytesOK) : okL 0 1143 T0_743 = true := (okL_c (o0_742 hB)).2.2
theorem o0_744 (hB : BytesOK) : okL 0 1144 T0_744 = true := (okL_c (o0_743 hB)).2.2
theorem o0_745 (hB : BytesOK) : okL 0 1145 T0_745 = true := (okL_c (o0_744 hB)).2.2
theorem o0_746 (hB : BytesOK) : okL 0 1146 T0_746 = true := (okL_c (o0_745 hB)).2.2
theorem o0_747 (hB : BytesOK) : okL 0 1147 T0_747 = true := (okL_c (o0_746 hB)).2.2
theorem o0_748 (hB : BytesOK) : okL 0 1150 T0_748 = true := (okL_c (o0_747 hB)).2.2
theorem o0_749 (hB : BytesOK) : okL 0 1151 T0_749 = true := (okL_c (o0_748 hB)).2.2
theorem o0_750 (hB : BytesOK) : okL 0 1152 T0_750 = true := (okL_c (o0_749 hB)).2.2
theorem o0_751 (hB : BytesOK) : okL 0 1153 T0_751 = true := (okL_c (o0_750 hB)).2.2
theorem o0_752 (hB : BytesOK) : okL 0 1154 T0_752 = true := (okL_c (o0_751 hB)).2.2
theorem o0_753 (hB : BytesOK) : okL 0 1155 T0_753 = true := (okL_c (o0_752 hB)).2.2
theorem o0_754 (hB : BytesOK) : okL 0 1156 T0_754 = true := (okL_c (o0_753 hB)).2.2
theorem o0_755 (hB : BytesOK) : okL 0 1157 T0_755 = true := (okL_c (o0_754 hB)).2.2
theorem o0_756 (hB : BytesOK) : okL 0 1158 T0_756 = true := (okL_c (o0_755 hB)).2.2
theorem o0_757 (hB : BytesOK) : okL 0 1159 T0_757 = true := (okL_c (o0_756 hB)).2.2
theorem o0_758 (hB : BytesOK) : okL 0 1160 T0_758 = true := (okL_c (o0_757 hB)).2.2
theorem o0_759 (hB : BytesOK) : okL 0 1161 T0_759 = true := (okL_c (o0_758 hB)).2.2
theorem o0_760 (hB : BytesOK) : okL 0 1162 T0_760 = true := (okL_c (o0_759 hB)).2.2
theorem o0_761 (hB : BytesOK) : okL 0 1165 T0_761 = true := (okL_c (o0_760 hB)).2.2
theorem o0_762 (hB : BytesOK) : okL 0 1166 T0_762 = true := (okL_c (o0_761 hB)).2.2
theorem o0_763 (hB : BytesOK) : okL 0 1169 T0_763 = true := (okL_c (o0_762 hB)).2.2
theorem o0_764 (hB : BytesOK) : okL 0 1170 T0_764 = true := (okL_c (o0_763 hB)).2.2
theorem o0_765 (hB : BytesOK) : okL 0 1171 T0_765 = true := (okL_c (o0_764 hB)).2.2
theorem o0_766 (hB : BytesOK) : okL 0 1172 T0_766 = true := (okL_c (o0_765 hB)).2.2
theorem o0_767 (hB : BytesOK) : okL 0 1173 T0_767 = true := (okL_c (o0_766 hB)).2.2
theorem o0_768 (hB : BytesOK) : okL 0 1174 T0_768 = true := (okL_c (o0_767 hB)).2.2
theorem o0_769 (hB : BytesOK) : okL 0 1175 T0_769 = true := (okL_c (o0_768 hB)).2.2
theorem o0_770 (hB : BytesOK) : okL 0 1176 T0_770 = true := (okL_c (o0_769 hB)).2.2
theorem o0_771 (hB : BytesOK) : okL 0 1177 T0_771 = true := (okL_c (o0_770 hB)).2.2
theorem o0_772 (hB : BytesOK) : okL 0 1178 T0_772 = true := (okL_c (o0_771 hB)).2.2
theorem o0_773 (hB : BytesOK) : okL 0 1179 T0_773 = true := (okL_c (o0_772 hB)).2.2
theorem o0_774 (hB : BytesOK) : okL 0 1180 T0_774 = true := (okL_c (o0_773 hB)).2.2
theorem o0_775 (hB : BytesOK) : okL 0 1181 T0_775 = true := (okL_c (o0_774 hB)).2.2
theorem o0_776 (hB : BytesOK) : okL 0 1182 T0_776 = true := (okL_c (o0_775 hB)).2.2
theorem o0_777 (hB : BytesOK) : okL 0 1183 T0_777 = true := (okL_c (o0_776 hB)).2.2
theorem o0_778 (hB : BytesOK) : okL 0 1184 T0_778 = true := (okL_c (o0_777 hB)).2.2
theorem o0_779 (hB : BytesOK) : okL 0 1185 T0_779 = true := (okL_c (o0_778 hB)).2.2
theorem o0_780 (hB : BytesOK) : okL 0 1188 T0_780 = true := (okL_c (o0_779 hB)).2.2
theorem o0_781 (hB : BytesOK) : okL 0 1189 T0_781 = true := (okL_c (o0_780 hB)).2.2
theorem o0_782 (hB : BytesOK) : okL 0 1190 T0_782 = true := (okL_c (o0_781 hB)).2.2
theorem o0_783 (hB : BytesOK) : okL 0 1191 T0_783 = true := (okL_c (o0_782 hB)).2.2
theorem o0_784 (hB : BytesOK) : okL 0 1192 T0_784 = true := (okL_c (o0_783 hB)).2.2
theorem o0_785 (hB : BytesOK) : okL 0 1193 T0_785 = true := (okL_c (o0_784 hB)).2.2
theorem o0_786 (hB : BytesOK) : okL 0 1194 T0_786 = true := (okL_c (o0_785 hB)).2.2
theorem o0_787 (hB : BytesOK) : okL 0 1195 T0_787 = true := (okL_c (o0_786 hB)).2.2
theorem o0_788 (hB : BytesOK) : okL 0 1196 T0_788 = true := (okL_c (o0_787 hB)).2.2
theorem o0_789 (hB : BytesOK) : okL 0 1197 T0_789 = true := (okL_c (o0_788 hB)).2.2
theorem o0_790 (hB : BytesOK) : okL 0 1198 T0_790 = true := (okL_c (o0_789 hB)).2.2
theorem o0_791 (hB : BytesOK) : okL 0 1199 T0_791 = true := (okL_c (o0_790 hB)).2.2
theorem o0_792 (hB : BytesOK) : okL 0 1200 T0_792 = true := (okL_c (o0_791 hB)).2.2
theorem o0_793 (hB : BytesOK) : okL 0 1201 T0_793 = true := (okL_c (o0_792 hB)).2.2
theorem o0_794 (hB : BytesOK) : okL 0 1202 T0_794 = true := (okL_c (o0_793 hB)).2.2
theorem o0_795 (hB : BytesOK) : okL 0 1203 T0_795 = true := (okL_c (o0_794 hB)).2.2
theorem o0_796 (hB : BytesOK) : okL 0 1204 T0_796 = true := (okL_c (o0_795 hB)).2.2
theorem o0_797 (hB : BytesOK) : okL 0 1205 T0_797 = true := (okL_c (o0_796 hB)).2.2
theorem o0_798 (hB : BytesOK) : okL 0 1208 T0_798 = true := (okL_c (o0_797 hB)).2.2
theorem o0_799 (hB : BytesOK) : okL 0 1209 T0_799 = true := (okL_c (o0_798 hB)).2.2
theorem o0_800 (hB : BytesOK) : okL 0 1212 T0_800 = true := (okL_c (o0_799 hB)).2.2
theorem o0_801 (hB : BytesOK) : okL 0 1213 T0_801 = true := (okL_c (o0_800 hB)).2.2
theorem o0_802 (hB : BytesOK) : okL 0 1214 T0_802 = true := (okL_c (o0_801 hB)).2.2
theorem o0_803 (hB : BytesOK) : okL 0 1215 T0_803 = true := (okL_c (o0_802 hB)).2.2
theorem o0_804 (hB : BytesOK) : okL 0 1216 T0_804 = true := (okL_c (o0_803 hB)).2.2
theorem o0_805 (hB : BytesOK) : okL 0 1217 T0_805 = true := (okL_c (o0_804 hB)).2.2
theorem o0_806 (hB : BytesOK) : okL 0 1218 T0_806 = true := (okL_c (o0_805 hB)).2.2
theorem o0_807 (hB : BytesOK) : okL 0 1221 T0_807 = true := (okL_c (o0_806 hB)).2.2
theorem o0_808 (hB : BytesOK) : okL 0 1222 T0_808 = true := (okL_c (o0_807 hB)).2.2
theorem o0_809 (hB : BytesOK) : okL 0 1223 T0_809 = true := (okL_c (o0_808 hB)).2.2
theorem o0_810 (hB : BytesOK) : okL 0 1224 T0_810 = true := (okL_c (o0_809 hB)).2.2
theorem o0_811 (hB : BytesOK) : okL 0 1225 T0_811 = true := (okL_c (o0_810 hB)).2.2
theorem o0_812 (hB : BytesOK) : okL 0 1226 T0_812 = true := (okL_c (o0_811 hB)).2.2
theorem o0_813 (hB : BytesOK) : okL 0 1227 T0_813 = true := (okL_c (o0_812 hB)).2.2
theorem o0_814 (hB : BytesOK) : okL 0 1228 T0_814 = true := (okL_c (o0_813 hB)).2.2
theorem o0_815 (hB : BytesOK) : okL 0 1231 T0_815 = true := (okL_c (o0_814 hB)).2.2
theorem o0_816 (hB : BytesOK) : okL 0 1232 T0_816 = true := (okL_c (o0_815 hB)).2.2
theorem o0_817 (hB : BytesOK) : okL 0 1235 T0_817 = true := (okL_c (o0_816 hB)).2.2
theorem o0_818 (hB : BytesOK) : okL 0 1236 T0_818 = true := (okL_c (o0_817 hB)).2.2
theorem o0_819 (hB : BytesOK) : okL 0 1237 T0_819 = true := (okL_c (o0_818 hB)).2.2
theorem o0_820 (hB : BytesOK) : okL 0 1238 T0_820 = true := (okL_c (o0_819 hB)).2.2
theorem o0_821 (hB : BytesOK) : okL 0 1239 T0_821 = true := (okL_c (o0_820 hB)).2.2
theorem o0_822 (hB : BytesOK) : okL 0 1240 T0_822 = true := (okL_c (o0_821 hB)).2.2
theorem o0_823 (hB : BytesOK) : okL 0 1241 T0_823 = true := (okL_c (o0_822 hB)).2.2
theorem o0_824 (hB : BytesOK) : okL 0 1242 T0_824 = true := (okL_c (o0_823 hB)).2.2
theorem o0_825 (hB : BytesOK) : okL 0 1243 T0_825 = true := (okL_c (o0_824 hB)).2.2
theorem o0_826 (hB : BytesOK) : okL 0 1244 T0_826 = true := (okL_c (o0_825 hB)).2.2
theorem o0_827 (hB : BytesOK) : okL 0 1245 T0_827 = true := (okL_c (o0_826 hB)).2.2
theorem o0_828 (hB : BytesOK) : okL 0 1246 T0_828 = true := (okL_c (o0_827 hB)).2.2
theorem o0_829 (hB : BytesOK) : okL 0 1249 T0_829 = true := (okL_c (o0_828 hB)).2.2
theorem o0_830 (hB : BytesOK) : okL 0 1250 T0_830 = true := (okL_c (o0_829 hB)).2.2
theorem o0_831 (hB : BytesOK) : okL 0 1251 T0_831 = true := (okL_c (o0_830 hB)).2.2
theorem o0_832 (hB : BytesOK) : okL 0 1252 T0_832 = true := (okL_c (o0_831 hB)).2.2
theorem o0_833 (hB : BytesOK) : okL 0 1253 T0_833 = true := (okL_c (o0_832 hB)).2.2
theorem o0_834 (hB : BytesOK) : okL 0 1254 T0_834 = true := (okL_c (o0_833 hB)).2.2
theorem o0_835 (hB : BytesOK) : okL 0 1255 T0_835 = true := (okL_c (o0_834 hB)).2.2
theorem o0_836 (hB : BytesOK) : okL 0 1256 T0_836 = true := (okL_c (o0_835 hB)).2.2
theorem o0_837 (hB : BytesOK) : okL 0 1257 T0_837 = true := (okL_c (o0_836 hB)).2.2
theorem o0_838 (hB : BytesOK) : okL 0 1258 T0_838 = true := (okL_c (o0_837 hB)).2.2
theorem o0_839 (hB : BytesOK) : okL 0 1259 T0_839 = true := (okL_c (o0_838 hB)).2.2
theorem o0_840 (hB : BytesOK) : okL 0 1260 T0_840 = true := (okL_c (o0_839 hB)).2.2
theorem o0_841 (hB : BytesOK) : okL 0 1261 T0_841 = true := (okL_c (o0_840 hB)).2.2
theorem o0_842 (hB : BytesOK) : okL 0 1264 T0_842 = true := (okL_c (o0_841 hB)).2.2
theorem o0_843 (hB : BytesOK) : okL 0 1265 T0_843 = true := (okL_c (o0_842 hB)).2.2
theorem o0_844 (hB : BytesOK) : okL 0 1268 T0_844 = true := (okL_c (o0_843 hB)).2.2
theorem o0_845 (hB : BytesOK) : okL 0 1269 T0_845 = true := (okL_c (o0_844 hB)).2.2
theorem o0_846 (hB : BytesOK) : okL 0 1270 T0_846 = true := (okL_c (o0_845 hB)).2.2
theorem o0_847 (hB : BytesOK) : okL 0 1271 T0_847 = true := (okL_c (o0_846 hB)).2.2
theorem o0_848 (hB : BytesOK) : okL 0 1272 T0_848 = true := (okL_c (o0_847 hB)).2.2
theorem o0_849 (hB : BytesOK) : okL 0 1273 T0_849 = true := (okL_c (o0_848 hB)).2.2
theorem o0_850 (hB : BytesOK) : okL 0 1274 T0_850 = true := (okL_c (o0_849 hB)).2.2
theorem o0_851 (hB : BytesOK) : okL 0 1275 T0_851 = true := (okL_c (o0_850 hB)).2.2
theorem o0_852 (hB : BytesOK) : okL 0 1276 T0_852 = true := (okL_c (o0_851 hB)).2.2
theorem o0_853 (hB : BytesOK) : okL 0 1277 T0_853 = true := (okL_c (o0_852 hB)).2.2
theorem o0_854 (hB : BytesOK) : okL 0 1278 T0_854 = true := (okL_c (o0_853 hB)).2.2
theorem o0_855 (hB : BytesOK) : okL 0 1279 T0_855 = true := (okL_c (o0_854 hB)).2.2
theorem o0_856 (hB : BytesOK) : okL 0 1280 T0_856 = true := (okL_c (o0_855 hB)).2.2
theorem o0_857 (hB : BytesOK) : okL 0 1281 T0_857 = true := (okL_c (o0_856 hB)).2.2
theorem o0_858 (hB : BytesOK) : okL 0 1282 T0_858 = true := (okL_c (o0_857 hB)).2.2
theorem o0_859 (hB : BytesOK) : okL 0 1283 T0_859 = true := (okL_c (o0_858 hB)).2.2
theorem o0_860 (hB : BytesOK) : okL 0 1284 T0_860 = true := (okL_c (o0_859 hB)).2.2
theorem o0_861 (hB : BytesOK) : okL 0 1287 T0_861 = true := (okL_c (o0_860 hB)).2.2
theorem o0_862 (hB : BytesOK) : okL 0 1288 T0_862 = true := (okL_c (o0_861 hB)).2.2
theorem o0_863 (hB : BytesOK) : okL 0 1289 T0_863 = true := (okL_c (o0_862 hB)).2.2
theorem o0_864 (hB : BytesOK) : okL 0 1290 T0_864 = true := (okL_c (o0_863 hB)).2.2
theorem o0_865 (hB : BytesOK) : okL 0 1291 T0_865 = true := (okL_c (o0_864 hB)).2.2
theorem o0_866 (hB : BytesOK) : okL 0 1292 T0_866 = true := (okL_c (o0_865 hB)).2.2
theorem o0_867 (hB : BytesOK) : okL 0 1293 T0_867 = true := (okL_c (o0_866 hB)).2.2
theorem o0_868 (hB : BytesOK) : okL 0 1294 T0_868 = true := (okL_c (o0_867 hB)).2.2
theorem o0_869 (hB : BytesOK) : okL 0 1295 T0_869 = true := (okL_c (o0_868 hB)).2.2
theorem o0_870 (hB : BytesOK) : okL 0 1296 T0_870 = true := (okL_c (o0_869 hB)).2.2
theorem o0_871 (hB : BytesOK) : okL 0 1297 T0_871 = true := (okL_c (o0_870 hB)).2.2
theorem o0_872 (hB : BytesOK) : okL 0 1298 T0_872 = true := (okL_c (o0_871 hB)).2.2
theorem o0_873 (hB : BytesOK) : okL 0 1299 T0_873 = true := (okL_c (o0_872 hB)).2.2
theorem o0_874 (hB : BytesOK) : okL 0 1300 T0_874 = true := (okL_c (o0_873 hB)).2.2
theorem o0_875 (hB : BytesOK) : okL 0 1301 T0_875 = true := (okL_c (o0_874 hB)).2.2
theorem o0_876 (hB : BytesOK) : okL 0 1302 T0_876 = true := (okL_c (o0_875 hB)).2.2
theorem o0_877 (hB : BytesOK) : okL 0 1303 T0_877 = true := (okL_c (o0_876 hB)).2.2
theorem o0_878 (hB : BytesOK) : okL 0 1304 T0_878 = true := (okL_c (o0_877 hB)).2.2
theorem o0_879 (hB : BytesOK) : okL 0 1307 T0_879 = true := (okL_c (o0_878 hB)).2.2
theorem o0_880 (hB : BytesOK) : okL 0 1308 T0_880 = true := (okL_c (o0_879 hB)).2.2
theorem o0_881 (hB : BytesOK) : okL 0 1311 T0_881 = true := (okL_c (o0_880 hB)).2.2
theorem o0_882 (hB : BytesOK) : okL 0 1312 T0_882 = true := (okL_c (o0_881 hB)).2.2
theorem o0_883 (hB : BytesOK) : okL 0 1313 T0_883 = true := (okL_c (o0_882 hB)).2.2
theorem o0_884 (hB : BytesOK) : okL 0 1314 T0_884 = true := (okL_c (o0_883 hB)).2.2
theorem o0_885 (hB : BytesOK) : okL 0 1315 T0_885 = true := (okL_c (o0_884 hB)).2.2
theorem o0_886 (hB : BytesOK) : okL 0 1316 T0_886 = true := (okL_c (o0_885 hB)).2.2
theorem o0_887 (hB : BytesOK) : okL 0 1317 T0_887 = true := (okL_c (o0_886 hB)).2.2
theorem o0_888 (hB : BytesOK) : okL 0 1320 T0_888 = true := (okL_c (o0_887 hB)).2.2
theorem o0_889 (hB : BytesOK) : okL 0 1321 T0_889 = true := (okL_c (o0_888 hB)).2.2
theorem o0_890 (hB : BytesOK) : okL 0 1322 T0_890 = true := (okL_c (o0_889 hB)).2.2
theorem o0_891 (hB : BytesOK) : okL 0 1323 T0_891 = true := (okL_c (o0_890 hB)).2.2
theorem o0_892 (hB : BytesOK) : okL 0 1324 T0_892 = true := (okL_c (o0_891 hB)).2.2
theorem o0_893 (hB : BytesOK) : okL 0 1325 T0_893 = true := (okL_c (o0_892 hB)).2.2
theorem o0_894 (hB : BytesOK) : okL 0 1326 T0_894 = true := (okL_c (o0_893 hB)).2.2
theorem o0_895 (hB : BytesOK) : okL 0 1327 T0_895 = true := (okL_c (o0_894 hB)).2.2
theorem o0_896 (hB : BytesOK) : okL 0 1330 T0_896 = true := (okL_c (o0_895 hB)).2.2
theorem o0_897 (hB : BytesOK) : okL 0 1331 T0_897 = true := (okL_c (o0_896 hB)).2.2
theorem o0_898 (hB : BytesOK) : okL 0 1334 T0_898 = true := (okL_c (o0_897 hB)).2.2
theorem o0_899 (hB : BytesOK) : okL 0 1335 T0_899 = true := (okL_c (o0_898 hB)).2.2
theorem o0_900 (hB : BytesOK) : okL 0 1336 T0_900 = true := (okL_c (o0_899 hB)).2.2
theorem o0_901 (hB : BytesOK) : okL 0 1337 T0_901 = true := (okL_c (o0_900 hB)).2.2
theorem o0_902 (hB : BytesOK) : okL 0 1338 T0_902 = true := (okL_c (o0_901 hB)).2.2
theorem o0_903 (hB : BytesOK) : okL 0 1339 T0_903 = true := (okL_c (o0_902 hB)).2.2
theorem o0_904 (hB : BytesOK) : okL 0 1340 T0_904 = true := (okL_c (o0_903 hB)).2.2
theorem o0_905 (hB : BytesOK) : okL 0 1341 T0_905 = true := (okL_c (o0_904 hB)).2.2
theorem o0_906 (hB : BytesOK) : okL 0 1342 T0_906 = true := (okL_c (o0_905 hB)).2.2
theorem o0_907 (hB : BytesOK) : okL 0 1343 T0_907 = true := (okL_c (o0_906 hB)).2.2
theorem o0_908 (hB : BytesOK) : okL 0 1344 T0_908 = true := (okL_c (o0_907 hB)).2.2
theorem o0_909 (hB : BytesOK) : okL 0 1345 T0_909 = true := (okL_c (o0_908 hB)).2.2
theorem o0_910 (hB : BytesOK) : okL 0 1348 T0_910 = true := (okL_c (o0_909 hB)).2.2
theorem o0_911 (hB : BytesOK) : okL 0 1349 T0_911 = true := (okL_c (o0_910 hB)).2.2
theorem o0_912 (hB : BytesOK) : okL 0 1350 T0_912 = true := (okL_c (o0_911 hB)).2.2
theorem o0_913 (hB : BytesOK) : okL 0 1351 T0_913 = true := (okL_c (o0_912 hB)).2.2
theorem o0_914 (hB : BytesOK) : okL 0 1352 T0_914 = true := (okL_c (o0_913 hB)).2.2
theorem o0_915 (hB : BytesOK) : okL 0 1353 T0_915 = true := (okL_c (o0_914 hB)).2.2
theorem o0_916 (hB : BytesOK) : okL 0 1354 T0_916 = true := (okL_c (o0_915 hB)).2.2
theorem o0_917 (hB : BytesOK) : okL 0 1355 T0_917 = true := (okL_c (o0_916 hB)).2.2
theorem o0_918 (hB : BytesOK) : okL 0 1356 T0_918 = true := (okL_c (o0_917 hB)).2.2
theorem o0_919 (hB : BytesOK) : okL 0 1357 T0_919 = true := (okL_c (o0_918 hB)).2.2
theorem o0_920 (hB : BytesOK) : okL 0 1358 T0_920 = true := (okL_c (o0_919 hB)).2.2
theorem o0_921 (hB : BytesOK) : okL 0 1359 T0_921 = true := (okL_c (o0_920 hB)).2.2
theorem o0_922 (hB : BytesOK) : okL 0 1360 T0_922 = true := (okL_c (o0_921 hB)).2.2
theorem o0_923 (hB : BytesOK) : okL 0 1363 T0_923 = true := (okL_c (o0_922 hB)).2.2
theorem o0_924 (hB : BytesOK) : okL 0 1364 T0_924 = true := (okL_c (o0_923 hB)).2.2
theorem o0_925 (hB : BytesOK) : okL 0 1367 T0_925 = true := (okL_c (o0_924 hB)).2.2
theorem o0_926 (hB : BytesOK) : okL 0 1368 T0_926 = true := (okL_c (o0_925 hB)).2.2
theorem o0_927 (hB : BytesOK) : okL 0 1369 T0_927 = true := (okL_c (o0_926 hB)).2.2
theorem o0_928 (hB : BytesOK) : okL 0 1370 T0_928 = true := (okL_c (o0_927 hB)).2.2
theorem o0_929 (hB : BytesOK) : okL 0 1371 T0_929 = true := (okL_c (o0_928 hB)).2.2
theorem o0_930 (hB : BytesOK) : okL 0 1372 T0_930 = true := (okL_c (o0_929 hB)).2.2
theorem o0_931 (hB : BytesOK) : okL 0 1373 T0_931 = true := (okL_c (o0_930 hB)).2.2
theorem o0_932 (hB : BytesOK) : okL 0 1374 T0_932 = true := (okL_c (o0_931 hB)).2.2
theorem o0_933 (hB : BytesOK) : okL 0 1375 T0_933 = true := (okL_c (o0_932 hB)).2.2
theorem o0_934 (hB : BytesOK) : okL 0 1376 T0_934 = true := (okL_c (o0_933 hB)).2.2
theorem o0_935 (hB : BytesOK) : okL 0 1377 T0_935 = true := (okL_c (o0_934 hB)).2.2
theorem o0_936 (hB : BytesOK) : okL 0 1378 T0_936 = true := (okL_c (o0_935 hB)).2.2
theorem o0_937 (hB : BytesOK) : okL 0 1381 T0_937 = true := (okL_c (o0_936 hB)).2.2
theorem o0_938 (hB : BytesOK) : okL 0 1382 T0_938 = true := (okL_c (o0_937 hB)).2.2
theorem o0_939 (hB : BytesOK) : okL 0 1383 T0_939 = true := (okL_c (o0_938 hB)).2.2
theorem o0_940 (hB : BytesOK) : okL 0 1384 T0_940 = true := (okL_c (o0_939 hB)).2.2
theorem o0_941 (hB : BytesOK) : okL 0 1385 T0_941 = true := (okL_c (o0_940 hB)).2.2
theorem o0_942 (hB : BytesOK) : okL 0 1386 T0_942 = true := (okL_c (o0_941 hB)).2.2
theorem o0_943 (hB : BytesOK) : okL 0 1387 T0_943 = true := (okL_c (o0_942 hB)).2.2
theorem o0_944 (hB : BytesOK) : okL 0 1388 T0_944 = true := (okL_c (o0_943 hB)).2.2
theorem o0_945 (hB : BytesOK) : okL 0 1389 T0_945 = true := (okL_c (o0_944 hB)).2.2
theorem o0_946 (hB : BytesOK) : okL 0 1390 T0_946 = true := (okL_c (o0_945 hB)).2.2
theorem o0_947 (hB : BytesOK) : okL 0 1391 T0_947 = true := (okL_c (o0_946 hB)).2.2
theorem o0_948 (hB : BytesOK) : okL 0 1392 T0_948 = true := (okL_c (o0_947 hB)).2.2
theorem o0_949 (hB : BytesOK) : okL 0 1393 T0_949 = true := (okL_c (o0_948 hB)).2.2
theorem o0_950 (hB : BytesOK) : okL 0 1396 T0_950 = true := (okL_c (o0_949 hB)).2.2
theorem o0_951 (hB : BytesOK) : okL 0 1397 T0_951 = true := (okL_c (o0_950 hB)).2.2
theorem o0_952 (hB : BytesOK) : okL 0 1400 T0_952 = true := (okL_c (o0_951 hB)).2.2
theorem o0_953 (hB : BytesOK) : okL 0 1401 T0_953 = true := (okL_c (o0_952 hB)).2.2
theorem o0_954 (hB : BytesOK) : okL 0 1402 T0_954 = true := (okL_c (o0_953 hB)).2.2
theorem o0_955 (hB : BytesOK) : okL 0 1403 T0_955 = true := (okL_c (o0_954 hB)).2.2
theorem o0_956 (hB : BytesOK) : okL 0 1404 T0_956 = true := (okL_c (o0_955 hB)).2.2
theorem o0_957 (hB : BytesOK) : okL 0 1405 T0_957 = true := (okL_c (o0_956 hB)).2.2
theorem o0_958 (hB : BytesOK) : okL 0 1406 T0_958 = true := (okL_c (o0_957 hB)).2.2
theorem o0_959 (hB : BytesOK) : okL 0 1407 T0_959 = true := (okL_c (o0_958 hB)).2.2
theorem o0_960 (hB : BytesOK) : okL 0 1408 T0_960 = true := (okL_c (o0_959 hB)).2.2
theorem o0_961 (hB : BytesOK) : okL 0 1409 T0_961 = true := (okL_c (o0_960 hB)).2.2
theorem o0_962 (hB : BytesOK) : okL 0 1410 T0_962 = true := (okL_c (o0_961 hB)).2.2
theorem o0_963 (hB : BytesOK) : okL 0 1411 T0_963 = true := (okL_c (o0_962 hB)).2.2
theorem o0_964 (hB : BytesOK) : okL 0 1414 T0_964 = true := (okL_c (o0_963 hB)).2.2
theorem o0_965 (hB : BytesOK) : okL 0 1415 T0_965 = true := (okL_c (o0_964 hB)).2.2
theorem o0_966 (hB : BytesOK) : okL 0 1416 T0_966 = true := (okL_c (o0_965 hB)).2.2
theorem o0_967 (hB : BytesOK) : okL 0 1417 T0_967 = true := (okL_c (o0_966 hB)).2.2
theorem o0_968 (hB : BytesOK) : okL 0 1418 T0_968 = true := (okL_c (o0_967 hB)).2.2
theorem o0_969 (hB : BytesOK) : okL 0 1419 T0_969 = true := (okL_c (o0_968 hB)).2.2
theorem o0_970 (hB : BytesOK) : okL 0 1420 T0_970 = true := (okL_c (o0_969 hB)).2.2
theorem o0_971 (hB : BytesOK) : okL 0 1421 T0_971 = true := (okL_c (o0_970 hB)).2.2
theorem o0_972 (hB : BytesOK) : okL 0 1422 T0_972 = true := (okL_c (o0_971 hB)).2.2
theorem o0_973 (hB : BytesOK) : okL 0 1423 T0_973 = true := (okL_c (o0_972 hB)).2.2
theorem o0_974 (hB : BytesOK) : okL 0 1424 T0_974 = true := (okL_c (o0_973 hB)).2.2
theorem o0_975 (hB : BytesOK) : okL 0 1425 T0_975 = true := (okL_c (o0_974 hB)).2.2
theorem o0_976 (hB : BytesOK) : okL 0 1426 T0_976 = true := (okL_c (o0_975 hB)).2.2
theorem o0_977 (hB : BytesOK) : okL 0 1429 T0_977 = true := (okL_c (o0_976 hB)).2.2
theorem o0_978 (hB : BytesOK) : okL 0 1430 T0_978 = true := (okL_c (o0_977 hB)).2.2
theorem o0_979 (hB : BytesOK) : okL 0 1433 T0_979 = true := (okL_c (o0_978 hB)).2.2
theorem o0_980 (hB : BytesOK) : okL 0 1434 T0_980 = true := (okL_c (o0_979 hB)).2.2
theorem o0_981 (hB : BytesOK) : okL 0 1435 T0_981 = true := (okL_c (o0_980 hB)).2.2
theorem o0_982 (hB : BytesOK) : okL 0 1436 T0_982 = true := (okL_c (o0_981 hB)).2.2
theorem o0_983 (hB : BytesOK) : okL 0 1437 T0_983 = true := (okL_c (o0_982 hB)).2.2
theorem o0_984 (hB : BytesOK) : okL 0 1438 T0_984 = true := (okL_c (o0_983 hB)).2.2
theorem o0_985 (hB : BytesOK) : okL 0 1439 T0_985 = true := (okL_c (o0_984 hB)).2.2
theorem o0_986 (hB : BytesOK) : okL 0 1440 T0_986 = true := (okL_c (o0_985 hB)).2.2
theorem o0_987 (hB : BytesOK) : okL 0 1441 T0_987 = true := (okL_c (o0_986 hB)).2.2
theorem o0_988 (hB : BytesOK) : okL 0 1442 T0_988 = true := (okL_c (o0_987 hB)).2.2
theorem o0_989 (hB : BytesOK) : okL 0 1443 T0_989 = true := (okL_c (o0_988 hB)).2.2
theorem o0_990 (hB : BytesOK) : okL 0 1444 T0_990 = true := (okL_c (o0_989 hB)).2.2
theorem o0_991 (hB : BytesOK) : okL 0 1445 T0_991 = true := (okL_c (o0_990 hB)).2.2
theorem o0_992 (hB : BytesOK) : okL 0 1446 T0_992 = true := (okL_c (o0_991 hB)).2.2
theorem o0_993 (hB : BytesOK) : okL 0 1447 T0_993 = true := (okL_c (o0_992 hB)).2.2
theorem o0_994 (hB : BytesOK) : okL 0 1448 T0_994 = true := (okL_c (o0_993 hB)).2.2
theorem o0_995 (hB : BytesOK) : okL 0 1449 T0_995 = true := (okL_c (o0_994 hB)).2.2
theorem o0_996 (hB : BytesOK) : okL 0 1452 T0_996 = true := (okL_c (o0_995 hB)).2.2
theorem o0_997 (hB : BytesOK) : okL 0 1453 T0_997 = true := (okL_c (o0_996 hB)).2.2
theorem o0_998 (hB : BytesOK) : okL 0 1456 T0_998 = true := (okL_c (o0_997 hB)).2.2
theorem o0_999 (hB : BytesOK) : okL 0 1457 T0_999 = true := (okL_c (o0_998 hB)).2.2
theorem o0_1000 (hB : BytesOK) : okL 0 1460 T0_1000 = true := (okL_c (o0_999 hB)).2.2
theorem o0_1001 (hB : BytesOK) : okL 0 1461 T0_1001 = true := (okL_c (o0_1000 hB)).2.2
theorem o0_1002 (hB : BytesOK) : okL 0 1462 T0_1002 = true := (okL_c (o0_1001 hB)).2.2
theorem o0_1003 (hB : BytesOK) : okL 0 1463 T0_1003 = true := (okL_c (o0_1002 hB)).2.2
theorem o0_1004 (hB : BytesOK) : okL 0 1464 T0_1004 = true := (okL_c (o0_1003 hB)).2.2
theorem o0_1005 (hB : BytesOK) : okL 0 1465 T0_1005 = true := (okL_c (o0_1004 hB)).2.2
theorem o0_1006 (hB : BytesOK) : okL 0 1466 T0_1006 = true := (okL_c (o0_1005 hB)).2.2
theorem o0_1007 (hB : BytesOK) : okL 0 1467 T0_1007 = true := (okL_c (o0_1006 hB)).2.2
theorem o0_1008 (hB : BytesOK) : okL 0 1468 T0_1008 = true := (okL_c (o0_1007 hB)).2.2
theorem o0_1009 (hB : BytesOK) : okL 0 1469 T0_1009 = true := (okL_c (o0_1008 hB)).2.2
theorem o0_1010 (hB : BytesOK) : okL 0 1470 T0_1010 = true := (okL_c (o0_1009 hB)).2.2
theorem o0_1011 (hB : BytesOK) : okL 0 1471 T0_1011 = true := (okL_c (o0_1010 hB)).2.2
theorem o0_1012 (hB : BytesOK) : okL 0 1472 T0_1012 = true := (okL_c (o0_1011 hB)).2.2
theorem o0_1013 (hB : BytesOK) : okL 0 1473 T0_1013 = true := (okL_c (o0_1012 hB)).2.2
theorem o0_1014 (hB : BytesOK) : okL 0 1474 T0_1014 = true := (okL_c (o0_1013 hB)).2.2
theorem o0_1015 (hB : BytesOK) : okL 0 1475 T0_1015 = true := (okL_c (o0_1014 hB)).2.2
theorem o0_1016 (hB : BytesOK) : okL 0 1476 T0_1016 = true := (okL_c (o0_1015 hB)).2.2
theorem o0_1017 (hB : BytesOK) : okL 0 1477 T0_1017 = true := (okL_c (o0_1016 hB)).2.2
theorem o0_1018 (hB : BytesOK) : okL 0 1480 T0_1018 = true := (okL_c (o0_1017 hB)).2.2
theorem o0_1019 (hB : BytesOK) : okL 0 1481 T0_1019 = true := (okL_c (o0_1018 hB)).2.2
theorem o0_1020 (hB : BytesOK) : okL 0 1484 T0_1020 = true := (okL_c (o0_1019 hB)).2.2
theorem o0_1021 (hB : BytesOK) : okL 0 1485 T0_1021 = true := (okL_c (o0_1020 hB)).2.2
theorem o0_1022 (hB : BytesOK) : okL 0 1488 T0_1022 = true := (okL_c (o0_1021 hB)).2.2
theorem o0_1023 (hB : BytesOK) : okL 0 1489 T0_1023 = true := (okL_c (o0_1022 hB)).2.2
theorem o0_1024 (hB : BytesOK) : okL 0 1492 T0_1024 = true := (okL_c (o0_1023 hB)).2.2
theorem o0_1025 (hB : BytesOK) : okL 0 1493 T0_1025 = true := (okL_c (o0_1024 hB)).2.2
theorem o0_1026 (hB : BytesOK) : okL 0 1494 T0_1026 = true := (okL_c (o0_1025 hB)).2.2
theorem o0_1027 (hB : BytesOK) : okL 0 1495 T0_1027 = true := (okL_c (o0_1026 hB)).2.2
theorem o0_1028 (hB : BytesOK) : okL 0 1496 T0_1028 = true := (okL_c (o0_1027 hB)).2.2
theorem o0_1029 (hB : BytesOK) : okL 0 1497 T0_1029 = true := (okL_c (o0_1028 hB)).2.2
theorem o0_1030 (hB : BytesOK) : okL 0 1498 T0_1030 = true := (okL_c (o0_1029 hB)).2.2
theorem o0_1031 (hB : BytesOK) : okL 0 1499 T0_1031 = true := (okL_c (o0_1030 hB)).2.2
theorem o0_1032 (hB : BytesOK) : okL 0 1500 T0_1032 = true := (okL_c (o0_1031 hB)).2.2
theorem o0_1033 (hB : BytesOK) : okL 0 1501 T0_1033 = true := (okL_c (o0_1032 hB)).2.2
theorem o0_1034 (hB : BytesOK) : okL 0 1502 T0_1034 = true := (okL_c (o0_1033 hB)).2.2
theorem o0_1035 (hB : BytesOK) : okL 0 1503 T0_1035 = true := (okL_c (o0_1034 hB)).2.2
theorem o0_1036 (hB : BytesOK) : okL 0 1504 T0_1036 = true := (okL_c (o0_1035 hB)).2.2
theorem o0_1037 (hB : BytesOK) : okL 0 1505 T0_1037 = true := (okL_c (o0_1036 hB)).2.2
theorem o0_1038 (hB : BytesOK) : okL 0 1506 T0_1038 = true := (okL_c (o0_1037 hB)).2.2
theorem o0_1039 (hB : BytesOK) : okL 0 1507 T0_1039 = true := (okL_c (o0_1038 hB)).2.2
theorem o0_1040 (hB : BytesOK) : okL 0 1508 T0_1040 = true := (okL_c (o0_1039 hB)).2.2
theorem o0_1041 (hB : BytesOK) : okL 0 1511 T0_1041 = true := (okL_c (o0_1040 hB)).2.2
theorem o0_1042 (hB : BytesOK) : okL 0 1512 T0_1042 = true := (okL_c (o0_1041 hB)).2.2
theorem o0_1043 (hB : BytesOK) : okL 0 1515 T0_1043 = true := (okL_c (o0_1042 hB)).2.2
theorem o0_1044 (hB : BytesOK) : okL 0 1516 T0_1044 = true := (okL_c (o0_1043 hB)).2.2
theorem o0_1045 (hB : BytesOK) : okL 0 1519 T0_1045 = true := (okL_c (o0_1044 hB)).2.2
theorem o0_1046 (hB : BytesOK) : okL 0 1520 T0_1046 = true := (okL_c (o0_1045 hB)).2.2
theorem o0_1047 (hB : BytesOK) : okL 0 1521 T0_1047 = true := (okL_c (o0_1046 hB)).2.2
theorem o0_1048 (hB : BytesOK) : okL 0 1522 T0_1048 = true := (okL_c (o0_1047 hB)).2.2
theorem o0_1049 (hB : BytesOK) : okL 0 1523 T0_1049 = true := (okL_c (o0_1048 hB)).2.2
theorem o0_1050 (hB : BytesOK) : okL 0 1524 T0_1050 = true := (okL_c (o0_1049 hB)).2.2
theorem o0_1051 (hB : BytesOK) : okL 0 1525 T0_1051 = true := (okL_c (o0_1050 hB)).2.2
theorem o0_1052 (hB : BytesOK) : okL 0 1526 T0_1052 = true := (okL_c (o0_1051 hB)).2.2
theorem o0_1053 (hB : BytesOK) : okL 0 1527 T0_1053 = true := (okL_c (o0_1052 hB)).2.2
theorem o0_1054 (hB : BytesOK) : okL 0 1528 T0_1054 = true := (okL_c (o0_1053 hB)).2.2
theorem o0_1055 (hB : BytesOK) : okL 0 1529 T0_1055 = true := (okL_c (o0_1054 hB)).2.2
theorem o0_1056 (hB : BytesOK) : okL 0 1530 T0_1056 = true := (okL_c (o0_1055 hB)).2.2
theorem o0_1057 (hB : BytesOK) : okL 0 1531 T0_1057 = true := (okL_c (o0_1056 hB)).2.2
theorem o0_1058 (hB : BytesOK) : okL 0 1532 T0_1058 = true := (okL_c (o0_1057 hB)).2.2
theorem o0_1059 (hB : BytesOK) : okL 0 1533 T0_1059 = true := (okL_c (o0_1058 hB)).2.2
theorem o0_1060 (hB : BytesOK) : okL 0 1534 T0_1060 = true := (okL_c (o0_1059 hB)).2.2
theorem o0_1061 (hB : BytesOK) : okL 0 1535 T0_1061 = true := (okL_c (o0_1060 hB)).2.2
theorem o0_1062 (hB : BytesOK) : okL 0 1536 T0_1062 = true := (okL_c (o0_1061 hB)).2.2
theorem o0_1063 (hB : BytesOK) : okL 0 1539 T0_1063 = true := (okL_c (o0_1062 hB)).2.2
theorem o0_1064 (hB : BytesOK) : okL 0 1540 T0_1064 = true := (okL_c (o0_1063 hB)).2.2
theorem o0_1065 (hB : BytesOK) : okL 0 1543 T0_1065 = true := (okL_c (o0_1064 hB)).2.2
theorem o0_1066 (hB : BytesOK) : okL 0 1544 T0_1066 = true := (okL_c (o0_1065 hB)).2.2
theorem o0_1067 (hB : BytesOK) : okL 0 1547 T0_1067 = true := (okL_c (o0_1066 hB)).2.2
theorem o0_1068 (hB : BytesOK) : okL 0 1548 T0_1068 = true := (okL_c (o0_1067 hB)).2.2
theorem o0_1069 (hB : BytesOK) : okL 0 1551 T0_1069 = true := (okL_c (o0_1068 hB)).2.2
theorem o0_1070 (hB : BytesOK) : okL 0 1552 T0_1070 = true := (okL_c (o0_1069 hB)).2.2
theorem o0_1071 (hB : BytesOK) : okL 0 1553 T0_1071 = true := (okL_c (o0_1070 hB)).2.2
theorem o0_1072 (hB : BytesOK) : okL 0 1554 T0_1072 = true := (okL_c (o0_1071 hB)).2.2
theorem o0_1073 (hB : BytesOK) : okL 0 1555 T0_1073 = true := (okL_c (o0_1072 hB)).2.2
theorem o0_1074 (hB : BytesOK) : okL 0 1556 T0_1074 = true := (okL_c (o0_1073 hB)).2.2
theorem o0_1075 (hB : BytesOK) : okL 0 1557 T0_1075 = true := (okL_c (o0_1074 hB)).2.2
theorem o0_1076 (hB : BytesOK) : okL 0 1558 T0_1076 = true := (okL_c (o0_1075 hB)).2.2
theorem o0_1077 (hB : BytesOK) : okL 0 1559 T0_1077 = true := (okL_c (o0_1076 hB)).2.2
theorem o0_1078 (hB : BytesOK) : okL 0 1560 T0_1078 = true := (okL_c (o0_1077 hB)).2.2
theorem o0_1079 (hB : BytesOK) : okL 0 1561 T0_1079 = true := (okL_c (o0_1078 hB)).2.2
theorem o0_1080 (hB : BytesOK) : okL 0 1562 T0_1080 = true := (okL_c (o0_1079 hB)).2.2
theorem o0_1081 (hB : BytesOK) : okL 0 1565 T0_1081 = true := (okL_c (o0_1080 hB)).2.2
theorem o0_1082 (hB : BytesOK) : okL 0 1566 T0_1082 = true := (okL_c (o0_1081 hB)).2.2
theorem o0_1083 (hB : BytesOK) : okL 0 1567 T0_1083 = true := (okL_c (o0_1082 hB)).2.2
theorem o0_1084 (hB : BytesOK) : okL 0 1568 T0_1084 = true := (okL_c (o0_1083 hB)).2.2
theorem o0_1085 (hB : BytesOK) : okL 0 1569 T0_1085 = true := (okL_c (o0_1084 hB)).2.2
theorem o0_1086 (hB : BytesOK) : okL 0 1570 T0_1086 = true := (okL_c (o0_1085 hB)).2.2
theorem o0_1087 (hB : BytesOK) : okL 0 1571 T0_1087 = true := (okL_c (o0_1086 hB)).2.2
theorem o0_1088 (hB : BytesOK) : okL 0 1572 T0_1088 = true := (okL_c (o0_1087 hB)).2.2
theorem o0_1089 (hB : BytesOK) : okL 0 1573 T0_1089 = true := (okL_c (o0_1088 hB)).2.2
theorem o0_1090 (hB : BytesOK) : okL 0 1574 T0_1090 = true := (okL_c (o0_1089 hB)).2.2
theorem o0_1091 (hB : BytesOK) : okL 0 1575 T0_1091 = true := (okL_c (o0_1090 hB)).2.2
theorem o0_1092 (hB : BytesOK) : okL 0 1576 T0_1092 = true := (okL_c (o0_1091 hB)).2.2
theorem o0_1093 (hB : BytesOK) : okL 0 1577 T0_1093 = true := (okL_c (o0_1092 hB)).2.2
theorem o0_1094 (hB : BytesOK) : okL 0 1580 T0_1094 = true := (okL_c (o0_1093 hB)).2.2
theorem o0_1095 (hB : BytesOK) : okL 0 1581 T0_1095 = true := (okL_c (o0_1094 hB)).2.2
theorem o0_1096 (hB : BytesOK) : okL 0 1584 T0_1096 = true := (okL_c (o0_1095 hB)).2.2
theorem o0_1097 (hB : BytesOK) : okL 0 1585 T0_1097 = true := (okL_c (o0_1096 hB)).2.2
theorem o0_1098 (hB : BytesOK) : okL 0 1586 T0_1098 = true := (okL_c (o0_1097 hB)).2.2
theorem o0_1099 (hB : BytesOK) : okL 0 1587 T0_1099 = true := (okL_c (o0_1098 hB)).2.2
theorem o0_1100 (hB : BytesOK) : okL 0 1588 T0_1100 = true := (okL_c (o0_1099 hB)).2.2
theorem o0_1101 (hB : BytesOK) : okL 0 1589 T0_1101 = true := (okL_c (o0_1100 hB)).2.2
theorem o0_1102 (hB : BytesOK) : okL 0 1590 T0_1102 = true := (okL_c (o0_1101 hB)).2.2
theorem o0_1103 (hB : BytesOK) : okL 0 1591 T0_1103 = true := (okL_c (o0_1102 hB)).2.2
theorem o0_1104 (hB : BytesOK) : okL 0 1592 T0_1104 = true := (okL_c (o0_1103 hB)).2.2
theorem o0_1105 (hB : BytesOK) : okL 0 1593 T0_1105 = true := (okL_c (o0_1104 hB)).2.2
theorem o0_1106 (hB : BytesOK) : okL 0 1594 T0_1106 = true := (okL_c (o0_1105 hB)).2.2
theorem o0_1107 (hB : BytesOK) : okL 0 1595 T0_1107 = true := (okL_c (o0_1106 hB)).2.2
theorem o0_1108 (hB : BytesOK) : okL 0 1596 T0_1108 = true := (okL_c (o0_1107 hB)).2.2
theorem o0_1109 (hB : BytesOK) : okL 0 1597 T0_1109 = true := (okL_c (o0_1108 hB)).2.2
theorem o0_1110 (hB : BytesOK) : okL 0 1598 T0_1110 = true := (okL_c (o0_1109 hB)).2.2
theorem o0_1111 (hB : BytesOK) : okL 0 1599 T0_1111 = true := (okL_c (o0_1110 hB)).2.2
theorem o0_1112 (hB : BytesOK) : okL 0 1600 T0_1112 = true := (okL_c (o0_1111 hB)).2.2
theorem o0_1113 (hB : BytesOK) : okL 0 1603 T0_1113 = true := (okL_c (o0_1112 hB)).2.2
theorem o0_1114 (hB : BytesOK) : okL 0 1604 T0_1114 = true := (okL_c (o0_1113 hB)).2.2
theorem o0_1115 (hB : BytesOK) : okL 0 1605 T0_1115 = true := (okL_c (o0_1114 hB)).2.2
theorem o0_1116 (hB : BytesOK) : okL 0 1606 T0_1116 = true := (okL_c (o0_1115 hB)).2.2
theorem o0_1117 (hB : BytesOK) : okL 0 1607 T0_1117 = true := (okL_c (o0_1116 hB)).2.2
theorem o0_1118 (hB : BytesOK) : okL 0 1608 T0_1118 = true := (okL_c (o0_1117 hB)).2.2
theorem o0_1119 (hB : BytesOK) : okL 0 1609 T0_1119 = true := (okL_c (o0_1118 hB)).2.2
theorem o0_1120 (hB : BytesOK) : okL 0 1610 T0_1120 = true := (okL_c (o0_1119 hB)).2.2
theorem o0_1121 (hB : BytesOK) : okL 0 1611 T0_1121 = true := (okL_c (o0_1120 hB)).2.2
theorem o0_1122 (hB : BytesOK) : okL 0 1612 T0_1122 = true := (okL_c (o0_1121 hB)).2.2
theorem o0_1123 (hB : BytesOK) : okL 0 1613 T0_1123 = true := (okL_c (o0_1122 hB)).2.2
theorem o0_1124 (hB : BytesOK) : okL 0 1614 T0_1124 = true := (okL_c (o0_1123 hB)).2.2
theorem o0_1125 (hB : BytesOK) : okL 0 1615 T0_1125 = true := (okL_c (o0_1124 hB)).2.2
theorem o0_1126 (hB : BytesOK) : okL 0 1616 T0_1126 = true := (okL_c (o0_1125 hB)).2.2
theorem o0_1127 (hB : BytesOK) : okL 0 1617 T0_1127 = true := (okL_c (o0_1126 hB)).2.2
theorem o0_1128 (hB : BytesOK) : okL 0 1618 T0_1128 = true := (okL_c (o0_1127 hB)).2.2
theorem o0_1129 (hB : BytesOK) : okL 0 1619 T0_1129 = true := (okL_c (o0_1128 hB)).2.2
theorem o0_1130 (hB : BytesOK) : okL 0 1620 T0_1130 = true := (okL_c (o0_1129 hB)).2.2
theorem o0_1131 (hB : BytesOK) : okL 0 1623 T0_1131 = true := (okL_c (o0_1130 hB)).2.2
theorem o0_1132 (hB : BytesOK) : okL 0 1624 T0_1132 = true := (okL_c (o0_1131 hB)).2.2
theorem o0_1133 (hB : BytesOK) : okL 0 1627 T0_1133 = true := (okL_c (o0_1132 hB)).2.2
theorem o0_1134 (hB : BytesOK) : okL 0 1628 T0_1134 = true := (okL_c (o0_1133 hB)).2.2
theorem o0_1135 (hB : BytesOK) : okL 0 1629 T0_1135 = true := (okL_c (o0_1134 hB)).2.2
theorem o0_1136 (hB : BytesOK) : okL 0 1630 T0_1136 = true := (okL_c (o0_1135 hB)).2.2
theorem o0_1137 (hB : BytesOK) : okL 0 1631 T0_1137 = true := (okL_c (o0_1136 hB)).2.2
theorem o0_1138 (hB : BytesOK) : okL 0 1632 T0_1138 = true := (okL_c (o0_1137 hB)).2.2
theorem o0_1139 (hB : BytesOK) : okL 0 1633 T0_1139 = true := (okL_c (o0_1138 hB)).2.2
theorem o0_1140 (hB : BytesOK) : okL 0 1634 T0_1140 = true := (okL_c (o0_1139 hB)).2.2
theorem o0_1141 (hB : BytesOK) : okL 0 1635 T0_1141 = true := (okL_c (o0_1140 hB)).2.2
theorem o0_1142 (hB : BytesOK) : okL 0 1636 T0_1142 = true := (okL_c (o0_1141 hB)).2.2
theorem o0_1143 (hB : BytesOK) : okL 0 1637 T0_1143 = true := (okL_c (o0_1142 hB)).2.2
theorem o0_1144 (hB : BytesOK) : okL 0 1638 T0_1144 = true := (okL_c (o0_1143 hB)).2.2
theorem o0_1145 (hB : BytesOK) : okL 0 1639 T0_1145 = true := (okL_c (o0_1144 hB)).2.2
theorem o0_1146 (hB : BytesOK) : okL 0 1640 T0_1146 = true := (okL_c (o0_1145 hB)).2.2
theorem o0_1147 (hB : BytesOK) : okL 0 1641 T0_1147 = true := (okL_c (o0_1146 hB)).2.2
theorem o0_1148 (hB : BytesOK) : okL 0 1642 T0_1148 = true := (okL_c (o0_1147 hB)).2.2
theorem o0_1149 (hB : BytesOK) : okL 0 1643 T0_1149 = true := (okL_c (o0_1148 hB)).2.2
theorem o0_1150 (hB : BytesOK) : okL 0 1646 T0_1150 = true := (okL_c (o0_1149 hB)).2.2
theorem o0_1151 (hB : BytesOK) : okL 0 1647 T0_1151 = true := (okL_c (o0_1150 hB)).2.2
theorem o0_1152 (hB : BytesOK) : okL 0 1648 T0_1152 = true := (okL_c (o0_1151 hB)).2.2
theorem o0_1153 (hB : BytesOK) : okL 0 1649 T0_1153 = true := (okL_c (o0_1152 hB)).2.2
theorem o0_1154 (hB : BytesOK) : okL 0 1650 T0_1154 = true := (okL_c (o0_1153 hB)).2.2
theorem o0_1155 (hB : BytesOK) : okL 0 1651 T0_1155 = true := (okL_c (o0_1154 hB)).2.2
theorem o0_1156 (hB : BytesOK) : okL 0 1652 T0_1156 = true := (okL_c (o0_1155 hB)).2.2
theorem o0_1157 (hB : BytesOK) : okL 0 1653 T0_1157 = true := (okL_c (o0_1156 hB)).2.2
theorem o0_1158 (hB : BytesOK) : okL 0 1654 T0_1158 = true := (okL_c (o0_1157 hB)).2.2
theorem o0_1159 (hB : BytesOK) : okL 0 1655 T0_1159 = true := (okL_c (o0_1158 hB)).2.2
theorem o0_1160 (hB : BytesOK) : okL 0 1656 T0_1160 = true := (okL_c (o0_1159 hB)).2.2
theorem o0_1161 (hB : BytesOK) : okL 0 1657 T0_1161 = true := (okL_c (o0_1160 hB)).2.2
theorem o0_1162 (hB : BytesOK) : okL 0 1658 T0_1162 = true := (okL_c (o0_1161 hB)).2.2
theorem o0_1163 (hB : BytesOK) : okL 0 1659 T0_1163 = true := (okL_c (o0_1162 hB)).2.2
theorem o0_1164 (hB : BytesOK) : okL 0 1660 T0_1164 = true := (okL_c (o0_1163 hB)).2.2
theorem o0_1165 (hB : BytesOK) : okL 0 1661 T0_1165 = true := (okL_c (o0_1164 hB)).2.2
theorem o0_1166 (hB : BytesOK) : okL 0 1662 T0_1166 = true := (okL_c (o0_1165 hB)).2.2
theorem o0_1167 (hB : BytesOK) : okL 0 1663 T0_1167 = true := (okL_c (o0_1166 hB)).2.2
theorem o0_1168 (hB : BytesOK) : okL 0 1666 T0_1168 = true := (okL_c (o0_1167 hB)).2.2
theorem o0_1169 (hB : BytesOK) : okL 0 1667 T0_1169 = true := (okL_c (o0_1168 hB)).2.2
theorem o0_1170 (hB : BytesOK) : okL 0 1670 T0_1170 = true := (okL_c (o0_1169 hB)).2.2
theorem o0_1171 (hB : BytesOK) : okL 0 1671 T0_1171 = true := (okL_c (o0_1170 hB)).2.2
theorem o0_1172 (hB : BytesOK) : okL 0 1672 T0_1172 = true := (okL_c (o0_1171 hB)).2.2
theorem o0_1173 (hB : BytesOK) : okL 0 1673 T0_1173 = true := (okL_c (o0_1172 hB)).2.2
theorem o0_1174 (hB : BytesOK) : okL 0 1674 T0_1174 = true := (okL_c (o0_1173 hB)).2.2
theorem o0_1175 (hB : BytesOK) : okL 0 1675 T0_1175 = true := (okL_c (o0_1174 hB)).2.2
theorem o0_1176 (hB : BytesOK) : okL 0 1676 T0_1176 = true := (okL_c (o0_1175 hB)).2.2
theorem o0_1177 (hB : BytesOK) : okL 0 1677 T0_1177 = true := (okL_c (o0_1176 hB)).2.2
theorem o0_1178 (hB : BytesOK) : okL 0 1678 T0_1178 = true := (okL_c (o0_1177 hB)).2.2
theorem o0_1179 (hB : BytesOK) : okL 0 1679 T0_1179 = true := (okL_c (o0_1178 hB)).2.2
theorem o0_1180 (hB : BytesOK) : okL 0 1680 T0_1180 = true := (okL_c (o0_1179 hB)).2.2
theorem o0_1181 (hB : BytesOK) : okL 0 1681 T0_1181 = true := (okL_c (o0_1180 hB)).2.2
theorem o0_1182 (hB : BytesOK) : okL 0 1682 T0_1182 = true := (okL_c (o0_1181 hB)).2.2
theorem o0_1183 (hB : BytesOK) : okL 0 1683 T0_1183 = true := (okL_c (o0_1182 hB)).2.2
theorem o0_1184 (hB : BytesOK) : okL 0 1684 T0_1184 = true := (okL_c (o0_1183 hB)).2.2
theorem o0_1185 (hB : BytesOK) : okL 0 1685 T0_1185 = true := (okL_c (o0_1184 hB)).2.2
theorem o0_1186 (hB : BytesOK) : okL 0 1686 T0_1186 = true := (okL_c (o0_1185 hB)).2.2
theorem o0_1187 (hB : BytesOK) : okL 0 1689 T0_1187 = true := (okL_c (o0_1186 hB)).2.2
theorem o0_1188 (hB : BytesOK) : okL 0 1690 T0_1188 = true := (okL_c (o0_1187 hB)).2.2
theorem o0_1189 (hB : BytesOK) : okL 0 1691 T0_1189 = true := (okL_c (o0_1188 hB)).2.2
theorem o0_1190 (hB : BytesOK) : okL 0 1692 T0_1190 = true := (okL_c (o0_1189 hB)).2.2
theorem o0_1191 (hB : BytesOK) : okL 0 1693 T0_1191 = true := (okL_c (o0_1190 hB)).2.2
theorem o0_1192 (hB : BytesOK) : okL 0 1694 T0_1192 = true := (okL_c (o0_1191 hB)).2.2
theorem o0_1193 (hB : BytesOK) : okL 0 1695 T0_1193 = true := (okL_c (o0_1192 hB)).2.2
theorem o0_1194 (hB : BytesOK) : okL 0 1696 T0_1194 = true := (okL_c (o0_1193 hB)).2.2
theorem o0_1195 (hB : BytesOK) : okL 0 1697 T0_1195 = true := (okL_c (o0_1194 hB)).2.2
theorem o0_1196 (hB : BytesOK) : okL 0 1698 T0_1196 = true := (okL_c (o0_1195 hB)).2.2
theorem o0_1197 (hB : BytesOK) : okL 0 1699 T0_1197 = true := (okL_c (o0_1196 hB)).2.2
theorem o0_1198 (hB : BytesOK) : okL 0 1700 T0_1198 = true := (okL_c (o0_1197 hB)).2.2
theorem o0_1199 (hB : BytesOK) : okL 0 1701 T0_1199 = true := (okL_c (o0_1198 hB)).2.2
theorem o0_1200 (hB : BytesOK) : okL 0 1702 T0_1200 = true := (okL_c (o0_1199 hB)).2.2
theorem o0_1201 (hB : BytesOK) : okL 0 1703 T0_1201 = true := (okL_c (o0_1200 hB)).2.2
theorem o0_1202 (hB : BytesOK) : okL 0 1704 T0_1202 = true := (okL_c (o0_1201 hB)).2.2
theorem o0_1203 (hB : BytesOK) : okL 0 1705 T0_1203 = true := (okL_c (o0_1202 hB)).2.2
theorem o0_1204 (hB : BytesOK) : okL 0 1706 T0_1204 = true := (okL_c (o0_1203 hB)).2.2
theorem o0_1205 (hB : BytesOK) : okL 0 1709 T0_1205 = true := (okL_c (o0_1204 hB)).2.2
theorem o0_1206 (hB : BytesOK) : okL 0 1710 T0_1206 = true := (okL_c (o0_1205 hB)).2.2
theorem o0_1207 (hB : BytesOK) : okL 0 1713 T0_1207 = true := (okL_c (o0_1206 hB)).2.2
theorem o0_1208 (hB : BytesOK) : okL 0 1714 T0_1208 = true := (okL_c (o0_1207 hB)).2.2
theorem o0_1209 (hB : BytesOK) : okL 0 1715 T0_1209 = true := (okL_c (o0_1208 hB)).2.2
theorem o0_1210 (hB : BytesOK) : okL 0 1716 T0_1210 = true := (okL_c (o0_1209 hB)).2.2
theorem o0_1211 (hB : BytesOK) : okL 0 1717 T0_1211 = true := (okL_c (o0_1210 hB)).2.2
theorem o0_1212 (hB : BytesOK) : okL 0 1718 T0_1212 = true := (okL_c (o0_1211 hB)).2.2
theorem o0_1213 (hB : BytesOK) : okL 0 1719 T0_1213 = true := (okL_c (o0_1212 hB)).2.2
theorem o0_1214 (hB : BytesOK) : okL 0 1720 T0_1214 = true := (okL_c (o0_1213 hB)).2.2
theorem o0_1215 (hB : BytesOK) : okL 0 1721 T0_1215 = true := (okL_c (o0_1214 hB)).2.2
theorem o0_1216 (hB : BytesOK) : okL 0 1722 T0_1216 = true := (okL_c (o0_1215 hB)).2.2
theorem o0_1217 (hB : BytesOK) : okL 0 1723 T0_1217 = true := (okL_c (o0_1216 hB)).2.2
theorem o0_1218 (hB : BytesOK) : okL 0 1724 T0_1218 = true := (okL_c (o0_1217 hB)).2.2
theorem o0_1219 (hB : BytesOK) : okL 0 1725 T0_1219 = true := (okL_c (o0_1218 hB)).2.2
theorem o0_1220 (hB : BytesOK) : okL 0 1726 T0_1220 = true := (okL_c (o0_1219 hB)).2.2
theorem o0_1221 (hB : BytesOK) : okL 0 1727 T0_1221 = true := (okL_c (o0_1220 hB)).2.2
theorem o0_1222 (hB : BytesOK) : okL 0 1728 T0_1222 = true := (okL_c (o0_1221 hB)).2.2
theorem o0_1223 (hB : BytesOK) : okL 0 1729 T0_1223 = true := (okL_c (o0_1222 hB)).2.2
theorem o0_1224 (hB : BytesOK) : okL 0 1732 T0_1224 = true := (okL_c (o0_1223 hB)).2.2
theorem o0_1225 (hB : BytesOK) : okL 0 1733 T0_1225 = true := (okL_c (o0_1224 hB)).2.2
theorem o0_1226 (hB : BytesOK) : okL 0 1734 T0_1226 = true := (okL_c (o0_1225 hB)).2.2
theorem o0_1227 (hB : BytesOK) : okL 0 1735 T0_1227 = true := (okL_c (o0_1226 hB)).2.2
theorem o0_1228 (hB : BytesOK) : okL 0 1736 T0_1228 = true := (okL_c (o0_1227 hB)).2.2
theorem o0_1229 (hB : BytesOK) : okL 0 1737 T0_1229 = true := (okL_c (o0_1228 hB)).2.2
theorem o0_1230 (hB : BytesOK) : okL 0 1738 T0_1230 = true := (okL_c (o0_1229 hB)).2.2
theorem o0_1231 (hB : BytesOK) : okL 0 1739 T0_1231 = true := (okL_c (o0_1230 hB)).2.2
theorem o0_1232 (hB : BytesOK) : okL 0 1740 T0_1232 = true := (okL_c (o0_1231 hB)).2.2
theorem o0_1233 (hB : BytesOK) : okL 0 1741 T0_1233 = true := (okL_c (o0_1232 hB)).2.2
theorem o0_1234 (hB : BytesOK) : okL 0 1742 T0_1234 = true := (okL_c (o0_1233 hB)).2.2
theorem o0_1235 (hB : BytesOK) : okL 0 1743 T0_1235 = true := (okL_c (o0_1234 hB)).2.2
theorem o0_1236 (hB : BytesOK) : okL 0 1744 T0_1236 = true := (okL_c (o0_1235 hB)).2.2
theorem o0_1237 (hB : BytesOK) : okL 0 1745 T0_1237 = true := (okL_c (o0_1236 hB)).2.2
theorem o0_1238 (hB : BytesOK) : okL 0 1746 T0_1238 = true := (okL_c (o0_1237 hB)).2.2
theorem o0_1239 (hB : BytesOK) : okL 0 1747 T0_1239 = true := (okL_c (o0_1238 hB)).2.2
theorem o0_1240 (hB : BytesOK) : okL 0 1748 T0_1240 = true := (okL_c (o0_1239 hB)).2.2
theorem o0_1241 (hB : BytesOK) : okL 0 1749 T0_1241 = true := (okL_c (o0_1240 hB)).2.2
theorem o0_1242 (hB : BytesOK) : okL 0 1752 T0_1242 = true := (okL_c (o0_1241 hB)).2.2
theorem o0_1243 (hB : BytesOK) : okL 0 1753 T0_1243 = true := (okL_c (o0_1242 hB)).2.2
theorem o0_1244 (hB : BytesOK) : okL 0 1756 T0_1244 = true := (okL_c (o0_1243 hB)).2.2
theorem o0_1245 (hB : BytesOK) : okL 0 1757 T0_1245 = true := (okL_c (o0_1244 hB)).2.2
theorem o0_1246 (hB : BytesOK) : okL 0 1758 T0_1246 = true := (okL_c (o0_1245 hB)).2.2
theorem o0_1247 (hB : BytesOK) : okL 0 1759 T0_1247 = true := (okL_c (o0_1246 hB)).2.2
theorem o0_1248 (hB : BytesOK) : okL 0 1760 T0_1248 = true := (okL_c (o0_1247 hB)).2.2
theorem o0_1249 (hB : BytesOK) : okL 0 1761 T0_1249 = true := (okL_c (o0_1248 hB)).2.2
theorem o0_1250 (hB : BytesOK) : okL 0 1762 T0_1250 = true := (okL_c (o0_1249 hB)).2.2
theorem o0_1251 (hB : BytesOK) : okL 0 1763 T0_1251 = true := (okL_c (o0_1250 hB)).2.2
theorem o0_1252 (hB : BytesOK) : okL 0 1764 T0_1252 = true := (okL_c (o0_1251 hB)).2.2
theorem o0_1253 (hB : BytesOK) : okL 0 1765 T0_1253 = true := (okL_c (o0_1252 hB)).2.2
theorem o0_1254 (hB : BytesOK) : okL 0 1766 T0_1254 = true := (okL_c (o0_1253 hB)).2.2
theorem o0_1255 (hB : BytesOK) : okL 0 1767 T0_1255 = true := (okL_c (o0_1254 hB)).2.2
theorem o0_1256 (hB : BytesOK) : okL 0 1768 T0_1256 = true := (okL_c (o0_1255 hB)).2.2
theorem o0_1257 (hB : BytesOK) : okL 0 1769 T0_1257 = true := (okL_c (o0_1256 hB)).2.2
theorem o0_1258 (hB : BytesOK) : okL 0 1770 T0_1258 = true := (okL_c (o0_1257 hB)).2.2
theorem o0_1259 (hB : BytesOK) : okL 0 1771 T0_1259 = true := (okL_c (o0_1258 hB)).2.2
theorem o0_1260 (hB : BytesOK) : okL 0 1772 T0_1260 = true := (okL_c (o0_1259 hB)).2.2
theorem o0_1261 (hB : BytesOK) : okL 0 1775 T0_1261 = true := (okL_c (o0_1260 hB)).2.2
theorem o0_1262 (hB : BytesOK) : okL 0 1776 T0_1262 = true := (okL_c (o0_1261 hB)).2.2
theorem o0_1263 (hB : BytesOK) : okL 0 1777 T0_1263 = true := (okL_c (o0_1262 hB)).2.2
theorem o0_1264 (hB : BytesOK) : okL 0 1778 T0_1264 = true := (okL_c (o0_1263 hB)).2.2
theorem o0_1265 (hB : BytesOK) : okL 0 1779 T0_1265 = true := (okL_c (o0_1264 hB)).2.2
theorem o0_1266 (hB : BytesOK) : okL 0 1780 T0_1266 = true := (okL_c (o0_1265 hB)).2.2
theorem o0_1267 (hB : BytesOK) : okL 0 1781 T0_1267 = true := (okL_c (o0_1266 hB)).2.2
theorem o0_1268 (hB : BytesOK) : okL 0 1782 T0_1268 = true := (okL_c (o0_1267 hB)).2.2
theorem o0_1269 (hB : BytesOK) : okL 0 1783 T0_1269 = true := (okL_c (o0_1268 hB)).2.2
theorem o0_1270 (hB : BytesOK) : okL 0 1784 T0_1270 = true := (okL_c (o0_1269 hB)).2.2
theorem o0_1271 (hB : BytesOK) : okL 0 1785 T0_1271 = true := (okL_c (o0_1270 hB)).2.2
theorem o0_1272 (hB : BytesOK) : okL 0 1786 T0_1272 = true := (okL_c (o0_1271 hB)).2.2
theorem o0_1273 (hB : BytesOK) : okL 0 1787 T0_1273 = true := (okL_c (o0_1272 hB)).2.2
theorem o0_1274 (hB : BytesOK) : okL 0 1788 T0_1274 = true := (okL_c (o0_1273 hB)).2.2
theorem o0_1275 (hB : BytesOK) : okL 0 1789 T0_1275 = true := (okL_c (o0_1274 hB)).2.2
theorem o0_1276 (hB : BytesOK) : okL 0 1790 T0_1276 = true := (okL_c (o0_1275 hB)).2.2
theorem o0_1277 (hB : BytesOK) : okL 0 1791 T0_1277 = true := (okL_c (o0_1276 hB)).2.2
theorem o0_1278 (hB : BytesOK) : okL 0 1792 T0_1278 = true := (okL_c (o0_1277 hB)).2.2
theorem o0_1279 (hB : BytesOK) : okL 0 1795 T0_1279 = true := (okL_c (o0_1278 hB)).2.2
theorem o0_1280 (hB : BytesOK) : okL 0 1796 T0_1280 = true := (okL_c (o0_1279 hB)).2.2
theorem o0_1281 (hB : BytesOK) : okL 0 1799 T0_1281 = true := (okL_c (o0_1280 hB)).2.2
theorem o0_1282 (hB : BytesOK) : okL 0 1800 T0_1282 = true := (okL_c (o0_1281 hB)).2.2
theorem o0_1283 (hB : BytesOK) : okL 0 1801 T0_1283 = true := (okL_c (o0_1282 hB)).2.2
theorem o0_1284 (hB : BytesOK) : okL 0 1802 T0_1284 = true := (okL_c (o0_1283 hB)).2.2
theorem o0_1285 (hB : BytesOK) : okL 0 1803 T0_1285 = true := (okL_c (o0_1284 hB)).2.2
theorem o0_1286 (hB : BytesOK) : okL 0 1804 T0_1286 = true := (okL_c (o0_1285 hB)).2.2
theorem o0_1287 (hB : BytesOK) : okL 0 1805 T0_1287 = true := (okL_c (o0_1286 hB)).2.2
theorem o0_1288 (hB : BytesOK) : okL 0 1806 T0_1288 = true := (okL_c (o0_1287 hB)).2.2
theorem o0_1289 (hB : BytesOK) : okL 0 1807 T0_1289 = true := (okL_c (o0_1288 hB)).2.2
theorem o0_1290 (hB : BytesOK) : okL 0 1808 T0_1290 = true := (okL_c (o0_1289 hB)).2.2
theorem o0_1291 (hB : BytesOK) : okL 0 1809 T0_1291 = true := (okL_c (o0_1290 hB)).2.2
theorem o0_1292 (hB : BytesOK) : okL 0 1810 T0_1292 = true := (okL_c (o0_1291 hB)).2.2
theorem o0_1293 (hB : BytesOK) : okL 0 1811 T0_1293 = true := (okL_c (o0_1292 hB)).2.2
theorem o0_1294 (hB : BytesOK) : okL 0 1812 T0_1294 = true := (okL_c (o0_1293 hB)).2.2
theorem o0_1295 (hB : BytesOK) : okL 0 1813 T0_1295 = true := (okL_c (o0_1294 hB)).2.2
theorem o0_1296 (hB : BytesOK) : okL 0 1814 T0_1296 = true := (okL_c (o0_1295 hB)).2.2
theorem o0_1297 (hB : BytesOK) : okL 0 1815 T0_1297 = true := (okL_c (o0_1296 hB)).2.2
theorem o0_1298 (hB : BytesOK) : okL 0 1818 T0_1298 = true := (okL_c (o0_1297 hB)).2.2
theorem o0_1299 (hB : BytesOK) : okL 0 1819 T0_1299 = true := (okL_c (o0_1298 hB)).2.2
theorem o0_1300 (hB : BytesOK) : okL 0 1820 T0_1300 = true := (okL_c (o0_1299 hB)).2.2
theorem o0_1301 (hB : BytesOK) : okL 0 1821 T0_1301 = true := (okL_c (o0_1300 hB)).2.2
theorem o0_1302 (hB : BytesOK) : okL 0 1822 T0_1302 = true := (okL_c (o0_1301 hB)).2.2
theorem o0_1303 (hB : BytesOK) : okL 0 1823 T0_1303 = true := (okL_c (o0_1302 hB)).2.2
theorem o0_1304 (hB : BytesOK) : okL 0 1824 T0_1304 = true := (okL_c (o0_1303 hB)).2.2
theorem o0_1305 (hB : BytesOK) : okL 0 1825 T0_1305 = true := (okL_c (o0_1304 hB)).2.2
theorem o0_1306 (hB : BytesOK) : okL 0 1826 T0_1306 = true := (okL_c (o0_1305 hB)).2.2
theorem o0_1307 (hB : BytesOK) : okL 0 1827 T0_1307 = true := (okL_c (o0_1306 hB)).2.2
theorem o0_1308 (hB : BytesOK) : okL 0 1828 T0_1308 = true := (okL_c (o0_1307 hB)).2.2
theorem o0_1309 (hB : BytesOK) : okL 0 1829 T0_1309 = true := (okL_c (o0_1308 hB)).2.2
theorem o0_1310 (hB : BytesOK) : okL 0 1830 T0_1310 = true := (okL_c (o0_1309 hB)).2.2
theorem o0_1311 (hB : BytesOK) : okL 0 1831 T0_1311 = true := (okL_c (o0_1310 hB)).2.2
theorem o0_1312 (hB : BytesOK) : okL 0 1832 T0_1312 = true := (okL_c (o0_1311 hB)).2.2
theorem o0_1313 (hB : BytesOK) : okL 0 1833 T0_1313 = true := (okL_c (o0_1312 hB)).2.2
theorem o0_1314 (hB : BytesOK) : okL 0 1834 T0_1314 = true := (okL_c (o0_1313 hB)).2.2
theorem o0_1315 (hB : BytesOK) : okL 0 1835 T0_1315 = true := (okL_c (o0_1314 hB)).2.2
theorem o0_1316 (hB : BytesOK) : okL 0 1838 T0_1316 = true := (okL_c (o0_1315 hB)).2.2
theorem o0_1317 (hB : BytesOK) : okL 0 1839 T0_1317 = true := (okL_c (o0_1316 hB)).2.2
theorem o0_1318 (hB : BytesOK) : okL 0 1842 T0_1318 = true := (okL_c (o0_1317 hB)).2.2
theorem o0_1319 (hB : BytesOK) : okL 0 1843 T0_1319 = true := (okL_c (o0_1318 hB)).2.2
theorem o0_1320 (hB : BytesOK) : okL 0 1844 T0_1320 = true := (okL_c (o0_1319 hB)).2.2
theorem o0_1321 (hB : BytesOK) : okL 0 1845 T0_1321 = true := (okL_c (o0_1320 hB)).2.2
theorem o0_1322 (hB : BytesOK) : okL 0 1846 T0_1322 = true := (okL_c (o0_1321 hB)).2.2
theorem o0_1323 (hB : BytesOK) : okL 0 1847 T0_1323 = true := (okL_c (o0_1322 hB)).2.2
theorem o0_1324 (hB : BytesOK) : okL 0 1848 T0_1324 = true := (okL_c (o0_1323 hB)).2.2
theorem o0_1325 (hB : BytesOK) : okL 0 1849 T0_1325 = true := (okL_c (o0_1324 hB)).2.2
theorem o0_1326 (hB : BytesOK) : okL 0 1850 T0_1326 = true := (okL_c (o0_1325 hB)).2.2
theorem o0_1327 (hB : BytesOK) : okL 0 1851 T0_1327 = true := (okL_c (o0_1326 hB)).2.2
theorem o0_1328 (hB : BytesOK) : okL 0 1852 T0_1328 = true := (okL_c (o0_1327 hB)).2.2
theorem o0_1329 (hB : BytesOK) : okL 0 1853 T0_1329 = true := (okL_c (o0_1328 hB)).2.2
theorem o0_1330 (hB : BytesOK) : okL 0 1856 T0_1330 = true := (okL_c (o0_1329 hB)).2.2
theorem o0_1331 (hB : BytesOK) : okL 0 1857 T0_1331 = true := (okL_c (o0_1330 hB)).2.2
theorem o0_1332 (hB : BytesOK) : okL 0 1858 T0_1332 = true := (okL_c (o0_1331 hB)).2.2
theorem o0_1333 (hB : BytesOK) : okL 0 1859 T0_1333 = true := (okL_c (o0_1332 hB)).2.2
theorem o0_1334 (hB : BytesOK) : okL 0 1860 T0_1334 = true := (okL_c (o0_1333 hB)).2.2
theorem o0_1335 (hB : BytesOK) : okL 0 1861 T0_1335 = true := (okL_c (o0_1334 hB)).2.2
theorem o0_1336 (hB : BytesOK) : okL 0 1862 T0_1336 = true := (okL_c (o0_1335 hB)).2.2
theorem o0_1337 (hB : BytesOK) : okL 0 1863 T0_1337 = true := (okL_c (o0_1336 hB)).2.2
theorem o0_1338 (hB : BytesOK) : okL 0 1864 T0_1338 = true := (okL_c (o0_1337 hB)).2.2
theorem o0_1339 (hB : BytesOK) : okL 0 1865 T0_1339 = true := (okL_c (o0_1338 hB)).2.2
theorem o0_1340 (hB : BytesOK) : okL 0 1866 T0_1340 = true := (okL_c (o0_1339 hB)).2.2
theorem o0_1341 (hB : BytesOK) : okL 0 1867 T0_1341 = true := (okL_c (o0_1340 hB)).2.2
theorem o0_1342 (hB : BytesOK) : okL 0 1868 T0_1342 = true := (okL_c (o0_1341 hB)).2.2
theorem o0_1343 (hB : BytesOK) : okL 0 1871 T0_1343 = true := (okL_c (o0_1342 hB)).2.2
theorem o0_1344 (hB : BytesOK) : okL 0 1872 T0_1344 = true := (okL_c (o0_1343 hB)).2.2
theorem o0_1345 (hB : BytesOK) : okL 0 1875 T0_1345 = true := (okL_c (o0_1344 hB)).2.2
theorem o0_1346 (hB : BytesOK) : okL 0 1876 T0_1346 = true := (okL_c (o0_1345 hB)).2.2
theorem o0_1347 (hB : BytesOK) : okL 0 1877 T0_1347 = true := (okL_c (o0_1346 hB)).2.2
theorem o0_1348 (hB : BytesOK) : okL 0 1878 T0_1348 = true := (okL_c (o0_1347 hB)).2.2
theorem o0_1349 (hB : BytesOK) : okL 0 1879 T0_1349 = true := (okL_c (o0_1348 hB)).2.2
theorem o0_1350 (hB : BytesOK) : okL 0 1880 T0_1350 = true := (okL_c (o0_1349 hB)).2.2
theorem o0_1351 (hB : BytesOK) : okL 0 1881 T0_1351 = true := (okL_c (o0_1350 hB)).2.2
theorem o0_1352 (hB : BytesOK) : okL 0 1882 T0_1352 = true := (okL_c (o0_1351 hB)).2.2
theorem o0_1353 (hB : BytesOK) : okL 0 1883 T0_1353 = true := (okL_c (o0_1352 hB)).2.2
theorem o0_1354 (hB : BytesOK) : okL 0 1884 T0_1354 = true := (okL_c (o0_1353 hB)).2.2
theorem o0_1355 (hB : BytesOK) : okL 0 1885 T0_1355 = true := (okL_c (o0_1354 hB)).2.2
theorem o0_1356 (hB : BytesOK) : okL 0 1886 T0_1356 = true := (okL_c (o0_1355 hB)).2.2
theorem o0_1357 (hB : BytesOK) : okL 0 1887 T0_1357 = true := (okL_c (o0_1356 hB)).2.2
theorem o0_1358 (hB : BytesOK) : okL 0 1888 T0_1358 = true := (okL_c (o0_1357 hB)).2.2
theorem o0_1359 (hB : BytesOK) : okL 0 1889 T0_1359 = true := (okL_c (o0_1358 hB)).2.2
theorem o0_1360 (hB : BytesOK) : okL 0 1890 T0_1360 = true := (okL_c (o0_1359 hB)).2.2
theorem o0_1361 (hB : BytesOK) : okL 0 1891 T0_1361 = true := (okL_c (o0_1360 hB)).2.2
theorem o0_1362 (hB : BytesOK) : okL 0 1894 T0_1362 = true := (okL_c (o0_1361 hB)).2.2
theorem o0_1363 (hB : BytesOK) : okL 0 1895 T0_1363 = true := (okL_c (o0_1362 hB)).2.2
theorem o0_1364 (hB : BytesOK) : okL 0 1896 T0_1364 = true := (okL_c (o0_1363 hB)).2.2
theorem o0_1365 (hB : BytesOK) : okL 0 1897 T0_1365 = true := (okL_c (o0_1364 hB)).2.2
theorem o0_1366 (hB : BytesOK) : okL 0 1898 T0_1366 = true := (okL_c (o0_1365 hB)).2.2
theorem o0_1367 (hB : BytesOK) : okL 0 1899 T0_1367 = true := (okL_c (o0_1366 hB)).2.2
theorem o0_1368 (hB : BytesOK) : okL 0 1900 T0_1368 = true := (okL_c (o0_1367 hB)).2.2
theorem o0_1369 (hB : BytesOK) : okL 0 1901 T0_1369 = true := (okL_c (o0_1368 hB)).2.2
theorem o0_1370 (hB : BytesOK) : okL 0 1902 T0_1370 = true := (okL_c (o0_1369 hB)).2.2
theorem o0_1371 (hB : BytesOK) : okL 0 1903 T0_1371 = true := (okL_c (o0_1370 hB)).2.2
theorem o0_1372 (hB : BytesOK) : okL 0 1904 T0_1372 = true := (okL_c (o0_1371 hB)).2.2
theorem o0_1373 (hB : BytesOK) : okL 0 1905 T0_1373 = true := (okL_c (o0_1372 hB)).2.2
theorem o0_1374 (hB : BytesOK) : okL 0 1906 T0_1374 = true := (okL_c (o0_1373 hB)).2.2
theorem o0_1375 (hB : BytesOK) : okL 0 1907 T0_1375 = true := (okL_c (o0_1374 hB)).2.2
theorem o0_1376 (hB : BytesOK) : okL 0 1908 T0_1376 = true := (okL_c (o0_1375 hB)).2.2
theorem o0_1377 (hB : BytesOK) : okL 0 1909 T0_1377 = true := (okL_c (o0_1376 hB)).2.2
theorem o0_1378 (hB : BytesOK) : okL 0 1910 T0_1378 = true := (okL_c (o0_1377 hB)).2.2
theorem o0_1379 (hB : BytesOK) : okL 0 1911 T0_1379 = true := (okL_c (o0_1378 hB)).2.2
theorem o0_1380 (hB : BytesOK) : okL 0 1914 T0_1380 = true := (okL_c (o0_1379 hB)).2.2
theorem o0_1381 (hB : BytesOK) : okL 0 1915 T0_1381 = true := (okL_c (o0_1380 hB)).2.2
theorem o0_1382 (hB : BytesOK) : okL 0 1918 T0_1382 = true := (okL_c (o0_1381 hB)).2.2
theorem o0_1383 (hB : BytesOK) : okL 0 1919 T0_1383 = true := (okL_c (o0_1382 hB)).2.2
theorem o0_1384 (hB : BytesOK) : okL 0 1920 T0_1384 = true := (okL_c (o0_1383 hB)).2.2
theorem o0_1385 (hB : BytesOK) : okL 0 1921 T0_1385 = true := (okL_c (o0_1384 hB)).2.2
theorem o0_1386 (hB : BytesOK) : okL 0 1922 T0_1386 = true := (okL_c (o0_1385 hB)).2.2
theorem o0_1387 (hB : BytesOK) : okL 0 1923 T0_1387 = true := (okL_c (o0_1386 hB)).2.2
theorem o0_1388 (hB : BytesOK) : okL 0 1924 T0_1388 = true := (okL_c (o0_1387 hB)).2.2
theorem o0_1389 (hB : BytesOK) : okL 0 1927 T0_1389 = true := (okL_c (o0_1388 hB)).2.2
theorem o0_1390 (hB : BytesOK) : okL 0 1928 T0_1390 = true := (okL_c (o0_1389 hB)).2.2
theorem o0_1391 (hB : BytesOK) : okL 0 1929 T0_1391 = true := (okL_c (o0_1390 hB)).2.2
theorem o0_1392 (hB : BytesOK) : okL 0 1930 T0_1392 = true := (okL_c (o0_1391 hB)).2.2
theorem o0_1393 (hB : BytesOK) : okL 0 1931 T0_1393 = true := (okL_c (o0_1392 hB)).2.2
theorem o0_1394 (hB : BytesOK) : okL 0 1932 T0_1394 = true := (okL_c (o0_1393 hB)).2.2
theorem o0_1395 (hB : BytesOK) : okL 0 1933 T0_1395 = true := (okL_c (o0_1394 hB)).2.2
theorem o0_1396 (hB : BytesOK) : okL 0 1934 T0_1396 = true := (okL_c (o0_1395 hB)).2.2
theorem o0_1397 (hB : BytesOK) : okL 0 1937 T0_1397 = true := (okL_c (o0_1396 hB)).2.2
theorem o0_1398 (hB : BytesOK) : okL 0 1938 T0_1398 = true := (okL_c (o0_1397 hB)).2.2
theorem o0_1399 (hB : BytesOK) : okL 0 1941 T0_1399 = true := (okL_c (o0_1398 hB)).2.2
theorem o0_1400 (hB : BytesOK) : okL 0 1942 T0_1400 = true := (okL_c (o0_1399 hB)).2.2
theorem o0_1401 (hB : BytesOK) : okL 0 1943 T0_1401 = true := (okL_c (o0_1400 hB)).2.2
theorem o0_1402 (hB : BytesOK) : okL 0 1944 T0_1402 = true := (okL_c (o0_1401 hB)).2.2
theorem o0_1403 (hB : BytesOK) : okL 0 1945 T0_1403 = true := (okL_c (o0_1402 hB)).2.2
theorem o0_1404 (hB : BytesOK) : okL 0 1946 T0_1404 = true := (okL_c (o0_1403 hB)).2.2
theorem o0_1405 (hB : BytesOK) : okL 0 1947 T0_1405 = true := (okL_c (o0_1404 hB)).2.2
theorem o0_1406 (hB : BytesOK) : okL 0 1950 T0_1406 = true := (okL_c (o0_1405 hB)).2.2
theorem o0_1407 (hB : BytesOK) : okL 0 1951 T0_1407 = true := (okL_c (o0_1406 hB)).2.2
theorem o0_1408 (hB : BytesOK) : okL 0 1952 T0_1408 = true := (okL_c (o0_1407 hB)).2.2
theorem o0_1409 (hB : BytesOK) : okL 0 1953 T0_1409 = true := (okL_c (o0_1408 hB)).2.2
theorem o0_1410 (hB : BytesOK) : okL 0 1954 T0_1410 = true := (okL_c (o0_1409 hB)).2.2
theorem o0_1411 (hB : BytesOK) : okL 0 1955 T0_1411 = true := (okL_c (o0_1410 hB)).2.2
theorem o0_1412 (hB : BytesOK) : okL 0 1956 T0_1412 = true := (okL_c (o0_1411 hB)).2.2
theorem o0_1413 (hB : BytesOK) : okL 0 1957 T0_1413 = true := (okL_c (o0_1412 hB)).2.2
theorem o0_1414 (hB : BytesOK) : okL 0 1960 T0_1414 = true := (okL_c (o0_1413 hB)).2.2
theorem o0_1415 (hB : BytesOK) : okL 0 1961 T0_1415 = true := (okL_c (o0_1414 hB)).2.2
theorem o0_1416 (hB : BytesOK) : okL 0 1964 T0_1416 = true := (okL_c (o0_1415 hB)).2.2
theorem o0_1417 (hB : BytesOK) : okL 0 1965 T0_1417 = true := (okL_c (o0_1416 hB)).2.2
theorem o0_1418 (hB : BytesOK) : okL 0 1968 T0_1418 = true := (okL_c (o0_1417 hB)).2.2
theorem o0_1419 (hB : BytesOK) : okL 0 1969 T0_1419 = true := (okL_c (o0_1418 hB)).2.2
theorem o0_1420 (hB : BytesOK) : okL 0 1970 T0_1420 = true := (okL_c (o0_1419 hB)).2.2
theorem o0_1421 (hB : BytesOK) : okL 0 1973 T0_1421 = true := (okL_c (o0_1420 hB)).2.2
theorem o0_1422 (hB : BytesOK) : okL 0 1974 T0_1422 = true := (okL_c (o0_1421 hB)).2.2
theorem o0_1423 (hB : BytesOK) : okL 0 1977 T0_1423 = true := (okL_c (o0_1422 hB)).2.2
theorem o0_1424 (hB : BytesOK) : okL 0 1978 T0_1424 = true := (okL_c (o0_1423 hB)).2.2
theorem o0_1425 (hB : BytesOK) : okL 0 1981 T0_1425 = true := (okL_c (o0_1424 hB)).2.2
theorem o0_1426 (hB : BytesOK) : okL 0 1982 T0_1426 = true := (okL_c (o0_1425 hB)).2.2
theorem o0_1427 (hB : BytesOK) : okL 0 1983 T0_1427 = true := (okL_c (o0_1426 hB)).2.2
theorem o0_1428 (hB : BytesOK) : okL 0 1986 T0_1428 = true := (okL_c (o0_1427 hB)).2.2
theorem o0_1429 (hB : BytesOK) : okL 0 1987 T0_1429 = true := (okL_c (o0_1428 hB)).2.2
theorem o0_1430 (hB : BytesOK) : okL 0 1990 T0_1430 = true := (okL_c (o0_1429 hB)).2.2
theorem o0_1431 (hB : BytesOK) : okL 0 1993 T0_1431 = true := (okL_c (o0_1430 hB)).2.2
theorem o0_1432 (hB : BytesOK) : okL 0 1996 T0_1432 = true := (okL_c (o0_1431 hB)).2.2
theorem o0_1433 (hB : BytesOK) : okL 0 1997 T0_1433 = true := (okL_c (o0_1432 hB)).2.2

def wFd : List (Nat × Nat × Nat) := [(169, 0, 1), (170, 0, 220), (193, 4, 5), (196, 0, 220)]
def cNil : aCt := (81, 0, some [], false, ([], [], [], 212), [], [(([], [], [], 212), none)])
theorem e_nil : acallB gT none true cNil [] (lwC lwR lwr).2.2 [] = true := by decide +kernel
theorem lw_TH {L : bC} {h0 h : bH} {ρ : Nat → Int} (q : aIn (PofW gT none true) L h0 ρ h (lwC lwR lwr)) : TH h := hTH (w := some []) (E := []) (ρ := rsb ρ []) (L := L) (acall_in q.1 (fun v hv => (by cases hv)) e_nil).1
theorem lw_re {L : bC} {h0 h h' : bH} {ρ : Nat → Int} {w : List (Nat × Nat × Nat)} (q : aIn (PofW gT none true) L h0 ρ h (lwC lwR lwr)) (hc : (lwr.2.1.all fun c => !wrF (some w) c.1.1 c.1.2) = true) (f : ∀ a j, wrF (some w) a j = false → h' a j = h a j) (t : TH h') : aIn (PofW gT none true) L h0 ρ h' (lwC lwR lwr) := ⟨⟨q.1.1, q.1.2.1, fun c hc2 => ⟨(q.1.2.2.1 c hc2).1, (f _ _ (by have := List.all_eq_true.mp hc c hc2; rw [Bool.not_eq_true'] at this; exact this)).trans (q.1.2.2.1 c hc2).2⟩, fun a j ha hj _ => t a j ha hj, fun _ _ e => (by cases e), q.1.2.2.2.2.2⟩, q.2⟩
theorem e_l12 : wkB 6000 gT (some []) [] cells0 sp_law 8 [] [lwX lwR lwr] 1 714 (lwC lwR lwr) = true := by decide +kernel
theorem e_d12 : (lwr.2.1.all fun c => !wrF (some wFd) c.1.1 c.1.2) = true := by decide +kernel
theorem lw_conc {pc i : Nat} {h : bH} {ρ : Nat → Int} (e : ρ 1 = (i : Int)) : conc ρ pc (nC (lwC lwR lwr).2.2) h (lwC lwR lwr) = (pc, [(0, (2, 700)), (1, (2, ((0 : Nat) : Int))), (2, (2, ((193 : Nat) : Int))), (3, (0, ((i : Nat) : Int)))], [], 212, h) := by
  unfold conc lwC lwS evL evS
  simp only [List.map_cons, List.map_nil, fcon_ev, fid_ev, e]
  rfl
theorem hn_12 (hB : BytesOK) : ∀ (g : bG) (l : Launch) (Q : bQ) (ρ : Nat → Int) (h : bH), aIn (PofW gT none true) (gsc g) (fun _ _ => 0) ρ h (lwC lwR lwr) → RR PS GS h → (∀ (ρ' : Nat → Int) (h' : bH), aIn (PofW gT none true) (gsc g) (fun _ _ => 0) ρ' h' (lwX lwR lwr).2.1 → ext 8 ρ ρ' → RR PS GS h' → WP g l 40 0 0 212 Q (conc ρ' (lwX lwR lwr).1 (nC (lwX lwR lwr).2.1.2.2) h' (lwX lwR lwr).2.1)) → WP g l 40 0 0 212 Q (conc ρ 654 (nC (lwC lwR lwr).2.2) h (lwC lwR lwr)) := by
  intro g l Q ρ h q hr hk
  have ht := lw_TH q
  have hR := ht.r
  obtain ⟨⟨s0, s1⟩, -⟩ := q.1.2.2.2.2.2 rfl
  have r1 : (0 : Int) ≤ ρ 1 ∧ ρ 1 ≤ 3066 := q.1.1 1 (Nat.succ_lt_succ (Nat.zero_lt_succ _))
  have f6 : ev ρ ((6, [(0, -1), (1, 1)]) : Fm) ≤ 0 := (q.1.2.1 _ (List.Mem.head _)).2
  simp only [ev, evT] at f6
  obtain ⟨i, ei⟩ : ∃ i : Nat, ρ 1 = (i : Int) := ⟨(ρ 1).toNat, by omega⟩
  have v1 : ((gsc g).2 (i + 1)).toInt = ρ 3 := by
    have z := s1 1 (by decide)
    rw [ei, show ((i : Int) + ((1 : Nat) : Int)).toNat = i + 1 by omega] at z
    exact z.symm
  have u1 := lwCk_u (k := 3) (by decide) (by decide) q
  have v2 : ((gsc g).2 (i + 2)).toInt = ρ 4 := by
    have z := s1 2 (by decide)
    rw [ei, show ((i : Int) + ((2 : Nat) : Int)).toNat = i + 2 by omega] at z
    exact z.symm
  have u2 := lwCk_u (k := 4) (by decide) (by decide) q
  have v3 : ((gsc g).2 (i + 3)).toInt = ρ 5 := by
    have z := s1 3 (by decide)
    rw [ei, show ((i : Int) + ((3 : Nat) : Int)).toNat = i + 3 by omega] at z
    exact z.symm
  have u3 := lwCk_u (k := 5) (by decide) (by decide) q
  have v4 : ((gsc g).2 (i + 4)).toInt = ρ 6 := by
    have z := s1 4 (by decide)
    rw [ei, show ((i : Int) + ((4 : Nat) : Int)).toNat = i + 4 by omega] at z
    exact z.symm
  have u4 := lwCk_u (k := 6) (by decide) (by decide) q
  have v5 : ((gsc g).2 (i + 5)).toInt = ρ 7 := by
    have z := s1 5 (by decide)
    rw [ei, show ((i : Int) + ((5 : Nat) : Int)).toNat = i + 5 by omega] at z
    exact z.symm
  have u5 := lwCk_u (k := 7) (by decide) (by decide) q
  have hv : i + 6 ≤ (gsc g).1 := by omega
  rw [lw_conc ei]
  show HW g l 40 0 0 Q 654 [(0, (2, 700)), (1, (2, ((0 : Nat) : Int))), (2, (2, ((193 : Nat) : Int))), (3, (0, ((i : Nat) : Int)))] [] h
  refine w_pl (pc' := 655) (lv' := [(0, (2, 700)), (1, (2, ((0 : Nat) : Int))), (2, (2, ((193 : Nat) : Int))), (3, (0, ((i : Nat) : Int)))]) (st' := [(2, ((0 : Nat) : Int))]) (h' := h) (o0_340 hB) rfl ?_
  refine w_pl (pc' := 656) (lv' := [(0, (2, 700)), (1, (2, ((0 : Nat) : Int))), (2, (2, ((193 : Nat) : Int))), (3, (0, ((i : Nat) : Int)))]) (st' := [(2, 700), (2, ((0 : Nat) : Int))]) (h' := h) (o0_341 hB) rfl ?_
  refine w_pl (pc' := 657) (lv' := [(0, (2, 700)), (1, (2, ((0 : Nat) : Int))), (2, (2, ((193 : Nat) : Int))), (3, (0, ((i : Nat) : Int)))]) (st' := [(0, ((i : Nat) : Int)), (2, 700), (2, ((0 : Nat) : Int))]) (h' := h) (o0_342 hB) rfl ?_
  refine w_pl (pc' := 658) (lv' := [(0, (2, 700)), (1, (2, ((0 : Nat) : Int))), (2, (2, ((193 : Nat) : Int))), (3, (0, ((i : Nat) : Int)))]) (st' := [(0, ((1 : Nat) : Int)), (0, ((i : Nat) : Int)), (2, 700), (2, ((0 : Nat) : Int))]) (h' := h) (o0_343 hB) rfl ?_
  refine w_iadd (z := (((i + 1) : Nat) : Int)) (pc' := 659) (o0_344 hB) rfl (w32_e (by omega) (by omega)) ?_
  refine w_scr (z := (ρ 3)) (pc' := 660) (o0_345 hB) rfl (by omega) v1 ?_
  refine w_pl (pc' := 661) (lv' := [(0, (2, 700)), (1, (2, ((0 : Nat) : Int))), (2, (2, ((193 : Nat) : Int))), (3, (0, ((i : Nat) : Int)))]) (st' := [(1, (ρ 3)), (2, ((0 : Nat) : Int))]) (h' := h) (o0_346 hB) rfl ?_
  refine w_pl (pc' := 663) (lv' := [(0, (2, 700)), (1, (2, ((0 : Nat) : Int))), (2, (2, ((193 : Nat) : Int))), (3, (0, ((i : Nat) : Int)))]) (st' := [(0, ((32 : Nat) : Int)), (1, (ρ 3)), (2, ((0 : Nat) : Int))]) (h' := h) (o0_347 hB) rfl ?_
  refine w_lshl (z := (shlL (ρ 3) ((32 : Nat) : Int))) (pc' := 664) (o0_348 hB) rfl rfl ?_
  refine w_pl (pc' := 665) (lv' := [(0, (2, 700)), (1, (2, ((0 : Nat) : Int))), (2, (2, ((193 : Nat) : Int))), (3, (0, ((i : Nat) : Int)))]) (st' := [(2, 700), (1, (shlL (ρ 3) ((32 : Nat) : Int))), (2, ((0 : Nat) : Int))]) (h' := h) (o0_349 hB) rfl ?_
  refine w_pl (pc' := 666) (lv' := [(0, (2, 700)), (1, (2, ((0 : Nat) : Int))), (2, (2, ((193 : Nat) : Int))), (3, (0, ((i : Nat) : Int)))]) (st' := [(0, ((i : Nat) : Int)), (2, 700), (1, (shlL (ρ 3) ((32 : Nat) : Int))), (2, ((0 : Nat) : Int))]) (h' := h) (o0_350 hB) rfl ?_
  refine w_pl (pc' := 667) (lv' := [(0, (2, 700)), (1, (2, ((0 : Nat) : Int))), (2, (2, ((193 : Nat) : Int))), (3, (0, ((i : Nat) : Int)))]) (st' := [(0, ((2 : Nat) : Int)), (0, ((i : Nat) : Int)), (2, 700), (1, (shlL (ρ 3) ((32 : Nat) : Int))), (2, ((0 : Nat) : Int))]) (h' := h) (o0_351 hB) rfl ?_
  refine w_iadd (z := (((i + 2) : Nat) : Int)) (pc' := 668) (o0_352 hB) rfl (w32_e (by omega) (by omega)) ?_
  refine w_scr (z := (ρ 4)) (pc' := 669) (o0_353 hB) rfl (by omega) v2 ?_
  refine w_pl (pc' := 670) (lv' := [(0, (2, 700)), (1, (2, ((0 : Nat) : Int))), (2, (2, ((193 : Nat) : Int))), (3, (0, ((i : Nat) : Int)))]) (st' := [(1, (ρ 4)), (1, (shlL (ρ 3) ((32 : Nat) : Int))), (2, ((0 : Nat) : Int))]) (h' := h) (o0_354 hB) rfl ?_
  refine w_pl (pc' := 673) (lv' := [(0, (2, 700)), (1, (2, ((0 : Nat) : Int))), (2, (2, ((193 : Nat) : Int))), (3, (0, ((i : Nat) : Int)))]) (st' := [(1, ((4294967295 : Nat) : Int)), (1, (ρ 4)), (1, (shlL (ρ 3) ((32 : Nat) : Int))), (2, ((0 : Nat) : Int))]) (h' := h) (o0_355 hB) rfl ?_
  refine w_land (z := (andL (ρ 4) ((4294967295 : Nat) : Int))) (pc' := 674) (o0_356 hB) rfl rfl ?_
  refine w_lor (z := (orL (shlL (ρ 3) ((32 : Nat) : Int)) (andL (ρ 4) ((4294967295 : Nat) : Int)))) (pc' := 675) (o0_357 hB) rfl rfl ?_
  refine w_pl (pc' := 676) (lv' := [(0, (2, 700)), (1, (2, ((0 : Nat) : Int))), (2, (2, ((193 : Nat) : Int))), (3, (0, ((i : Nat) : Int)))]) (st' := [(2, 700), (1, (orL (shlL (ρ 3) ((32 : Nat) : Int)) (andL (ρ 4) ((4294967295 : Nat) : Int)))), (2, ((0 : Nat) : Int))]) (h' := h) (o0_358 hB) rfl ?_
  refine w_pl (pc' := 677) (lv' := [(0, (2, 700)), (1, (2, ((0 : Nat) : Int))), (2, (2, ((193 : Nat) : Int))), (3, (0, ((i : Nat) : Int)))]) (st' := [(0, ((i : Nat) : Int)), (2, 700), (1, (orL (shlL (ρ 3) ((32 : Nat) : Int)) (andL (ρ 4) ((4294967295 : Nat) : Int)))), (2, ((0 : Nat) : Int))]) (h' := h) (o0_359 hB) rfl ?_
  refine w_pl (pc' := 678) (lv' := [(0, (2, 700)), (1, (2, ((0 : Nat) : Int))), (2, (2, ((193 : Nat) : Int))), (3, (0, ((i : Nat) : Int)))]) (st' := [(0, ((3 : Nat) : Int)), (0, ((i : Nat) : Int)), (2, 700), (1, (orL (shlL (ρ 3) ((32 : Nat) : Int)) (andL (ρ 4) ((4294967295 : Nat) : Int)))), (2, ((0 : Nat) : Int))]) (h' := h) (o0_360 hB) rfl ?_
  refine w_iadd (z := (((i + 3) : Nat) : Int)) (pc' := 679) (o0_361 hB) rfl (w32_e (by omega) (by omega)) ?_
  refine w_scr (z := (ρ 5)) (pc' := 680) (o0_362 hB) rfl (by omega) v3 ?_
  refine w_callV (A := 0) (as := [(1, (orL (shlL (ρ 3) ((32 : Nat) : Int)) (andL (ρ 4) ((4294967295 : Nat) : Int)))), (0, (ρ 5))]) (rest := []) (n := 2) (pc' := 683) 10 hB (o0_363 hB) rfl (by decide +kernel) rfl rfl (Nat.le_of_ble_eq_true rfl) (m_feedB hB ht (by unfold in32; omega) (fun r1 H1 i1 q1 t1 f1 => ?_))
  show HW g l _ 0 _ _ 683 [(0, (2, 700)), (1, (2, ((0 : Nat) : Int))), (2, (2, ((193 : Nat) : Int))), (3, (0, ((i : Nat) : Int)))] [(0, (r1))] H1
  have hR1 := t1.r
  refine w_pl (pc' := 684) (lv' := [(0, (2, 700)), (1, (2, ((0 : Nat) : Int))), (2, (2, ((193 : Nat) : Int))), (3, (0, ((i : Nat) : Int)))]) (st' := []) (h' := H1) (o0_364 hB) rfl ?_
  refine w_pl (pc' := 685) (lv' := [(0, (2, 700)), (1, (2, ((0 : Nat) : Int))), (2, (2, ((193 : Nat) : Int))), (3, (0, ((i : Nat) : Int)))]) (st' := [(2, ((193 : Nat) : Int))]) (h' := H1) (o0_365 hB) rfl ?_
  refine w_pl (pc' := 686) (lv' := [(0, (2, 700)), (1, (2, ((0 : Nat) : Int))), (2, (2, ((193 : Nat) : Int))), (3, (0, ((i : Nat) : Int)))]) (st' := [(2, 700), (2, ((193 : Nat) : Int))]) (h' := H1) (o0_366 hB) rfl ?_
  refine w_pl (pc' := 687) (lv' := [(0, (2, 700)), (1, (2, ((0 : Nat) : Int))), (2, (2, ((193 : Nat) : Int))), (3, (0, ((i : Nat) : Int)))]) (st' := [(0, ((i : Nat) : Int)), (2, 700), (2, ((193 : Nat) : Int))]) (h' := H1) (o0_367 hB) rfl ?_
  refine w_pl (pc' := 688) (lv' := [(0, (2, 700)), (1, (2, ((0 : Nat) : Int))), (2, (2, ((193 : Nat) : Int))), (3, (0, ((i : Nat) : Int)))]) (st' := [(0, ((1 : Nat) : Int)), (0, ((i : Nat) : Int)), (2, 700), (2, ((193 : Nat) : Int))]) (h' := H1) (o0_368 hB) rfl ?_
  refine w_iadd (z := (((i + 1) : Nat) : Int)) (pc' := 689) (o0_369 hB) rfl (w32_e (by omega) (by omega)) ?_
  refine w_scr (z := (ρ 3)) (pc' := 690) (o0_370 hB) rfl (by omega) v1 ?_
  refine w_pl (pc' := 691) (lv' := [(0, (2, 700)), (1, (2, ((0 : Nat) : Int))), (2, (2, ((193 : Nat) : Int))), (3, (0, ((i : Nat) : Int)))]) (st' := [(1, (ρ 3)), (2, ((193 : Nat) : Int))]) (h' := H1) (o0_371 hB) rfl ?_
  refine w_pl (pc' := 693) (lv' := [(0, (2, 700)), (1, (2, ((0 : Nat) : Int))), (2, (2, ((193 : Nat) : Int))), (3, (0, ((i : Nat) : Int)))]) (st' := [(0, ((32 : Nat) : Int)), (1, (ρ 3)), (2, ((193 : Nat) : Int))]) (h' := H1) (o0_372 hB) rfl ?_
  refine w_lshl (z := (shlL (ρ 3) ((32 : Nat) : Int))) (pc' := 694) (o0_373 hB) rfl rfl ?_
  refine w_pl (pc' := 695) (lv' := [(0, (2, 700)), (1, (2, ((0 : Nat) : Int))), (2, (2, ((193 : Nat) : Int))), (3, (0, ((i : Nat) : Int)))]) (st' := [(2, 700), (1, (shlL (ρ 3) ((32 : Nat) : Int))), (2, ((193 : Nat) : Int))]) (h' := H1) (o0_374 hB) rfl ?_
  refine w_pl (pc' := 696) (lv' := [(0, (2, 700)), (1, (2, ((0 : Nat) : Int))), (2, (2, ((193 : Nat) : Int))), (3, (0, ((i : Nat) : Int)))]) (st' := [(0, ((i : Nat) : Int)), (2, 700), (1, (shlL (ρ 3) ((32 : Nat) : Int))), (2, ((193 : Nat) : Int))]) (h' := H1) (o0_375 hB) rfl ?_
  refine w_pl (pc' := 697) (lv' := [(0, (2, 700)), (1, (2, ((0 : Nat) : Int))), (2, (2, ((193 : Nat) : Int))), (3, (0, ((i : Nat) : Int)))]) (st' := [(0, ((2 : Nat) : Int)), (0, ((i : Nat) : Int)), (2, 700), (1, (shlL (ρ 3) ((32 : Nat) : Int))), (2, ((193 : Nat) : Int))]) (h' := H1) (o0_376 hB) rfl ?_
  refine w_iadd (z := (((i + 2) : Nat) : Int)) (pc' := 698) (o0_377 hB) rfl (w32_e (by omega) (by omega)) ?_
  refine w_scr (z := (ρ 4)) (pc' := 699) (o0_378 hB) rfl (by omega) v2 ?_
  refine w_pl (pc' := 700) (lv' := [(0, (2, 700)), (1, (2, ((0 : Nat) : Int))), (2, (2, ((193 : Nat) : Int))), (3, (0, ((i : Nat) : Int)))]) (st' := [(1, (ρ 4)), (1, (shlL (ρ 3) ((32 : Nat) : Int))), (2, ((193 : Nat) : Int))]) (h' := H1) (o0_379 hB) rfl ?_
  refine w_pl (pc' := 703) (lv' := [(0, (2, 700)), (1, (2, ((0 : Nat) : Int))), (2, (2, ((193 : Nat) : Int))), (3, (0, ((i : Nat) : Int)))]) (st' := [(1, ((4294967295 : Nat) : Int)), (1, (ρ 4)), (1, (shlL (ρ 3) ((32 : Nat) : Int))), (2, ((193 : Nat) : Int))]) (h' := H1) (o0_380 hB) rfl ?_
  refine w_land (z := (andL (ρ 4) ((4294967295 : Nat) : Int))) (pc' := 704) (o0_381 hB) rfl rfl ?_
  refine w_lor (z := (orL (shlL (ρ 3) ((32 : Nat) : Int)) (andL (ρ 4) ((4294967295 : Nat) : Int)))) (pc' := 705) (o0_382 hB) rfl rfl ?_
  refine w_pl (pc' := 706) (lv' := [(0, (2, 700)), (1, (2, ((0 : Nat) : Int))), (2, (2, ((193 : Nat) : Int))), (3, (0, ((i : Nat) : Int)))]) (st' := [(2, 700), (1, (orL (shlL (ρ 3) ((32 : Nat) : Int)) (andL (ρ 4) ((4294967295 : Nat) : Int)))), (2, ((193 : Nat) : Int))]) (h' := H1) (o0_383 hB) rfl ?_
  refine w_pl (pc' := 707) (lv' := [(0, (2, 700)), (1, (2, ((0 : Nat) : Int))), (2, (2, ((193 : Nat) : Int))), (3, (0, ((i : Nat) : Int)))]) (st' := [(0, ((i : Nat) : Int)), (2, 700), (1, (orL (shlL (ρ 3) ((32 : Nat) : Int)) (andL (ρ 4) ((4294967295 : Nat) : Int)))), (2, ((193 : Nat) : Int))]) (h' := H1) (o0_384 hB) rfl ?_
  refine w_pl (pc' := 708) (lv' := [(0, (2, 700)), (1, (2, ((0 : Nat) : Int))), (2, (2, ((193 : Nat) : Int))), (3, (0, ((i : Nat) : Int)))]) (st' := [(0, ((3 : Nat) : Int)), (0, ((i : Nat) : Int)), (2, 700), (1, (orL (shlL (ρ 3) ((32 : Nat) : Int)) (andL (ρ 4) ((4294967295 : Nat) : Int)))), (2, ((193 : Nat) : Int))]) (h' := H1) (o0_385 hB) rfl ?_
  refine w_iadd (z := (((i + 3) : Nat) : Int)) (pc' := 709) (o0_386 hB) rfl (w32_e (by omega) (by omega)) ?_
  refine w_scr (z := (ρ 5)) (pc' := 710) (o0_387 hB) rfl (by omega) v3 ?_
  refine w_callV (A := 193) (as := [(1, (orL (shlL (ρ 3) ((32 : Nat) : Int)) (andL (ρ 4) ((4294967295 : Nat) : Int)))), (0, (ρ 5))]) (rest := []) (n := 2) (pc' := 713) 11 hB (o0_388 hB) rfl (by decide +kernel) rfl rfl (Nat.le_of_ble_eq_true rfl) (m_feedM hB t1 (by unfold in32; omega) (fun r2 H2 i2 q2 t2 f2 => ?_))
  show HW g l _ 0 _ _ 713 [(0, (2, 700)), (1, (2, ((0 : Nat) : Int))), (2, (2, ((193 : Nat) : Int))), (3, (0, ((i : Nat) : Int)))] [(0, (r2))] H2
  have hR2 := t2.r
  refine w_pl (pc' := 714) (lv' := [(0, (2, 700)), (1, (2, ((0 : Nat) : Int))), (2, (2, ((193 : Nat) : Int))), (3, (0, ((i : Nat) : Int)))]) (st' := []) (h' := H2) (o0_389 hB) rfl ?_
  refine w_sub (lv' := [(0, (2, 700)), (1, (2, ((0 : Nat) : Int))), (2, (2, ((193 : Nat) : Int))), (3, (0, ((i : Nat) : Int)))]) (List.forall_mem_cons.mpr ⟨(List.Mem.head _), (List.forall_mem_cons.mpr ⟨(List.Mem.tail _ (List.Mem.head _)), (List.forall_mem_cons.mpr ⟨(List.Mem.tail _ (List.Mem.tail _ (List.Mem.head _))), (List.forall_mem_cons.mpr ⟨(List.Mem.tail _ (List.Mem.tail _ (List.Mem.tail _ (List.Mem.head _)))), (fun _ hx => by cases hx)⟩)⟩)⟩)⟩) ?_
  have f12 : ∀ a j, wrF (some wFd) a j = false → H2 a j = h a j := fun a j e_ => (f2 a j (wsub_f (l' := wFd) (by decide) e_)).trans (f1 a j (wsub_f (l' := wFd) (by decide) e_))
  have iH := lw_re q e_d12 f12 t2
  obtain ⟨g0, gr, gb⟩ : gc_tape.1 h := hr.2.2 gc_tape (List.Mem.head _)
  have p_tape : gc_tape.1 H2 := FDe_2 g0 gr gb q1 (f1 193 4 (by decide)) (fun k => f1 196 k (wr_nn (by decide))) q2 (f2 169 0 (by decide)) (fun k => f2 170 k (wr_nn (by decide)))
  have hr2 : RR PS GS H2 := RR_op (w := wFd) PS_ok GS_ok f12 (by decide +kernel) (List.forall_mem_cons.mpr ⟨⟨by decide +kernel, Or.inl (by decide +kernel)⟩, (List.forall_mem_cons.mpr ⟨⟨by decide +kernel, Or.inl (by decide +kernel)⟩, (fun _ hc => by cases hc)⟩)⟩) (List.forall_mem_cons.mpr ⟨Or.inr p_tape, (fun _ hc => by cases hc)⟩) hr
  have w := wk_ok (ρ0 := ρ) (Q := Q) hB.1 hB.2 (fun z hz => by cases hz) e_l12 (fun H5 hH5 ρ5 h5 i5 x5 => by
      cases List.mem_singleton.mp hH5
      have e5 : h5 = H2 := funext fun a => funext fun j => i5.1.2.2.2.2.1 a j rfl
      subst e5
      exact hk ρ5 _ (aIn_no i5) x5 hr2) (fun p hp => by cases hp) (aIn_re (w' := some []) iH) (fun _ _ => rfl)
  rw [lw_conc ei] at w
  exact w
