theorem wt1200 : wt 1200 = (.code yX11_order cX11_order 6 (some .int) : Cond) := rfl
theorem wt1201 : wt 1201 = (.constantLong RX11 445 (9999) : Cond) := rfl
theorem wt1202 : wt 1202 = (.methodLink RL 124 yX10_serves : Cond) := rfl
theorem wt1203 : wt 1203 = (.instanceMethod yX10_serves : Cond) := rfl
theorem wt1204 : wt 1204 = (.selects RX10 yX10_serves yX10_serves : Cond) := rfl
theorem wt1205 : wt 1205 = (.code yX10_serves cX10_serves 5 (some .int) : Cond) := rfl
theorem wt1206 : wt 1206 = (.methodLink RX10 266 yX5_leftFor : Cond) := rfl
theorem wt1207 : wt 1207 = (.instanceMethod yX5_leftFor : Cond) := rfl
theorem wt1208 : wt 1208 = (.selects RX5 yX5_leftFor yX5_leftFor : Cond) := rfl
theorem wt1209 : wt 1209 = (.code yX5_leftFor cX5_leftFor 8 (some .int) : Cond) := rfl
theorem wt1210 : wt 1210 = (.fieldLink RX5 78 "SnowMules$World" "orders" "LSnowMules$Table;" : Cond) := rfl
theorem wt1211 : wt 1211 = (.fieldLink RX5 92 "SnowMules$World" "jars" "LSnowMules$Table;" : Cond) := rfl
theorem wt1212 : wt 1212 = (.fieldLink RX5 95 "SnowMules$World" "now" "I" : Cond) := rfl
theorem wt1213 : wt 1213 = (.methodLink RX5 72 yX9_nodeOf : Cond) := rfl
theorem wt1214 : wt 1214 = (.methodLink RX5 88 yX5_aim : Cond) := rfl
theorem wt1215 : wt 1215 = (.methodLink RX5 98 yX7_begin : Cond) := rfl
theorem wt1216 : wt 1216 = (.methodLink RL 127 yX11_serves : Cond) := rfl
theorem wt1217 : wt 1217 = (.instanceMethod yX11_serves : Cond) := rfl
theorem wt1218 : wt 1218 = (.selects RX11 yX11_serves yX11_serves : Cond) := rfl
theorem wt1219 : wt 1219 = (.code yX11_serves cX11_serves 4 (some .int) : Cond) := rfl
theorem wt1220 : wt 1220 = (.methodLink RX11 447 yX11_servesBy : Cond) := rfl
theorem wt1221 : wt 1221 = (.instanceMethod yX11_servesBy : Cond) := rfl
theorem wt1222 : wt 1222 = (.selects RX11 yX11_servesBy yX11_servesBy : Cond) := rfl
theorem wt1223 : wt 1223 = (.code yX11_servesBy cX11_servesBy 5 (some .int) : Cond) := rfl
theorem wt1224 : wt 1224 = (.methodLink RL 128 yX10_all : Cond) := rfl
theorem wt1225 : wt 1225 = (.instanceMethod yX10_all : Cond) := rfl
theorem wt1226 : wt 1226 = (.selects RX10 yX10_all yX10_all : Cond) := rfl
theorem wt1227 : wt 1227 = (.code yX10_all cX10_all 6 (some .int) : Cond) := rfl
theorem wt1228 : wt 1228 = (.fieldLink RX10 279 "SnowMules$Market" "paid" "I" : Cond) := rfl
theorem wt1229 : wt 1229 = (.methodLink RX10 270 yX3_open : Cond) := rfl
theorem wt1230 : wt 1230 = (.instanceMethod yX3_open : Cond) := rfl
theorem wt1231 : wt 1231 = (.selects RX3 yX3_open yX3_open : Cond) := rfl
theorem wt1232 : wt 1232 = (.code yX3_open cX3_open 2 none : Cond) := rfl
theorem wt1233 : wt 1233 = (.methodLink RX10 273 yX3_offer : Cond) := rfl
theorem wt1234 : wt 1234 = (.instanceMethod yX3_offer : Cond) := rfl
theorem wt1235 : wt 1235 = (.selects RX3 yX3_offer yX3_offer : Cond) := rfl
theorem wt1236 : wt 1236 = (.code yX3_offer cX3_offer 3 none : Cond) := rfl
theorem wt1237 : wt 1237 = (.methodLink RX10 276 yX3_choose : Cond) := rfl
theorem wt1238 : wt 1238 = (.instanceMethod yX3_choose : Cond) := rfl
theorem wt1239 : wt 1239 = (.selects RX3 yX3_choose yX3_choose : Cond) := rfl
theorem wt1240 : wt 1240 = (.code yX3_choose cX3_choose 5 none : Cond) := rfl
theorem wt1241 : wt 1241 = (.fieldLink RX3 38 "SnowMules$Market" "paid" "I" : Cond) := rfl
theorem wt1242 : wt 1242 = (.fieldLink RX3 22 "SnowMules$World" "orders" "LSnowMules$Table;" : Cond) := rfl
theorem wt1243 : wt 1243 = (.fieldLink RX3 42 "SnowMules$Table" "size" "I" : Cond) := rfl
theorem wt1244 : wt 1244 = (.methodLink RX3 34 yX3_greatest : Cond) := rfl
theorem wt1245 : wt 1245 = (.instanceMethod yX3_greatest : Cond) := rfl
theorem wt1246 : wt 1246 = (.selects RX3 yX3_greatest yX3_greatest : Cond) := rfl
theorem wt1247 : wt 1247 = (.code yX3_greatest cX3_greatest 7 (some .int) : Cond) := rfl
theorem wt1248 : wt 1248 = (.methodLink RX3 52 yX3_priceOf : Cond) := rfl
theorem wt1249 : wt 1249 = (.instanceMethod yX3_priceOf : Cond) := rfl
theorem wt1250 : wt 1250 = (.selects RX3 yX3_priceOf yX3_priceOf : Cond) := rfl
theorem wt1251 : wt 1251 = (.code yX3_priceOf cX3_priceOf 4 (some .int) : Cond) := rfl
theorem wt1252 : wt 1252 = (.methodLink RX3 49 yX6_get : Cond) := rfl
theorem wt1253 : wt 1253 = (.methodLink RX3 56 yX3_canServe : Cond) := rfl
theorem wt1254 : wt 1254 = (.instanceMethod yX3_canServe : Cond) := rfl
theorem wt1255 : wt 1255 = (.selects RX3 yX3_canServe yX3_canServe : Cond) := rfl
theorem wt1256 : wt 1256 = (.code yX3_canServe cX3_canServe 6 (some .boolean) : Cond) := rfl
theorem wt1257 : wt 1257 = (.methodLink RX3 60 yJ6_bitCount_0f7a4 : Cond) := rfl
theorem wt1258 : wt 1258 = (.static yJ6_bitCount_0f7a4 : Cond) := rfl
theorem wt1259 : wt 1259 = (.initialized RJ6 : Cond) := rfl
theorem wt1260 : wt 1260 = (.code yJ6_bitCount_0f7a4 cJ6_bitCount_0f7a4 1 (some .int) : Cond) := rfl
theorem wt1261 : wt 1261 = (.constant RJ6 265 (1431655765) : Cond) := rfl
theorem wt1262 : wt 1262 = (.constant RJ6 266 (858993459) : Cond) := rfl
theorem wt1263 : wt 1263 = (.constant RJ6 267 (252645135) : Cond) := rfl
theorem wt1264 : wt 1264 = (.methodLink RX3 45 yX3_firstJar : Cond) := rfl
theorem wt1265 : wt 1265 = (.instanceMethod yX3_firstJar : Cond) := rfl
theorem wt1266 : wt 1266 = (.selects RX3 yX3_firstJar yX3_firstJar : Cond) := rfl
theorem wt1267 : wt 1267 = (.code yX3_firstJar cX3_firstJar 8 (some .int) : Cond) := rfl
theorem wt1268 : wt 1268 = (.methodLink RX10 282 yX3_jarFor : Cond) := rfl
theorem wt1269 : wt 1269 = (.instanceMethod yX3_jarFor : Cond) := rfl
theorem wt1270 : wt 1270 = (.selects RX3 yX3_jarFor yX3_jarFor : Cond) := rfl
theorem wt1271 : wt 1271 = (.code yX3_jarFor cX3_jarFor 2 (some .int) : Cond) := rfl
theorem wt1272 : wt 1272 = (.methodLink RX3 28 yX6_has : Cond) := rfl
theorem wt1273 : wt 1273 = (.methodLink RL 131 yX11_all : Cond) := rfl
theorem wt1274 : wt 1274 = (.instanceMethod yX11_all : Cond) := rfl
theorem wt1275 : wt 1275 = (.selects RX11 yX11_all yX11_all : Cond) := rfl
theorem wt1276 : wt 1276 = (.code yX11_all cX11_all 10 (some .int) : Cond) := rfl
theorem wt1277 : wt 1277 = (.constantLong RX11 456 (6) : Cond) := rfl
theorem wt1278 : wt 1278 = (.methodLink RX11 458 yX11_priceFrom : Cond) := rfl
theorem wt1279 : wt 1279 = (.instanceMethod yX11_priceFrom : Cond) := rfl
theorem wt1280 : wt 1280 = (.selects RX11 yX11_priceFrom yX11_priceFrom : Cond) := rfl
theorem wt1281 : wt 1281 = (.code yX11_priceFrom cX11_priceFrom 7 (some .int) : Cond) := rfl
theorem wt1282 : wt 1282 = (.methodLink RX11 453 yX11_canServe : Cond) := rfl
theorem wt1283 : wt 1283 = (.instanceMethod yX11_canServe : Cond) := rfl
theorem wt1284 : wt 1284 = (.selects RX11 yX11_canServe yX11_canServe : Cond) := rfl
theorem wt1285 : wt 1285 = (.code yX11_canServe cX11_canServe 6 (some .boolean) : Cond) := rfl
theorem wt1286 : wt 1286 = (.methodLink RX11 450 yX11_bits : Cond) := rfl
theorem wt1287 : wt 1287 = (.static yX11_bits : Cond) := rfl
theorem wt1288 : wt 1288 = (.code yX11_bits cX11_bits 3 (some .int) : Cond) := rfl
theorem wt1289 : wt 1289 = (.methodLink RL 132 yX10_feast : Cond) := rfl
theorem wt1290 : wt 1290 = (.instanceMethod yX10_feast : Cond) := rfl
theorem wt1291 : wt 1291 = (.selects RX10 yX10_feast yX10_feast : Cond) := rfl
theorem wt1292 : wt 1292 = (.code yX10_feast cX10_feast 6 (some .int) : Cond) := rfl
theorem wt1293 : wt 1293 = (.fieldLink RX10 285 "SnowMules$World" "feasts" "LSnowMules$Table;" : Cond) := rfl
theorem wt1294 : wt 1294 = (.methodLink RL 135 yX11_feast : Cond) := rfl
theorem wt1295 : wt 1295 = (.instanceMethod yX11_feast : Cond) := rfl
theorem wt1296 : wt 1296 = (.selects RX11 yX11_feast yX11_feast : Cond) := rfl
theorem wt1297 : wt 1297 = (.code yX11_feast cX11_feast 5 (some .int) : Cond) := rfl
theorem wt1298 : wt 1298 = (.constantLong RX11 461 (4166) : Cond) := rfl
theorem wt1299 : wt 1299 = (.methodLink RL 136 yX10_enough : Cond) := rfl
theorem wt1300 : wt 1300 = (.instanceMethod yX10_enough : Cond) := rfl
theorem wt1301 : wt 1301 = (.selects RX10 yX10_enough yX10_enough : Cond) := rfl
theorem wt1302 : wt 1302 = (.code yX10_enough cX10_enough 5 (some .int) : Cond) := rfl
theorem wt1303 : wt 1303 = (.methodLink RX10 288 yX0_lasts : Cond) := rfl
theorem wt1304 : wt 1304 = (.instanceMethod yX0_lasts : Cond) := rfl
theorem wt1305 : wt 1305 = (.selects RX0 yX0_lasts yX0_lasts : Cond) := rfl
theorem wt1306 : wt 1306 = (.code yX0_lasts cX0_lasts 10 (some .boolean) : Cond) := rfl
theorem wt1307 : wt 1307 = (.methodLink RX0 122 yX0_owedAt : Cond) := rfl
theorem wt1308 : wt 1308 = (.instanceMethod yX0_owedAt : Cond) := rfl
theorem wt1309 : wt 1309 = (.selects RX0 yX0_owedAt yX0_owedAt : Cond) := rfl
theorem wt1310 : wt 1310 = (.code yX0_owedAt cX0_owedAt 7 (some .int) : Cond) := rfl
theorem wt1311 : wt 1311 = (.fieldLink RX0 130 "SnowMules$World" "feasts" "LSnowMules$Table;" : Cond) := rfl
theorem wt1312 : wt 1312 = (.methodLink RX0 126 yX0_eatenOn : Cond) := rfl
theorem wt1313 : wt 1313 = (.instanceMethod yX0_eatenOn : Cond) := rfl
theorem wt1314 : wt 1314 = (.selects RX0 yX0_eatenOn yX0_eatenOn : Cond) := rfl
theorem wt1315 : wt 1315 = (.code yX0_eatenOn cX0_eatenOn 6 (some .int) : Cond) := rfl
theorem wt1316 : wt 1316 = (.methodLink RL 139 yX11_enough : Cond) := rfl
theorem wt1317 : wt 1317 = (.instanceMethod yX11_enough : Cond) := rfl
theorem wt1318 : wt 1318 = (.selects RX11 yX11_enough yX11_enough : Cond) := rfl
theorem wt1319 : wt 1319 = (.code yX11_enough cX11_enough 4 (some .int) : Cond) := rfl
theorem wt1320 : wt 1320 = (.methodLink RX11 463 yX11_isEnough : Cond) := rfl
theorem wt1321 : wt 1321 = (.instanceMethod yX11_isEnough : Cond) := rfl
theorem wt1322 : wt 1322 = (.selects RX11 yX11_isEnough yX11_isEnough : Cond) := rfl
theorem wt1323 : wt 1323 = (.code yX11_isEnough cX11_isEnough 9 (some .boolean) : Cond) := rfl
theorem wt1324 : wt 1324 = (.methodLink RL 140 yX10_least : Cond) := rfl
theorem wt1325 : wt 1325 = (.instanceMethod yX10_least : Cond) := rfl
theorem wt1326 : wt 1326 = (.selects RX10 yX10_least yX10_least : Cond) := rfl
theorem wt1327 : wt 1327 = (.code yX10_least cX10_least 5 (some .int) : Cond) := rfl
theorem wt1328 : wt 1328 = (.methodLink RL 143 yX11_least : Cond) := rfl
theorem wt1329 : wt 1329 = (.instanceMethod yX11_least : Cond) := rfl
theorem wt1330 : wt 1330 = (.selects RX11 yX11_least yX11_least : Cond) := rfl
theorem wt1331 : wt 1331 = (.code yX11_least cX11_least 4 (some .int) : Cond) := rfl
theorem wt1332 : wt 1332 = (.constant RX11 466 (100000) : Cond) := rfl
theorem wt1333 : wt 1333 = (.methodLink RL 144 yX10_nights : Cond) := rfl
theorem wt1334 : wt 1334 = (.instanceMethod yX10_nights : Cond) := rfl
theorem wt1335 : wt 1335 = (.selects RX10 yX10_nights yX10_nights : Cond) := rfl
theorem wt1336 : wt 1336 = (.code yX10_nights cX10_nights 14 (some .int) : Cond) := rfl
theorem wt1337 : wt 1337 = (.methodLink RX10 292 yX7_venture : Cond) := rfl
theorem wt1338 : wt 1338 = (.instanceMethod yX7_venture : Cond) := rfl
theorem wt1339 : wt 1339 = (.selects RX7 yX7_venture yX7_venture : Cond) := rfl
theorem wt1340 : wt 1340 = (.code yX7_venture cX7_venture 4 (some .int) : Cond) := rfl
theorem wt1341 : wt 1341 = (.methodLink RX7 109 yX9_draw : Cond) := rfl
theorem wt1342 : wt 1342 = (.methodLink RL 147 yX11_nights : Cond) := rfl
theorem wt1343 : wt 1343 = (.instanceMethod yX11_nights : Cond) := rfl
theorem wt1344 : wt 1344 = (.selects RX11 yX11_nights yX11_nights : Cond) := rfl
theorem wt1345 : wt 1345 = (.code yX11_nights cX11_nights 13 (some .int) : Cond) := rfl
theorem wt1346 : wt 1346 = (.constantLong RX11 467 (20) : Cond) := rfl
theorem wt1347 : wt 1347 = (.methodLink RL 148 yX10_price : Cond) := rfl
theorem wt1348 : wt 1348 = (.instanceMethod yX10_price : Cond) := rfl
theorem wt1349 : wt 1349 = (.selects RX10 yX10_price yX10_price : Cond) := rfl
theorem wt1350 : wt 1350 = (.code yX10_price cX10_price 9 (some .int) : Cond) := rfl
theorem wt1351 : wt 1351 = (.methodLink RL 151 yX11_price : Cond) := rfl
theorem wt1352 : wt 1352 = (.instanceMethod yX11_price : Cond) := rfl
theorem wt1353 : wt 1353 = (.selects RX11 yX11_price yX11_price : Cond) := rfl
theorem wt1354 : wt 1354 = (.code yX11_price cX11_price 8 (some .int) : Cond) := rfl
theorem wt1355 : wt 1355 = (.methodLink RL 152 yX10_ahead : Cond) := rfl
theorem wt1356 : wt 1356 = (.instanceMethod yX10_ahead : Cond) := rfl
theorem wt1357 : wt 1357 = (.selects RX10 yX10_ahead yX10_ahead : Cond) := rfl
theorem wt1358 : wt 1358 = (.code yX10_ahead cX10_ahead 6 (some .int) : Cond) := rfl
theorem wt1359 : wt 1359 = (.methodLink RX10 295 yX9_copyFrom : Cond) := rfl
theorem wt1360 : wt 1360 = (.instanceMethod yX9_copyFrom : Cond) := rfl
theorem wt1361 : wt 1361 = (.selects RX9 yX9_copyFrom yX9_copyFrom : Cond) := rfl
theorem wt1362 : wt 1362 = (.code yX9_copyFrom cX9_copyFrom 2 none : Cond) := rfl
theorem wt1363 : wt 1363 = (.fieldLink RX9 43 "SnowMules$World" "now" "I" : Cond) := rfl
theorem wt1364 : wt 1364 = (.methodLink RX9 39 yX6_copyFrom : Cond) := rfl
theorem wt1365 : wt 1365 = (.instanceMethod yX6_copyFrom : Cond) := rfl
theorem wt1366 : wt 1366 = (.selects RX6 yX6_copyFrom yX6_copyFrom : Cond) := rfl
theorem wt1367 : wt 1367 = (.code yX6_copyFrom cX6_copyFrom 2 none : Cond) := rfl
theorem wt1368 : wt 1368 = (.methodLink RX6 28 arraycopyName : Cond) := rfl
theorem wt1369 : wt 1369 = (.native arraycopyName : Cond) := rfl
theorem wt1370 : wt 1370 = (.static arraycopyName : Cond) := rfl
theorem wt1371 : wt 1371 = (.initialized "java/lang/System" : Cond) := rfl
theorem wt1372 : wt 1372 = (.methodLink RX10 298 yX9_dropsOfAll : Cond) := rfl
theorem wt1373 : wt 1373 = (.instanceMethod yX9_dropsOfAll : Cond) := rfl
theorem wt1374 : wt 1374 = (.selects RX9 yX9_dropsOfAll yX9_dropsOfAll : Cond) := rfl
theorem wt1375 : wt 1375 = (.code yX9_dropsOfAll cX9_dropsOfAll 3 (some .int) : Cond) := rfl
theorem wt1376 : wt 1376 = (.methodLink RX10 301 yX9_jarsThatAre : Cond) := rfl
theorem wt1377 : wt 1377 = (.instanceMethod yX9_jarsThatAre : Cond) := rfl
theorem wt1378 : wt 1378 = (.selects RX9 yX9_jarsThatAre yX9_jarsThatAre : Cond) := rfl
theorem wt1379 : wt 1379 = (.code yX9_jarsThatAre cX9_jarsThatAre 1 (some .int) : Cond) := rfl
theorem wt1380 : wt 1380 = (.methodLink RX9 79 yX9_jarsAt : Cond) := rfl
theorem wt1381 : wt 1381 = (.methodLink RL 155 yX11_ahead : Cond) := rfl
theorem wt1382 : wt 1382 = (.instanceMethod yX11_ahead : Cond) := rfl
theorem wt1383 : wt 1383 = (.selects RX11 yX11_ahead yX11_ahead : Cond) := rfl
theorem wt1384 : wt 1384 = (.code yX11_ahead cX11_ahead 7 (some .int) : Cond) := rfl
theorem wt1385 : wt 1385 = (.methodLink RL 156 yX10_count : Cond) := rfl
theorem wt1386 : wt 1386 = (.instanceMethod yX10_count : Cond) := rfl
theorem wt1387 : wt 1387 = (.selects RX10 yX10_count yX10_count : Cond) := rfl
theorem wt1388 : wt 1388 = (.code yX10_count cX10_count 2 (some .int) : Cond) := rfl
theorem wt1389 : wt 1389 = (.methodLink RL 159 yX11_count : Cond) := rfl
theorem wt1390 : wt 1390 = (.instanceMethod yX11_count : Cond) := rfl
theorem wt1391 : wt 1391 = (.selects RX11 yX11_count yX11_count : Cond) := rfl
theorem wt1392 : wt 1392 = (.code yX11_count cX11_count 2 (some .int) : Cond) := rfl
theorem wt1393 : wt 1393 = (.methodLink RL 160 yX10_image : Cond) := rfl
theorem wt1394 : wt 1394 = (.instanceMethod yX10_image : Cond) := rfl
theorem wt1395 : wt 1395 = (.selects RX10 yX10_image yX10_image : Cond) := rfl
theorem wt1396 : wt 1396 = (.code yX10_image cX10_image 2 (some .int) : Cond) := rfl
theorem wt1397 : wt 1397 = (.methodLink RL 163 yX11_image : Cond) := rfl
theorem wt1398 : wt 1398 = (.instanceMethod yX11_image : Cond) := rfl
theorem wt1399 : wt 1399 = (.selects RX11 yX11_image yX11_image : Cond) := rfl
theorem wt1400 : wt 1400 = (.code yX11_image cX11_image 3 (some .int) : Cond) := rfl
theorem wt1401 : wt 1401 = (.constantLong RX11 469 (3) : Cond) := rfl
theorem wt1402 : wt 1402 = (.methodLink RL 164 yX10_back : Cond) := rfl
theorem wt1403 : wt 1403 = (.instanceMethod yX10_back : Cond) := rfl
theorem wt1404 : wt 1404 = (.selects RX10 yX10_back yX10_back : Cond) := rfl
theorem wt1405 : wt 1405 = (.code yX10_back cX10_back 2 (some .int) : Cond) := rfl
theorem wt1406 : wt 1406 = (.methodLink RL 167 yX11_back : Cond) := rfl
theorem wt1407 : wt 1407 = (.instanceMethod yX11_back : Cond) := rfl
theorem wt1408 : wt 1408 = (.selects RX11 yX11_back yX11_back : Cond) := rfl
theorem wt1409 : wt 1409 = (.code yX11_back cX11_back 3 (some .int) : Cond) := rfl
theorem wt1410 : wt 1410 = (u_lay RX0 TX0 0 : Cond) := rfl
theorem wt1411 : wt 1411 = (u_lay RX1 TX1 0 : Cond) := rfl
theorem wt1412 : wt 1412 = (u_lay RX1 TX1 1 : Cond) := rfl
theorem wt1413 : wt 1413 = (u_lay RX1 TX1 2 : Cond) := rfl
theorem wt1414 : wt 1414 = (u_lay RX1 TX1 3 : Cond) := rfl
theorem wt1415 : wt 1415 = (u_lay RX1 TX1 4 : Cond) := rfl
theorem wt1416 : wt 1416 = (u_lay RX1 TX1 5 : Cond) := rfl
theorem wt1417 : wt 1417 = (u_lay RX1 TX1 6 : Cond) := rfl
theorem wt1418 : wt 1418 = (u_lay RX1 TX1 7 : Cond) := rfl
theorem wt1419 : wt 1419 = (u_lay RX1 TX1 8 : Cond) := rfl
theorem wt1420 : wt 1420 = (u_lay RX1 TX1 9 : Cond) := rfl
theorem wt1421 : wt 1421 = (u_lay RX1 TX1 10 : Cond) := rfl
theorem wt1422 : wt 1422 = (u_lay RX1 TX1 11 : Cond) := rfl
theorem wt1423 : wt 1423 = (u_lay RX1 TX1 12 : Cond) := rfl
theorem wt1424 : wt 1424 = (u_lay RX1 TX1 13 : Cond) := rfl
theorem wt1425 : wt 1425 = (u_lay RX1 TX1 14 : Cond) := rfl
theorem wt1426 : wt 1426 = (u_lay RX1 TX1 15 : Cond) := rfl
theorem wt1427 : wt 1427 = (u_lay RX1 TX1 16 : Cond) := rfl
theorem wt1428 : wt 1428 = (u_lay RX2 TX2 0 : Cond) := rfl
theorem wt1429 : wt 1429 = (u_lay RX2 TX2 1 : Cond) := rfl
theorem wt1430 : wt 1430 = (u_lay RX2 TX2 2 : Cond) := rfl
theorem wt1431 : wt 1431 = (u_lay RX2 TX2 3 : Cond) := rfl
theorem wt1432 : wt 1432 = (u_lay RX2 TX2 4 : Cond) := rfl
theorem wt1433 : wt 1433 = (u_lay RX2 TX2 5 : Cond) := rfl
theorem wt1434 : wt 1434 = (u_lay RX2 TX2 6 : Cond) := rfl
theorem wt1435 : wt 1435 = (u_lay RX2 TX2 7 : Cond) := rfl
theorem wt1436 : wt 1436 = (u_lay RX3 TX3 0 : Cond) := rfl
theorem wt1437 : wt 1437 = (u_lay RX3 TX3 1 : Cond) := rfl
theorem wt1438 : wt 1438 = (u_lay RX3 TX3 2 : Cond) := rfl
theorem wt1439 : wt 1439 = (u_lay RX3 TX3 3 : Cond) := rfl
theorem wt1440 : wt 1440 = (u_lay RX4 TX4 0 : Cond) := rfl
theorem wt1441 : wt 1441 = (u_lay RX4 TX4 1 : Cond) := rfl
theorem wt1442 : wt 1442 = (u_lay RX4 TX4 2 : Cond) := rfl
theorem wt1443 : wt 1443 = (u_lay RX4 TX4 3 : Cond) := rfl
theorem wt1444 : wt 1444 = (u_lay RX5 TX5 0 : Cond) := rfl
theorem wt1445 : wt 1445 = (u_lay RX5 TX5 1 : Cond) := rfl
theorem wt1446 : wt 1446 = (u_lay RX5 TX5 2 : Cond) := rfl
theorem wt1447 : wt 1447 = (u_lay RX5 TX5 3 : Cond) := rfl
theorem wt1448 : wt 1448 = (u_lay RX5 TX5 4 : Cond) := rfl
theorem wt1449 : wt 1449 = (u_lay RX5 TX5 5 : Cond) := rfl
theorem wt1450 : wt 1450 = (u_lay RX5 TX5 6 : Cond) := rfl
theorem wt1451 : wt 1451 = (u_lay RX5 TX5 7 : Cond) := rfl
theorem wt1452 : wt 1452 = (u_lay RX5 TX5 8 : Cond) := rfl
theorem wt1453 : wt 1453 = (u_lay RX5 TX5 9 : Cond) := rfl
theorem wt1454 : wt 1454 = (u_lay RX5 TX5 10 : Cond) := rfl
theorem wt1455 : wt 1455 = (u_lay RX5 TX5 11 : Cond) := rfl
theorem wt1456 : wt 1456 = (u_lay RX5 TX5 12 : Cond) := rfl
theorem wt1457 : wt 1457 = (u_lay RX6 TX6 0 : Cond) := rfl
theorem wt1458 : wt 1458 = (u_lay RX6 TX6 1 : Cond) := rfl
theorem wt1459 : wt 1459 = (u_lay RX6 TX6 2 : Cond) := rfl
theorem wt1460 : wt 1460 = (u_lay RX7 TX7 0 : Cond) := rfl
theorem wt1461 : wt 1461 = (u_lay RX7 TX7 1 : Cond) := rfl
theorem wt1462 : wt 1462 = (u_lay RX7 TX7 2 : Cond) := rfl
theorem wt1463 : wt 1463 = (u_lay RX7 TX7 3 : Cond) := rfl
theorem wt1464 : wt 1464 = (u_lay RX7 TX7 4 : Cond) := rfl
theorem wt1465 : wt 1465 = (u_lay RX7 TX7 5 : Cond) := rfl
theorem wt1466 : wt 1466 = (u_lay RX7 TX7 6 : Cond) := rfl
theorem wt1467 : wt 1467 = (u_lay RX7 TX7 7 : Cond) := rfl
theorem wt1468 : wt 1468 = (u_lay RX7 TX7 8 : Cond) := rfl
theorem wt1469 : wt 1469 = (u_lay RX8 TX8 0 : Cond) := rfl
theorem wt1470 : wt 1470 = (u_lay RX8 TX8 1 : Cond) := rfl
theorem wt1471 : wt 1471 = (u_lay RX8 TX8 2 : Cond) := rfl
theorem wt1472 : wt 1472 = (u_lay RX8 TX8 3 : Cond) := rfl
theorem wt1473 : wt 1473 = (u_lay RX8 TX8 4 : Cond) := rfl
theorem wt1474 : wt 1474 = (u_lay RX8 TX8 5 : Cond) := rfl
theorem wt1475 : wt 1475 = (u_lay RX8 TX8 6 : Cond) := rfl
theorem wt1476 : wt 1476 = (u_lay RX9 TX9 0 : Cond) := rfl
theorem wt1477 : wt 1477 = (u_lay RX9 TX9 1 : Cond) := rfl
theorem wt1478 : wt 1478 = (u_lay RX9 TX9 2 : Cond) := rfl
theorem wt1479 : wt 1479 = (u_lay RX9 TX9 3 : Cond) := rfl
theorem wt1480 : wt 1480 = (u_lay RX9 TX9 4 : Cond) := rfl
theorem wt1481 : wt 1481 = (u_lay RX9 TX9 5 : Cond) := rfl
theorem wt1482 : wt 1482 = (u_lay RX9 TX9 6 : Cond) := rfl
theorem wt1483 : wt 1483 = (u_lay RX9 TX9 7 : Cond) := rfl
theorem wt1484 : wt 1484 = (u_lay RX9 TX9 8 : Cond) := rfl
theorem wt1485 : wt 1485 = (u_lay RX9 TX9 9 : Cond) := rfl
theorem wt1486 : wt 1486 = (u_lay RX10 TX10 0 : Cond) := rfl
theorem wt1487 : wt 1487 = (u_lay RX10 TX10 1 : Cond) := rfl
theorem wt1488 : wt 1488 = (u_lay RX10 TX10 2 : Cond) := rfl
theorem wt1489 : wt 1489 = (u_lay RX10 TX10 3 : Cond) := rfl
theorem wt1490 : wt 1490 = (u_lay RX10 TX10 4 : Cond) := rfl
theorem wt1491 : wt 1491 = (u_lay RX10 TX10 5 : Cond) := rfl
theorem wt1492 : wt 1492 = (u_lay RX10 TX10 6 : Cond) := rfl
theorem wt1493 : wt 1493 = (u_lay RX10 TX10 7 : Cond) := rfl
theorem wt1494 : wt 1494 = (u_lay RX10 TX10 8 : Cond) := rfl
theorem wt1495 : wt 1495 = (u_lay RX10 TX10 9 : Cond) := rfl
theorem wt1496 : wt 1496 = (u_lay RX10 TX10 10 : Cond) := rfl
theorem wt1497 : wt 1497 = (u_lay RX10 TX10 11 : Cond) := rfl
theorem wt1498 : wt 1498 = (u_lay RX10 TX10 12 : Cond) := rfl
theorem wt1499 : wt 1499 = (u_lay RX11 TX11 0 : Cond) := rfl
theorem wt1500 : wt 1500 = (u_lay RX11 TX11 1 : Cond) := rfl
theorem wt1501 : wt 1501 = (u_lay RX11 TX11 2 : Cond) := rfl
theorem wt1502 : wt 1502 = (u_lay RX11 TX11 3 : Cond) := rfl
theorem wt1503 : wt 1503 = (u_lay RX11 TX11 4 : Cond) := rfl
theorem wt1504 : wt 1504 = (u_lay RX11 TX11 5 : Cond) := rfl
theorem wt1505 : wt 1505 = (u_lay RX11 TX11 6 : Cond) := rfl
theorem wt1506 : wt 1506 = (u_lay RX11 TX11 7 : Cond) := rfl
theorem wt1507 : wt 1507 = (u_lay RX11 TX11 8 : Cond) := rfl
theorem wt1508 : wt 1508 = (u_lay RX11 TX11 9 : Cond) := rfl
theorem wt1509 : wt 1509 = (u_lay RX11 TX11 10 : Cond) := rfl
theorem wt1510 : wt 1510 = (u_lay RX11 TX11 11 : Cond) := rfl
theorem wt1511 : wt 1511 = (u_lay RX11 TX11 12 : Cond) := rfl
theorem wt1512 : wt 1512 = (u_lay RX11 TX11 13 : Cond) := rfl
theorem wt1513 : wt 1513 = (u_lay RX11 TX11 14 : Cond) := rfl
theorem wt1514 : wt 1514 = (u_lay RX11 TX11 15 : Cond) := rfl
theorem wt1515 : wt 1515 = (u_lay RX11 TX11 16 : Cond) := rfl
theorem wt1516 : wt 1516 = (u_lay RX11 TX11 17 : Cond) := rfl
theorem wt1517 : wt 1517 = (u_lay RX11 TX11 18 : Cond) := rfl
theorem wt1518 : wt 1518 = (u_lay RX11 TX11 19 : Cond) := rfl
theorem wt1519 : wt 1519 = (u_lay RX11 TX11 20 : Cond) := rfl
theorem wt1520 : wt 1520 = (u_lay RX11 TX11 21 : Cond) := rfl
theorem wt1521 : wt 1521 = (u_lay RX11 TX11 22 : Cond) := rfl
theorem wt1522 : wt 1522 = (u_lay RX11 TX11 23 : Cond) := rfl
theorem wt1523 : wt 1523 = (u_lay RX11 TX11 24 : Cond) := rfl
theorem wt1524 : wt 1524 = (u_lay RX11 TX11 25 : Cond) := rfl
theorem wt1525 : wt 1525 = (u_lay RX11 TX11 26 : Cond) := rfl
theorem wt1526 : wt 1526 = (u_lay RX11 TX11 27 : Cond) := rfl
theorem wt1527 : wt 1527 = (u_lay RX11 TX11 28 : Cond) := rfl
theorem wt1528 : wt 1528 = (u_lay RX11 TX11 29 : Cond) := rfl
theorem wt1529 : wt 1529 = (u_lay RX11 TX11 30 : Cond) := rfl
theorem wt1530 : wt 1530 = (u_lay RX11 TX11 31 : Cond) := rfl
theorem wt1531 : wt 1531 = (u_lay RX11 TX11 32 : Cond) := rfl
theorem wt1532 : wt 1532 = (u_lay RX11 TX11 33 : Cond) := rfl
theorem wt1533 : wt 1533 = (u_lay RX11 TX11 34 : Cond) := rfl
theorem wt1534 : wt 1534 = (u_lay RX11 TX11 35 : Cond) := rfl
theorem wt1535 : wt 1535 = (u_lay RX11 TX11 36 : Cond) := rfl
theorem wt1536 : wt 1536 = (u_lay RX11 TX11 37 : Cond) := rfl
theorem wt1537 : wt 1537 = (u_lay RX11 TX11 38 : Cond) := rfl
theorem wt1538 : wt 1538 = (u_lay RX11 TX11 39 : Cond) := rfl
theorem wt1539 : wt 1539 = (u_lay RX11 TX11 40 : Cond) := rfl
theorem wt1540 : wt 1540 = (u_lay RX11 TX11 41 : Cond) := rfl
