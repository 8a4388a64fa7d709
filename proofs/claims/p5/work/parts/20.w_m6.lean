theorem tw_1123 : Cond.methodLink RX10 (14 : Nat) yX10_come ∈ gT := gT_t (List.mem_of_getElem? (i := 1123) (by decide +kernel)) (by decide +kernel)
theorem tw_1125 : Cond.instanceMethod yX10_come ∈ gT := gT_t (List.mem_of_getElem? (i := 1125) (by decide +kernel)) (by decide +kernel)
theorem tw_1127 : Cond.code yX10_come cX10_come 3 none ∈ gT := gT_t (List.mem_of_getElem? (i := 1127) (by decide +kernel)) (by decide +kernel)
theorem tw_1138 : Cond.fieldLink RX10 (7 : Nat) "WonderParcelsModel" "tape" "[I" ∈ gT := gT_t (List.mem_of_getElem? (i := 1138) (by decide +kernel)) (by decide +kernel)
theorem tw_1140 : Cond.fieldLink RX10 (18 : Nat) "WonderParcelsModel" "size" "I" ∈ gT := gT_t (List.mem_of_getElem? (i := 1140) (by decide +kernel)) (by decide +kernel)
theorem tw_1141 : Cond.fieldLink RX10 (27 : Nat) "WonderParcelsModel" "limit" "I" ∈ gT := gT_t (List.mem_of_getElem? (i := 1141) (by decide +kernel)) (by decide +kernel)
theorem tw_1142 : Cond.fieldLink RX10 (21 : Nat) "WonderParcelsModel" "to" "I" ∈ gT := gT_t (List.mem_of_getElem? (i := 1142) (by decide +kernel)) (by decide +kernel)
theorem tw_1143 : Cond.fieldLink RX10 (24 : Nat) "WonderParcelsModel" "from" "I" ∈ gT := gT_t (List.mem_of_getElem? (i := 1143) (by decide +kernel)) (by decide +kernel)
theorem tw_1144 : Cond.fieldLink RX10 (30 : Nat) "WonderParcelsModel" "kind" "I" ∈ gT := gT_t (List.mem_of_getElem? (i := 1144) (by decide +kernel)) (by decide +kernel)
theorem tw_1145 : Cond.fieldLink RX10 (47 : Nat) "WonderParcelsModel" "number" "I" ∈ gT := gT_t (List.mem_of_getElem? (i := 1145) (by decide +kernel)) (by decide +kernel)
theorem tw_1146 : Cond.fieldLink RX10 (40 : Nat) "WonderParcelsModel" "sign" "I" ∈ gT := gT_t (List.mem_of_getElem? (i := 1146) (by decide +kernel)) (by decide +kernel)
theorem tw_1148 : Cond.fieldLink RX10 (69 : Nat) "WonderParcelsModel" "place" "I" ∈ gT := gT_t (List.mem_of_getElem? (i := 1148) (by decide +kernel)) (by decide +kernel)
theorem tw_1149 : Cond.fieldLink RX10 (43 : Nat) "WonderParcelsModel" "word" "J" ∈ gT := gT_t (List.mem_of_getElem? (i := 1149) (by decide +kernel)) (by decide +kernel)
theorem tw_1150 : Cond.fieldLink RX10 (79 : Nat) "WonderParcelsModel" "told" "I" ∈ gT := gT_t (List.mem_of_getElem? (i := 1150) (by decide +kernel)) (by decide +kernel)
theorem tw_1152 : Cond.fieldLink RX10 (101 : Nat) "WonderParcelsModel" "read" "[I" ∈ gT := gT_t (List.mem_of_getElem? (i := 1152) (by decide +kernel)) (by decide +kernel)
theorem tw_1157 : Cond.fieldLink RX10 (116 : Nat) "WonderParcelsModel" "name" "[J" ∈ gT := gT_t (List.mem_of_getElem? (i := 1157) (by decide +kernel)) (by decide +kernel)
theorem tw_1158 : Cond.fieldLink RX10 (120 : Nat) "WonderParcelsModel" "readName" "[J" ∈ gT := gT_t (List.mem_of_getElem? (i := 1158) (by decide +kernel)) (by decide +kernel)
theorem tw_1161 : Cond.fieldLink RX10 (130 : Nat) "WonderParcelsModel" "onces" "[Z" ∈ gT := gT_t (List.mem_of_getElem? (i := 1161) (by decide +kernel)) (by decide +kernel)
theorem tw_1165 : Cond.fieldLink RX10 (139 : Nat) "WonderParcelsModel" "inSets" "[I" ∈ gT := gT_t (List.mem_of_getElem? (i := 1165) (by decide +kernel)) (by decide +kernel)
theorem tw_1176 : Cond.fieldLink RX10 (381 : Nat) "WonderParcelsModel" "seed" "I" ∈ gT := gT_t (List.mem_of_getElem? (i := 1176) (by decide +kernel)) (by decide +kernel)
theorem tw_1294 : Cond.methodLink RX10 (89 : Nat) yX10_take ∈ gT := gT_t (List.mem_of_getElem? (i := 1294) (by decide +kernel)) (by decide +kernel)
theorem tw_1296 : Cond.instanceMethod yX10_take ∈ gT := gT_t (List.mem_of_getElem? (i := 1296) (by decide +kernel)) (by decide +kernel)
theorem tw_1297 : Cond.code yX10_take cX10_take 2 (some .int) ∈ gT := gT_t (List.mem_of_getElem? (i := 1297) (by decide +kernel)) (by decide +kernel)
theorem tw_1298 : Cond.methodLink RX10 (82 : Nat) yX10_go ∈ gT := gT_t (List.mem_of_getElem? (i := 1298) (by decide +kernel)) (by decide +kernel)
theorem tw_1300 : Cond.instanceMethod yX10_go ∈ gT := gT_t (List.mem_of_getElem? (i := 1300) (by decide +kernel)) (by decide +kernel)
theorem tw_1301 : Cond.code yX10_go cX10_go 5 none ∈ gT := gT_t (List.mem_of_getElem? (i := 1301) (by decide +kernel)) (by decide +kernel)
theorem tw_1302 : Cond.methodLink RX10 (33 : Nat) yX10_isLetter ∈ gT := gT_t (List.mem_of_getElem? (i := 1302) (by decide +kernel)) (by decide +kernel)
theorem tw_1303 : Cond.static yX10_isLetter ∈ gT := gT_t (List.mem_of_getElem? (i := 1303) (by decide +kernel)) (by decide +kernel)
theorem tw_1304 : Cond.code yX10_isLetter cX10_isLetter 1 (some .boolean) ∈ gT := gT_t (List.mem_of_getElem? (i := 1304) (by decide +kernel)) (by decide +kernel)
theorem tw_1305 : Cond.methodLink RX10 (37 : Nat) yX10_isDigit ∈ gT := gT_t (List.mem_of_getElem? (i := 1305) (by decide +kernel)) (by decide +kernel)
theorem tw_1306 : Cond.static yX10_isDigit ∈ gT := gT_t (List.mem_of_getElem? (i := 1306) (by decide +kernel)) (by decide +kernel)
theorem tw_1307 : Cond.code yX10_isDigit cX10_isDigit 1 (some .boolean) ∈ gT := gT_t (List.mem_of_getElem? (i := 1307) (by decide +kernel)) (by decide +kernel)
theorem tw_1308 : Cond.methodLink RX10 (50 : Nat) yX10_tapeAt ∈ gT := gT_t (List.mem_of_getElem? (i := 1308) (by decide +kernel)) (by decide +kernel)
theorem tw_1310 : Cond.instanceMethod yX10_tapeAt ∈ gT := gT_t (List.mem_of_getElem? (i := 1310) (by decide +kernel)) (by decide +kernel)
theorem tw_1311 : Cond.code yX10_tapeAt cX10_tapeAt 2 (some .int) ∈ gT := gT_t (List.mem_of_getElem? (i := 1311) (by decide +kernel)) (by decide +kernel)
theorem tw_1312 : Cond.constantLong RX10 (54 : Nat) (27 : Int64) ∈ gT := gT_t (List.mem_of_getElem? (i := 1312) (by decide +kernel)) (by decide +kernel)
theorem tw_1313 : Cond.constantLong RX10 (56 : Nat) (96 : Int64) ∈ gT := gT_t (List.mem_of_getElem? (i := 1313) (by decide +kernel)) (by decide +kernel)
theorem tw_1318 : Cond.methodLink RX10 (206 : Nat) yX10_isWord ∈ gT := gT_t (List.mem_of_getElem? (i := 1318) (by decide +kernel)) (by decide +kernel)
theorem tw_1320 : Cond.instanceMethod yX10_isWord ∈ gT := gT_t (List.mem_of_getElem? (i := 1320) (by decide +kernel)) (by decide +kernel)
theorem tw_1321 : Cond.code yX10_isWord cX10_isWord 2 (some .boolean) ∈ gT := gT_t (List.mem_of_getElem? (i := 1321) (by decide +kernel)) (by decide +kernel)
theorem tw_1322 : Cond.methodLink RX10 (62 : Nat) yX10_wordOf ∈ gT := gT_t (List.mem_of_getElem? (i := 1322) (by decide +kernel)) (by decide +kernel)
theorem tw_1323 : Cond.static yX10_wordOf ∈ gT := gT_t (List.mem_of_getElem? (i := 1323) (by decide +kernel)) (by decide +kernel)
theorem tw_1324 : Cond.code yX10_wordOf cX10_wordOf 1 (some .long) ∈ gT := gT_t (List.mem_of_getElem? (i := 1324) (by decide +kernel)) (by decide +kernel)
theorem tw_1325 : Cond.methodLink RX10 (58 : Nat) yX10_spelt ∈ gT := gT_t (List.mem_of_getElem? (i := 1325) (by decide +kernel)) (by decide +kernel)
theorem tw_1326 : Cond.static yX10_spelt ∈ gT := gT_t (List.mem_of_getElem? (i := 1326) (by decide +kernel)) (by decide +kernel)
theorem tw_1327 : Cond.code yX10_spelt cX10_spelt 9 (some .long) ∈ gT := gT_t (List.mem_of_getElem? (i := 1327) (by decide +kernel)) (by decide +kernel)
theorem tw_1328 : Cond.methodLink RX10 (209 : Nat) yX10_readNewIdea ∈ gT := gT_t (List.mem_of_getElem? (i := 1328) (by decide +kernel)) (by decide +kernel)
theorem tw_1330 : Cond.instanceMethod yX10_readNewIdea ∈ gT := gT_t (List.mem_of_getElem? (i := 1330) (by decide +kernel)) (by decide +kernel)
theorem tw_1331 : Cond.code yX10_readNewIdea cX10_readNewIdea 2 (some .boolean) ∈ gT := gT_t (List.mem_of_getElem? (i := 1331) (by decide +kernel)) (by decide +kernel)
theorem tw_1332 : Cond.methodLink RX10 (187 : Nat) yX10_readFirst ∈ gT := gT_t (List.mem_of_getElem? (i := 1332) (by decide +kernel)) (by decide +kernel)
theorem tw_1334 : Cond.instanceMethod yX10_readFirst ∈ gT := gT_t (List.mem_of_getElem? (i := 1334) (by decide +kernel)) (by decide +kernel)
theorem tw_1335 : Cond.code yX10_readFirst cX10_readFirst 3 (some .boolean) ∈ gT := gT_t (List.mem_of_getElem? (i := 1335) (by decide +kernel)) (by decide +kernel)
theorem tw_1336 : Cond.methodLink RX10 (72 : Nat) yX10_bad ∈ gT := gT_t (List.mem_of_getElem? (i := 1336) (by decide +kernel)) (by decide +kernel)
theorem tw_1338 : Cond.instanceMethod yX10_bad ∈ gT := gT_t (List.mem_of_getElem? (i := 1338) (by decide +kernel)) (by decide +kernel)
theorem tw_1339 : Cond.code yX10_bad cX10_bad 2 (some .boolean) ∈ gT := gT_t (List.mem_of_getElem? (i := 1339) (by decide +kernel)) (by decide +kernel)
theorem tw_1340 : Cond.methodLink RX10 (190 : Nat) yX10_readNew ∈ gT := gT_t (List.mem_of_getElem? (i := 1340) (by decide +kernel)) (by decide +kernel)
theorem tw_1342 : Cond.instanceMethod yX10_readNew ∈ gT := gT_t (List.mem_of_getElem? (i := 1342) (by decide +kernel)) (by decide +kernel)
theorem tw_1343 : Cond.code yX10_readNew cX10_readNew 2 (some .boolean) ∈ gT := gT_t (List.mem_of_getElem? (i := 1343) (by decide +kernel)) (by decide +kernel)
theorem tw_1344 : Cond.methodLink RX10 (173 : Nat) yX10_isName ∈ gT := gT_t (List.mem_of_getElem? (i := 1344) (by decide +kernel)) (by decide +kernel)
theorem tw_1346 : Cond.instanceMethod yX10_isName ∈ gT := gT_t (List.mem_of_getElem? (i := 1346) (by decide +kernel)) (by decide +kernel)
theorem tw_1347 : Cond.code yX10_isName cX10_isName 2 (some .boolean) ∈ gT := gT_t (List.mem_of_getElem? (i := 1347) (by decide +kernel)) (by decide +kernel)
theorem tw_1348 : Cond.methodLink RX10 (177 : Nat) yX10_isTaken ∈ gT := gT_t (List.mem_of_getElem? (i := 1348) (by decide +kernel)) (by decide +kernel)
theorem tw_1350 : Cond.instanceMethod yX10_isTaken ∈ gT := gT_t (List.mem_of_getElem? (i := 1350) (by decide +kernel)) (by decide +kernel)
theorem tw_1351 : Cond.code yX10_isTaken cX10_isTaken 1 (some .boolean) ∈ gT := gT_t (List.mem_of_getElem? (i := 1351) (by decide +kernel)) (by decide +kernel)
theorem tw_1352 : Cond.methodLink RX10 (169 : Nat) yX10_findIn ∈ gT := gT_t (List.mem_of_getElem? (i := 1352) (by decide +kernel)) (by decide +kernel)
theorem tw_1353 : Cond.static yX10_findIn ∈ gT := gT_t (List.mem_of_getElem? (i := 1353) (by decide +kernel)) (by decide +kernel)
theorem tw_1354 : Cond.code yX10_findIn cX10_findIn 6 (some .int) ∈ gT := gT_t (List.mem_of_getElem? (i := 1354) (by decide +kernel)) (by decide +kernel)
theorem tw_1355 : Cond.methodLink RX10 (193 : Nat) yX10_readNumber ∈ gT := gT_t (List.mem_of_getElem? (i := 1355) (by decide +kernel)) (by decide +kernel)
theorem tw_1357 : Cond.instanceMethod yX10_readNumber ∈ gT := gT_t (List.mem_of_getElem? (i := 1357) (by decide +kernel)) (by decide +kernel)
theorem tw_1358 : Cond.code yX10_readNumber cX10_readNumber 3 (some .boolean) ∈ gT := gT_t (List.mem_of_getElem? (i := 1358) (by decide +kernel)) (by decide +kernel)
theorem tw_1362 : Cond.methodLink RX10 (196 : Nat) yX10_put ∈ gT := gT_t (List.mem_of_getElem? (i := 1362) (by decide +kernel)) (by decide +kernel)
theorem tw_1364 : Cond.instanceMethod yX10_put ∈ gT := gT_t (List.mem_of_getElem? (i := 1364) (by decide +kernel)) (by decide +kernel)
theorem tw_1365 : Cond.code yX10_put cX10_put 3 (some .boolean) ∈ gT := gT_t (List.mem_of_getElem? (i := 1365) (by decide +kernel)) (by decide +kernel)
theorem tw_1366 : Cond.methodLink RX10 (212 : Nat) yX10_readRoom ∈ gT := gT_t (List.mem_of_getElem? (i := 1366) (by decide +kernel)) (by decide +kernel)
theorem tw_1368 : Cond.instanceMethod yX10_readRoom ∈ gT := gT_t (List.mem_of_getElem? (i := 1368) (by decide +kernel)) (by decide +kernel)
theorem tw_1369 : Cond.code yX10_readRoom cX10_readRoom 1 (some .boolean) ∈ gT := gT_t (List.mem_of_getElem? (i := 1369) (by decide +kernel)) (by decide +kernel)
theorem tw_1370 : Cond.methodLink RX10 (215 : Nat) yX10_readParcel ∈ gT := gT_t (List.mem_of_getElem? (i := 1370) (by decide +kernel)) (by decide +kernel)
theorem tw_1372 : Cond.instanceMethod yX10_readParcel ∈ gT := gT_t (List.mem_of_getElem? (i := 1372) (by decide +kernel)) (by decide +kernel)
theorem tw_1373 : Cond.code yX10_readParcel cX10_readParcel 2 (some .boolean) ∈ gT := gT_t (List.mem_of_getElem? (i := 1373) (by decide +kernel)) (by decide +kernel)
theorem tw_1374 : Cond.methodLink RX10 (184 : Nat) yX10_readOne ∈ gT := gT_t (List.mem_of_getElem? (i := 1374) (by decide +kernel)) (by decide +kernel)
theorem tw_1376 : Cond.instanceMethod yX10_readOne ∈ gT := gT_t (List.mem_of_getElem? (i := 1376) (by decide +kernel)) (by decide +kernel)
theorem tw_1377 : Cond.code yX10_readOne cX10_readOne 3 (some .boolean) ∈ gT := gT_t (List.mem_of_getElem? (i := 1377) (by decide +kernel)) (by decide +kernel)
theorem tw_1378 : Cond.methodLink RX10 (180 : Nat) yX10_isOne ∈ gT := gT_t (List.mem_of_getElem? (i := 1378) (by decide +kernel)) (by decide +kernel)
theorem tw_1380 : Cond.instanceMethod yX10_isOne ∈ gT := gT_t (List.mem_of_getElem? (i := 1380) (by decide +kernel)) (by decide +kernel)
theorem tw_1381 : Cond.code yX10_isOne cX10_isOne 3 (some .boolean) ∈ gT := gT_t (List.mem_of_getElem? (i := 1381) (by decide +kernel)) (by decide +kernel)
theorem tw_1382 : Cond.methodLink RX10 (218 : Nat) yX10_readPerson ∈ gT := gT_t (List.mem_of_getElem? (i := 1382) (by decide +kernel)) (by decide +kernel)
theorem tw_1384 : Cond.instanceMethod yX10_readPerson ∈ gT := gT_t (List.mem_of_getElem? (i := 1384) (by decide +kernel)) (by decide +kernel)
theorem tw_1385 : Cond.code yX10_readPerson cX10_readPerson 2 (some .boolean) ∈ gT := gT_t (List.mem_of_getElem? (i := 1385) (by decide +kernel)) (by decide +kernel)
theorem tw_1386 : Cond.methodLink RX10 (200 : Nat) yX10_readIdea ∈ gT := gT_t (List.mem_of_getElem? (i := 1386) (by decide +kernel)) (by decide +kernel)
theorem tw_1388 : Cond.instanceMethod yX10_readIdea ∈ gT := gT_t (List.mem_of_getElem? (i := 1388) (by decide +kernel)) (by decide +kernel)
theorem tw_1389 : Cond.code yX10_readIdea cX10_readIdea 1 (some .boolean) ∈ gT := gT_t (List.mem_of_getElem? (i := 1389) (by decide +kernel)) (by decide +kernel)
theorem tw_1390 : Cond.methodLink RX10 (221 : Nat) yX10_readSits ∈ gT := gT_t (List.mem_of_getElem? (i := 1390) (by decide +kernel)) (by decide +kernel)
theorem tw_1392 : Cond.instanceMethod yX10_readSits ∈ gT := gT_t (List.mem_of_getElem? (i := 1392) (by decide +kernel)) (by decide +kernel)
theorem tw_1393 : Cond.code yX10_readSits cX10_readSits 2 (some .boolean) ∈ gT := gT_t (List.mem_of_getElem? (i := 1393) (by decide +kernel)) (by decide +kernel)
theorem tw_1394 : Cond.methodLink RX10 (224 : Nat) yX10_readHas ∈ gT := gT_t (List.mem_of_getElem? (i := 1394) (by decide +kernel)) (by decide +kernel)
theorem tw_1396 : Cond.instanceMethod yX10_readHas ∈ gT := gT_t (List.mem_of_getElem? (i := 1396) (by decide +kernel)) (by decide +kernel)
theorem tw_1397 : Cond.code yX10_readHas cX10_readHas 2 (some .boolean) ∈ gT := gT_t (List.mem_of_getElem? (i := 1397) (by decide +kernel)) (by decide +kernel)
theorem tw_1398 : Cond.methodLink RX10 (227 : Nat) yX10_readQuarrel ∈ gT := gT_t (List.mem_of_getElem? (i := 1398) (by decide +kernel)) (by decide +kernel)
theorem tw_1400 : Cond.instanceMethod yX10_readQuarrel ∈ gT := gT_t (List.mem_of_getElem? (i := 1400) (by decide +kernel)) (by decide +kernel)
theorem tw_1401 : Cond.code yX10_readQuarrel cX10_readQuarrel 2 (some .boolean) ∈ gT := gT_t (List.mem_of_getElem? (i := 1401) (by decide +kernel)) (by decide +kernel)
theorem tw_1405 : Cond.methodLink RX10 (230 : Nat) yX10_readOnce ∈ gT := gT_t (List.mem_of_getElem? (i := 1405) (by decide +kernel)) (by decide +kernel)
theorem tw_1407 : Cond.instanceMethod yX10_readOnce ∈ gT := gT_t (List.mem_of_getElem? (i := 1407) (by decide +kernel)) (by decide +kernel)
theorem tw_1408 : Cond.code yX10_readOnce cX10_readOnce 5 (some .boolean) ∈ gT := gT_t (List.mem_of_getElem? (i := 1408) (by decide +kernel)) (by decide +kernel)
theorem tw_1413 : Cond.methodLink RX10 (86 : Nat) yX10_isSign ∈ gT := gT_t (List.mem_of_getElem? (i := 1413) (by decide +kernel)) (by decide +kernel)
theorem tw_1415 : Cond.instanceMethod yX10_isSign ∈ gT := gT_t (List.mem_of_getElem? (i := 1415) (by decide +kernel)) (by decide +kernel)
theorem tw_1416 : Cond.code yX10_isSign cX10_isSign 2 (some .boolean) ∈ gT := gT_t (List.mem_of_getElem? (i := 1416) (by decide +kernel)) (by decide +kernel)
theorem tw_1603 : Cond.methodLink RX10 (340 : Nat) yX10_satSo ∈ gT := gT_t (List.mem_of_getElem? (i := 1603) (by decide +kernel)) (by decide +kernel)
theorem tw_1605 : Cond.instanceMethod yX10_satSo ∈ gT := gT_t (List.mem_of_getElem? (i := 1605) (by decide +kernel)) (by decide +kernel)
theorem tw_1606 : Cond.code yX10_satSo cX10_satSo 8 (some .boolean) ∈ gT := gT_t (List.mem_of_getElem? (i := 1606) (by decide +kernel)) (by decide +kernel)
theorem tw_1607 : Cond.methodLink RX10 (334 : Nat) yX10_hold ∈ gT := gT_t (List.mem_of_getElem? (i := 1607) (by decide +kernel)) (by decide +kernel)
theorem tw_1609 : Cond.instanceMethod yX10_hold ∈ gT := gT_t (List.mem_of_getElem? (i := 1609) (by decide +kernel)) (by decide +kernel)
theorem tw_1610 : Cond.code yX10_hold cX10_hold 2 none ∈ gT := gT_t (List.mem_of_getElem? (i := 1610) (by decide +kernel)) (by decide +kernel)
theorem tw_1611 : Cond.methodLink RX10 (337 : Nat) yX10_back ∈ gT := gT_t (List.mem_of_getElem? (i := 1611) (by decide +kernel)) (by decide +kernel)
theorem tw_1613 : Cond.instanceMethod yX10_back ∈ gT := gT_t (List.mem_of_getElem? (i := 1613) (by decide +kernel)) (by decide +kernel)
theorem tw_1614 : Cond.code yX10_back cX10_back 2 none ∈ gT := gT_t (List.mem_of_getElem? (i := 1614) (by decide +kernel)) (by decide +kernel)
theorem tw_1615 : Cond.methodLink RX10 (344 : Nat) yX10_size ∈ gT := gT_t (List.mem_of_getElem? (i := 1615) (by decide +kernel)) (by decide +kernel)
theorem tw_1616 : Cond.static yX10_size ∈ gT := gT_t (List.mem_of_getElem? (i := 1616) (by decide +kernel)) (by decide +kernel)
theorem tw_1617 : Cond.code yX10_size cX10_size 1 (some .int) ∈ gT := gT_t (List.mem_of_getElem? (i := 1617) (by decide +kernel)) (by decide +kernel)
theorem tw_1650 : Cond.methodLink RX10 (362 : Nat) yX10_resits ∈ gT := gT_t (List.mem_of_getElem? (i := 1650) (by decide +kernel)) (by decide +kernel)
theorem tw_1652 : Cond.instanceMethod yX10_resits ∈ gT := gT_t (List.mem_of_getElem? (i := 1652) (by decide +kernel)) (by decide +kernel)
theorem tw_1653 : Cond.code yX10_resits cX10_resits 7 (some .boolean) ∈ gT := gT_t (List.mem_of_getElem? (i := 1653) (by decide +kernel)) (by decide +kernel)
theorem tw_1654 : Cond.methodLink RX10 (359 : Nat) yX10_worthOf ∈ gT := gT_t (List.mem_of_getElem? (i := 1654) (by decide +kernel)) (by decide +kernel)
theorem tw_1656 : Cond.instanceMethod yX10_worthOf ∈ gT := gT_t (List.mem_of_getElem? (i := 1656) (by decide +kernel)) (by decide +kernel)
theorem tw_1657 : Cond.code yX10_worthOf cX10_worthOf 4 (some .int) ∈ gT := gT_t (List.mem_of_getElem? (i := 1657) (by decide +kernel)) (by decide +kernel)
theorem tw_1670 : Cond.methodLink RX10 (371 : Nat) yX10_writeWord ∈ gT := gT_t (List.mem_of_getElem? (i := 1670) (by decide +kernel)) (by decide +kernel)
theorem tw_1672 : Cond.instanceMethod yX10_writeWord ∈ gT := gT_t (List.mem_of_getElem? (i := 1672) (by decide +kernel)) (by decide +kernel)
theorem tw_1673 : Cond.code yX10_writeWord cX10_writeWord 3 none ∈ gT := gT_t (List.mem_of_getElem? (i := 1673) (by decide +kernel)) (by decide +kernel)
theorem tw_1674 : Cond.methodLink RX10 (375 : Nat) yX10_write ∈ gT := gT_t (List.mem_of_getElem? (i := 1674) (by decide +kernel)) (by decide +kernel)
theorem tw_1676 : Cond.instanceMethod yX10_write ∈ gT := gT_t (List.mem_of_getElem? (i := 1676) (by decide +kernel)) (by decide +kernel)
theorem tw_1677 : Cond.code yX10_write cX10_write 2 none ∈ gT := gT_t (List.mem_of_getElem? (i := 1677) (by decide +kernel)) (by decide +kernel)
theorem tw_1678 : Cond.methodLink RX10 (378 : Nat) yX10_writeNext ∈ gT := gT_t (List.mem_of_getElem? (i := 1678) (by decide +kernel)) (by decide +kernel)
theorem tw_1680 : Cond.instanceMethod yX10_writeNext ∈ gT := gT_t (List.mem_of_getElem? (i := 1680) (by decide +kernel)) (by decide +kernel)
theorem tw_1681 : Cond.code yX10_writeNext cX10_writeNext 3 none ∈ gT := gT_t (List.mem_of_getElem? (i := 1681) (by decide +kernel)) (by decide +kernel)
theorem tw_1690 : Cond.methodLink RX10 (391 : Nat) yX10_drawDays ∈ gT := gT_t (List.mem_of_getElem? (i := 1690) (by decide +kernel)) (by decide +kernel)
theorem tw_1692 : Cond.instanceMethod yX10_drawDays ∈ gT := gT_t (List.mem_of_getElem? (i := 1692) (by decide +kernel)) (by decide +kernel)
theorem tw_1693 : Cond.code yX10_drawDays cX10_drawDays 6 (some .int) ∈ gT := gT_t (List.mem_of_getElem? (i := 1693) (by decide +kernel)) (by decide +kernel)
theorem tw_1694 : Cond.methodLink RX10 (388 : Nat) yX10_drawsFor ∈ gT := gT_t (List.mem_of_getElem? (i := 1694) (by decide +kernel)) (by decide +kernel)
theorem tw_1696 : Cond.instanceMethod yX10_drawsFor ∈ gT := gT_t (List.mem_of_getElem? (i := 1696) (by decide +kernel)) (by decide +kernel)
theorem tw_1697 : Cond.code yX10_drawsFor cX10_drawsFor 3 none ∈ gT := gT_t (List.mem_of_getElem? (i := 1697) (by decide +kernel)) (by decide +kernel)
theorem tw_1698 : Cond.methodLink RX10 (385 : Nat) yX10_draw ∈ gT := gT_t (List.mem_of_getElem? (i := 1698) (by decide +kernel)) (by decide +kernel)
theorem tw_1700 : Cond.instanceMethod yX10_draw ∈ gT := gT_t (List.mem_of_getElem? (i := 1700) (by decide +kernel)) (by decide +kernel)
theorem tw_1701 : Cond.code yX10_draw cX10_draw 2 (some .int) ∈ gT := gT_t (List.mem_of_getElem? (i := 1701) (by decide +kernel)) (by decide +kernel)
theorem tw_1702 : Cond.constant RX10 (384 : Nat) (1103515245 : Int32) ∈ gT := gT_t (List.mem_of_getElem? (i := 1702) (by decide +kernel)) (by decide +kernel)
theorem tw_1723 : Cond.methodLink RX10 (394 : Nat) yX10_readNamed ∈ gT := gT_t (List.mem_of_getElem? (i := 1723) (by decide +kernel)) (by decide +kernel)
theorem tw_1725 : Cond.instanceMethod yX10_readNamed ∈ gT := gT_t (List.mem_of_getElem? (i := 1725) (by decide +kernel)) (by decide +kernel)
theorem tw_1726 : Cond.code yX10_readNamed cX10_readNamed 3 (some .boolean) ∈ gT := gT_t (List.mem_of_getElem? (i := 1726) (by decide +kernel)) (by decide +kernel)
theorem ts_37 : Cond.selects RX10 yX10_come yX10_come ∈ gT := gT_s (by decide +kernel) (by decide +kernel)
theorem ts_39 : Cond.selects RX10 yX10_take yX10_take ∈ gT := gT_s (by decide +kernel) (by decide +kernel)
theorem ts_40 : Cond.selects RX10 yX10_go yX10_go ∈ gT := gT_s (by decide +kernel) (by decide +kernel)
theorem ts_41 : Cond.selects RX10 yX10_tapeAt yX10_tapeAt ∈ gT := gT_s (by decide +kernel) (by decide +kernel)
theorem ts_43 : Cond.selects RX10 yX10_isWord yX10_isWord ∈ gT := gT_s (by decide +kernel) (by decide +kernel)
theorem ts_44 : Cond.selects RX10 yX10_readNewIdea yX10_readNewIdea ∈ gT := gT_s (by decide +kernel) (by decide +kernel)
theorem ts_45 : Cond.selects RX10 yX10_readFirst yX10_readFirst ∈ gT := gT_s (by decide +kernel) (by decide +kernel)
theorem ts_46 : Cond.selects RX10 yX10_bad yX10_bad ∈ gT := gT_s (by decide +kernel) (by decide +kernel)
theorem ts_47 : Cond.selects RX10 yX10_readNew yX10_readNew ∈ gT := gT_s (by decide +kernel) (by decide +kernel)
theorem ts_48 : Cond.selects RX10 yX10_isName yX10_isName ∈ gT := gT_s (by decide +kernel) (by decide +kernel)
theorem ts_49 : Cond.selects RX10 yX10_isTaken yX10_isTaken ∈ gT := gT_s (by decide +kernel) (by decide +kernel)
theorem ts_50 : Cond.selects RX10 yX10_readNumber yX10_readNumber ∈ gT := gT_s (by decide +kernel) (by decide +kernel)
theorem ts_51 : Cond.selects RX10 yX10_put yX10_put ∈ gT := gT_s (by decide +kernel) (by decide +kernel)
theorem ts_52 : Cond.selects RX10 yX10_readRoom yX10_readRoom ∈ gT := gT_s (by decide +kernel) (by decide +kernel)
theorem ts_53 : Cond.selects RX10 yX10_readParcel yX10_readParcel ∈ gT := gT_s (by decide +kernel) (by decide +kernel)
theorem ts_54 : Cond.selects RX10 yX10_readOne yX10_readOne ∈ gT := gT_s (by decide +kernel) (by decide +kernel)
theorem ts_55 : Cond.selects RX10 yX10_isOne yX10_isOne ∈ gT := gT_s (by decide +kernel) (by decide +kernel)
theorem ts_56 : Cond.selects RX10 yX10_readPerson yX10_readPerson ∈ gT := gT_s (by decide +kernel) (by decide +kernel)
theorem ts_57 : Cond.selects RX10 yX10_readIdea yX10_readIdea ∈ gT := gT_s (by decide +kernel) (by decide +kernel)
theorem ts_58 : Cond.selects RX10 yX10_readSits yX10_readSits ∈ gT := gT_s (by decide +kernel) (by decide +kernel)
theorem ts_59 : Cond.selects RX10 yX10_readHas yX10_readHas ∈ gT := gT_s (by decide +kernel) (by decide +kernel)
theorem ts_60 : Cond.selects RX10 yX10_readQuarrel yX10_readQuarrel ∈ gT := gT_s (by decide +kernel) (by decide +kernel)
theorem ts_61 : Cond.selects RX10 yX10_readOnce yX10_readOnce ∈ gT := gT_s (by decide +kernel) (by decide +kernel)
theorem ts_63 : Cond.selects RX10 yX10_isSign yX10_isSign ∈ gT := gT_s (by decide +kernel) (by decide +kernel)
theorem ts_90 : Cond.selects RX10 yX10_satSo yX10_satSo ∈ gT := gT_s (by decide +kernel) (by decide +kernel)
theorem ts_91 : Cond.selects RX10 yX10_hold yX10_hold ∈ gT := gT_s (by decide +kernel) (by decide +kernel)
theorem ts_92 : Cond.selects RX10 yX10_back yX10_back ∈ gT := gT_s (by decide +kernel) (by decide +kernel)
theorem ts_95 : Cond.selects RX10 yX10_resits yX10_resits ∈ gT := gT_s (by decide +kernel) (by decide +kernel)
theorem ts_96 : Cond.selects RX10 yX10_worthOf yX10_worthOf ∈ gT := gT_s (by decide +kernel) (by decide +kernel)
theorem ts_97 : Cond.selects RX10 yX10_writeWord yX10_writeWord ∈ gT := gT_s (by decide +kernel) (by decide +kernel)
theorem ts_98 : Cond.selects RX10 yX10_write yX10_write ∈ gT := gT_s (by decide +kernel) (by decide +kernel)
theorem ts_99 : Cond.selects RX10 yX10_writeNext yX10_writeNext ∈ gT := gT_s (by decide +kernel) (by decide +kernel)
theorem ts_100 : Cond.selects RX10 yX10_drawDays yX10_drawDays ∈ gT := gT_s (by decide +kernel) (by decide +kernel)
theorem ts_101 : Cond.selects RX10 yX10_drawsFor yX10_drawsFor ∈ gT := gT_s (by decide +kernel) (by decide +kernel)
theorem ts_102 : Cond.selects RX10 yX10_draw yX10_draw ∈ gT := gT_s (by decide +kernel) (by decide +kernel)
theorem ts_106 : Cond.selects RX10 yX10_readNamed yX10_readNamed ∈ gT := gT_s (by decide +kernel) (by decide +kernel)
theorem dX10_bad_0 : decode cX10_bad 0 = .ok (.aload_n 0, 1) := by decide +kernel
theorem dX10_bad_1 : decode cX10_bad 1 = .ok (.aload_n 0, 1) := by decide +kernel
theorem dX10_bad_2 : decode cX10_bad 2 = .ok (.getfield 30, 3) := by decide +kernel
theorem dX10_bad_5 : decode cX10_bad 5 = .ok (.iconst 1, 1) := by decide +kernel
theorem dX10_bad_6 : decode cX10_bad 6 = .ok (.if_icmp .ne 7, 3) := by decide +kernel
theorem dX10_bad_9 : decode cX10_bad 9 = .ok (.iconst 1, 1) := by decide +kernel
theorem dX10_bad_10 : decode cX10_bad 10 = .ok (.goto 4, 3) := by decide +kernel
theorem dX10_bad_13 : decode cX10_bad 13 = .ok (.iload_n 1, 1) := by decide +kernel
theorem dX10_bad_14 : decode cX10_bad 14 = .ok (.putfield 66, 3) := by decide +kernel
theorem dX10_bad_17 : decode cX10_bad 17 = .ok (.aload_n 0, 1) := by decide +kernel
theorem dX10_bad_18 : decode cX10_bad 18 = .ok (.aload_n 0, 1) := by decide +kernel
theorem dX10_bad_19 : decode cX10_bad 19 = .ok (.getfield 24, 3) := by decide +kernel
theorem dX10_bad_22 : decode cX10_bad 22 = .ok (.putfield 69, 3) := by decide +kernel
theorem dX10_bad_25 : decode cX10_bad 25 = .ok (.iconst 0, 1) := by decide +kernel
theorem dX10_bad_26 : decode cX10_bad 26 = .ok (.ireturn, 1) := by decide +kernel
theorem dX10_come_0 : decode cX10_come 0 = .ok (.bipush 24, 2) := by decide +kernel
theorem dX10_come_2 : decode cX10_come 2 = .ok (.istore_n 2, 1) := by decide +kernel
theorem dX10_come_3 : decode cX10_come 3 = .ok (.iload_n 2, 1) := by decide +kernel
theorem dX10_come_4 : decode cX10_come 4 = .ok (.ifCond .lt 35, 3) := by decide +kernel
theorem dX10_come_7 : decode cX10_come 7 = .ok (.aload_n 0, 1) := by decide +kernel
theorem dX10_come_8 : decode cX10_come 8 = .ok (.getfield 7, 3) := by decide +kernel
theorem dX10_come_11 : decode cX10_come 11 = .ok (.aload_n 0, 1) := by decide +kernel
theorem dX10_come_12 : decode cX10_come 12 = .ok (.getfield 11, 3) := by decide +kernel
theorem dX10_come_15 : decode cX10_come 15 = .ok (.iload_n 1, 1) := by decide +kernel
theorem dX10_come_16 : decode cX10_come 16 = .ok (.iload_n 2, 1) := by decide +kernel
theorem dX10_come_17 : decode cX10_come 17 = .ok (.iushr, 1) := by decide +kernel
theorem dX10_come_18 : decode cX10_come 18 = .ok (.sipush 255, 3) := by decide +kernel
theorem dX10_come_21 : decode cX10_come 21 = .ok (.iand, 1) := by decide +kernel
theorem dX10_come_22 : decode cX10_come 22 = .ok (.iastore, 1) := by decide +kernel
theorem dX10_come_23 : decode cX10_come 23 = .ok (.aload_n 0, 1) := by decide +kernel
theorem dX10_come_24 : decode cX10_come 24 = .ok (.dup, 1) := by decide +kernel
theorem dX10_come_25 : decode cX10_come 25 = .ok (.getfield 11, 3) := by decide +kernel
theorem dX10_come_28 : decode cX10_come 28 = .ok (.iconst 1, 1) := by decide +kernel
theorem dX10_come_29 : decode cX10_come 29 = .ok (.iadd, 1) := by decide +kernel
theorem dX10_come_30 : decode cX10_come 30 = .ok (.putfield 11, 3) := by decide +kernel
theorem dX10_come_33 : decode cX10_come 33 = .ok (.iinc 2 (-8), 3) := by decide +kernel
theorem dX10_come_36 : decode cX10_come 36 = .ok (.goto (-33), 3) := by decide +kernel
theorem dX10_come_39 : decode cX10_come 39 = .ok (.return_, 1) := by decide +kernel
theorem dX10_draw_0 : decode cX10_draw 0 = .ok (.aload_n 0, 1) := by decide +kernel
theorem dX10_draw_1 : decode cX10_draw 1 = .ok (.aload_n 0, 1) := by decide +kernel
theorem dX10_draw_2 : decode cX10_draw 2 = .ok (.getfield 381, 3) := by decide +kernel
theorem dX10_draw_5 : decode cX10_draw 5 = .ok (.ldc_w 384, 3) := by decide +kernel
theorem dX10_draw_8 : decode cX10_draw 8 = .ok (.imul, 1) := by decide +kernel
theorem dX10_draw_9 : decode cX10_draw 9 = .ok (.sipush 12345, 3) := by decide +kernel
theorem dX10_draw_12 : decode cX10_draw 12 = .ok (.iadd, 1) := by decide +kernel
theorem dX10_draw_13 : decode cX10_draw 13 = .ok (.putfield 381, 3) := by decide +kernel
theorem dX10_draw_16 : decode cX10_draw 16 = .ok (.aload_n 0, 1) := by decide +kernel
theorem dX10_draw_17 : decode cX10_draw 17 = .ok (.getfield 381, 3) := by decide +kernel
theorem dX10_draw_20 : decode cX10_draw 20 = .ok (.bipush 8, 2) := by decide +kernel
theorem dX10_draw_22 : decode cX10_draw 22 = .ok (.iushr, 1) := by decide +kernel
theorem dX10_draw_23 : decode cX10_draw 23 = .ok (.iload_n 1, 1) := by decide +kernel
theorem dX10_draw_24 : decode cX10_draw 24 = .ok (.irem, 1) := by decide +kernel
theorem dX10_draw_25 : decode cX10_draw 25 = .ok (.ireturn, 1) := by decide +kernel
theorem dX10_drawDays_0 : decode cX10_drawDays 0 = .ok (.aload_n 0, 1) := by decide +kernel
theorem dX10_drawDays_1 : decode cX10_drawDays 1 = .ok (.iload_n 2, 1) := by decide +kernel
theorem dX10_drawDays_2 : decode cX10_drawDays 2 = .ok (.putfield 381, 3) := by decide +kernel
theorem dX10_drawDays_5 : decode cX10_drawDays 5 = .ok (.iload_n 1, 1) := by decide +kernel
theorem dX10_drawDays_6 : decode cX10_drawDays 6 = .ok (.sipush 400, 3) := by decide +kernel
theorem dX10_drawDays_9 : decode cX10_drawDays 9 = .ok (.aload_n 0, 1) := by decide +kernel
theorem dX10_drawDays_10 : decode cX10_drawDays 10 = .ok (.getfield 98, 3) := by decide +kernel
theorem dX10_drawDays_13 : decode cX10_drawDays 13 = .ok (.bipush 84, 2) := by decide +kernel
theorem dX10_drawDays_15 : decode cX10_drawDays 15 = .ok (.iaload, 1) := by decide +kernel
theorem dX10_drawDays_16 : decode cX10_drawDays 16 = .ok (.isub, 1) := by decide +kernel
theorem dX10_drawDays_17 : decode cX10_drawDays 17 = .ok (.invokestatic 283, 3) := by decide +kernel
theorem dX10_drawDays_20 : decode cX10_drawDays 20 = .ok (.istore_n 3, 1) := by decide +kernel
theorem dX10_drawDays_21 : decode cX10_drawDays 21 = .ok (.iconst 0, 1) := by decide +kernel
theorem dX10_drawDays_22 : decode cX10_drawDays 22 = .ok (.istore 4, 2) := by decide +kernel
theorem dX10_drawDays_24 : decode cX10_drawDays 24 = .ok (.iload 4, 2) := by decide +kernel
theorem dX10_drawDays_26 : decode cX10_drawDays 26 = .ok (.iload_n 3, 1) := by decide +kernel
theorem dX10_drawDays_27 : decode cX10_drawDays 27 = .ok (.if_icmp .ge 39, 3) := by decide +kernel
theorem dX10_drawDays_30 : decode cX10_drawDays 30 = .ok (.iconst 0, 1) := by decide +kernel
theorem dX10_drawDays_31 : decode cX10_drawDays 31 = .ok (.istore 5, 2) := by decide +kernel
theorem dX10_drawDays_33 : decode cX10_drawDays 33 = .ok (.iload 5, 2) := by decide +kernel
theorem dX10_drawDays_35 : decode cX10_drawDays 35 = .ok (.aload_n 0, 1) := by decide +kernel
theorem dX10_drawDays_36 : decode cX10_drawDays 36 = .ok (.getfield 98, 3) := by decide +kernel
theorem dX10_drawDays_39 : decode cX10_drawDays 39 = .ok (.iconst 3, 1) := by decide +kernel
theorem dX10_drawDays_40 : decode cX10_drawDays 40 = .ok (.iaload, 1) := by decide +kernel
theorem dX10_drawDays_41 : decode cX10_drawDays 41 = .ok (.if_icmp .ge 15, 3) := by decide +kernel
theorem dX10_drawDays_44 : decode cX10_drawDays 44 = .ok (.aload_n 0, 1) := by decide +kernel
theorem dX10_drawDays_45 : decode cX10_drawDays 45 = .ok (.iload 5, 2) := by decide +kernel
theorem dX10_drawDays_47 : decode cX10_drawDays 47 = .ok (.invokevirtual 388, 3) := by decide +kernel
theorem dX10_drawDays_50 : decode cX10_drawDays 50 = .ok (.iinc 5 1, 3) := by decide +kernel
theorem dX10_drawDays_53 : decode cX10_drawDays 53 = .ok (.goto (-20), 3) := by decide +kernel
theorem dX10_drawDays_56 : decode cX10_drawDays 56 = .ok (.aload_n 0, 1) := by decide +kernel
theorem dX10_drawDays_57 : decode cX10_drawDays 57 = .ok (.invokevirtual 322, 3) := by decide +kernel
theorem dX10_drawDays_60 : decode cX10_drawDays 60 = .ok (.iinc 4 1, 3) := by decide +kernel
theorem dX10_drawDays_63 : decode cX10_drawDays 63 = .ok (.goto (-39), 3) := by decide +kernel
theorem dX10_drawDays_66 : decode cX10_drawDays 66 = .ok (.iload_n 3, 1) := by decide +kernel
theorem dX10_drawDays_67 : decode cX10_drawDays 67 = .ok (.ireturn, 1) := by decide +kernel
theorem dX10_drawn_0 : decode cX10_drawn 0 = .ok (.aload_n 0, 1) := by decide +kernel
theorem dX10_drawn_1 : decode cX10_drawn 1 = .ok (.iconst 0, 1) := by decide +kernel
theorem dX10_drawn_2 : decode cX10_drawn 2 = .ok (.putfield 1, 3) := by decide +kernel
theorem dX10_drawn_5 : decode cX10_drawn 5 = .ok (.iload_n 1, 1) := by decide +kernel
theorem dX10_drawn_6 : decode cX10_drawn 6 = .ok (.iconst 1, 1) := by decide +kernel
theorem dX10_drawn_7 : decode cX10_drawn 7 = .ok (.bipush 60, 2) := by decide +kernel
theorem dX10_drawn_9 : decode cX10_drawn 9 = .ok (.invokestatic 75, 3) := by decide +kernel
theorem dX10_drawn_12 : decode cX10_drawn 12 = .ok (.ifCond .eq 12, 3) := by decide +kernel
theorem dX10_drawn_15 : decode cX10_drawn 15 = .ok (.aload_n 0, 1) := by decide +kernel
theorem dX10_drawn_16 : decode cX10_drawn 16 = .ok (.getfield 98, 3) := by decide +kernel
theorem dX10_drawn_19 : decode cX10_drawn 19 = .ok (.iconst 3, 1) := by decide +kernel
theorem dX10_drawn_20 : decode cX10_drawn 20 = .ok (.iaload, 1) := by decide +kernel
theorem dX10_drawn_21 : decode cX10_drawn 21 = .ok (.ifCond .ne 5, 3) := by decide +kernel
theorem dX10_drawn_24 : decode cX10_drawn 24 = .ok (.iconst (-1), 1) := by decide +kernel
theorem dX10_drawn_25 : decode cX10_drawn 25 = .ok (.ireturn, 1) := by decide +kernel
theorem dX10_drawn_26 : decode cX10_drawn 26 = .ok (.aload_n 0, 1) := by decide +kernel
theorem dX10_drawn_27 : decode cX10_drawn 27 = .ok (.getfield 98, 3) := by decide +kernel
theorem dX10_drawn_30 : decode cX10_drawn 30 = .ok (.bipush 84, 2) := by decide +kernel
theorem dX10_drawn_32 : decode cX10_drawn 32 = .ok (.iaload, 1) := by decide +kernel
theorem dX10_drawn_33 : decode cX10_drawn 33 = .ok (.sipush 400, 3) := by decide +kernel
theorem dX10_drawn_36 : decode cX10_drawn 36 = .ok (.if_icmp .ne 5, 3) := by decide +kernel
theorem dX10_drawn_39 : decode cX10_drawn 39 = .ok (.iconst 0, 1) := by decide +kernel
theorem dX10_drawn_40 : decode cX10_drawn 40 = .ok (.ireturn, 1) := by decide +kernel
theorem dX10_drawn_41 : decode cX10_drawn 41 = .ok (.aload_n 0, 1) := by decide +kernel
theorem dX10_drawn_42 : decode cX10_drawn 42 = .ok (.invokevirtual 301, 3) := by decide +kernel
theorem dX10_drawn_45 : decode cX10_drawn 45 = .ok (.aload_n 0, 1) := by decide +kernel
theorem dX10_drawn_46 : decode cX10_drawn 46 = .ok (.iload_n 1, 1) := by decide +kernel
theorem dX10_drawn_47 : decode cX10_drawn 47 = .ok (.iload_n 2, 1) := by decide +kernel
theorem dX10_drawn_48 : decode cX10_drawn 48 = .ok (.invokevirtual 391, 3) := by decide +kernel
theorem dX10_drawn_51 : decode cX10_drawn 51 = .ok (.ireturn, 1) := by decide +kernel
theorem dX10_drawsFor_0 : decode cX10_drawsFor 0 = .ok (.aload_n 0, 1) := by decide +kernel
theorem dX10_drawsFor_1 : decode cX10_drawsFor 1 = .ok (.bipush 8, 2) := by decide +kernel
theorem dX10_drawsFor_3 : decode cX10_drawsFor 3 = .ok (.invokevirtual 385, 3) := by decide +kernel
theorem dX10_drawsFor_6 : decode cX10_drawsFor 6 = .ok (.istore_n 2, 1) := by decide +kernel
theorem dX10_drawsFor_7 : decode cX10_drawsFor 7 = .ok (.iload_n 2, 1) := by decide +kernel
theorem dX10_drawsFor_8 : decode cX10_drawsFor 8 = .ok (.ifCond .ne 13, 3) := by decide +kernel
theorem dX10_drawsFor_11 : decode cX10_drawsFor 11 = .ok (.aload_n 0, 1) := by decide +kernel
theorem dX10_drawsFor_12 : decode cX10_drawsFor 12 = .ok (.getfield 98, 3) := by decide +kernel
theorem dX10_drawsFor_15 : decode cX10_drawsFor 15 = .ok (.bipush 112, 2) := by decide +kernel
theorem dX10_drawsFor_17 : decode cX10_drawsFor 17 = .ok (.iload_n 1, 1) := by decide +kernel
theorem dX10_drawsFor_18 : decode cX10_drawsFor 18 = .ok (.iadd, 1) := by decide +kernel
theorem dX10_drawsFor_19 : decode cX10_drawsFor 19 = .ok (.iconst (-1), 1) := by decide +kernel
theorem dX10_drawsFor_20 : decode cX10_drawsFor 20 = .ok (.iastore, 1) := by decide +kernel
theorem dX10_drawsFor_21 : decode cX10_drawsFor 21 = .ok (.iload_n 2, 1) := by decide +kernel
theorem dX10_drawsFor_22 : decode cX10_drawsFor 22 = .ok (.iconst 1, 1) := by decide +kernel
theorem dX10_drawsFor_23 : decode cX10_drawsFor 23 = .ok (.if_icmp .ne 31, 3) := by decide +kernel
theorem dX10_drawsFor_26 : decode cX10_drawsFor 26 = .ok (.aload_n 0, 1) := by decide +kernel
theorem dX10_drawsFor_27 : decode cX10_drawsFor 27 = .ok (.getfield 98, 3) := by decide +kernel
theorem dX10_drawsFor_30 : decode cX10_drawsFor 30 = .ok (.iconst 2, 1) := by decide +kernel
theorem dX10_drawsFor_31 : decode cX10_drawsFor 31 = .ok (.iaload, 1) := by decide +kernel
theorem dX10_drawsFor_32 : decode cX10_drawsFor 32 = .ok (.ifCond .le 22, 3) := by decide +kernel
theorem dX10_drawsFor_35 : decode cX10_drawsFor 35 = .ok (.aload_n 0, 1) := by decide +kernel
theorem dX10_drawsFor_36 : decode cX10_drawsFor 36 = .ok (.getfield 98, 3) := by decide +kernel
theorem dX10_drawsFor_39 : decode cX10_drawsFor 39 = .ok (.bipush 112, 2) := by decide +kernel
theorem dX10_drawsFor_41 : decode cX10_drawsFor 41 = .ok (.iload_n 1, 1) := by decide +kernel
theorem dX10_drawsFor_42 : decode cX10_drawsFor 42 = .ok (.iadd, 1) := by decide +kernel
theorem dX10_drawsFor_43 : decode cX10_drawsFor 43 = .ok (.aload_n 0, 1) := by decide +kernel
theorem dX10_drawsFor_44 : decode cX10_drawsFor 44 = .ok (.aload_n 0, 1) := by decide +kernel
theorem dX10_drawsFor_45 : decode cX10_drawsFor 45 = .ok (.getfield 98, 3) := by decide +kernel
theorem dX10_drawsFor_48 : decode cX10_drawsFor 48 = .ok (.iconst 2, 1) := by decide +kernel
theorem dX10_drawsFor_49 : decode cX10_drawsFor 49 = .ok (.iaload, 1) := by decide +kernel
theorem dX10_drawsFor_50 : decode cX10_drawsFor 50 = .ok (.invokevirtual 385, 3) := by decide +kernel
theorem dX10_drawsFor_53 : decode cX10_drawsFor 53 = .ok (.iastore, 1) := by decide +kernel
theorem dX10_drawsFor_54 : decode cX10_drawsFor 54 = .ok (.iload_n 2, 1) := by decide +kernel
theorem dX10_drawsFor_55 : decode cX10_drawsFor 55 = .ok (.iconst 2, 1) := by decide +kernel
theorem dX10_drawsFor_56 : decode cX10_drawsFor 56 = .ok (.if_icmp .ne 22, 3) := by decide +kernel
theorem dX10_drawsFor_59 : decode cX10_drawsFor 59 = .ok (.aload_n 0, 1) := by decide +kernel
theorem dX10_drawsFor_60 : decode cX10_drawsFor 60 = .ok (.getfield 98, 3) := by decide +kernel
theorem dX10_drawsFor_63 : decode cX10_drawsFor 63 = .ok (.bipush 104, 2) := by decide +kernel
theorem dX10_drawsFor_65 : decode cX10_drawsFor 65 = .ok (.iload_n 1, 1) := by decide +kernel
theorem dX10_drawsFor_66 : decode cX10_drawsFor 66 = .ok (.iadd, 1) := by decide +kernel
theorem dX10_drawsFor_67 : decode cX10_drawsFor 67 = .ok (.aload_n 0, 1) := by decide +kernel
theorem dX10_drawsFor_68 : decode cX10_drawsFor 68 = .ok (.aload_n 0, 1) := by decide +kernel
theorem dX10_drawsFor_69 : decode cX10_drawsFor 69 = .ok (.getfield 98, 3) := by decide +kernel
theorem dX10_drawsFor_72 : decode cX10_drawsFor 72 = .ok (.iconst 0, 1) := by decide +kernel
theorem dX10_drawsFor_73 : decode cX10_drawsFor 73 = .ok (.iaload, 1) := by decide +kernel
theorem dX10_drawsFor_74 : decode cX10_drawsFor 74 = .ok (.invokevirtual 385, 3) := by decide +kernel
theorem dX10_drawsFor_77 : decode cX10_drawsFor 77 = .ok (.iastore, 1) := by decide +kernel
theorem dX10_drawsFor_78 : decode cX10_drawsFor 78 = .ok (.return_, 1) := by decide +kernel
theorem dX10_feed_0 : decode cX10_feed 0 = .ok (.aload_n 0, 1) := by decide +kernel
theorem dX10_feed_1 : decode cX10_feed 1 = .ok (.iconst 0, 1) := by decide +kernel
theorem dX10_feed_2 : decode cX10_feed 2 = .ok (.putfield 1, 3) := by decide +kernel
theorem dX10_feed_5 : decode cX10_feed 5 = .ok (.aload_n 0, 1) := by decide +kernel
theorem dX10_feed_6 : decode cX10_feed 6 = .ok (.getfield 11, 3) := by decide +kernel
theorem dX10_feed_9 : decode cX10_feed 9 = .ok (.bipush 20, 2) := by decide +kernel
theorem dX10_feed_11 : decode cX10_feed 11 = .ok (.iadd, 1) := by decide +kernel
theorem dX10_feed_12 : decode cX10_feed 12 = .ok (.sipush 940, 3) := by decide +kernel
theorem dX10_feed_15 : decode cX10_feed 15 = .ok (.if_icmp .le 5, 3) := by decide +kernel
theorem dX10_feed_18 : decode cX10_feed 18 = .ok (.iconst (-1), 1) := by decide +kernel
theorem dX10_feed_19 : decode cX10_feed 19 = .ok (.ireturn, 1) := by decide +kernel
theorem dX10_feed_20 : decode cX10_feed 20 = .ok (.aload_n 0, 1) := by decide +kernel
theorem dX10_feed_21 : decode cX10_feed 21 = .ok (.iload_n 1, 1) := by decide +kernel
theorem dX10_feed_22 : decode cX10_feed 22 = .ok (.invokevirtual 14, 3) := by decide +kernel
theorem dX10_feed_25 : decode cX10_feed 25 = .ok (.aload_n 0, 1) := by decide +kernel
theorem dX10_feed_26 : decode cX10_feed 26 = .ok (.iload_n 2, 1) := by decide +kernel
theorem dX10_feed_27 : decode cX10_feed 27 = .ok (.invokevirtual 14, 3) := by decide +kernel
theorem dX10_feed_30 : decode cX10_feed 30 = .ok (.aload_n 0, 1) := by decide +kernel
theorem dX10_feed_31 : decode cX10_feed 31 = .ok (.iload_n 3, 1) := by decide +kernel
theorem dX10_feed_32 : decode cX10_feed 32 = .ok (.invokevirtual 14, 3) := by decide +kernel
theorem dX10_feed_35 : decode cX10_feed 35 = .ok (.aload_n 0, 1) := by decide +kernel
theorem dX10_feed_36 : decode cX10_feed 36 = .ok (.iload 4, 2) := by decide +kernel
theorem dX10_feed_38 : decode cX10_feed 38 = .ok (.invokevirtual 14, 3) := by decide +kernel
theorem dX10_feed_41 : decode cX10_feed 41 = .ok (.aload_n 0, 1) := by decide +kernel
theorem dX10_feed_42 : decode cX10_feed 42 = .ok (.iload 5, 2) := by decide +kernel
theorem dX10_feed_44 : decode cX10_feed 44 = .ok (.invokevirtual 14, 3) := by decide +kernel
theorem dX10_feed_47 : decode cX10_feed 47 = .ok (.aload_n 0, 1) := by decide +kernel
theorem dX10_feed_48 : decode cX10_feed 48 = .ok (.getfield 11, 3) := by decide +kernel
theorem dX10_feed_51 : decode cX10_feed 51 = .ok (.ireturn, 1) := by decide +kernel
theorem dX10_findIn_0 : decode cX10_findIn 0 = .ok (.iconst 0, 1) := by decide +kernel
theorem dX10_findIn_1 : decode cX10_findIn 1 = .ok (.istore 5, 2) := by decide +kernel
theorem dX10_findIn_3 : decode cX10_findIn 3 = .ok (.iload 5, 2) := by decide +kernel
theorem dX10_findIn_5 : decode cX10_findIn 5 = .ok (.iload_n 2, 1) := by decide +kernel
theorem dX10_findIn_6 : decode cX10_findIn 6 = .ok (.if_icmp .ge 23, 3) := by decide +kernel
theorem dX10_findIn_9 : decode cX10_findIn 9 = .ok (.aload_n 0, 1) := by decide +kernel
theorem dX10_findIn_10 : decode cX10_findIn 10 = .ok (.iload_n 1, 1) := by decide +kernel
theorem dX10_findIn_11 : decode cX10_findIn 11 = .ok (.iload 5, 2) := by decide +kernel
theorem dX10_findIn_13 : decode cX10_findIn 13 = .ok (.iadd, 1) := by decide +kernel
theorem dX10_findIn_14 : decode cX10_findIn 14 = .ok (.laload, 1) := by decide +kernel
theorem dX10_findIn_15 : decode cX10_findIn 15 = .ok (.lload_n 3, 1) := by decide +kernel
theorem dX10_findIn_16 : decode cX10_findIn 16 = .ok (.lcmp, 1) := by decide +kernel
theorem dX10_findIn_17 : decode cX10_findIn 17 = .ok (.ifCond .ne 6, 3) := by decide +kernel
theorem dX10_findIn_20 : decode cX10_findIn 20 = .ok (.iload 5, 2) := by decide +kernel
theorem dX10_findIn_22 : decode cX10_findIn 22 = .ok (.ireturn, 1) := by decide +kernel
theorem dX10_findIn_23 : decode cX10_findIn 23 = .ok (.iinc 5 1, 3) := by decide +kernel
theorem dX10_findIn_26 : decode cX10_findIn 26 = .ok (.goto (-23), 3) := by decide +kernel
theorem dX10_findIn_29 : decode cX10_findIn 29 = .ok (.iconst (-1), 1) := by decide +kernel
theorem dX10_findIn_30 : decode cX10_findIn 30 = .ok (.ireturn, 1) := by decide +kernel
theorem dX10_go_0 : decode cX10_go 0 = .ok (.aload_n 0, 1) := by decide +kernel
theorem dX10_go_1 : decode cX10_go 1 = .ok (.getfield 21, 3) := by decide +kernel
theorem dX10_go_4 : decode cX10_go 4 = .ok (.aload_n 0, 1) := by decide +kernel
theorem dX10_go_5 : decode cX10_go 5 = .ok (.getfield 18, 3) := by decide +kernel
theorem dX10_go_8 : decode cX10_go 8 = .ok (.if_icmp .ge 44, 3) := by decide +kernel
theorem dX10_go_11 : decode cX10_go 11 = .ok (.aload_n 0, 1) := by decide +kernel
theorem dX10_go_12 : decode cX10_go 12 = .ok (.getfield 7, 3) := by decide +kernel
theorem dX10_go_15 : decode cX10_go 15 = .ok (.aload_n 0, 1) := by decide +kernel
theorem dX10_go_16 : decode cX10_go 16 = .ok (.getfield 21, 3) := by decide +kernel
theorem dX10_go_19 : decode cX10_go 19 = .ok (.iaload, 1) := by decide +kernel
theorem dX10_go_20 : decode cX10_go 20 = .ok (.bipush 32, 2) := by decide +kernel
theorem dX10_go_22 : decode cX10_go 22 = .ok (.if_icmp .eq 17, 3) := by decide +kernel
theorem dX10_go_25 : decode cX10_go 25 = .ok (.aload_n 0, 1) := by decide +kernel
theorem dX10_go_26 : decode cX10_go 26 = .ok (.getfield 7, 3) := by decide +kernel
theorem dX10_go_29 : decode cX10_go 29 = .ok (.aload_n 0, 1) := by decide +kernel
theorem dX10_go_30 : decode cX10_go 30 = .ok (.getfield 21, 3) := by decide +kernel
theorem dX10_go_33 : decode cX10_go 33 = .ok (.iaload, 1) := by decide +kernel
theorem dX10_go_34 : decode cX10_go 34 = .ok (.bipush 10, 2) := by decide +kernel
theorem dX10_go_36 : decode cX10_go 36 = .ok (.if_icmp .ne 16, 3) := by decide +kernel
theorem dX10_go_39 : decode cX10_go 39 = .ok (.aload_n 0, 1) := by decide +kernel
theorem dX10_go_40 : decode cX10_go 40 = .ok (.dup, 1) := by decide +kernel
theorem dX10_go_41 : decode cX10_go 41 = .ok (.getfield 21, 3) := by decide +kernel
theorem dX10_go_44 : decode cX10_go 44 = .ok (.iconst 1, 1) := by decide +kernel
theorem dX10_go_45 : decode cX10_go 45 = .ok (.iadd, 1) := by decide +kernel
theorem dX10_go_46 : decode cX10_go 46 = .ok (.putfield 21, 3) := by decide +kernel
theorem dX10_go_49 : decode cX10_go 49 = .ok (.goto (-49), 3) := by decide +kernel
theorem dX10_go_52 : decode cX10_go 52 = .ok (.aload_n 0, 1) := by decide +kernel
theorem dX10_go_53 : decode cX10_go 53 = .ok (.aload_n 0, 1) := by decide +kernel
theorem dX10_go_54 : decode cX10_go 54 = .ok (.getfield 21, 3) := by decide +kernel
theorem dX10_go_57 : decode cX10_go 57 = .ok (.putfield 24, 3) := by decide +kernel
theorem dX10_go_60 : decode cX10_go 60 = .ok (.aload_n 0, 1) := by decide +kernel
theorem dX10_go_61 : decode cX10_go 61 = .ok (.getfield 18, 3) := by decide +kernel
theorem dX10_go_64 : decode cX10_go 64 = .ok (.aload_n 0, 1) := by decide +kernel
theorem dX10_go_65 : decode cX10_go 65 = .ok (.getfield 27, 3) := by decide +kernel
theorem dX10_go_68 : decode cX10_go 68 = .ok (.if_icmp .le 28, 3) := by decide +kernel
theorem dX10_go_71 : decode cX10_go 71 = .ok (.aload_n 0, 1) := by decide +kernel
theorem dX10_go_72 : decode cX10_go 72 = .ok (.getfield 24, 3) := by decide +kernel
theorem dX10_go_75 : decode cX10_go 75 = .ok (.aload_n 0, 1) := by decide +kernel
theorem dX10_go_76 : decode cX10_go 76 = .ok (.getfield 27, 3) := by decide +kernel
theorem dX10_go_79 : decode cX10_go 79 = .ok (.if_icmp .lt 17, 3) := by decide +kernel
theorem dX10_go_82 : decode cX10_go 82 = .ok (.aload_n 0, 1) := by decide +kernel
theorem dX10_go_83 : decode cX10_go 83 = .ok (.aload_n 0, 1) := by decide +kernel
theorem dX10_go_84 : decode cX10_go 84 = .ok (.getfield 27, 3) := by decide +kernel
theorem dX10_go_87 : decode cX10_go 87 = .ok (.putfield 24, 3) := by decide +kernel
theorem dX10_go_90 : decode cX10_go 90 = .ok (.aload_n 0, 1) := by decide +kernel
theorem dX10_go_91 : decode cX10_go 91 = .ok (.iconst 1, 1) := by decide +kernel
theorem dX10_go_92 : decode cX10_go 92 = .ok (.putfield 30, 3) := by decide +kernel
theorem dX10_go_95 : decode cX10_go 95 = .ok (.return_, 1) := by decide +kernel
theorem dX10_go_96 : decode cX10_go 96 = .ok (.aload_n 0, 1) := by decide +kernel
theorem dX10_go_97 : decode cX10_go 97 = .ok (.getfield 21, 3) := by decide +kernel
theorem dX10_go_100 : decode cX10_go 100 = .ok (.aload_n 0, 1) := by decide +kernel
theorem dX10_go_101 : decode cX10_go 101 = .ok (.getfield 18, 3) := by decide +kernel
theorem dX10_go_104 : decode cX10_go 104 = .ok (.if_icmp .lt 9, 3) := by decide +kernel
theorem dX10_go_107 : decode cX10_go 107 = .ok (.aload_n 0, 1) := by decide +kernel
theorem dX10_go_108 : decode cX10_go 108 = .ok (.iconst 0, 1) := by decide +kernel
theorem dX10_go_109 : decode cX10_go 109 = .ok (.putfield 30, 3) := by decide +kernel
theorem dX10_go_112 : decode cX10_go 112 = .ok (.return_, 1) := by decide +kernel
theorem dX10_go_113 : decode cX10_go 113 = .ok (.aload_n 0, 1) := by decide +kernel
theorem dX10_go_114 : decode cX10_go 114 = .ok (.getfield 7, 3) := by decide +kernel
theorem dX10_go_117 : decode cX10_go 117 = .ok (.aload_n 0, 1) := by decide +kernel
theorem dX10_go_118 : decode cX10_go 118 = .ok (.getfield 21, 3) := by decide +kernel
theorem dX10_go_121 : decode cX10_go 121 = .ok (.iaload, 1) := by decide +kernel
theorem dX10_go_122 : decode cX10_go 122 = .ok (.istore_n 1, 1) := by decide +kernel
theorem dX10_go_123 : decode cX10_go 123 = .ok (.iload_n 1, 1) := by decide +kernel
theorem dX10_go_124 : decode cX10_go 124 = .ok (.invokestatic 33, 3) := by decide +kernel
theorem dX10_go_127 : decode cX10_go 127 = .ok (.ifCond .ne 71, 3) := by decide +kernel
theorem dX10_go_130 : decode cX10_go 130 = .ok (.iload_n 1, 1) := by decide +kernel
theorem dX10_go_131 : decode cX10_go 131 = .ok (.invokestatic 37, 3) := by decide +kernel
theorem dX10_go_134 : decode cX10_go 134 = .ok (.ifCond .ne 64, 3) := by decide +kernel
theorem dX10_go_137 : decode cX10_go 137 = .ok (.aload_n 0, 1) := by decide +kernel
theorem dX10_go_138 : decode cX10_go 138 = .ok (.iload_n 1, 1) := by decide +kernel
theorem dX10_go_139 : decode cX10_go 139 = .ok (.bipush 59, 2) := by decide +kernel
theorem dX10_go_141 : decode cX10_go 141 = .ok (.if_icmp .eq 33, 3) := by decide +kernel
theorem dX10_go_144 : decode cX10_go 144 = .ok (.iload_n 1, 1) := by decide +kernel
theorem dX10_go_145 : decode cX10_go 145 = .ok (.bipush 60, 2) := by decide +kernel
theorem dX10_go_147 : decode cX10_go 147 = .ok (.if_icmp .eq 27, 3) := by decide +kernel
theorem dX10_go_150 : decode cX10_go 150 = .ok (.iload_n 1, 1) := by decide +kernel
theorem dX10_go_151 : decode cX10_go 151 = .ok (.bipush 61, 2) := by decide +kernel
theorem dX10_go_153 : decode cX10_go 153 = .ok (.if_icmp .eq 21, 3) := by decide +kernel
theorem dX10_go_156 : decode cX10_go 156 = .ok (.iload_n 1, 1) := by decide +kernel
theorem dX10_go_157 : decode cX10_go 157 = .ok (.bipush 62, 2) := by decide +kernel
theorem dX10_go_159 : decode cX10_go 159 = .ok (.if_icmp .eq 15, 3) := by decide +kernel
theorem dX10_go_162 : decode cX10_go 162 = .ok (.iload_n 1, 1) := by decide +kernel
theorem dX10_go_163 : decode cX10_go 163 = .ok (.bipush 40, 2) := by decide +kernel
theorem dX10_go_165 : decode cX10_go 165 = .ok (.if_icmp .eq 9, 3) := by decide +kernel
theorem dX10_go_168 : decode cX10_go 168 = .ok (.iload_n 1, 1) := by decide +kernel
theorem dX10_go_169 : decode cX10_go 169 = .ok (.bipush 41, 2) := by decide +kernel
theorem dX10_go_171 : decode cX10_go 171 = .ok (.if_icmp .ne 7, 3) := by decide +kernel
theorem dX10_go_174 : decode cX10_go 174 = .ok (.iconst 4, 1) := by decide +kernel
theorem dX10_go_175 : decode cX10_go 175 = .ok (.goto 4, 3) := by decide +kernel
theorem dX10_go_178 : decode cX10_go 178 = .ok (.iconst 1, 1) := by decide +kernel
theorem dX10_go_179 : decode cX10_go 179 = .ok (.putfield 30, 3) := by decide +kernel
theorem dX10_go_182 : decode cX10_go 182 = .ok (.aload_n 0, 1) := by decide +kernel
theorem dX10_go_183 : decode cX10_go 183 = .ok (.iload_n 1, 1) := by decide +kernel
theorem dX10_go_184 : decode cX10_go 184 = .ok (.putfield 40, 3) := by decide +kernel
theorem dX10_go_187 : decode cX10_go 187 = .ok (.aload_n 0, 1) := by decide +kernel
theorem dX10_go_188 : decode cX10_go 188 = .ok (.dup, 1) := by decide +kernel
theorem dX10_go_189 : decode cX10_go 189 = .ok (.getfield 21, 3) := by decide +kernel
theorem dX10_go_192 : decode cX10_go 192 = .ok (.iconst 1, 1) := by decide +kernel
theorem dX10_go_193 : decode cX10_go 193 = .ok (.iadd, 1) := by decide +kernel
theorem dX10_go_194 : decode cX10_go 194 = .ok (.putfield 21, 3) := by decide +kernel
theorem dX10_go_197 : decode cX10_go 197 = .ok (.return_, 1) := by decide +kernel
theorem dX10_go_198 : decode cX10_go 198 = .ok (.iload_n 1, 1) := by decide +kernel
theorem dX10_go_199 : decode cX10_go 199 = .ok (.invokestatic 33, 3) := by decide +kernel
theorem dX10_go_202 : decode cX10_go 202 = .ok (.istore_n 2, 1) := by decide +kernel
theorem dX10_go_203 : decode cX10_go 203 = .ok (.iconst 1, 1) := by decide +kernel
theorem dX10_go_204 : decode cX10_go 204 = .ok (.istore_n 3, 1) := by decide +kernel
theorem dX10_go_205 : decode cX10_go 205 = .ok (.aload_n 0, 1) := by decide +kernel
theorem dX10_go_206 : decode cX10_go 206 = .ok (.lconst 0, 1) := by decide +kernel
theorem dX10_go_207 : decode cX10_go 207 = .ok (.putfield 43, 3) := by decide +kernel
theorem dX10_go_210 : decode cX10_go 210 = .ok (.aload_n 0, 1) := by decide +kernel
theorem dX10_go_211 : decode cX10_go 211 = .ok (.iconst 0, 1) := by decide +kernel
theorem dX10_go_212 : decode cX10_go 212 = .ok (.putfield 47, 3) := by decide +kernel
theorem dX10_go_215 : decode cX10_go 215 = .ok (.aload_n 0, 1) := by decide +kernel
theorem dX10_go_216 : decode cX10_go 216 = .ok (.aload_n 0, 1) := by decide +kernel
theorem dX10_go_217 : decode cX10_go 217 = .ok (.getfield 21, 3) := by decide +kernel
theorem dX10_go_220 : decode cX10_go 220 = .ok (.invokevirtual 50, 3) := by decide +kernel
theorem dX10_go_223 : decode cX10_go 223 = .ok (.invokestatic 33, 3) := by decide +kernel
theorem dX10_go_226 : decode cX10_go 226 = .ok (.ifCond .ne 17, 3) := by decide +kernel
theorem dX10_go_229 : decode cX10_go 229 = .ok (.aload_n 0, 1) := by decide +kernel
theorem dX10_go_230 : decode cX10_go 230 = .ok (.aload_n 0, 1) := by decide +kernel
theorem dX10_go_231 : decode cX10_go 231 = .ok (.getfield 21, 3) := by decide +kernel
theorem dX10_go_234 : decode cX10_go 234 = .ok (.invokevirtual 50, 3) := by decide +kernel
theorem dX10_go_237 : decode cX10_go 237 = .ok (.invokestatic 37, 3) := by decide +kernel
theorem dX10_go_240 : decode cX10_go 240 = .ok (.ifCond .eq 110, 3) := by decide +kernel
theorem dX10_go_243 : decode cX10_go 243 = .ok (.aload_n 0, 1) := by decide +kernel
theorem dX10_go_244 : decode cX10_go 244 = .ok (.getfield 7, 3) := by decide +kernel
theorem dX10_go_247 : decode cX10_go 247 = .ok (.aload_n 0, 1) := by decide +kernel
theorem dX10_go_248 : decode cX10_go 248 = .ok (.getfield 21, 3) := by decide +kernel
theorem dX10_go_251 : decode cX10_go 251 = .ok (.iaload, 1) := by decide +kernel
theorem dX10_go_252 : decode cX10_go 252 = .ok (.istore 4, 2) := by decide +kernel
theorem dX10_go_254 : decode cX10_go 254 = .ok (.iload_n 3, 1) := by decide +kernel
theorem dX10_go_255 : decode cX10_go 255 = .ok (.ifCond .eq 16, 3) := by decide +kernel
theorem dX10_go_258 : decode cX10_go 258 = .ok (.iload 4, 2) := by decide +kernel
theorem dX10_go_260 : decode cX10_go 260 = .ok (.invokestatic 33, 3) := by decide +kernel
theorem dX10_go_263 : decode cX10_go 263 = .ok (.iload_n 2, 1) := by decide +kernel
theorem dX10_go_264 : decode cX10_go 264 = .ok (.if_icmp .ne 7, 3) := by decide +kernel
theorem dX10_go_267 : decode cX10_go 267 = .ok (.iconst 1, 1) := by decide +kernel
theorem dX10_go_268 : decode cX10_go 268 = .ok (.goto 4, 3) := by decide +kernel
theorem dX10_go_271 : decode cX10_go 271 = .ok (.iconst 0, 1) := by decide +kernel
theorem dX10_go_272 : decode cX10_go 272 = .ok (.istore_n 3, 1) := by decide +kernel
theorem dX10_go_273 : decode cX10_go 273 = .ok (.aload_n 0, 1) := by decide +kernel
theorem dX10_go_274 : decode cX10_go 274 = .ok (.getfield 21, 3) := by decide +kernel
theorem dX10_go_277 : decode cX10_go 277 = .ok (.aload_n 0, 1) := by decide +kernel
theorem dX10_go_278 : decode cX10_go 278 = .ok (.getfield 24, 3) := by decide +kernel
theorem dX10_go_281 : decode cX10_go 281 = .ok (.isub, 1) := by decide +kernel
theorem dX10_go_282 : decode cX10_go 282 = .ok (.bipush 7, 2) := by decide +kernel
theorem dX10_go_284 : decode cX10_go 284 = .ok (.if_icmp .ge 23, 3) := by decide +kernel
theorem dX10_go_287 : decode cX10_go 287 = .ok (.aload_n 0, 1) := by decide +kernel
theorem dX10_go_288 : decode cX10_go 288 = .ok (.ldc2_w 54, 3) := by decide +kernel
theorem dX10_go_291 : decode cX10_go 291 = .ok (.aload_n 0, 1) := by decide +kernel
theorem dX10_go_292 : decode cX10_go 292 = .ok (.getfield 43, 3) := by decide +kernel
theorem dX10_go_295 : decode cX10_go 295 = .ok (.lmul, 1) := by decide +kernel
theorem dX10_go_296 : decode cX10_go 296 = .ok (.iload 4, 2) := by decide +kernel
theorem dX10_go_298 : decode cX10_go 298 = .ok (.i2l, 1) := by decide +kernel
theorem dX10_go_299 : decode cX10_go 299 = .ok (.ladd, 1) := by decide +kernel
theorem dX10_go_300 : decode cX10_go 300 = .ok (.ldc2_w 56, 3) := by decide +kernel
theorem dX10_go_303 : decode cX10_go 303 = .ok (.lsub, 1) := by decide +kernel
theorem dX10_go_304 : decode cX10_go 304 = .ok (.putfield 43, 3) := by decide +kernel
theorem dX10_go_307 : decode cX10_go 307 = .ok (.aload_n 0, 1) := by decide +kernel
theorem dX10_go_308 : decode cX10_go 308 = .ok (.getfield 21, 3) := by decide +kernel
theorem dX10_go_311 : decode cX10_go 311 = .ok (.aload_n 0, 1) := by decide +kernel
theorem dX10_go_312 : decode cX10_go 312 = .ok (.getfield 24, 3) := by decide +kernel
theorem dX10_go_315 : decode cX10_go 315 = .ok (.isub, 1) := by decide +kernel
theorem dX10_go_316 : decode cX10_go 316 = .ok (.iconst 3, 1) := by decide +kernel
theorem dX10_go_317 : decode cX10_go 317 = .ok (.if_icmp .ge 20, 3) := by decide +kernel
theorem dX10_go_320 : decode cX10_go 320 = .ok (.aload_n 0, 1) := by decide +kernel
theorem dX10_go_321 : decode cX10_go 321 = .ok (.bipush 10, 2) := by decide +kernel
theorem dX10_go_323 : decode cX10_go 323 = .ok (.aload_n 0, 1) := by decide +kernel
theorem dX10_go_324 : decode cX10_go 324 = .ok (.getfield 47, 3) := by decide +kernel
theorem dX10_go_327 : decode cX10_go 327 = .ok (.imul, 1) := by decide +kernel
theorem dX10_go_328 : decode cX10_go 328 = .ok (.iload 4, 2) := by decide +kernel
theorem dX10_go_330 : decode cX10_go 330 = .ok (.iadd, 1) := by decide +kernel
theorem dX10_go_331 : decode cX10_go 331 = .ok (.bipush 48, 2) := by decide +kernel
theorem dX10_go_333 : decode cX10_go 333 = .ok (.isub, 1) := by decide +kernel
theorem dX10_go_334 : decode cX10_go 334 = .ok (.putfield 47, 3) := by decide +kernel
theorem dX10_go_337 : decode cX10_go 337 = .ok (.aload_n 0, 1) := by decide +kernel
theorem dX10_go_338 : decode cX10_go 338 = .ok (.dup, 1) := by decide +kernel
theorem dX10_go_339 : decode cX10_go 339 = .ok (.getfield 21, 3) := by decide +kernel
theorem dX10_go_342 : decode cX10_go 342 = .ok (.iconst 1, 1) := by decide +kernel
theorem dX10_go_343 : decode cX10_go 343 = .ok (.iadd, 1) := by decide +kernel
theorem dX10_go_344 : decode cX10_go 344 = .ok (.putfield 21, 3) := by decide +kernel
theorem dX10_go_347 : decode cX10_go 347 = .ok (.goto (-132), 3) := by decide +kernel
theorem dX10_go_350 : decode cX10_go 350 = .ok (.aload_n 0, 1) := by decide +kernel
theorem dX10_go_351 : decode cX10_go 351 = .ok (.iload_n 3, 1) := by decide +kernel
theorem dX10_go_352 : decode cX10_go 352 = .ok (.ifCond .eq 25, 3) := by decide +kernel
theorem dX10_go_355 : decode cX10_go 355 = .ok (.aload_n 0, 1) := by decide +kernel
theorem dX10_go_356 : decode cX10_go 356 = .ok (.getfield 21, 3) := by decide +kernel
theorem dX10_go_359 : decode cX10_go 359 = .ok (.aload_n 0, 1) := by decide +kernel
theorem dX10_go_360 : decode cX10_go 360 = .ok (.getfield 24, 3) := by decide +kernel
theorem dX10_go_363 : decode cX10_go 363 = .ok (.isub, 1) := by decide +kernel
theorem dX10_go_364 : decode cX10_go 364 = .ok (.iload_n 2, 1) := by decide +kernel
theorem dX10_go_365 : decode cX10_go 365 = .ok (.ifCond .eq 8, 3) := by decide +kernel
theorem dX10_go_368 : decode cX10_go 368 = .ok (.bipush 7, 2) := by decide +kernel
theorem dX10_go_370 : decode cX10_go 370 = .ok (.goto 4, 3) := by decide +kernel
theorem dX10_go_373 : decode cX10_go 373 = .ok (.iconst 3, 1) := by decide +kernel
theorem dX10_go_374 : decode cX10_go 374 = .ok (.if_icmp .le 7, 3) := by decide +kernel
theorem dX10_go_377 : decode cX10_go 377 = .ok (.iconst 1, 1) := by decide +kernel
theorem dX10_go_378 : decode cX10_go 378 = .ok (.goto 12, 3) := by decide +kernel
theorem dX10_go_381 : decode cX10_go 381 = .ok (.iload_n 2, 1) := by decide +kernel
theorem dX10_go_382 : decode cX10_go 382 = .ok (.ifCond .eq 7, 3) := by decide +kernel
theorem dX10_go_385 : decode cX10_go 385 = .ok (.iconst 2, 1) := by decide +kernel
theorem dX10_go_386 : decode cX10_go 386 = .ok (.goto 4, 3) := by decide +kernel
theorem dX10_go_389 : decode cX10_go 389 = .ok (.iconst 3, 1) := by decide +kernel
theorem dX10_go_390 : decode cX10_go 390 = .ok (.putfield 30, 3) := by decide +kernel
theorem dX10_go_393 : decode cX10_go 393 = .ok (.return_, 1) := by decide +kernel
theorem dX10_isDigit_0 : decode cX10_isDigit 0 = .ok (.iload_n 0, 1) := by decide +kernel
theorem dX10_isDigit_1 : decode cX10_isDigit 1 = .ok (.bipush 48, 2) := by decide +kernel
theorem dX10_isDigit_3 : decode cX10_isDigit 3 = .ok (.if_icmp .lt 13, 3) := by decide +kernel
theorem dX10_isDigit_6 : decode cX10_isDigit 6 = .ok (.iload_n 0, 1) := by decide +kernel
theorem dX10_isDigit_7 : decode cX10_isDigit 7 = .ok (.bipush 57, 2) := by decide +kernel
theorem dX10_isDigit_9 : decode cX10_isDigit 9 = .ok (.if_icmp .gt 7, 3) := by decide +kernel
theorem dX10_isDigit_12 : decode cX10_isDigit 12 = .ok (.iconst 1, 1) := by decide +kernel
theorem dX10_isDigit_13 : decode cX10_isDigit 13 = .ok (.goto 4, 3) := by decide +kernel
theorem dX10_isDigit_16 : decode cX10_isDigit 16 = .ok (.iconst 0, 1) := by decide +kernel
theorem dX10_isDigit_17 : decode cX10_isDigit 17 = .ok (.ireturn, 1) := by decide +kernel
theorem dX10_isLetter_0 : decode cX10_isLetter 0 = .ok (.iload_n 0, 1) := by decide +kernel
theorem dX10_isLetter_1 : decode cX10_isLetter 1 = .ok (.bipush 97, 2) := by decide +kernel
theorem dX10_isLetter_3 : decode cX10_isLetter 3 = .ok (.if_icmp .lt 13, 3) := by decide +kernel
theorem dX10_isLetter_6 : decode cX10_isLetter 6 = .ok (.iload_n 0, 1) := by decide +kernel
theorem dX10_isLetter_7 : decode cX10_isLetter 7 = .ok (.bipush 122, 2) := by decide +kernel
theorem dX10_isLetter_9 : decode cX10_isLetter 9 = .ok (.if_icmp .gt 7, 3) := by decide +kernel
theorem dX10_isLetter_12 : decode cX10_isLetter 12 = .ok (.iconst 1, 1) := by decide +kernel
theorem dX10_isLetter_13 : decode cX10_isLetter 13 = .ok (.goto 4, 3) := by decide +kernel
theorem dX10_isLetter_16 : decode cX10_isLetter 16 = .ok (.iconst 0, 1) := by decide +kernel
theorem dX10_isLetter_17 : decode cX10_isLetter 17 = .ok (.ireturn, 1) := by decide +kernel
theorem dX10_isName_0 : decode cX10_isName 0 = .ok (.aload_n 0, 1) := by decide +kernel
theorem dX10_isName_1 : decode cX10_isName 1 = .ok (.getfield 30, 3) := by decide +kernel
theorem dX10_isName_4 : decode cX10_isName 4 = .ok (.iconst 2, 1) := by decide +kernel
theorem dX10_isName_5 : decode cX10_isName 5 = .ok (.if_icmp .eq 5, 3) := by decide +kernel
theorem dX10_isName_8 : decode cX10_isName 8 = .ok (.iconst 0, 1) := by decide +kernel
theorem dX10_isName_9 : decode cX10_isName 9 = .ok (.ireturn, 1) := by decide +kernel
theorem dX10_isName_10 : decode cX10_isName 10 = .ok (.iconst 0, 1) := by decide +kernel
theorem dX10_isName_11 : decode cX10_isName 11 = .ok (.istore_n 1, 1) := by decide +kernel
theorem dX10_isName_12 : decode cX10_isName 12 = .ok (.iload_n 1, 1) := by decide +kernel
theorem dX10_isName_13 : decode cX10_isName 13 = .ok (.bipush 27, 2) := by decide +kernel
theorem dX10_isName_15 : decode cX10_isName 15 = .ok (.if_icmp .gt 23, 3) := by decide +kernel
theorem dX10_isName_18 : decode cX10_isName 18 = .ok (.aload_n 0, 1) := by decide +kernel
theorem dX10_isName_19 : decode cX10_isName 19 = .ok (.getfield 43, 3) := by decide +kernel
theorem dX10_isName_22 : decode cX10_isName 22 = .ok (.iload_n 1, 1) := by decide +kernel
theorem dX10_isName_23 : decode cX10_isName 23 = .ok (.invokestatic 62, 3) := by decide +kernel
theorem dX10_isName_26 : decode cX10_isName 26 = .ok (.lcmp, 1) := by decide +kernel
theorem dX10_isName_27 : decode cX10_isName 27 = .ok (.ifCond .ne 5, 3) := by decide +kernel
theorem dX10_isName_30 : decode cX10_isName 30 = .ok (.iconst 0, 1) := by decide +kernel
theorem dX10_isName_31 : decode cX10_isName 31 = .ok (.ireturn, 1) := by decide +kernel
theorem dX10_isName_32 : decode cX10_isName 32 = .ok (.iinc 1 1, 3) := by decide +kernel
theorem dX10_isName_35 : decode cX10_isName 35 = .ok (.goto (-23), 3) := by decide +kernel
theorem dX10_isName_38 : decode cX10_isName 38 = .ok (.iconst 1, 1) := by decide +kernel
theorem dX10_isName_39 : decode cX10_isName 39 = .ok (.ireturn, 1) := by decide +kernel
theorem dX10_isOne_0 : decode cX10_isOne 0 = .ok (.aload_n 0, 1) := by decide +kernel
theorem dX10_isOne_1 : decode cX10_isOne 1 = .ok (.invokevirtual 173, 3) := by decide +kernel
theorem dX10_isOne_4 : decode cX10_isOne 4 = .ok (.ifCond .ne 9, 3) := by decide +kernel
theorem dX10_isOne_7 : decode cX10_isOne 7 = .ok (.aload_n 0, 1) := by decide +kernel
theorem dX10_isOne_8 : decode cX10_isOne 8 = .ok (.iconst 1, 1) := by decide +kernel
theorem dX10_isOne_9 : decode cX10_isOne 9 = .ok (.invokevirtual 72, 3) := by decide +kernel
theorem dX10_isOne_12 : decode cX10_isOne 12 = .ok (.ireturn, 1) := by decide +kernel
theorem dX10_isOne_13 : decode cX10_isOne 13 = .ok (.aload_n 0, 1) := by decide +kernel
theorem dX10_isOne_14 : decode cX10_isOne 14 = .ok (.aload_n 0, 1) := by decide +kernel
theorem dX10_isOne_15 : decode cX10_isOne 15 = .ok (.getfield 120, 3) := by decide +kernel
theorem dX10_isOne_18 : decode cX10_isOne 18 = .ok (.iload_n 1, 1) := by decide +kernel
theorem dX10_isOne_19 : decode cX10_isOne 19 = .ok (.iload_n 2, 1) := by decide +kernel
theorem dX10_isOne_20 : decode cX10_isOne 20 = .ok (.aload_n 0, 1) := by decide +kernel
theorem dX10_isOne_21 : decode cX10_isOne 21 = .ok (.getfield 43, 3) := by decide +kernel
theorem dX10_isOne_24 : decode cX10_isOne 24 = .ok (.invokestatic 169, 3) := by decide +kernel
theorem dX10_isOne_27 : decode cX10_isOne 27 = .ok (.putfield 79, 3) := by decide +kernel
theorem dX10_isOne_30 : decode cX10_isOne 30 = .ok (.aload_n 0, 1) := by decide +kernel
theorem dX10_isOne_31 : decode cX10_isOne 31 = .ok (.getfield 79, 3) := by decide +kernel
theorem dX10_isOne_34 : decode cX10_isOne 34 = .ok (.iconst (-1), 1) := by decide +kernel
theorem dX10_isOne_35 : decode cX10_isOne 35 = .ok (.if_icmp .ne 11, 3) := by decide +kernel
theorem dX10_isOne_38 : decode cX10_isOne 38 = .ok (.aload_n 0, 1) := by decide +kernel
theorem dX10_isOne_39 : decode cX10_isOne 39 = .ok (.iconst 3, 1) := by decide +kernel
theorem dX10_isOne_40 : decode cX10_isOne 40 = .ok (.invokevirtual 72, 3) := by decide +kernel
theorem dX10_isOne_43 : decode cX10_isOne 43 = .ok (.ifCond .eq 7, 3) := by decide +kernel
theorem dX10_isOne_46 : decode cX10_isOne 46 = .ok (.iconst 1, 1) := by decide +kernel
theorem dX10_isOne_47 : decode cX10_isOne 47 = .ok (.goto 4, 3) := by decide +kernel
theorem dX10_isOne_50 : decode cX10_isOne 50 = .ok (.iconst 0, 1) := by decide +kernel
theorem dX10_isOne_51 : decode cX10_isOne 51 = .ok (.ireturn, 1) := by decide +kernel
theorem dX10_isSign_0 : decode cX10_isSign 0 = .ok (.aload_n 0, 1) := by decide +kernel
theorem dX10_isSign_1 : decode cX10_isSign 1 = .ok (.getfield 30, 3) := by decide +kernel
theorem dX10_isSign_4 : decode cX10_isSign 4 = .ok (.iconst 4, 1) := by decide +kernel
theorem dX10_isSign_5 : decode cX10_isSign 5 = .ok (.if_icmp .ne 15, 3) := by decide +kernel
theorem dX10_isSign_8 : decode cX10_isSign 8 = .ok (.aload_n 0, 1) := by decide +kernel
theorem dX10_isSign_9 : decode cX10_isSign 9 = .ok (.getfield 40, 3) := by decide +kernel
theorem dX10_isSign_12 : decode cX10_isSign 12 = .ok (.iload_n 1, 1) := by decide +kernel
theorem dX10_isSign_13 : decode cX10_isSign 13 = .ok (.if_icmp .ne 7, 3) := by decide +kernel
theorem dX10_isSign_16 : decode cX10_isSign 16 = .ok (.iconst 1, 1) := by decide +kernel
theorem dX10_isSign_17 : decode cX10_isSign 17 = .ok (.goto 4, 3) := by decide +kernel
theorem dX10_isSign_20 : decode cX10_isSign 20 = .ok (.iconst 0, 1) := by decide +kernel
theorem dX10_isSign_21 : decode cX10_isSign 21 = .ok (.ireturn, 1) := by decide +kernel
theorem dX10_isTaken_0 : decode cX10_isTaken 0 = .ok (.aload_n 0, 1) := by decide +kernel
theorem dX10_isTaken_1 : decode cX10_isTaken 1 = .ok (.getfield 120, 3) := by decide +kernel
theorem dX10_isTaken_4 : decode cX10_isTaken 4 = .ok (.iconst 0, 1) := by decide +kernel
theorem dX10_isTaken_5 : decode cX10_isTaken 5 = .ok (.aload_n 0, 1) := by decide +kernel
theorem dX10_isTaken_6 : decode cX10_isTaken 6 = .ok (.getfield 101, 3) := by decide +kernel
theorem dX10_isTaken_9 : decode cX10_isTaken 9 = .ok (.iconst 0, 1) := by decide +kernel
theorem dX10_isTaken_10 : decode cX10_isTaken 10 = .ok (.iaload, 1) := by decide +kernel
theorem dX10_isTaken_11 : decode cX10_isTaken 11 = .ok (.aload_n 0, 1) := by decide +kernel
theorem dX10_isTaken_12 : decode cX10_isTaken 12 = .ok (.getfield 43, 3) := by decide +kernel
theorem dX10_isTaken_15 : decode cX10_isTaken 15 = .ok (.invokestatic 169, 3) := by decide +kernel
theorem dX10_isTaken_18 : decode cX10_isTaken 18 = .ok (.iconst (-1), 1) := by decide +kernel
theorem dX10_isTaken_19 : decode cX10_isTaken 19 = .ok (.if_icmp .ne 72, 3) := by decide +kernel
theorem dX10_isTaken_22 : decode cX10_isTaken 22 = .ok (.aload_n 0, 1) := by decide +kernel
theorem dX10_isTaken_23 : decode cX10_isTaken 23 = .ok (.getfield 120, 3) := by decide +kernel
theorem dX10_isTaken_26 : decode cX10_isTaken 26 = .ok (.bipush 6, 2) := by decide +kernel
theorem dX10_isTaken_28 : decode cX10_isTaken 28 = .ok (.aload_n 0, 1) := by decide +kernel
theorem dX10_isTaken_29 : decode cX10_isTaken 29 = .ok (.getfield 101, 3) := by decide +kernel
theorem dX10_isTaken_32 : decode cX10_isTaken 32 = .ok (.iconst 1, 1) := by decide +kernel
theorem dX10_isTaken_33 : decode cX10_isTaken 33 = .ok (.iaload, 1) := by decide +kernel
theorem dX10_isTaken_34 : decode cX10_isTaken 34 = .ok (.aload_n 0, 1) := by decide +kernel
theorem dX10_isTaken_35 : decode cX10_isTaken 35 = .ok (.getfield 43, 3) := by decide +kernel
theorem dX10_isTaken_38 : decode cX10_isTaken 38 = .ok (.invokestatic 169, 3) := by decide +kernel
theorem dX10_isTaken_41 : decode cX10_isTaken 41 = .ok (.iconst (-1), 1) := by decide +kernel
theorem dX10_isTaken_42 : decode cX10_isTaken 42 = .ok (.if_icmp .ne 49, 3) := by decide +kernel
theorem dX10_isTaken_45 : decode cX10_isTaken 45 = .ok (.aload_n 0, 1) := by decide +kernel
theorem dX10_isTaken_46 : decode cX10_isTaken 46 = .ok (.getfield 120, 3) := by decide +kernel
theorem dX10_isTaken_49 : decode cX10_isTaken 49 = .ok (.bipush 10, 2) := by decide +kernel
theorem dX10_isTaken_51 : decode cX10_isTaken 51 = .ok (.aload_n 0, 1) := by decide +kernel
theorem dX10_isTaken_52 : decode cX10_isTaken 52 = .ok (.getfield 101, 3) := by decide +kernel
theorem dX10_isTaken_55 : decode cX10_isTaken 55 = .ok (.iconst 2, 1) := by decide +kernel
theorem dX10_isTaken_56 : decode cX10_isTaken 56 = .ok (.iaload, 1) := by decide +kernel
theorem dX10_isTaken_57 : decode cX10_isTaken 57 = .ok (.aload_n 0, 1) := by decide +kernel
theorem dX10_isTaken_58 : decode cX10_isTaken 58 = .ok (.getfield 43, 3) := by decide +kernel
theorem dX10_isTaken_61 : decode cX10_isTaken 61 = .ok (.invokestatic 169, 3) := by decide +kernel
theorem dX10_isTaken_64 : decode cX10_isTaken 64 = .ok (.iconst (-1), 1) := by decide +kernel
theorem dX10_isTaken_65 : decode cX10_isTaken 65 = .ok (.if_icmp .ne 26, 3) := by decide +kernel
theorem dX10_isTaken_68 : decode cX10_isTaken 68 = .ok (.aload_n 0, 1) := by decide +kernel
theorem dX10_isTaken_69 : decode cX10_isTaken 69 = .ok (.getfield 120, 3) := by decide +kernel
theorem dX10_isTaken_72 : decode cX10_isTaken 72 = .ok (.bipush 16, 2) := by decide +kernel
theorem dX10_isTaken_74 : decode cX10_isTaken 74 = .ok (.aload_n 0, 1) := by decide +kernel
theorem dX10_isTaken_75 : decode cX10_isTaken 75 = .ok (.getfield 101, 3) := by decide +kernel
theorem dX10_isTaken_78 : decode cX10_isTaken 78 = .ok (.iconst 3, 1) := by decide +kernel
theorem dX10_isTaken_79 : decode cX10_isTaken 79 = .ok (.iaload, 1) := by decide +kernel
theorem dX10_isTaken_80 : decode cX10_isTaken 80 = .ok (.aload_n 0, 1) := by decide +kernel
theorem dX10_isTaken_81 : decode cX10_isTaken 81 = .ok (.getfield 43, 3) := by decide +kernel
theorem dX10_isTaken_84 : decode cX10_isTaken 84 = .ok (.invokestatic 169, 3) := by decide +kernel
theorem dX10_isTaken_87 : decode cX10_isTaken 87 = .ok (.iconst (-1), 1) := by decide +kernel
theorem dX10_isTaken_88 : decode cX10_isTaken 88 = .ok (.if_icmp .eq 7, 3) := by decide +kernel
theorem dX10_isTaken_91 : decode cX10_isTaken 91 = .ok (.iconst 1, 1) := by decide +kernel
theorem dX10_isTaken_92 : decode cX10_isTaken 92 = .ok (.goto 4, 3) := by decide +kernel
theorem dX10_isTaken_95 : decode cX10_isTaken 95 = .ok (.iconst 0, 1) := by decide +kernel
theorem dX10_isTaken_96 : decode cX10_isTaken 96 = .ok (.ireturn, 1) := by decide +kernel
theorem dX10_isWord_0 : decode cX10_isWord 0 = .ok (.aload_n 0, 1) := by decide +kernel
theorem dX10_isWord_1 : decode cX10_isWord 1 = .ok (.getfield 30, 3) := by decide +kernel
theorem dX10_isWord_4 : decode cX10_isWord 4 = .ok (.iconst 2, 1) := by decide +kernel
theorem dX10_isWord_5 : decode cX10_isWord 5 = .ok (.if_icmp .ne 19, 3) := by decide +kernel
theorem dX10_isWord_8 : decode cX10_isWord 8 = .ok (.aload_n 0, 1) := by decide +kernel
theorem dX10_isWord_9 : decode cX10_isWord 9 = .ok (.getfield 43, 3) := by decide +kernel
theorem dX10_isWord_12 : decode cX10_isWord 12 = .ok (.iload_n 1, 1) := by decide +kernel
theorem dX10_isWord_13 : decode cX10_isWord 13 = .ok (.invokestatic 62, 3) := by decide +kernel
theorem dX10_isWord_16 : decode cX10_isWord 16 = .ok (.lcmp, 1) := by decide +kernel
theorem dX10_isWord_17 : decode cX10_isWord 17 = .ok (.ifCond .ne 7, 3) := by decide +kernel
theorem dX10_isWord_20 : decode cX10_isWord 20 = .ok (.iconst 1, 1) := by decide +kernel
theorem dX10_isWord_21 : decode cX10_isWord 21 = .ok (.goto 4, 3) := by decide +kernel
theorem dX10_isWord_24 : decode cX10_isWord 24 = .ok (.iconst 0, 1) := by decide +kernel
theorem dX10_isWord_25 : decode cX10_isWord 25 = .ok (.ireturn, 1) := by decide +kernel
theorem dX10_odds_0 : decode cX10_odds 0 = .ok (.aload_n 0, 1) := by decide +kernel
theorem dX10_odds_1 : decode cX10_odds 1 = .ok (.iconst 0, 1) := by decide +kernel
theorem dX10_odds_2 : decode cX10_odds 2 = .ok (.putfield 1, 3) := by decide +kernel
theorem dX10_odds_5 : decode cX10_odds 5 = .ok (.aload_n 0, 1) := by decide +kernel
theorem dX10_odds_6 : decode cX10_odds 6 = .ok (.iload_n 1, 1) := by decide +kernel
theorem dX10_odds_7 : decode cX10_odds 7 = .ok (.invokevirtual 256, 3) := by decide +kernel
theorem dX10_odds_10 : decode cX10_odds 10 = .ok (.ifCond .eq 21, 3) := by decide +kernel
theorem dX10_odds_13 : decode cX10_odds 13 = .ok (.aload_n 0, 1) := by decide +kernel
theorem dX10_odds_14 : decode cX10_odds 14 = .ok (.iload_n 2, 1) := by decide +kernel
theorem dX10_odds_15 : decode cX10_odds 15 = .ok (.invokevirtual 259, 3) := by decide +kernel
theorem dX10_odds_18 : decode cX10_odds 18 = .ok (.ifCond .eq 13, 3) := by decide +kernel
theorem dX10_odds_21 : decode cX10_odds 21 = .ok (.iload_n 3, 1) := by decide +kernel
theorem dX10_odds_22 : decode cX10_odds 22 = .ok (.iconst 1, 1) := by decide +kernel
theorem dX10_odds_23 : decode cX10_odds 23 = .ok (.bipush 30, 2) := by decide +kernel
theorem dX10_odds_25 : decode cX10_odds 25 = .ok (.invokestatic 75, 3) := by decide +kernel
theorem dX10_odds_28 : decode cX10_odds 28 = .ok (.ifCond .ne 5, 3) := by decide +kernel
theorem dX10_odds_31 : decode cX10_odds 31 = .ok (.iconst (-1), 1) := by decide +kernel
theorem dX10_odds_32 : decode cX10_odds 32 = .ok (.ireturn, 1) := by decide +kernel
theorem dX10_odds_33 : decode cX10_odds 33 = .ok (.aload_n 0, 1) := by decide +kernel
theorem dX10_odds_34 : decode cX10_odds 34 = .ok (.invokevirtual 328, 3) := by decide +kernel
theorem dX10_odds_37 : decode cX10_odds 37 = .ok (.iconst 0, 1) := by decide +kernel
theorem dX10_odds_38 : decode cX10_odds 38 = .ok (.istore 5, 2) := by decide +kernel
theorem dX10_odds_40 : decode cX10_odds 40 = .ok (.iconst 0, 1) := by decide +kernel
theorem dX10_odds_41 : decode cX10_odds 41 = .ok (.istore 6, 2) := by decide +kernel
theorem dX10_odds_43 : decode cX10_odds 43 = .ok (.iload 6, 2) := by decide +kernel
theorem dX10_odds_45 : decode cX10_odds 45 = .ok (.iload_n 3, 1) := by decide +kernel
theorem dX10_odds_46 : decode cX10_odds 46 = .ok (.if_icmp .ge 37, 3) := by decide +kernel
theorem dX10_odds_49 : decode cX10_odds 49 = .ok (.aload_n 0, 1) := by decide +kernel
theorem dX10_odds_50 : decode cX10_odds 50 = .ok (.bipush 20, 2) := by decide +kernel
theorem dX10_odds_52 : decode cX10_odds 52 = .ok (.iload 4, 2) := by decide +kernel
theorem dX10_odds_54 : decode cX10_odds 54 = .ok (.iload 6, 2) := by decide +kernel
theorem dX10_odds_56 : decode cX10_odds 56 = .ok (.iadd, 1) := by decide +kernel
theorem dX10_odds_57 : decode cX10_odds 57 = .ok (.invokevirtual 391, 3) := by decide +kernel
theorem dX10_odds_60 : decode cX10_odds 60 = .ok (.pop, 1) := by decide +kernel
theorem dX10_odds_61 : decode cX10_odds 61 = .ok (.aload_n 0, 1) := by decide +kernel
theorem dX10_odds_62 : decode cX10_odds 62 = .ok (.iload_n 1, 1) := by decide +kernel
theorem dX10_odds_63 : decode cX10_odds 63 = .ok (.invokevirtual 253, 3) := by decide +kernel
theorem dX10_odds_66 : decode cX10_odds 66 = .ok (.iload_n 2, 1) := by decide +kernel
theorem dX10_odds_67 : decode cX10_odds 67 = .ok (.if_icmp .ne 6, 3) := by decide +kernel
theorem dX10_odds_70 : decode cX10_odds 70 = .ok (.iinc 5 1, 3) := by decide +kernel
theorem dX10_odds_73 : decode cX10_odds 73 = .ok (.aload_n 0, 1) := by decide +kernel
theorem dX10_odds_74 : decode cX10_odds 74 = .ok (.invokevirtual 331, 3) := by decide +kernel
theorem dX10_odds_77 : decode cX10_odds 77 = .ok (.iinc 6 1, 3) := by decide +kernel
theorem dX10_odds_80 : decode cX10_odds 80 = .ok (.goto (-37), 3) := by decide +kernel
theorem dX10_odds_83 : decode cX10_odds 83 = .ok (.iload 5, 2) := by decide +kernel
theorem dX10_odds_85 : decode cX10_odds 85 = .ok (.ireturn, 1) := by decide +kernel
theorem dX10_put_0 : decode cX10_put 0 = .ok (.iload_n 2, 1) := by decide +kernel
theorem dX10_put_1 : decode cX10_put 1 = .ok (.ifCond .eq 13, 3) := by decide +kernel
theorem dX10_put_4 : decode cX10_put 4 = .ok (.aload_n 0, 1) := by decide +kernel
theorem dX10_put_5 : decode cX10_put 5 = .ok (.getfield 101, 3) := by decide +kernel
theorem dX10_put_8 : decode cX10_put 8 = .ok (.iload_n 1, 1) := by decide +kernel
theorem dX10_put_9 : decode cX10_put 9 = .ok (.aload_n 0, 1) := by decide +kernel
theorem dX10_put_10 : decode cX10_put 10 = .ok (.getfield 79, 3) := by decide +kernel
theorem dX10_put_13 : decode cX10_put 13 = .ok (.iastore, 1) := by decide +kernel
theorem dX10_put_14 : decode cX10_put 14 = .ok (.iload_n 2, 1) := by decide +kernel
theorem dX10_put_15 : decode cX10_put 15 = .ok (.ireturn, 1) := by decide +kernel
theorem dX10_readEnd_0 : decode cX10_readEnd 0 = .ok (.aload_n 0, 1) := by decide +kernel
theorem dX10_readEnd_1 : decode cX10_readEnd 1 = .ok (.bipush 59, 2) := by decide +kernel
theorem dX10_readEnd_3 : decode cX10_readEnd 3 = .ok (.invokevirtual 86, 3) := by decide +kernel
theorem dX10_readEnd_6 : decode cX10_readEnd 6 = .ok (.ifCond .ne 9, 3) := by decide +kernel
theorem dX10_readEnd_9 : decode cX10_readEnd 9 = .ok (.aload_n 0, 1) := by decide +kernel
theorem dX10_readEnd_10 : decode cX10_readEnd 10 = .ok (.iconst 1, 1) := by decide +kernel
theorem dX10_readEnd_11 : decode cX10_readEnd 11 = .ok (.invokevirtual 72, 3) := by decide +kernel
theorem dX10_readEnd_14 : decode cX10_readEnd 14 = .ok (.ireturn, 1) := by decide +kernel
theorem dX10_readEnd_15 : decode cX10_readEnd 15 = .ok (.aload_n 0, 1) := by decide +kernel
theorem dX10_readEnd_16 : decode cX10_readEnd 16 = .ok (.invokevirtual 82, 3) := by decide +kernel
theorem dX10_readEnd_19 : decode cX10_readEnd 19 = .ok (.iconst 1, 1) := by decide +kernel
theorem dX10_readEnd_20 : decode cX10_readEnd 20 = .ok (.ireturn, 1) := by decide +kernel
theorem dX10_readFirst_0 : decode cX10_readFirst 0 = .ok (.aload_n 0, 1) := by decide +kernel
theorem dX10_readFirst_1 : decode cX10_readFirst 1 = .ok (.getfield 101, 3) := by decide +kernel
theorem dX10_readFirst_4 : decode cX10_readFirst 4 = .ok (.iload_n 1, 1) := by decide +kernel
theorem dX10_readFirst_5 : decode cX10_readFirst 5 = .ok (.iaload, 1) := by decide +kernel
theorem dX10_readFirst_6 : decode cX10_readFirst 6 = .ok (.iload_n 2, 1) := by decide +kernel
theorem dX10_readFirst_7 : decode cX10_readFirst 7 = .ok (.if_icmp .ne 9, 3) := by decide +kernel
theorem dX10_readFirst_10 : decode cX10_readFirst 10 = .ok (.aload_n 0, 1) := by decide +kernel
theorem dX10_readFirst_11 : decode cX10_readFirst 11 = .ok (.iconst 4, 1) := by decide +kernel
theorem dX10_readFirst_12 : decode cX10_readFirst 12 = .ok (.invokevirtual 72, 3) := by decide +kernel
theorem dX10_readFirst_15 : decode cX10_readFirst 15 = .ok (.ireturn, 1) := by decide +kernel
theorem dX10_readFirst_16 : decode cX10_readFirst 16 = .ok (.aload_n 0, 1) := by decide +kernel
theorem dX10_readFirst_17 : decode cX10_readFirst 17 = .ok (.invokevirtual 82, 3) := by decide +kernel
theorem dX10_readFirst_20 : decode cX10_readFirst 20 = .ok (.iconst 1, 1) := by decide +kernel
theorem dX10_readFirst_21 : decode cX10_readFirst 21 = .ok (.ireturn, 1) := by decide +kernel
theorem dX10_readHas_0 : decode cX10_readHas 0 = .ok (.aload_n 0, 1) := by decide +kernel
theorem dX10_readHas_1 : decode cX10_readHas 1 = .ok (.invokevirtual 82, 3) := by decide +kernel
theorem dX10_readHas_4 : decode cX10_readHas 4 = .ok (.aload_n 0, 1) := by decide +kernel
theorem dX10_readHas_5 : decode cX10_readHas 5 = .ok (.bipush 10, 2) := by decide +kernel
theorem dX10_readHas_7 : decode cX10_readHas 7 = .ok (.aload_n 0, 1) := by decide +kernel
theorem dX10_readHas_8 : decode cX10_readHas 8 = .ok (.getfield 101, 3) := by decide +kernel
theorem dX10_readHas_11 : decode cX10_readHas 11 = .ok (.iconst 2, 1) := by decide +kernel
theorem dX10_readHas_12 : decode cX10_readHas 12 = .ok (.iaload, 1) := by decide +kernel
theorem dX10_readHas_13 : decode cX10_readHas 13 = .ok (.invokevirtual 184, 3) := by decide +kernel
theorem dX10_readHas_16 : decode cX10_readHas 16 = .ok (.ifCond .ne 5, 3) := by decide +kernel
theorem dX10_readHas_19 : decode cX10_readHas 19 = .ok (.iconst 0, 1) := by decide +kernel
theorem dX10_readHas_20 : decode cX10_readHas 20 = .ok (.ireturn, 1) := by decide +kernel
theorem dX10_readHas_21 : decode cX10_readHas 21 = .ok (.bipush 48, 2) := by decide +kernel
theorem dX10_readHas_23 : decode cX10_readHas 23 = .ok (.bipush 6, 2) := by decide +kernel
theorem dX10_readHas_25 : decode cX10_readHas 25 = .ok (.aload_n 0, 1) := by decide +kernel
theorem dX10_readHas_26 : decode cX10_readHas 26 = .ok (.getfield 79, 3) := by decide +kernel
theorem dX10_readHas_29 : decode cX10_readHas 29 = .ok (.imul, 1) := by decide +kernel
theorem dX10_readHas_30 : decode cX10_readHas 30 = .ok (.iadd, 1) := by decide +kernel
theorem dX10_readHas_31 : decode cX10_readHas 31 = .ok (.istore_n 1, 1) := by decide +kernel
theorem dX10_readHas_32 : decode cX10_readHas 32 = .ok (.aload_n 0, 1) := by decide +kernel
theorem dX10_readHas_33 : decode cX10_readHas 33 = .ok (.iconst 0, 1) := by decide +kernel
theorem dX10_readHas_34 : decode cX10_readHas 34 = .ok (.aload_n 0, 1) := by decide +kernel
theorem dX10_readHas_35 : decode cX10_readHas 35 = .ok (.getfield 101, 3) := by decide +kernel
theorem dX10_readHas_38 : decode cX10_readHas 38 = .ok (.iconst 0, 1) := by decide +kernel
theorem dX10_readHas_39 : decode cX10_readHas 39 = .ok (.iaload, 1) := by decide +kernel
theorem dX10_readHas_40 : decode cX10_readHas 40 = .ok (.invokevirtual 180, 3) := by decide +kernel
theorem dX10_readHas_43 : decode cX10_readHas 43 = .ok (.ifCond .ne 5, 3) := by decide +kernel
theorem dX10_readHas_46 : decode cX10_readHas 46 = .ok (.iconst 0, 1) := by decide +kernel
theorem dX10_readHas_47 : decode cX10_readHas 47 = .ok (.ireturn, 1) := by decide +kernel
theorem dX10_readHas_48 : decode cX10_readHas 48 = .ok (.iload_n 1, 1) := by decide +kernel
theorem dX10_readHas_49 : decode cX10_readHas 49 = .ok (.aload_n 0, 1) := by decide +kernel
theorem dX10_readHas_50 : decode cX10_readHas 50 = .ok (.getfield 79, 3) := by decide +kernel
theorem dX10_readHas_53 : decode cX10_readHas 53 = .ok (.iadd, 1) := by decide +kernel
theorem dX10_readHas_54 : decode cX10_readHas 54 = .ok (.istore_n 1, 1) := by decide +kernel
theorem dX10_readHas_55 : decode cX10_readHas 55 = .ok (.aload_n 0, 1) := by decide +kernel
theorem dX10_readHas_56 : decode cX10_readHas 56 = .ok (.getfield 101, 3) := by decide +kernel
theorem dX10_readHas_59 : decode cX10_readHas 59 = .ok (.iload_n 1, 1) := by decide +kernel
theorem dX10_readHas_60 : decode cX10_readHas 60 = .ok (.iaload, 1) := by decide +kernel
theorem dX10_readHas_61 : decode cX10_readHas 61 = .ok (.ifCond .eq 9, 3) := by decide +kernel
theorem dX10_readHas_64 : decode cX10_readHas 64 = .ok (.aload_n 0, 1) := by decide +kernel
theorem dX10_readHas_65 : decode cX10_readHas 65 = .ok (.iconst 3, 1) := by decide +kernel
theorem dX10_readHas_66 : decode cX10_readHas 66 = .ok (.invokevirtual 72, 3) := by decide +kernel
theorem dX10_readHas_69 : decode cX10_readHas 69 = .ok (.ireturn, 1) := by decide +kernel
theorem dX10_readHas_70 : decode cX10_readHas 70 = .ok (.aload_n 0, 1) := by decide +kernel
theorem dX10_readHas_71 : decode cX10_readHas 71 = .ok (.invokevirtual 82, 3) := by decide +kernel
theorem dX10_readHas_74 : decode cX10_readHas 74 = .ok (.aload_n 0, 1) := by decide +kernel
theorem dX10_readHas_75 : decode cX10_readHas 75 = .ok (.iload_n 1, 1) := by decide +kernel
theorem dX10_readHas_76 : decode cX10_readHas 76 = .ok (.aload_n 0, 1) := by decide +kernel
theorem dX10_readHas_77 : decode cX10_readHas 77 = .ok (.iconst 1, 1) := by decide +kernel
theorem dX10_readHas_78 : decode cX10_readHas 78 = .ok (.bipush 99, 2) := by decide +kernel
theorem dX10_readHas_80 : decode cX10_readHas 80 = .ok (.invokevirtual 193, 3) := by decide +kernel
theorem dX10_readHas_83 : decode cX10_readHas 83 = .ok (.invokevirtual 196, 3) := by decide +kernel
theorem dX10_readHas_86 : decode cX10_readHas 86 = .ok (.ireturn, 1) := by decide +kernel
theorem dX10_readIdea_0 : decode cX10_readIdea 0 = .ok (.aload_n 0, 1) := by decide +kernel
theorem dX10_readIdea_1 : decode cX10_readIdea 1 = .ok (.iconst 0, 1) := by decide +kernel
theorem dX10_readIdea_2 : decode cX10_readIdea 2 = .ok (.aload_n 0, 1) := by decide +kernel
theorem dX10_readIdea_3 : decode cX10_readIdea 3 = .ok (.getfield 101, 3) := by decide +kernel
theorem dX10_readIdea_6 : decode cX10_readIdea 6 = .ok (.iconst 0, 1) := by decide +kernel
theorem dX10_readIdea_7 : decode cX10_readIdea 7 = .ok (.iaload, 1) := by decide +kernel
theorem dX10_readIdea_8 : decode cX10_readIdea 8 = .ok (.invokevirtual 184, 3) := by decide +kernel
theorem dX10_readIdea_11 : decode cX10_readIdea 11 = .ok (.ireturn, 1) := by decide +kernel
theorem dX10_readIdeaName_0 : decode cX10_readIdeaName 0 = .ok (.aload_n 0, 1) := by decide +kernel
theorem dX10_readIdeaName_1 : decode cX10_readIdeaName 1 = .ok (.iconst 0, 1) := by decide +kernel
theorem dX10_readIdeaName_2 : decode cX10_readIdeaName 2 = .ok (.aload_n 0, 1) := by decide +kernel
theorem dX10_readIdeaName_3 : decode cX10_readIdeaName 3 = .ok (.getfield 98, 3) := by decide +kernel
theorem dX10_readIdeaName_6 : decode cX10_readIdeaName 6 = .ok (.iconst 0, 1) := by decide +kernel
theorem dX10_readIdeaName_7 : decode cX10_readIdeaName 7 = .ok (.iaload, 1) := by decide +kernel
theorem dX10_readIdeaName_8 : decode cX10_readIdeaName 8 = .ok (.invokevirtual 394, 3) := by decide +kernel
theorem dX10_readIdeaName_11 : decode cX10_readIdeaName 11 = .ok (.ireturn, 1) := by decide +kernel
theorem dX10_readLine_0 : decode cX10_readLine 0 = .ok (.aload_n 0, 1) := by decide +kernel
theorem dX10_readLine_1 : decode cX10_readLine 1 = .ok (.iconst 0, 1) := by decide +kernel
theorem dX10_readLine_2 : decode cX10_readLine 2 = .ok (.invokevirtual 206, 3) := by decide +kernel
theorem dX10_readLine_5 : decode cX10_readLine 5 = .ok (.ifCond .eq 8, 3) := by decide +kernel
theorem dX10_readLine_8 : decode cX10_readLine 8 = .ok (.aload_n 0, 1) := by decide +kernel
theorem dX10_readLine_9 : decode cX10_readLine 9 = .ok (.invokevirtual 209, 3) := by decide +kernel
theorem dX10_readLine_12 : decode cX10_readLine 12 = .ok (.ireturn, 1) := by decide +kernel
theorem dX10_readLine_13 : decode cX10_readLine 13 = .ok (.aload_n 0, 1) := by decide +kernel
theorem dX10_readLine_14 : decode cX10_readLine 14 = .ok (.iconst 1, 1) := by decide +kernel
theorem dX10_readLine_15 : decode cX10_readLine 15 = .ok (.invokevirtual 206, 3) := by decide +kernel
theorem dX10_readLine_18 : decode cX10_readLine 18 = .ok (.ifCond .eq 8, 3) := by decide +kernel
theorem dX10_readLine_21 : decode cX10_readLine 21 = .ok (.aload_n 0, 1) := by decide +kernel
theorem dX10_readLine_22 : decode cX10_readLine 22 = .ok (.invokevirtual 212, 3) := by decide +kernel
theorem dX10_readLine_25 : decode cX10_readLine 25 = .ok (.ireturn, 1) := by decide +kernel
theorem dX10_readLine_26 : decode cX10_readLine 26 = .ok (.aload_n 0, 1) := by decide +kernel
theorem dX10_readLine_27 : decode cX10_readLine 27 = .ok (.iconst 2, 1) := by decide +kernel
theorem dX10_readLine_28 : decode cX10_readLine 28 = .ok (.invokevirtual 206, 3) := by decide +kernel
theorem dX10_readLine_31 : decode cX10_readLine 31 = .ok (.ifCond .eq 8, 3) := by decide +kernel
theorem dX10_readLine_34 : decode cX10_readLine 34 = .ok (.aload_n 0, 1) := by decide +kernel
theorem dX10_readLine_35 : decode cX10_readLine 35 = .ok (.invokevirtual 215, 3) := by decide +kernel
theorem dX10_readLine_38 : decode cX10_readLine 38 = .ok (.ireturn, 1) := by decide +kernel
theorem dX10_readLine_39 : decode cX10_readLine 39 = .ok (.aload_n 0, 1) := by decide +kernel
theorem dX10_readLine_40 : decode cX10_readLine 40 = .ok (.iconst 3, 1) := by decide +kernel
theorem dX10_readLine_41 : decode cX10_readLine 41 = .ok (.invokevirtual 206, 3) := by decide +kernel
theorem dX10_readLine_44 : decode cX10_readLine 44 = .ok (.ifCond .eq 8, 3) := by decide +kernel
theorem dX10_readLine_47 : decode cX10_readLine 47 = .ok (.aload_n 0, 1) := by decide +kernel
theorem dX10_readLine_48 : decode cX10_readLine 48 = .ok (.invokevirtual 218, 3) := by decide +kernel
theorem dX10_readLine_51 : decode cX10_readLine 51 = .ok (.ireturn, 1) := by decide +kernel
theorem dX10_readLine_52 : decode cX10_readLine 52 = .ok (.aload_n 0, 1) := by decide +kernel
theorem dX10_readLine_53 : decode cX10_readLine 53 = .ok (.iconst 4, 1) := by decide +kernel
theorem dX10_readLine_54 : decode cX10_readLine 54 = .ok (.invokevirtual 206, 3) := by decide +kernel
theorem dX10_readLine_57 : decode cX10_readLine 57 = .ok (.ifCond .eq 8, 3) := by decide +kernel
theorem dX10_readLine_60 : decode cX10_readLine 60 = .ok (.aload_n 0, 1) := by decide +kernel
theorem dX10_readLine_61 : decode cX10_readLine 61 = .ok (.invokevirtual 221, 3) := by decide +kernel
theorem dX10_readLine_64 : decode cX10_readLine 64 = .ok (.ireturn, 1) := by decide +kernel
theorem dX10_readLine_65 : decode cX10_readLine 65 = .ok (.aload_n 0, 1) := by decide +kernel
theorem dX10_readLine_66 : decode cX10_readLine 66 = .ok (.iconst 5, 1) := by decide +kernel
theorem dX10_readLine_67 : decode cX10_readLine 67 = .ok (.invokevirtual 206, 3) := by decide +kernel
theorem dX10_readLine_70 : decode cX10_readLine 70 = .ok (.ifCond .eq 8, 3) := by decide +kernel
theorem dX10_readLine_73 : decode cX10_readLine 73 = .ok (.aload_n 0, 1) := by decide +kernel
theorem dX10_readLine_74 : decode cX10_readLine 74 = .ok (.invokevirtual 224, 3) := by decide +kernel
theorem dX10_readLine_77 : decode cX10_readLine 77 = .ok (.ireturn, 1) := by decide +kernel
theorem dX10_readLine_78 : decode cX10_readLine 78 = .ok (.aload_n 0, 1) := by decide +kernel
theorem dX10_readLine_79 : decode cX10_readLine 79 = .ok (.bipush 6, 2) := by decide +kernel
theorem dX10_readLine_81 : decode cX10_readLine 81 = .ok (.invokevirtual 206, 3) := by decide +kernel
theorem dX10_readLine_84 : decode cX10_readLine 84 = .ok (.ifCond .eq 8, 3) := by decide +kernel
theorem dX10_readLine_87 : decode cX10_readLine 87 = .ok (.aload_n 0, 1) := by decide +kernel
theorem dX10_readLine_88 : decode cX10_readLine 88 = .ok (.invokevirtual 227, 3) := by decide +kernel
theorem dX10_readLine_91 : decode cX10_readLine 91 = .ok (.ireturn, 1) := by decide +kernel
theorem dX10_readLine_92 : decode cX10_readLine 92 = .ok (.aload_n 0, 1) := by decide +kernel
theorem dX10_readLine_93 : decode cX10_readLine 93 = .ok (.bipush 7, 2) := by decide +kernel
theorem dX10_readLine_95 : decode cX10_readLine 95 = .ok (.invokevirtual 206, 3) := by decide +kernel
theorem dX10_readLine_98 : decode cX10_readLine 98 = .ok (.ifCond .eq 12, 3) := by decide +kernel
theorem dX10_readLine_101 : decode cX10_readLine 101 = .ok (.aload_n 0, 1) := by decide +kernel
theorem dX10_readLine_102 : decode cX10_readLine 102 = .ok (.iconst 0, 1) := by decide +kernel
theorem dX10_readLine_103 : decode cX10_readLine 103 = .ok (.iconst 4, 1) := by decide +kernel
theorem dX10_readLine_104 : decode cX10_readLine 104 = .ok (.iconst 0, 1) := by decide +kernel
theorem dX10_readLine_105 : decode cX10_readLine 105 = .ok (.iconst 5, 1) := by decide +kernel
theorem dX10_readLine_106 : decode cX10_readLine 106 = .ok (.invokevirtual 230, 3) := by decide +kernel
theorem dX10_readLine_109 : decode cX10_readLine 109 = .ok (.ireturn, 1) := by decide +kernel
theorem dX10_readLine_110 : decode cX10_readLine 110 = .ok (.aload_n 0, 1) := by decide +kernel
theorem dX10_readLine_111 : decode cX10_readLine 111 = .ok (.bipush 8, 2) := by decide +kernel
theorem dX10_readLine_113 : decode cX10_readLine 113 = .ok (.invokevirtual 206, 3) := by decide +kernel
theorem dX10_readLine_116 : decode cX10_readLine 116 = .ok (.ifCond .eq 15, 3) := by decide +kernel
theorem dX10_readLine_119 : decode cX10_readLine 119 = .ok (.aload_n 0, 1) := by decide +kernel
theorem dX10_readLine_120 : decode cX10_readLine 120 = .ok (.iconst 1, 1) := by decide +kernel
theorem dX10_readLine_121 : decode cX10_readLine 121 = .ok (.iconst 5, 1) := by decide +kernel
theorem dX10_readLine_122 : decode cX10_readLine 122 = .ok (.iconst 1, 1) := by decide +kernel
theorem dX10_readLine_123 : decode cX10_readLine 123 = .ok (.bipush 20, 2) := by decide +kernel
theorem dX10_readLine_125 : decode cX10_readLine 125 = .ok (.invokevirtual 230, 3) := by decide +kernel
theorem dX10_readLine_128 : decode cX10_readLine 128 = .ok (.goto 8, 3) := by decide +kernel
theorem dX10_readLine_131 : decode cX10_readLine 131 = .ok (.aload_n 0, 1) := by decide +kernel
theorem dX10_readLine_132 : decode cX10_readLine 132 = .ok (.iconst 1, 1) := by decide +kernel
theorem dX10_readLine_133 : decode cX10_readLine 133 = .ok (.invokevirtual 72, 3) := by decide +kernel
theorem dX10_readLine_136 : decode cX10_readLine 136 = .ok (.ireturn, 1) := by decide +kernel
theorem dX10_readNamed_0 : decode cX10_readNamed 0 = .ok (.aload_n 0, 1) := by decide +kernel
theorem dX10_readNamed_1 : decode cX10_readNamed 1 = .ok (.invokevirtual 173, 3) := by decide +kernel
theorem dX10_readNamed_4 : decode cX10_readNamed 4 = .ok (.ifCond .ne 9, 3) := by decide +kernel
theorem dX10_readNamed_7 : decode cX10_readNamed 7 = .ok (.aload_n 0, 1) := by decide +kernel
theorem dX10_readNamed_8 : decode cX10_readNamed 8 = .ok (.iconst 1, 1) := by decide +kernel
theorem dX10_readNamed_9 : decode cX10_readNamed 9 = .ok (.invokevirtual 72, 3) := by decide +kernel
theorem dX10_readNamed_12 : decode cX10_readNamed 12 = .ok (.ireturn, 1) := by decide +kernel
theorem dX10_readNamed_13 : decode cX10_readNamed 13 = .ok (.aload_n 0, 1) := by decide +kernel
theorem dX10_readNamed_14 : decode cX10_readNamed 14 = .ok (.aload_n 0, 1) := by decide +kernel
theorem dX10_readNamed_15 : decode cX10_readNamed 15 = .ok (.getfield 116, 3) := by decide +kernel
theorem dX10_readNamed_18 : decode cX10_readNamed 18 = .ok (.iload_n 1, 1) := by decide +kernel
theorem dX10_readNamed_19 : decode cX10_readNamed 19 = .ok (.iload_n 2, 1) := by decide +kernel
theorem dX10_readNamed_20 : decode cX10_readNamed 20 = .ok (.aload_n 0, 1) := by decide +kernel
theorem dX10_readNamed_21 : decode cX10_readNamed 21 = .ok (.getfield 43, 3) := by decide +kernel
theorem dX10_readNamed_24 : decode cX10_readNamed 24 = .ok (.invokestatic 169, 3) := by decide +kernel
theorem dX10_readNamed_27 : decode cX10_readNamed 27 = .ok (.putfield 79, 3) := by decide +kernel
theorem dX10_readNamed_30 : decode cX10_readNamed 30 = .ok (.aload_n 0, 1) := by decide +kernel
theorem dX10_readNamed_31 : decode cX10_readNamed 31 = .ok (.getfield 79, 3) := by decide +kernel
theorem dX10_readNamed_34 : decode cX10_readNamed 34 = .ok (.iconst (-1), 1) := by decide +kernel
theorem dX10_readNamed_35 : decode cX10_readNamed 35 = .ok (.if_icmp .ne 9, 3) := by decide +kernel
theorem dX10_readNamed_38 : decode cX10_readNamed 38 = .ok (.aload_n 0, 1) := by decide +kernel
theorem dX10_readNamed_39 : decode cX10_readNamed 39 = .ok (.iconst 3, 1) := by decide +kernel
theorem dX10_readNamed_40 : decode cX10_readNamed 40 = .ok (.invokevirtual 72, 3) := by decide +kernel
theorem dX10_readNamed_43 : decode cX10_readNamed 43 = .ok (.ireturn, 1) := by decide +kernel
theorem dX10_readNamed_44 : decode cX10_readNamed 44 = .ok (.aload_n 0, 1) := by decide +kernel
theorem dX10_readNamed_45 : decode cX10_readNamed 45 = .ok (.invokevirtual 82, 3) := by decide +kernel
theorem dX10_readNamed_48 : decode cX10_readNamed 48 = .ok (.iconst 1, 1) := by decide +kernel
theorem dX10_readNamed_49 : decode cX10_readNamed 49 = .ok (.ireturn, 1) := by decide +kernel
theorem dX10_readNew_0 : decode cX10_readNew 0 = .ok (.aload_n 0, 1) := by decide +kernel
theorem dX10_readNew_1 : decode cX10_readNew 1 = .ok (.invokevirtual 173, 3) := by decide +kernel
theorem dX10_readNew_4 : decode cX10_readNew 4 = .ok (.ifCond .ne 9, 3) := by decide +kernel
theorem dX10_readNew_7 : decode cX10_readNew 7 = .ok (.aload_n 0, 1) := by decide +kernel
theorem dX10_readNew_8 : decode cX10_readNew 8 = .ok (.iconst 1, 1) := by decide +kernel
theorem dX10_readNew_9 : decode cX10_readNew 9 = .ok (.invokevirtual 72, 3) := by decide +kernel
theorem dX10_readNew_12 : decode cX10_readNew 12 = .ok (.ireturn, 1) := by decide +kernel
theorem dX10_readNew_13 : decode cX10_readNew 13 = .ok (.aload_n 0, 1) := by decide +kernel
theorem dX10_readNew_14 : decode cX10_readNew 14 = .ok (.invokevirtual 177, 3) := by decide +kernel
theorem dX10_readNew_17 : decode cX10_readNew 17 = .ok (.ifCond .eq 9, 3) := by decide +kernel
theorem dX10_readNew_20 : decode cX10_readNew 20 = .ok (.aload_n 0, 1) := by decide +kernel
theorem dX10_readNew_21 : decode cX10_readNew 21 = .ok (.iconst 3, 1) := by decide +kernel
theorem dX10_readNew_22 : decode cX10_readNew 22 = .ok (.invokevirtual 72, 3) := by decide +kernel
theorem dX10_readNew_25 : decode cX10_readNew 25 = .ok (.ireturn, 1) := by decide +kernel
theorem dX10_readNew_26 : decode cX10_readNew 26 = .ok (.aload_n 0, 1) := by decide +kernel
theorem dX10_readNew_27 : decode cX10_readNew 27 = .ok (.getfield 120, 3) := by decide +kernel
theorem dX10_readNew_30 : decode cX10_readNew 30 = .ok (.iload_n 1, 1) := by decide +kernel
theorem dX10_readNew_31 : decode cX10_readNew 31 = .ok (.aload_n 0, 1) := by decide +kernel
theorem dX10_readNew_32 : decode cX10_readNew 32 = .ok (.getfield 43, 3) := by decide +kernel
theorem dX10_readNew_35 : decode cX10_readNew 35 = .ok (.lastore, 1) := by decide +kernel
theorem dX10_readNew_36 : decode cX10_readNew 36 = .ok (.aload_n 0, 1) := by decide +kernel
theorem dX10_readNew_37 : decode cX10_readNew 37 = .ok (.invokevirtual 82, 3) := by decide +kernel
theorem dX10_readNew_40 : decode cX10_readNew 40 = .ok (.iconst 1, 1) := by decide +kernel
theorem dX10_readNew_41 : decode cX10_readNew 41 = .ok (.ireturn, 1) := by decide +kernel
theorem dX10_readNewIdea_0 : decode cX10_readNewIdea 0 = .ok (.aload_n 0, 1) := by decide +kernel
theorem dX10_readNewIdea_1 : decode cX10_readNewIdea 1 = .ok (.iconst 0, 1) := by decide +kernel
theorem dX10_readNewIdea_2 : decode cX10_readNewIdea 2 = .ok (.bipush 6, 2) := by decide +kernel
theorem dX10_readNewIdea_4 : decode cX10_readNewIdea 4 = .ok (.invokevirtual 187, 3) := by decide +kernel
theorem dX10_readNewIdea_7 : decode cX10_readNewIdea 7 = .ok (.ifCond .ne 5, 3) := by decide +kernel
theorem dX10_readNewIdea_10 : decode cX10_readNewIdea 10 = .ok (.iconst 0, 1) := by decide +kernel
theorem dX10_readNewIdea_11 : decode cX10_readNewIdea 11 = .ok (.ireturn, 1) := by decide +kernel
theorem dX10_readNewIdea_12 : decode cX10_readNewIdea 12 = .ok (.aload_n 0, 1) := by decide +kernel
theorem dX10_readNewIdea_13 : decode cX10_readNewIdea 13 = .ok (.getfield 101, 3) := by decide +kernel
theorem dX10_readNewIdea_16 : decode cX10_readNewIdea 16 = .ok (.iconst 0, 1) := by decide +kernel
theorem dX10_readNewIdea_17 : decode cX10_readNewIdea 17 = .ok (.iaload, 1) := by decide +kernel
theorem dX10_readNewIdea_18 : decode cX10_readNewIdea 18 = .ok (.istore_n 1, 1) := by decide +kernel
theorem dX10_readNewIdea_19 : decode cX10_readNewIdea 19 = .ok (.aload_n 0, 1) := by decide +kernel
theorem dX10_readNewIdea_20 : decode cX10_readNewIdea 20 = .ok (.iload_n 1, 1) := by decide +kernel
theorem dX10_readNewIdea_21 : decode cX10_readNewIdea 21 = .ok (.invokevirtual 190, 3) := by decide +kernel
theorem dX10_readNewIdea_24 : decode cX10_readNewIdea 24 = .ok (.ifCond .eq 21, 3) := by decide +kernel
theorem dX10_readNewIdea_27 : decode cX10_readNewIdea 27 = .ok (.aload_n 0, 1) := by decide +kernel
theorem dX10_readNewIdea_28 : decode cX10_readNewIdea 28 = .ok (.bipush 6, 2) := by decide +kernel
theorem dX10_readNewIdea_30 : decode cX10_readNewIdea 30 = .ok (.iload_n 1, 1) := by decide +kernel
theorem dX10_readNewIdea_31 : decode cX10_readNewIdea 31 = .ok (.iadd, 1) := by decide +kernel
theorem dX10_readNewIdea_32 : decode cX10_readNewIdea 32 = .ok (.aload_n 0, 1) := by decide +kernel
theorem dX10_readNewIdea_33 : decode cX10_readNewIdea 33 = .ok (.iconst 1, 1) := by decide +kernel
theorem dX10_readNewIdea_34 : decode cX10_readNewIdea 34 = .ok (.bipush 60, 2) := by decide +kernel
theorem dX10_readNewIdea_36 : decode cX10_readNewIdea 36 = .ok (.invokevirtual 193, 3) := by decide +kernel
theorem dX10_readNewIdea_39 : decode cX10_readNewIdea 39 = .ok (.invokevirtual 196, 3) := by decide +kernel
theorem dX10_readNewIdea_42 : decode cX10_readNewIdea 42 = .ok (.ifCond .ne 5, 3) := by decide +kernel
theorem dX10_readNewIdea_45 : decode cX10_readNewIdea 45 = .ok (.iconst 0, 1) := by decide +kernel
theorem dX10_readNewIdea_46 : decode cX10_readNewIdea 46 = .ok (.ireturn, 1) := by decide +kernel
theorem dX10_readNewIdea_47 : decode cX10_readNewIdea 47 = .ok (.aload_n 0, 1) := by decide +kernel
theorem dX10_readNewIdea_48 : decode cX10_readNewIdea 48 = .ok (.getfield 101, 3) := by decide +kernel
theorem dX10_readNewIdea_51 : decode cX10_readNewIdea 51 = .ok (.iconst 0, 1) := by decide +kernel
theorem dX10_readNewIdea_52 : decode cX10_readNewIdea 52 = .ok (.dup2, 1) := by decide +kernel
theorem dX10_readNewIdea_53 : decode cX10_readNewIdea 53 = .ok (.iaload, 1) := by decide +kernel
theorem dX10_readNewIdea_54 : decode cX10_readNewIdea 54 = .ok (.iconst 1, 1) := by decide +kernel
theorem dX10_readNewIdea_55 : decode cX10_readNewIdea 55 = .ok (.iadd, 1) := by decide +kernel
theorem dX10_readNewIdea_56 : decode cX10_readNewIdea 56 = .ok (.iastore, 1) := by decide +kernel
theorem dX10_readNewIdea_57 : decode cX10_readNewIdea 57 = .ok (.iconst 1, 1) := by decide +kernel
theorem dX10_readNewIdea_58 : decode cX10_readNewIdea 58 = .ok (.ireturn, 1) := by decide +kernel
theorem dX10_readNumber_0 : decode cX10_readNumber 0 = .ok (.aload_n 0, 1) := by decide +kernel
theorem dX10_readNumber_1 : decode cX10_readNumber 1 = .ok (.getfield 30, 3) := by decide +kernel
theorem dX10_readNumber_4 : decode cX10_readNumber 4 = .ok (.iconst 3, 1) := by decide +kernel
theorem dX10_readNumber_5 : decode cX10_readNumber 5 = .ok (.if_icmp .eq 9, 3) := by decide +kernel
theorem dX10_readNumber_8 : decode cX10_readNumber 8 = .ok (.aload_n 0, 1) := by decide +kernel
theorem dX10_readNumber_9 : decode cX10_readNumber 9 = .ok (.iconst 1, 1) := by decide +kernel
theorem dX10_readNumber_10 : decode cX10_readNumber 10 = .ok (.invokevirtual 72, 3) := by decide +kernel
theorem dX10_readNumber_13 : decode cX10_readNumber 13 = .ok (.ireturn, 1) := by decide +kernel
theorem dX10_readNumber_14 : decode cX10_readNumber 14 = .ok (.aload_n 0, 1) := by decide +kernel
theorem dX10_readNumber_15 : decode cX10_readNumber 15 = .ok (.getfield 47, 3) := by decide +kernel
theorem dX10_readNumber_18 : decode cX10_readNumber 18 = .ok (.iload_n 1, 1) := by decide +kernel
theorem dX10_readNumber_19 : decode cX10_readNumber 19 = .ok (.iload_n 2, 1) := by decide +kernel
theorem dX10_readNumber_20 : decode cX10_readNumber 20 = .ok (.invokestatic 75, 3) := by decide +kernel
theorem dX10_readNumber_23 : decode cX10_readNumber 23 = .ok (.ifCond .ne 9, 3) := by decide +kernel
theorem dX10_readNumber_26 : decode cX10_readNumber 26 = .ok (.aload_n 0, 1) := by decide +kernel
theorem dX10_readNumber_27 : decode cX10_readNumber 27 = .ok (.iconst 2, 1) := by decide +kernel
theorem dX10_readNumber_28 : decode cX10_readNumber 28 = .ok (.invokevirtual 72, 3) := by decide +kernel
theorem dX10_readNumber_31 : decode cX10_readNumber 31 = .ok (.ireturn, 1) := by decide +kernel
theorem dX10_readNumber_32 : decode cX10_readNumber 32 = .ok (.aload_n 0, 1) := by decide +kernel
theorem dX10_readNumber_33 : decode cX10_readNumber 33 = .ok (.aload_n 0, 1) := by decide +kernel
theorem dX10_readNumber_34 : decode cX10_readNumber 34 = .ok (.getfield 47, 3) := by decide +kernel
theorem dX10_readNumber_37 : decode cX10_readNumber 37 = .ok (.putfield 79, 3) := by decide +kernel
theorem dX10_readNumber_40 : decode cX10_readNumber 40 = .ok (.aload_n 0, 1) := by decide +kernel
theorem dX10_readNumber_41 : decode cX10_readNumber 41 = .ok (.invokevirtual 82, 3) := by decide +kernel
theorem dX10_readNumber_44 : decode cX10_readNumber 44 = .ok (.iconst 1, 1) := by decide +kernel
theorem dX10_readNumber_45 : decode cX10_readNumber 45 = .ok (.ireturn, 1) := by decide +kernel
theorem dX10_readOnce_0 : decode cX10_readOnce 0 = .ok (.aload_n 0, 1) := by decide +kernel
theorem dX10_readOnce_1 : decode cX10_readOnce 1 = .ok (.getfield 130, 3) := by decide +kernel
theorem dX10_readOnce_4 : decode cX10_readOnce 4 = .ok (.iload_n 1, 1) := by decide +kernel
theorem dX10_readOnce_5 : decode cX10_readOnce 5 = .ok (.baload, 1) := by decide +kernel
theorem dX10_readOnce_6 : decode cX10_readOnce 6 = .ok (.ifCond .eq 9, 3) := by decide +kernel
theorem dX10_readOnce_9 : decode cX10_readOnce 9 = .ok (.aload_n 0, 1) := by decide +kernel
theorem dX10_readOnce_10 : decode cX10_readOnce 10 = .ok (.iconst 3, 1) := by decide +kernel
theorem dX10_readOnce_11 : decode cX10_readOnce 11 = .ok (.invokevirtual 72, 3) := by decide +kernel
theorem dX10_readOnce_14 : decode cX10_readOnce 14 = .ok (.ireturn, 1) := by decide +kernel
theorem dX10_readOnce_15 : decode cX10_readOnce 15 = .ok (.aload_n 0, 1) := by decide +kernel
theorem dX10_readOnce_16 : decode cX10_readOnce 16 = .ok (.getfield 130, 3) := by decide +kernel
theorem dX10_readOnce_19 : decode cX10_readOnce 19 = .ok (.iload_n 1, 1) := by decide +kernel
theorem dX10_readOnce_20 : decode cX10_readOnce 20 = .ok (.iconst 1, 1) := by decide +kernel
theorem dX10_readOnce_21 : decode cX10_readOnce 21 = .ok (.bastore, 1) := by decide +kernel
theorem dX10_readOnce_22 : decode cX10_readOnce 22 = .ok (.aload_n 0, 1) := by decide +kernel
theorem dX10_readOnce_23 : decode cX10_readOnce 23 = .ok (.invokevirtual 82, 3) := by decide +kernel
theorem dX10_readOnce_26 : decode cX10_readOnce 26 = .ok (.aload_n 0, 1) := by decide +kernel
theorem dX10_readOnce_27 : decode cX10_readOnce 27 = .ok (.iload_n 2, 1) := by decide +kernel
theorem dX10_readOnce_28 : decode cX10_readOnce 28 = .ok (.aload_n 0, 1) := by decide +kernel
theorem dX10_readOnce_29 : decode cX10_readOnce 29 = .ok (.iload_n 3, 1) := by decide +kernel
theorem dX10_readOnce_30 : decode cX10_readOnce 30 = .ok (.iload 4, 2) := by decide +kernel
theorem dX10_readOnce_32 : decode cX10_readOnce 32 = .ok (.invokevirtual 193, 3) := by decide +kernel
theorem dX10_readOnce_35 : decode cX10_readOnce 35 = .ok (.invokevirtual 196, 3) := by decide +kernel
theorem dX10_readOnce_38 : decode cX10_readOnce 38 = .ok (.ireturn, 1) := by decide +kernel
theorem dX10_readOne_0 : decode cX10_readOne 0 = .ok (.aload_n 0, 1) := by decide +kernel
theorem dX10_readOne_1 : decode cX10_readOne 1 = .ok (.iload_n 1, 1) := by decide +kernel
theorem dX10_readOne_2 : decode cX10_readOne 2 = .ok (.iload_n 2, 1) := by decide +kernel
theorem dX10_readOne_3 : decode cX10_readOne 3 = .ok (.invokevirtual 180, 3) := by decide +kernel
theorem dX10_readOne_6 : decode cX10_readOne 6 = .ok (.ifCond .ne 5, 3) := by decide +kernel
theorem dX10_readOne_9 : decode cX10_readOne 9 = .ok (.iconst 0, 1) := by decide +kernel
theorem dX10_readOne_10 : decode cX10_readOne 10 = .ok (.ireturn, 1) := by decide +kernel
theorem dX10_readOne_11 : decode cX10_readOne 11 = .ok (.aload_n 0, 1) := by decide +kernel
theorem dX10_readOne_12 : decode cX10_readOne 12 = .ok (.invokevirtual 82, 3) := by decide +kernel
theorem dX10_readOne_15 : decode cX10_readOne 15 = .ok (.iconst 1, 1) := by decide +kernel
theorem dX10_readOne_16 : decode cX10_readOne 16 = .ok (.ireturn, 1) := by decide +kernel
theorem dX10_readParcel_0 : decode cX10_readParcel 0 = .ok (.aload_n 0, 1) := by decide +kernel
theorem dX10_readParcel_1 : decode cX10_readParcel 1 = .ok (.iconst 2, 1) := by decide +kernel
theorem dX10_readParcel_2 : decode cX10_readParcel 2 = .ok (.bipush 6, 2) := by decide +kernel
theorem dX10_readParcel_4 : decode cX10_readParcel 4 = .ok (.invokevirtual 187, 3) := by decide +kernel
theorem dX10_readParcel_7 : decode cX10_readParcel 7 = .ok (.ifCond .ne 5, 3) := by decide +kernel
theorem dX10_readParcel_10 : decode cX10_readParcel 10 = .ok (.iconst 0, 1) := by decide +kernel
theorem dX10_readParcel_11 : decode cX10_readParcel 11 = .ok (.ireturn, 1) := by decide +kernel
theorem dX10_readParcel_12 : decode cX10_readParcel 12 = .ok (.aload_n 0, 1) := by decide +kernel
theorem dX10_readParcel_13 : decode cX10_readParcel 13 = .ok (.getfield 101, 3) := by decide +kernel
theorem dX10_readParcel_16 : decode cX10_readParcel 16 = .ok (.iconst 2, 1) := by decide +kernel
theorem dX10_readParcel_17 : decode cX10_readParcel 17 = .ok (.iaload, 1) := by decide +kernel
theorem dX10_readParcel_18 : decode cX10_readParcel 18 = .ok (.istore_n 1, 1) := by decide +kernel
theorem dX10_readParcel_19 : decode cX10_readParcel 19 = .ok (.aload_n 0, 1) := by decide +kernel
theorem dX10_readParcel_20 : decode cX10_readParcel 20 = .ok (.bipush 10, 2) := by decide +kernel
theorem dX10_readParcel_22 : decode cX10_readParcel 22 = .ok (.iload_n 1, 1) := by decide +kernel
theorem dX10_readParcel_23 : decode cX10_readParcel 23 = .ok (.iadd, 1) := by decide +kernel
theorem dX10_readParcel_24 : decode cX10_readParcel 24 = .ok (.invokevirtual 190, 3) := by decide +kernel
theorem dX10_readParcel_27 : decode cX10_readParcel 27 = .ok (.ifCond .eq 26, 3) := by decide +kernel
theorem dX10_readParcel_30 : decode cX10_readParcel 30 = .ok (.aload_n 0, 1) := by decide +kernel
theorem dX10_readParcel_31 : decode cX10_readParcel 31 = .ok (.bipush 18, 2) := by decide +kernel
theorem dX10_readParcel_33 : decode cX10_readParcel 33 = .ok (.iload_n 1, 1) := by decide +kernel
theorem dX10_readParcel_34 : decode cX10_readParcel 34 = .ok (.iadd, 1) := by decide +kernel
theorem dX10_readParcel_35 : decode cX10_readParcel 35 = .ok (.aload_n 0, 1) := by decide +kernel
theorem dX10_readParcel_36 : decode cX10_readParcel 36 = .ok (.bipush 6, 2) := by decide +kernel
theorem dX10_readParcel_38 : decode cX10_readParcel 38 = .ok (.aload_n 0, 1) := by decide +kernel
theorem dX10_readParcel_39 : decode cX10_readParcel 39 = .ok (.getfield 101, 3) := by decide +kernel
theorem dX10_readParcel_42 : decode cX10_readParcel 42 = .ok (.iconst 1, 1) := by decide +kernel
theorem dX10_readParcel_43 : decode cX10_readParcel 43 = .ok (.iaload, 1) := by decide +kernel
theorem dX10_readParcel_44 : decode cX10_readParcel 44 = .ok (.invokevirtual 184, 3) := by decide +kernel
theorem dX10_readParcel_47 : decode cX10_readParcel 47 = .ok (.invokevirtual 196, 3) := by decide +kernel
theorem dX10_readParcel_50 : decode cX10_readParcel 50 = .ok (.ifCond .ne 5, 3) := by decide +kernel
theorem dX10_readParcel_53 : decode cX10_readParcel 53 = .ok (.iconst 0, 1) := by decide +kernel
theorem dX10_readParcel_54 : decode cX10_readParcel 54 = .ok (.ireturn, 1) := by decide +kernel
theorem dX10_readParcel_55 : decode cX10_readParcel 55 = .ok (.aload_n 0, 1) := by decide +kernel
theorem dX10_readParcel_56 : decode cX10_readParcel 56 = .ok (.getfield 101, 3) := by decide +kernel
theorem dX10_readParcel_59 : decode cX10_readParcel 59 = .ok (.iconst 2, 1) := by decide +kernel
theorem dX10_readParcel_60 : decode cX10_readParcel 60 = .ok (.dup2, 1) := by decide +kernel
theorem dX10_readParcel_61 : decode cX10_readParcel 61 = .ok (.iaload, 1) := by decide +kernel
theorem dX10_readParcel_62 : decode cX10_readParcel 62 = .ok (.iconst 1, 1) := by decide +kernel
theorem dX10_readParcel_63 : decode cX10_readParcel 63 = .ok (.iadd, 1) := by decide +kernel
theorem dX10_readParcel_64 : decode cX10_readParcel 64 = .ok (.iastore, 1) := by decide +kernel
theorem dX10_readParcel_65 : decode cX10_readParcel 65 = .ok (.iconst 1, 1) := by decide +kernel
theorem dX10_readParcel_66 : decode cX10_readParcel 66 = .ok (.ireturn, 1) := by decide +kernel
theorem dX10_readParcelName_0 : decode cX10_readParcelName 0 = .ok (.aload_n 0, 1) := by decide +kernel
theorem dX10_readParcelName_1 : decode cX10_readParcelName 1 = .ok (.bipush 10, 2) := by decide +kernel
theorem dX10_readParcelName_3 : decode cX10_readParcelName 3 = .ok (.aload_n 0, 1) := by decide +kernel
theorem dX10_readParcelName_4 : decode cX10_readParcelName 4 = .ok (.getfield 98, 3) := by decide +kernel
theorem dX10_readParcelName_7 : decode cX10_readParcelName 7 = .ok (.iconst 2, 1) := by decide +kernel
theorem dX10_readParcelName_8 : decode cX10_readParcelName 8 = .ok (.iaload, 1) := by decide +kernel
theorem dX10_readParcelName_9 : decode cX10_readParcelName 9 = .ok (.invokevirtual 394, 3) := by decide +kernel
theorem dX10_readParcelName_12 : decode cX10_readParcelName 12 = .ok (.ireturn, 1) := by decide +kernel
theorem dX10_readPerson_0 : decode cX10_readPerson 0 = .ok (.aload_n 0, 1) := by decide +kernel
theorem dX10_readPerson_1 : decode cX10_readPerson 1 = .ok (.iconst 3, 1) := by decide +kernel
theorem dX10_readPerson_2 : decode cX10_readPerson 2 = .ok (.bipush 8, 2) := by decide +kernel
theorem dX10_readPerson_4 : decode cX10_readPerson 4 = .ok (.invokevirtual 187, 3) := by decide +kernel
theorem dX10_readPerson_7 : decode cX10_readPerson 7 = .ok (.ifCond .ne 5, 3) := by decide +kernel
theorem dX10_readPerson_10 : decode cX10_readPerson 10 = .ok (.iconst 0, 1) := by decide +kernel
theorem dX10_readPerson_11 : decode cX10_readPerson 11 = .ok (.ireturn, 1) := by decide +kernel
theorem dX10_readPerson_12 : decode cX10_readPerson 12 = .ok (.aload_n 0, 1) := by decide +kernel
theorem dX10_readPerson_13 : decode cX10_readPerson 13 = .ok (.getfield 101, 3) := by decide +kernel
theorem dX10_readPerson_16 : decode cX10_readPerson 16 = .ok (.iconst 3, 1) := by decide +kernel
theorem dX10_readPerson_17 : decode cX10_readPerson 17 = .ok (.iaload, 1) := by decide +kernel
theorem dX10_readPerson_18 : decode cX10_readPerson 18 = .ok (.istore_n 1, 1) := by decide +kernel
theorem dX10_readPerson_19 : decode cX10_readPerson 19 = .ok (.aload_n 0, 1) := by decide +kernel
theorem dX10_readPerson_20 : decode cX10_readPerson 20 = .ok (.bipush 16, 2) := by decide +kernel
theorem dX10_readPerson_22 : decode cX10_readPerson 22 = .ok (.iload_n 1, 1) := by decide +kernel
theorem dX10_readPerson_23 : decode cX10_readPerson 23 = .ok (.iadd, 1) := by decide +kernel
theorem dX10_readPerson_24 : decode cX10_readPerson 24 = .ok (.invokevirtual 190, 3) := by decide +kernel
theorem dX10_readPerson_27 : decode cX10_readPerson 27 = .ok (.ifCond .eq 36, 3) := by decide +kernel
theorem dX10_readPerson_30 : decode cX10_readPerson 30 = .ok (.aload_n 0, 1) := by decide +kernel
theorem dX10_readPerson_31 : decode cX10_readPerson 31 = .ok (.bipush 24, 2) := by decide +kernel
theorem dX10_readPerson_33 : decode cX10_readPerson 33 = .ok (.iload_n 1, 1) := by decide +kernel
theorem dX10_readPerson_34 : decode cX10_readPerson 34 = .ok (.iadd, 1) := by decide +kernel
theorem dX10_readPerson_35 : decode cX10_readPerson 35 = .ok (.aload_n 0, 1) := by decide +kernel
theorem dX10_readPerson_36 : decode cX10_readPerson 36 = .ok (.invokevirtual 200, 3) := by decide +kernel
theorem dX10_readPerson_39 : decode cX10_readPerson 39 = .ok (.invokevirtual 196, 3) := by decide +kernel
theorem dX10_readPerson_42 : decode cX10_readPerson 42 = .ok (.ifCond .eq 21, 3) := by decide +kernel
theorem dX10_readPerson_45 : decode cX10_readPerson 45 = .ok (.aload_n 0, 1) := by decide +kernel
theorem dX10_readPerson_46 : decode cX10_readPerson 46 = .ok (.bipush 32, 2) := by decide +kernel
theorem dX10_readPerson_48 : decode cX10_readPerson 48 = .ok (.iload_n 1, 1) := by decide +kernel
theorem dX10_readPerson_49 : decode cX10_readPerson 49 = .ok (.iadd, 1) := by decide +kernel
theorem dX10_readPerson_50 : decode cX10_readPerson 50 = .ok (.aload_n 0, 1) := by decide +kernel
theorem dX10_readPerson_51 : decode cX10_readPerson 51 = .ok (.iconst 1, 1) := by decide +kernel
theorem dX10_readPerson_52 : decode cX10_readPerson 52 = .ok (.bipush 9, 2) := by decide +kernel
theorem dX10_readPerson_54 : decode cX10_readPerson 54 = .ok (.invokevirtual 193, 3) := by decide +kernel
theorem dX10_readPerson_57 : decode cX10_readPerson 57 = .ok (.invokevirtual 196, 3) := by decide +kernel
theorem dX10_readPerson_60 : decode cX10_readPerson 60 = .ok (.ifCond .ne 5, 3) := by decide +kernel
theorem dX10_readPerson_63 : decode cX10_readPerson 63 = .ok (.iconst 0, 1) := by decide +kernel
theorem dX10_readPerson_64 : decode cX10_readPerson 64 = .ok (.ireturn, 1) := by decide +kernel
theorem dX10_readPerson_65 : decode cX10_readPerson 65 = .ok (.aload_n 0, 1) := by decide +kernel
theorem dX10_readPerson_66 : decode cX10_readPerson 66 = .ok (.getfield 101, 3) := by decide +kernel
theorem dX10_readPerson_69 : decode cX10_readPerson 69 = .ok (.bipush 40, 2) := by decide +kernel
theorem dX10_readPerson_71 : decode cX10_readPerson 71 = .ok (.iload_n 1, 1) := by decide +kernel
theorem dX10_readPerson_72 : decode cX10_readPerson 72 = .ok (.iadd, 1) := by decide +kernel
theorem dX10_readPerson_73 : decode cX10_readPerson 73 = .ok (.iconst (-1), 1) := by decide +kernel
theorem dX10_readPerson_74 : decode cX10_readPerson 74 = .ok (.iastore, 1) := by decide +kernel
theorem dX10_readPerson_75 : decode cX10_readPerson 75 = .ok (.aload_n 0, 1) := by decide +kernel
theorem dX10_readPerson_76 : decode cX10_readPerson 76 = .ok (.getfield 101, 3) := by decide +kernel
theorem dX10_readPerson_79 : decode cX10_readPerson 79 = .ok (.iconst 3, 1) := by decide +kernel
theorem dX10_readPerson_80 : decode cX10_readPerson 80 = .ok (.dup2, 1) := by decide +kernel
theorem dX10_readPerson_81 : decode cX10_readPerson 81 = .ok (.iaload, 1) := by decide +kernel
theorem dX10_readPerson_82 : decode cX10_readPerson 82 = .ok (.iconst 1, 1) := by decide +kernel
theorem dX10_readPerson_83 : decode cX10_readPerson 83 = .ok (.iadd, 1) := by decide +kernel
theorem dX10_readPerson_84 : decode cX10_readPerson 84 = .ok (.iastore, 1) := by decide +kernel
theorem dX10_readPerson_85 : decode cX10_readPerson 85 = .ok (.iconst 1, 1) := by decide +kernel
theorem dX10_readPerson_86 : decode cX10_readPerson 86 = .ok (.ireturn, 1) := by decide +kernel
theorem dX10_readQuarrel_0 : decode cX10_readQuarrel 0 = .ok (.aload_n 0, 1) := by decide +kernel
theorem dX10_readQuarrel_1 : decode cX10_readQuarrel 1 = .ok (.invokevirtual 82, 3) := by decide +kernel
theorem dX10_readQuarrel_4 : decode cX10_readQuarrel 4 = .ok (.aload_n 0, 1) := by decide +kernel
theorem dX10_readQuarrel_5 : decode cX10_readQuarrel 5 = .ok (.invokevirtual 200, 3) := by decide +kernel
theorem dX10_readQuarrel_8 : decode cX10_readQuarrel 8 = .ok (.ifCond .ne 5, 3) := by decide +kernel
theorem dX10_readQuarrel_11 : decode cX10_readQuarrel 11 = .ok (.iconst 0, 1) := by decide +kernel
theorem dX10_readQuarrel_12 : decode cX10_readQuarrel 12 = .ok (.ireturn, 1) := by decide +kernel
theorem dX10_readQuarrel_13 : decode cX10_readQuarrel 13 = .ok (.aload_n 0, 1) := by decide +kernel
theorem dX10_readQuarrel_14 : decode cX10_readQuarrel 14 = .ok (.getfield 79, 3) := by decide +kernel
theorem dX10_readQuarrel_17 : decode cX10_readQuarrel 17 = .ok (.istore_n 1, 1) := by decide +kernel
theorem dX10_readQuarrel_18 : decode cX10_readQuarrel 18 = .ok (.aload_n 0, 1) := by decide +kernel
theorem dX10_readQuarrel_19 : decode cX10_readQuarrel 19 = .ok (.iconst 0, 1) := by decide +kernel
theorem dX10_readQuarrel_20 : decode cX10_readQuarrel 20 = .ok (.aload_n 0, 1) := by decide +kernel
theorem dX10_readQuarrel_21 : decode cX10_readQuarrel 21 = .ok (.getfield 101, 3) := by decide +kernel
theorem dX10_readQuarrel_24 : decode cX10_readQuarrel 24 = .ok (.iconst 0, 1) := by decide +kernel
theorem dX10_readQuarrel_25 : decode cX10_readQuarrel 25 = .ok (.iaload, 1) := by decide +kernel
theorem dX10_readQuarrel_26 : decode cX10_readQuarrel 26 = .ok (.invokevirtual 180, 3) := by decide +kernel
theorem dX10_readQuarrel_29 : decode cX10_readQuarrel 29 = .ok (.ifCond .ne 5, 3) := by decide +kernel
theorem dX10_readQuarrel_32 : decode cX10_readQuarrel 32 = .ok (.iconst 0, 1) := by decide +kernel
theorem dX10_readQuarrel_33 : decode cX10_readQuarrel 33 = .ok (.ireturn, 1) := by decide +kernel
theorem dX10_readQuarrel_34 : decode cX10_readQuarrel 34 = .ok (.aload_n 0, 1) := by decide +kernel
theorem dX10_readQuarrel_35 : decode cX10_readQuarrel 35 = .ok (.getfield 79, 3) := by decide +kernel
theorem dX10_readQuarrel_38 : decode cX10_readQuarrel 38 = .ok (.iload_n 1, 1) := by decide +kernel
theorem dX10_readQuarrel_39 : decode cX10_readQuarrel 39 = .ok (.if_icmp .eq 22, 3) := by decide +kernel
theorem dX10_readQuarrel_42 : decode cX10_readQuarrel 42 = .ok (.aload_n 0, 1) := by decide +kernel
theorem dX10_readQuarrel_43 : decode cX10_readQuarrel 43 = .ok (.getfield 101, 3) := by decide +kernel
theorem dX10_readQuarrel_46 : decode cX10_readQuarrel 46 = .ok (.bipush 12, 2) := by decide +kernel
theorem dX10_readQuarrel_48 : decode cX10_readQuarrel 48 = .ok (.iload_n 1, 1) := by decide +kernel
theorem dX10_readQuarrel_49 : decode cX10_readQuarrel 49 = .ok (.iadd, 1) := by decide +kernel
theorem dX10_readQuarrel_50 : decode cX10_readQuarrel 50 = .ok (.iaload, 1) := by decide +kernel
theorem dX10_readQuarrel_51 : decode cX10_readQuarrel 51 = .ok (.aload_n 0, 1) := by decide +kernel
theorem dX10_readQuarrel_52 : decode cX10_readQuarrel 52 = .ok (.getfield 79, 3) := by decide +kernel
theorem dX10_readQuarrel_55 : decode cX10_readQuarrel 55 = .ok (.invokestatic 203, 3) := by decide +kernel
theorem dX10_readQuarrel_58 : decode cX10_readQuarrel 58 = .ok (.ifCond .eq 9, 3) := by decide +kernel
theorem dX10_readQuarrel_61 : decode cX10_readQuarrel 61 = .ok (.aload_n 0, 1) := by decide +kernel
theorem dX10_readQuarrel_62 : decode cX10_readQuarrel 62 = .ok (.iconst 3, 1) := by decide +kernel
theorem dX10_readQuarrel_63 : decode cX10_readQuarrel 63 = .ok (.invokevirtual 72, 3) := by decide +kernel
theorem dX10_readQuarrel_66 : decode cX10_readQuarrel 66 = .ok (.ireturn, 1) := by decide +kernel
theorem dX10_readQuarrel_67 : decode cX10_readQuarrel 67 = .ok (.aload_n 0, 1) := by decide +kernel
theorem dX10_readQuarrel_68 : decode cX10_readQuarrel 68 = .ok (.getfield 101, 3) := by decide +kernel
theorem dX10_readQuarrel_71 : decode cX10_readQuarrel 71 = .ok (.bipush 12, 2) := by decide +kernel
theorem dX10_readQuarrel_73 : decode cX10_readQuarrel 73 = .ok (.iload_n 1, 1) := by decide +kernel
theorem dX10_readQuarrel_74 : decode cX10_readQuarrel 74 = .ok (.iadd, 1) := by decide +kernel
theorem dX10_readQuarrel_75 : decode cX10_readQuarrel 75 = .ok (.dup2, 1) := by decide +kernel
theorem dX10_readQuarrel_76 : decode cX10_readQuarrel 76 = .ok (.iaload, 1) := by decide +kernel
theorem dX10_readQuarrel_77 : decode cX10_readQuarrel 77 = .ok (.iconst 1, 1) := by decide +kernel
theorem dX10_readQuarrel_78 : decode cX10_readQuarrel 78 = .ok (.aload_n 0, 1) := by decide +kernel
theorem dX10_readQuarrel_79 : decode cX10_readQuarrel 79 = .ok (.getfield 79, 3) := by decide +kernel
theorem dX10_readQuarrel_82 : decode cX10_readQuarrel 82 = .ok (.ishl, 1) := by decide +kernel
theorem dX10_readQuarrel_83 : decode cX10_readQuarrel 83 = .ok (.ior, 1) := by decide +kernel
theorem dX10_readQuarrel_84 : decode cX10_readQuarrel 84 = .ok (.iastore, 1) := by decide +kernel
theorem dX10_readQuarrel_85 : decode cX10_readQuarrel 85 = .ok (.aload_n 0, 1) := by decide +kernel
theorem dX10_readQuarrel_86 : decode cX10_readQuarrel 86 = .ok (.getfield 101, 3) := by decide +kernel
theorem dX10_readQuarrel_89 : decode cX10_readQuarrel 89 = .ok (.bipush 12, 2) := by decide +kernel
theorem dX10_readQuarrel_91 : decode cX10_readQuarrel 91 = .ok (.aload_n 0, 1) := by decide +kernel
theorem dX10_readQuarrel_92 : decode cX10_readQuarrel 92 = .ok (.getfield 79, 3) := by decide +kernel
theorem dX10_readQuarrel_95 : decode cX10_readQuarrel 95 = .ok (.iadd, 1) := by decide +kernel
theorem dX10_readQuarrel_96 : decode cX10_readQuarrel 96 = .ok (.dup2, 1) := by decide +kernel
theorem dX10_readQuarrel_97 : decode cX10_readQuarrel 97 = .ok (.iaload, 1) := by decide +kernel
theorem dX10_readQuarrel_98 : decode cX10_readQuarrel 98 = .ok (.iconst 1, 1) := by decide +kernel
theorem dX10_readQuarrel_99 : decode cX10_readQuarrel 99 = .ok (.iload_n 1, 1) := by decide +kernel
theorem dX10_readQuarrel_100 : decode cX10_readQuarrel 100 = .ok (.ishl, 1) := by decide +kernel
theorem dX10_readQuarrel_101 : decode cX10_readQuarrel 101 = .ok (.ior, 1) := by decide +kernel
theorem dX10_readQuarrel_102 : decode cX10_readQuarrel 102 = .ok (.iastore, 1) := by decide +kernel
theorem dX10_readQuarrel_103 : decode cX10_readQuarrel 103 = .ok (.aload_n 0, 1) := by decide +kernel
theorem dX10_readQuarrel_104 : decode cX10_readQuarrel 104 = .ok (.invokevirtual 82, 3) := by decide +kernel
theorem dX10_readQuarrel_107 : decode cX10_readQuarrel 107 = .ok (.iconst 1, 1) := by decide +kernel
theorem dX10_readQuarrel_108 : decode cX10_readQuarrel 108 = .ok (.ireturn, 1) := by decide +kernel
theorem dX10_readRoom_0 : decode cX10_readRoom 0 = .ok (.aload_n 0, 1) := by decide +kernel
theorem dX10_readRoom_1 : decode cX10_readRoom 1 = .ok (.iconst 1, 1) := by decide +kernel
theorem dX10_readRoom_2 : decode cX10_readRoom 2 = .ok (.iconst 4, 1) := by decide +kernel
theorem dX10_readRoom_3 : decode cX10_readRoom 3 = .ok (.invokevirtual 187, 3) := by decide +kernel
theorem dX10_readRoom_6 : decode cX10_readRoom 6 = .ok (.ifCond .eq 19, 3) := by decide +kernel
theorem dX10_readRoom_9 : decode cX10_readRoom 9 = .ok (.aload_n 0, 1) := by decide +kernel
theorem dX10_readRoom_10 : decode cX10_readRoom 10 = .ok (.bipush 6, 2) := by decide +kernel
theorem dX10_readRoom_12 : decode cX10_readRoom 12 = .ok (.aload_n 0, 1) := by decide +kernel
theorem dX10_readRoom_13 : decode cX10_readRoom 13 = .ok (.getfield 101, 3) := by decide +kernel
theorem dX10_readRoom_16 : decode cX10_readRoom 16 = .ok (.iconst 1, 1) := by decide +kernel
theorem dX10_readRoom_17 : decode cX10_readRoom 17 = .ok (.iaload, 1) := by decide +kernel
theorem dX10_readRoom_18 : decode cX10_readRoom 18 = .ok (.iadd, 1) := by decide +kernel
theorem dX10_readRoom_19 : decode cX10_readRoom 19 = .ok (.invokevirtual 190, 3) := by decide +kernel
theorem dX10_readRoom_22 : decode cX10_readRoom 22 = .ok (.ifCond .ne 5, 3) := by decide +kernel
theorem dX10_readRoom_25 : decode cX10_readRoom 25 = .ok (.iconst 0, 1) := by decide +kernel
theorem dX10_readRoom_26 : decode cX10_readRoom 26 = .ok (.ireturn, 1) := by decide +kernel
theorem dX10_readRoom_27 : decode cX10_readRoom 27 = .ok (.aload_n 0, 1) := by decide +kernel
theorem dX10_readRoom_28 : decode cX10_readRoom 28 = .ok (.getfield 101, 3) := by decide +kernel
theorem dX10_readRoom_31 : decode cX10_readRoom 31 = .ok (.iconst 1, 1) := by decide +kernel
theorem dX10_readRoom_32 : decode cX10_readRoom 32 = .ok (.dup2, 1) := by decide +kernel
theorem dX10_readRoom_33 : decode cX10_readRoom 33 = .ok (.iaload, 1) := by decide +kernel
theorem dX10_readRoom_34 : decode cX10_readRoom 34 = .ok (.iconst 1, 1) := by decide +kernel
theorem dX10_readRoom_35 : decode cX10_readRoom 35 = .ok (.iadd, 1) := by decide +kernel
theorem dX10_readRoom_36 : decode cX10_readRoom 36 = .ok (.iastore, 1) := by decide +kernel
theorem dX10_readRoom_37 : decode cX10_readRoom 37 = .ok (.iconst 1, 1) := by decide +kernel
theorem dX10_readRoom_38 : decode cX10_readRoom 38 = .ok (.ireturn, 1) := by decide +kernel
theorem dX10_readSits_0 : decode cX10_readSits 0 = .ok (.aload_n 0, 1) := by decide +kernel
theorem dX10_readSits_1 : decode cX10_readSits 1 = .ok (.invokevirtual 82, 3) := by decide +kernel
theorem dX10_readSits_4 : decode cX10_readSits 4 = .ok (.aload_n 0, 1) := by decide +kernel
theorem dX10_readSits_5 : decode cX10_readSits 5 = .ok (.bipush 16, 2) := by decide +kernel
theorem dX10_readSits_7 : decode cX10_readSits 7 = .ok (.aload_n 0, 1) := by decide +kernel
theorem dX10_readSits_8 : decode cX10_readSits 8 = .ok (.getfield 101, 3) := by decide +kernel
theorem dX10_readSits_11 : decode cX10_readSits 11 = .ok (.iconst 3, 1) := by decide +kernel
theorem dX10_readSits_12 : decode cX10_readSits 12 = .ok (.iaload, 1) := by decide +kernel
theorem dX10_readSits_13 : decode cX10_readSits 13 = .ok (.invokevirtual 180, 3) := by decide +kernel
theorem dX10_readSits_16 : decode cX10_readSits 16 = .ok (.ifCond .ne 5, 3) := by decide +kernel
theorem dX10_readSits_19 : decode cX10_readSits 19 = .ok (.iconst 0, 1) := by decide +kernel
theorem dX10_readSits_20 : decode cX10_readSits 20 = .ok (.ireturn, 1) := by decide +kernel
theorem dX10_readSits_21 : decode cX10_readSits 21 = .ok (.bipush 40, 2) := by decide +kernel
theorem dX10_readSits_23 : decode cX10_readSits 23 = .ok (.aload_n 0, 1) := by decide +kernel
theorem dX10_readSits_24 : decode cX10_readSits 24 = .ok (.getfield 79, 3) := by decide +kernel
theorem dX10_readSits_27 : decode cX10_readSits 27 = .ok (.iadd, 1) := by decide +kernel
theorem dX10_readSits_28 : decode cX10_readSits 28 = .ok (.istore_n 1, 1) := by decide +kernel
theorem dX10_readSits_29 : decode cX10_readSits 29 = .ok (.aload_n 0, 1) := by decide +kernel
theorem dX10_readSits_30 : decode cX10_readSits 30 = .ok (.getfield 101, 3) := by decide +kernel
theorem dX10_readSits_33 : decode cX10_readSits 33 = .ok (.iload_n 1, 1) := by decide +kernel
theorem dX10_readSits_34 : decode cX10_readSits 34 = .ok (.iaload, 1) := by decide +kernel
theorem dX10_readSits_35 : decode cX10_readSits 35 = .ok (.iconst (-1), 1) := by decide +kernel
theorem dX10_readSits_36 : decode cX10_readSits 36 = .ok (.if_icmp .eq 9, 3) := by decide +kernel
theorem dX10_readSits_39 : decode cX10_readSits 39 = .ok (.aload_n 0, 1) := by decide +kernel
theorem dX10_readSits_40 : decode cX10_readSits 40 = .ok (.iconst 3, 1) := by decide +kernel
theorem dX10_readSits_41 : decode cX10_readSits 41 = .ok (.invokevirtual 72, 3) := by decide +kernel
theorem dX10_readSits_44 : decode cX10_readSits 44 = .ok (.ireturn, 1) := by decide +kernel
theorem dX10_readSits_45 : decode cX10_readSits 45 = .ok (.aload_n 0, 1) := by decide +kernel
theorem dX10_readSits_46 : decode cX10_readSits 46 = .ok (.invokevirtual 82, 3) := by decide +kernel
theorem dX10_readSits_49 : decode cX10_readSits 49 = .ok (.aload_n 0, 1) := by decide +kernel
theorem dX10_readSits_50 : decode cX10_readSits 50 = .ok (.iload_n 1, 1) := by decide +kernel
theorem dX10_readSits_51 : decode cX10_readSits 51 = .ok (.aload_n 0, 1) := by decide +kernel
theorem dX10_readSits_52 : decode cX10_readSits 52 = .ok (.bipush 10, 2) := by decide +kernel
theorem dX10_readSits_54 : decode cX10_readSits 54 = .ok (.aload_n 0, 1) := by decide +kernel
theorem dX10_readSits_55 : decode cX10_readSits 55 = .ok (.getfield 101, 3) := by decide +kernel
theorem dX10_readSits_58 : decode cX10_readSits 58 = .ok (.iconst 2, 1) := by decide +kernel
theorem dX10_readSits_59 : decode cX10_readSits 59 = .ok (.iaload, 1) := by decide +kernel
theorem dX10_readSits_60 : decode cX10_readSits 60 = .ok (.invokevirtual 184, 3) := by decide +kernel
theorem dX10_readSits_63 : decode cX10_readSits 63 = .ok (.invokevirtual 196, 3) := by decide +kernel
theorem dX10_readSits_66 : decode cX10_readSits 66 = .ok (.ireturn, 1) := by decide +kernel
theorem dX10_resits_0 : decode cX10_resits 0 = .ok (.aload_n 0, 1) := by decide +kernel
theorem dX10_resits_1 : decode cX10_resits 1 = .ok (.getfield 98, 3) := by decide +kernel
theorem dX10_resits_4 : decode cX10_resits 4 = .ok (.bipush 112, 2) := by decide +kernel
theorem dX10_resits_6 : decode cX10_resits 6 = .ok (.iload_n 1, 1) := by decide +kernel
theorem dX10_resits_7 : decode cX10_resits 7 = .ok (.iadd, 1) := by decide +kernel
theorem dX10_resits_8 : decode cX10_resits 8 = .ok (.iaload, 1) := by decide +kernel
theorem dX10_resits_9 : decode cX10_resits 9 = .ok (.istore_n 2, 1) := by decide +kernel
theorem dX10_resits_10 : decode cX10_resits 10 = .ok (.iload_n 2, 1) := by decide +kernel
theorem dX10_resits_11 : decode cX10_resits 11 = .ok (.iconst (-1), 1) := by decide +kernel
theorem dX10_resits_12 : decode cX10_resits 12 = .ok (.if_icmp .eq 15, 3) := by decide +kernel
theorem dX10_resits_15 : decode cX10_resits 15 = .ok (.aload_n 0, 1) := by decide +kernel
theorem dX10_resits_16 : decode cX10_resits 16 = .ok (.iload_n 2, 1) := by decide +kernel
theorem dX10_resits_17 : decode cX10_resits 17 = .ok (.invokevirtual 268, 3) := by decide +kernel
theorem dX10_resits_20 : decode cX10_resits 20 = .ok (.ifCond .ne 7, 3) := by decide +kernel
theorem dX10_resits_23 : decode cX10_resits 23 = .ok (.iload_n 2, 1) := by decide +kernel
theorem dX10_resits_24 : decode cX10_resits 24 = .ok (.goto 4, 3) := by decide +kernel
theorem dX10_resits_27 : decode cX10_resits 27 = .ok (.iconst (-1), 1) := by decide +kernel
theorem dX10_resits_28 : decode cX10_resits 28 = .ok (.istore_n 3, 1) := by decide +kernel
theorem dX10_resits_29 : decode cX10_resits 29 = .ok (.iload_n 3, 1) := by decide +kernel
theorem dX10_resits_30 : decode cX10_resits 30 = .ok (.iconst (-1), 1) := by decide +kernel
theorem dX10_resits_31 : decode cX10_resits 31 = .ok (.if_icmp .ne 7, 3) := by decide +kernel
theorem dX10_resits_34 : decode cX10_resits 34 = .ok (.iconst (-1), 1) := by decide +kernel
theorem dX10_resits_35 : decode cX10_resits 35 = .ok (.goto 9, 3) := by decide +kernel
theorem dX10_resits_38 : decode cX10_resits 38 = .ok (.aload_n 0, 1) := by decide +kernel
theorem dX10_resits_39 : decode cX10_resits 39 = .ok (.iload_n 1, 1) := by decide +kernel
theorem dX10_resits_40 : decode cX10_resits 40 = .ok (.iload_n 3, 1) := by decide +kernel
theorem dX10_resits_41 : decode cX10_resits 41 = .ok (.invokevirtual 359, 3) := by decide +kernel
theorem dX10_resits_44 : decode cX10_resits 44 = .ok (.istore 4, 2) := by decide +kernel
theorem dX10_resits_46 : decode cX10_resits 46 = .ok (.iconst 0, 1) := by decide +kernel
theorem dX10_resits_47 : decode cX10_resits 47 = .ok (.istore 5, 2) := by decide +kernel
theorem dX10_resits_49 : decode cX10_resits 49 = .ok (.iload 5, 2) := by decide +kernel
theorem dX10_resits_51 : decode cX10_resits 51 = .ok (.aload_n 0, 1) := by decide +kernel
theorem dX10_resits_52 : decode cX10_resits 52 = .ok (.getfield 98, 3) := by decide +kernel
theorem dX10_resits_55 : decode cX10_resits 55 = .ok (.iconst 2, 1) := by decide +kernel
theorem dX10_resits_56 : decode cX10_resits 56 = .ok (.iaload, 1) := by decide +kernel
theorem dX10_resits_57 : decode cX10_resits 57 = .ok (.if_icmp .ge 47, 3) := by decide +kernel
theorem dX10_resits_60 : decode cX10_resits 60 = .ok (.aload_n 0, 1) := by decide +kernel
theorem dX10_resits_61 : decode cX10_resits 61 = .ok (.iload 5, 2) := by decide +kernel
theorem dX10_resits_63 : decode cX10_resits 63 = .ok (.invokevirtual 268, 3) := by decide +kernel
theorem dX10_resits_66 : decode cX10_resits 66 = .ok (.ifCond .eq 6, 3) := by decide +kernel
theorem dX10_resits_69 : decode cX10_resits 69 = .ok (.goto 29, 3) := by decide +kernel
theorem dX10_resits_72 : decode cX10_resits 72 = .ok (.aload_n 0, 1) := by decide +kernel
theorem dX10_resits_73 : decode cX10_resits 73 = .ok (.iload_n 1, 1) := by decide +kernel
theorem dX10_resits_74 : decode cX10_resits 74 = .ok (.iload 5, 2) := by decide +kernel
theorem dX10_resits_76 : decode cX10_resits 76 = .ok (.invokevirtual 359, 3) := by decide +kernel
theorem dX10_resits_79 : decode cX10_resits 79 = .ok (.istore 6, 2) := by decide +kernel
theorem dX10_resits_81 : decode cX10_resits 81 = .ok (.iload 6, 2) := by decide +kernel
theorem dX10_resits_83 : decode cX10_resits 83 = .ok (.iload 4, 2) := by decide +kernel
theorem dX10_resits_85 : decode cX10_resits 85 = .ok (.if_icmp .gt 6, 3) := by decide +kernel
theorem dX10_resits_88 : decode cX10_resits 88 = .ok (.goto 10, 3) := by decide +kernel
theorem dX10_resits_91 : decode cX10_resits 91 = .ok (.iload 6, 2) := by decide +kernel
theorem dX10_resits_93 : decode cX10_resits 93 = .ok (.istore 4, 2) := by decide +kernel
theorem dX10_resits_95 : decode cX10_resits 95 = .ok (.iload 5, 2) := by decide +kernel
theorem dX10_resits_97 : decode cX10_resits 97 = .ok (.istore_n 3, 1) := by decide +kernel
theorem dX10_resits_98 : decode cX10_resits 98 = .ok (.iinc 5 1, 3) := by decide +kernel
theorem dX10_resits_101 : decode cX10_resits 101 = .ok (.goto (-52), 3) := by decide +kernel
theorem dX10_resits_104 : decode cX10_resits 104 = .ok (.iload_n 3, 1) := by decide +kernel
theorem dX10_resits_105 : decode cX10_resits 105 = .ok (.iconst (-1), 1) := by decide +kernel
theorem dX10_resits_106 : decode cX10_resits 106 = .ok (.if_icmp .eq 8, 3) := by decide +kernel
theorem dX10_resits_109 : decode cX10_resits 109 = .ok (.iload_n 3, 1) := by decide +kernel
theorem dX10_resits_110 : decode cX10_resits 110 = .ok (.iload_n 2, 1) := by decide +kernel
theorem dX10_resits_111 : decode cX10_resits 111 = .ok (.if_icmp .ne 5, 3) := by decide +kernel
theorem dX10_resits_114 : decode cX10_resits 114 = .ok (.iconst 0, 1) := by decide +kernel
theorem dX10_resits_115 : decode cX10_resits 115 = .ok (.ireturn, 1) := by decide +kernel
theorem dX10_resits_116 : decode cX10_resits 116 = .ok (.aload_n 0, 1) := by decide +kernel
theorem dX10_resits_117 : decode cX10_resits 117 = .ok (.getfield 98, 3) := by decide +kernel
theorem dX10_resits_120 : decode cX10_resits 120 = .ok (.bipush 112, 2) := by decide +kernel
theorem dX10_resits_122 : decode cX10_resits 122 = .ok (.iload_n 1, 1) := by decide +kernel
theorem dX10_resits_123 : decode cX10_resits 123 = .ok (.iadd, 1) := by decide +kernel
theorem dX10_resits_124 : decode cX10_resits 124 = .ok (.iload_n 3, 1) := by decide +kernel
theorem dX10_resits_125 : decode cX10_resits 125 = .ok (.iastore, 1) := by decide +kernel
theorem dX10_resits_126 : decode cX10_resits 126 = .ok (.iconst 1, 1) := by decide +kernel
theorem dX10_resits_127 : decode cX10_resits 127 = .ok (.ireturn, 1) := by decide +kernel
theorem dX10_rest_0 : decode cX10_rest 0 = .ok (.aload_n 0, 1) := by decide +kernel
theorem dX10_rest_1 : decode cX10_rest 1 = .ok (.iconst 0, 1) := by decide +kernel
theorem dX10_rest_2 : decode cX10_rest 2 = .ok (.putfield 1, 3) := by decide +kernel
theorem dX10_rest_5 : decode cX10_rest 5 = .ok (.aload_n 0, 1) := by decide +kernel
theorem dX10_rest_6 : decode cX10_rest 6 = .ok (.invokevirtual 328, 3) := by decide +kernel
theorem dX10_rest_9 : decode cX10_rest 9 = .ok (.iconst 0, 1) := by decide +kernel
theorem dX10_rest_10 : decode cX10_rest 10 = .ok (.istore_n 1, 1) := by decide +kernel
theorem dX10_rest_11 : decode cX10_rest 11 = .ok (.iconst 1, 1) := by decide +kernel
theorem dX10_rest_12 : decode cX10_rest 12 = .ok (.istore_n 2, 1) := by decide +kernel
theorem dX10_rest_13 : decode cX10_rest 13 = .ok (.iload_n 2, 1) := by decide +kernel
theorem dX10_rest_14 : decode cX10_rest 14 = .ok (.ifCond .eq 45, 3) := by decide +kernel
theorem dX10_rest_17 : decode cX10_rest 17 = .ok (.iload_n 1, 1) := by decide +kernel
theorem dX10_rest_18 : decode cX10_rest 18 = .ok (.bipush 10, 2) := by decide +kernel
theorem dX10_rest_20 : decode cX10_rest 20 = .ok (.if_icmp .ge 39, 3) := by decide +kernel
theorem dX10_rest_23 : decode cX10_rest 23 = .ok (.iconst 0, 1) := by decide +kernel
theorem dX10_rest_24 : decode cX10_rest 24 = .ok (.istore_n 2, 1) := by decide +kernel
theorem dX10_rest_25 : decode cX10_rest 25 = .ok (.iconst 0, 1) := by decide +kernel
theorem dX10_rest_26 : decode cX10_rest 26 = .ok (.istore_n 3, 1) := by decide +kernel
theorem dX10_rest_27 : decode cX10_rest 27 = .ok (.iload_n 3, 1) := by decide +kernel
theorem dX10_rest_28 : decode cX10_rest 28 = .ok (.aload_n 0, 1) := by decide +kernel
theorem dX10_rest_29 : decode cX10_rest 29 = .ok (.getfield 98, 3) := by decide +kernel
theorem dX10_rest_32 : decode cX10_rest 32 = .ok (.iconst 3, 1) := by decide +kernel
theorem dX10_rest_33 : decode cX10_rest 33 = .ok (.iaload, 1) := by decide +kernel
theorem dX10_rest_34 : decode cX10_rest 34 = .ok (.if_icmp .ge 19, 3) := by decide +kernel
theorem dX10_rest_37 : decode cX10_rest 37 = .ok (.aload_n 0, 1) := by decide +kernel
theorem dX10_rest_38 : decode cX10_rest 38 = .ok (.iload_n 3, 1) := by decide +kernel
theorem dX10_rest_39 : decode cX10_rest 39 = .ok (.invokevirtual 362, 3) := by decide +kernel
theorem dX10_rest_42 : decode cX10_rest 42 = .ok (.ifCond .eq 5, 3) := by decide +kernel
theorem dX10_rest_45 : decode cX10_rest 45 = .ok (.iconst 1, 1) := by decide +kernel
theorem dX10_rest_46 : decode cX10_rest 46 = .ok (.istore_n 2, 1) := by decide +kernel
theorem dX10_rest_47 : decode cX10_rest 47 = .ok (.iinc 3 1, 3) := by decide +kernel
theorem dX10_rest_50 : decode cX10_rest 50 = .ok (.goto (-23), 3) := by decide +kernel
theorem dX10_rest_53 : decode cX10_rest 53 = .ok (.iinc 1 1, 3) := by decide +kernel
theorem dX10_rest_56 : decode cX10_rest 56 = .ok (.goto (-43), 3) := by decide +kernel
theorem dX10_rest_59 : decode cX10_rest 59 = .ok (.iconst 0, 1) := by decide +kernel
theorem dX10_rest_60 : decode cX10_rest 60 = .ok (.istore_n 3, 1) := by decide +kernel
theorem dX10_rest_61 : decode cX10_rest 61 = .ok (.iload_n 3, 1) := by decide +kernel
theorem dX10_rest_62 : decode cX10_rest 62 = .ok (.bipush 8, 2) := by decide +kernel
theorem dX10_rest_64 : decode cX10_rest 64 = .ok (.if_icmp .ge 24, 3) := by decide +kernel
theorem dX10_rest_67 : decode cX10_rest 67 = .ok (.aload_n 0, 1) := by decide +kernel
theorem dX10_rest_68 : decode cX10_rest 68 = .ok (.getfield 154, 3) := by decide +kernel
theorem dX10_rest_71 : decode cX10_rest 71 = .ok (.iload_n 3, 1) := by decide +kernel
theorem dX10_rest_72 : decode cX10_rest 72 = .ok (.aload_n 0, 1) := by decide +kernel
theorem dX10_rest_73 : decode cX10_rest 73 = .ok (.getfield 98, 3) := by decide +kernel
theorem dX10_rest_76 : decode cX10_rest 76 = .ok (.bipush 112, 2) := by decide +kernel
theorem dX10_rest_78 : decode cX10_rest 78 = .ok (.iload_n 3, 1) := by decide +kernel
theorem dX10_rest_79 : decode cX10_rest 79 = .ok (.iadd, 1) := by decide +kernel
theorem dX10_rest_80 : decode cX10_rest 80 = .ok (.iaload, 1) := by decide +kernel
theorem dX10_rest_81 : decode cX10_rest 81 = .ok (.iastore, 1) := by decide +kernel
theorem dX10_rest_82 : decode cX10_rest 82 = .ok (.iinc 3 1, 3) := by decide +kernel
theorem dX10_rest_85 : decode cX10_rest 85 = .ok (.goto (-24), 3) := by decide +kernel
theorem dX10_rest_88 : decode cX10_rest 88 = .ok (.aload_n 0, 1) := by decide +kernel
theorem dX10_rest_89 : decode cX10_rest 89 = .ok (.aload_n 0, 1) := by decide +kernel
theorem dX10_rest_90 : decode cX10_rest 90 = .ok (.getfield 98, 3) := by decide +kernel
theorem dX10_rest_93 : decode cX10_rest 93 = .ok (.iconst 3, 1) := by decide +kernel
theorem dX10_rest_94 : decode cX10_rest 94 = .ok (.iaload, 1) := by decide +kernel
theorem dX10_rest_95 : decode cX10_rest 95 = .ok (.putfield 365, 3) := by decide +kernel
theorem dX10_rest_98 : decode cX10_rest 98 = .ok (.aload_n 0, 1) := by decide +kernel
theorem dX10_rest_99 : decode cX10_rest 99 = .ok (.invokevirtual 331, 3) := by decide +kernel
theorem dX10_rest_102 : decode cX10_rest 102 = .ok (.iload_n 1, 1) := by decide +kernel
theorem dX10_rest_103 : decode cX10_rest 103 = .ok (.ireturn, 1) := by decide +kernel
theorem dX10_sat_0 : decode cX10_sat 0 = .ok (.aload_n 0, 1) := by decide +kernel
theorem dX10_sat_1 : decode cX10_sat 1 = .ok (.iconst 0, 1) := by decide +kernel
theorem dX10_sat_2 : decode cX10_sat 2 = .ok (.putfield 1, 3) := by decide +kernel
theorem dX10_sat_5 : decode cX10_sat 5 = .ok (.aload_n 0, 1) := by decide +kernel
theorem dX10_sat_6 : decode cX10_sat 6 = .ok (.invokevirtual 89, 3) := by decide +kernel
theorem dX10_sat_9 : decode cX10_sat 9 = .ok (.iconst 4, 1) := by decide +kernel
theorem dX10_sat_10 : decode cX10_sat 10 = .ok (.if_icmp .ne 69, 3) := by decide +kernel
theorem dX10_sat_13 : decode cX10_sat 13 = .ok (.aload_n 0, 1) := by decide +kernel
theorem dX10_sat_14 : decode cX10_sat 14 = .ok (.aload_n 0, 1) := by decide +kernel
theorem dX10_sat_15 : decode cX10_sat 15 = .ok (.getfield 7, 3) := by decide +kernel
theorem dX10_sat_18 : decode cX10_sat 18 = .ok (.iconst 0, 1) := by decide +kernel
theorem dX10_sat_19 : decode cX10_sat 19 = .ok (.iaload, 1) := by decide +kernel
theorem dX10_sat_20 : decode cX10_sat 20 = .ok (.invokevirtual 256, 3) := by decide +kernel
theorem dX10_sat_23 : decode cX10_sat 23 = .ok (.ifCond .eq 56, 3) := by decide +kernel
theorem dX10_sat_26 : decode cX10_sat 26 = .ok (.aload_n 0, 1) := by decide +kernel
theorem dX10_sat_27 : decode cX10_sat 27 = .ok (.getfield 7, 3) := by decide +kernel
theorem dX10_sat_30 : decode cX10_sat 30 = .ok (.iconst 1, 1) := by decide +kernel
theorem dX10_sat_31 : decode cX10_sat 31 = .ok (.iaload, 1) := by decide +kernel
theorem dX10_sat_32 : decode cX10_sat 32 = .ok (.iconst 1, 1) := by decide +kernel
theorem dX10_sat_33 : decode cX10_sat 33 = .ok (.bipush 30, 2) := by decide +kernel
theorem dX10_sat_35 : decode cX10_sat 35 = .ok (.invokestatic 75, 3) := by decide +kernel
theorem dX10_sat_38 : decode cX10_sat 38 = .ok (.ifCond .eq 41, 3) := by decide +kernel
theorem dX10_sat_41 : decode cX10_sat 41 = .ok (.aload_n 0, 1) := by decide +kernel
theorem dX10_sat_42 : decode cX10_sat 42 = .ok (.getfield 7, 3) := by decide +kernel
theorem dX10_sat_45 : decode cX10_sat 45 = .ok (.iconst 2, 1) := by decide +kernel
theorem dX10_sat_46 : decode cX10_sat 46 = .ok (.iaload, 1) := by decide +kernel
theorem dX10_sat_47 : decode cX10_sat 47 = .ok (.sipush 255, 3) := by decide +kernel
theorem dX10_sat_50 : decode cX10_sat 50 = .ok (.if_icmp .eq 16, 3) := by decide +kernel
theorem dX10_sat_53 : decode cX10_sat 53 = .ok (.aload_n 0, 1) := by decide +kernel
theorem dX10_sat_54 : decode cX10_sat 54 = .ok (.aload_n 0, 1) := by decide +kernel
theorem dX10_sat_55 : decode cX10_sat 55 = .ok (.getfield 7, 3) := by decide +kernel
theorem dX10_sat_58 : decode cX10_sat 58 = .ok (.iconst 2, 1) := by decide +kernel
theorem dX10_sat_59 : decode cX10_sat 59 = .ok (.iaload, 1) := by decide +kernel
theorem dX10_sat_60 : decode cX10_sat 60 = .ok (.invokevirtual 259, 3) := by decide +kernel
theorem dX10_sat_63 : decode cX10_sat 63 = .ok (.ifCond .eq 16, 3) := by decide +kernel
theorem dX10_sat_66 : decode cX10_sat 66 = .ok (.aload_n 0, 1) := by decide +kernel
theorem dX10_sat_67 : decode cX10_sat 67 = .ok (.aload_n 0, 1) := by decide +kernel
theorem dX10_sat_68 : decode cX10_sat 68 = .ok (.getfield 7, 3) := by decide +kernel
theorem dX10_sat_71 : decode cX10_sat 71 = .ok (.iconst 0, 1) := by decide +kernel
theorem dX10_sat_72 : decode cX10_sat 72 = .ok (.iaload, 1) := by decide +kernel
theorem dX10_sat_73 : decode cX10_sat 73 = .ok (.invokevirtual 268, 3) := by decide +kernel
theorem dX10_sat_76 : decode cX10_sat 76 = .ok (.ifCond .eq 5, 3) := by decide +kernel
theorem dX10_sat_79 : decode cX10_sat 79 = .ok (.iconst (-1), 1) := by decide +kernel
theorem dX10_sat_80 : decode cX10_sat 80 = .ok (.ireturn, 1) := by decide +kernel
theorem dX10_sat_81 : decode cX10_sat 81 = .ok (.aload_n 0, 1) := by decide +kernel
theorem dX10_sat_82 : decode cX10_sat 82 = .ok (.getfield 7, 3) := by decide +kernel
theorem dX10_sat_85 : decode cX10_sat 85 = .ok (.iconst 2, 1) := by decide +kernel
theorem dX10_sat_86 : decode cX10_sat 86 = .ok (.iaload, 1) := by decide +kernel
theorem dX10_sat_87 : decode cX10_sat 87 = .ok (.sipush 255, 3) := by decide +kernel
theorem dX10_sat_90 : decode cX10_sat 90 = .ok (.if_icmp .ne 7, 3) := by decide +kernel
theorem dX10_sat_93 : decode cX10_sat 93 = .ok (.iconst (-1), 1) := by decide +kernel
theorem dX10_sat_94 : decode cX10_sat 94 = .ok (.goto 9, 3) := by decide +kernel
theorem dX10_sat_97 : decode cX10_sat 97 = .ok (.aload_n 0, 1) := by decide +kernel
theorem dX10_sat_98 : decode cX10_sat 98 = .ok (.getfield 7, 3) := by decide +kernel
theorem dX10_sat_101 : decode cX10_sat 101 = .ok (.iconst 2, 1) := by decide +kernel
theorem dX10_sat_102 : decode cX10_sat 102 = .ok (.iaload, 1) := by decide +kernel
theorem dX10_sat_103 : decode cX10_sat 103 = .ok (.istore_n 1, 1) := by decide +kernel
theorem dX10_sat_104 : decode cX10_sat 104 = .ok (.iconst 0, 1) := by decide +kernel
theorem dX10_sat_105 : decode cX10_sat 105 = .ok (.istore_n 2, 1) := by decide +kernel
theorem dX10_sat_106 : decode cX10_sat 106 = .ok (.iconst 1, 1) := by decide +kernel
theorem dX10_sat_107 : decode cX10_sat 107 = .ok (.aload_n 0, 1) := by decide +kernel
theorem dX10_sat_108 : decode cX10_sat 108 = .ok (.getfield 98, 3) := by decide +kernel
theorem dX10_sat_111 : decode cX10_sat 111 = .ok (.iconst 3, 1) := by decide +kernel
theorem dX10_sat_112 : decode cX10_sat 112 = .ok (.iaload, 1) := by decide +kernel
theorem dX10_sat_113 : decode cX10_sat 113 = .ok (.ishl, 1) := by decide +kernel
theorem dX10_sat_114 : decode cX10_sat 114 = .ok (.iconst 1, 1) := by decide +kernel
theorem dX10_sat_115 : decode cX10_sat 115 = .ok (.isub, 1) := by decide +kernel
theorem dX10_sat_116 : decode cX10_sat 116 = .ok (.istore_n 3, 1) := by decide +kernel
theorem dX10_sat_117 : decode cX10_sat 117 = .ok (.iconst 0, 1) := by decide +kernel
theorem dX10_sat_118 : decode cX10_sat 118 = .ok (.istore 4, 2) := by decide +kernel
theorem dX10_sat_120 : decode cX10_sat 120 = .ok (.iload 4, 2) := by decide +kernel
theorem dX10_sat_122 : decode cX10_sat 122 = .ok (.bipush 8, 2) := by decide +kernel
theorem dX10_sat_124 : decode cX10_sat 124 = .ok (.if_icmp .ge 17, 3) := by decide +kernel
theorem dX10_sat_127 : decode cX10_sat 127 = .ok (.aload_n 0, 1) := by decide +kernel
theorem dX10_sat_128 : decode cX10_sat 128 = .ok (.getfield 139, 3) := by decide +kernel
theorem dX10_sat_131 : decode cX10_sat 131 = .ok (.iload 4, 2) := by decide +kernel
theorem dX10_sat_133 : decode cX10_sat 133 = .ok (.iconst 0, 1) := by decide +kernel
theorem dX10_sat_134 : decode cX10_sat 134 = .ok (.iastore, 1) := by decide +kernel
theorem dX10_sat_135 : decode cX10_sat 135 = .ok (.iinc 4 1, 3) := by decide +kernel
theorem dX10_sat_138 : decode cX10_sat 138 = .ok (.goto (-18), 3) := by decide +kernel
theorem dX10_sat_141 : decode cX10_sat 141 = .ok (.iconst 0, 1) := by decide +kernel
theorem dX10_sat_142 : decode cX10_sat 142 = .ok (.istore 4, 2) := by decide +kernel
theorem dX10_sat_144 : decode cX10_sat 144 = .ok (.iload 4, 2) := by decide +kernel
theorem dX10_sat_146 : decode cX10_sat 146 = .ok (.iconst 1, 1) := by decide +kernel
theorem dX10_sat_147 : decode cX10_sat 147 = .ok (.aload_n 0, 1) := by decide +kernel
theorem dX10_sat_148 : decode cX10_sat 148 = .ok (.getfield 98, 3) := by decide +kernel
theorem dX10_sat_151 : decode cX10_sat 151 = .ok (.iconst 3, 1) := by decide +kernel
theorem dX10_sat_152 : decode cX10_sat 152 = .ok (.iaload, 1) := by decide +kernel
theorem dX10_sat_153 : decode cX10_sat 153 = .ok (.ishl, 1) := by decide +kernel
theorem dX10_sat_154 : decode cX10_sat 154 = .ok (.if_icmp .ge 85, 3) := by decide +kernel
theorem dX10_sat_157 : decode cX10_sat 157 = .ok (.aload_n 0, 1) := by decide +kernel
theorem dX10_sat_158 : decode cX10_sat 158 = .ok (.iload 4, 2) := by decide +kernel
theorem dX10_sat_160 : decode cX10_sat 160 = .ok (.aload_n 0, 1) := by decide +kernel
theorem dX10_sat_161 : decode cX10_sat 161 = .ok (.getfield 7, 3) := by decide +kernel
theorem dX10_sat_164 : decode cX10_sat 164 = .ok (.iconst 0, 1) := by decide +kernel
theorem dX10_sat_165 : decode cX10_sat 165 = .ok (.iaload, 1) := by decide +kernel
theorem dX10_sat_166 : decode cX10_sat 166 = .ok (.aload_n 0, 1) := by decide +kernel
theorem dX10_sat_167 : decode cX10_sat 167 = .ok (.getfield 7, 3) := by decide +kernel
theorem dX10_sat_170 : decode cX10_sat 170 = .ok (.iconst 1, 1) := by decide +kernel
theorem dX10_sat_171 : decode cX10_sat 171 = .ok (.iaload, 1) := by decide +kernel
theorem dX10_sat_172 : decode cX10_sat 172 = .ok (.iload_n 1, 1) := by decide +kernel
theorem dX10_sat_173 : decode cX10_sat 173 = .ok (.aload_n 0, 1) := by decide +kernel
theorem dX10_sat_174 : decode cX10_sat 174 = .ok (.getfield 7, 3) := by decide +kernel
theorem dX10_sat_177 : decode cX10_sat 177 = .ok (.iconst 3, 1) := by decide +kernel
theorem dX10_sat_178 : decode cX10_sat 178 = .ok (.iaload, 1) := by decide +kernel
theorem dX10_sat_179 : decode cX10_sat 179 = .ok (.invokevirtual 340, 3) := by decide +kernel
theorem dX10_sat_182 : decode cX10_sat 182 = .ok (.ifCond .ne 6, 3) := by decide +kernel
theorem dX10_sat_185 : decode cX10_sat 185 = .ok (.goto 48, 3) := by decide +kernel
theorem dX10_sat_188 : decode cX10_sat 188 = .ok (.iinc 2 1, 3) := by decide +kernel
theorem dX10_sat_191 : decode cX10_sat 191 = .ok (.iload_n 3, 1) := by decide +kernel
theorem dX10_sat_192 : decode cX10_sat 192 = .ok (.iload 4, 2) := by decide +kernel
theorem dX10_sat_194 : decode cX10_sat 194 = .ok (.iand, 1) := by decide +kernel
theorem dX10_sat_195 : decode cX10_sat 195 = .ok (.istore_n 3, 1) := by decide +kernel
theorem dX10_sat_196 : decode cX10_sat 196 = .ok (.iconst 0, 1) := by decide +kernel
theorem dX10_sat_197 : decode cX10_sat 197 = .ok (.istore 5, 2) := by decide +kernel
theorem dX10_sat_199 : decode cX10_sat 199 = .ok (.iload 5, 2) := by decide +kernel
theorem dX10_sat_201 : decode cX10_sat 201 = .ok (.bipush 8, 2) := by decide +kernel
theorem dX10_sat_203 : decode cX10_sat 203 = .ok (.if_icmp .ge 30, 3) := by decide +kernel
theorem dX10_sat_206 : decode cX10_sat 206 = .ok (.iload 4, 2) := by decide +kernel
theorem dX10_sat_208 : decode cX10_sat 208 = .ok (.iload 5, 2) := by decide +kernel
theorem dX10_sat_210 : decode cX10_sat 210 = .ok (.invokestatic 203, 3) := by decide +kernel
theorem dX10_sat_213 : decode cX10_sat 213 = .ok (.ifCond .eq 14, 3) := by decide +kernel
theorem dX10_sat_216 : decode cX10_sat 216 = .ok (.aload_n 0, 1) := by decide +kernel
theorem dX10_sat_217 : decode cX10_sat 217 = .ok (.getfield 139, 3) := by decide +kernel
theorem dX10_sat_220 : decode cX10_sat 220 = .ok (.iload 5, 2) := by decide +kernel
theorem dX10_sat_222 : decode cX10_sat 222 = .ok (.dup2, 1) := by decide +kernel
theorem dX10_sat_223 : decode cX10_sat 223 = .ok (.iaload, 1) := by decide +kernel
theorem dX10_sat_224 : decode cX10_sat 224 = .ok (.iconst 1, 1) := by decide +kernel
theorem dX10_sat_225 : decode cX10_sat 225 = .ok (.iadd, 1) := by decide +kernel
theorem dX10_sat_226 : decode cX10_sat 226 = .ok (.iastore, 1) := by decide +kernel
theorem dX10_sat_227 : decode cX10_sat 227 = .ok (.iinc 5 1, 3) := by decide +kernel
theorem dX10_sat_230 : decode cX10_sat 230 = .ok (.goto (-31), 3) := by decide +kernel
theorem dX10_sat_233 : decode cX10_sat 233 = .ok (.iinc 4 1, 3) := by decide +kernel
theorem dX10_sat_236 : decode cX10_sat 236 = .ok (.goto (-92), 3) := by decide +kernel
theorem dX10_sat_239 : decode cX10_sat 239 = .ok (.iload_n 2, 1) := by decide +kernel
theorem dX10_sat_240 : decode cX10_sat 240 = .ok (.ifCond .ne 5, 3) := by decide +kernel
theorem dX10_sat_243 : decode cX10_sat 243 = .ok (.iconst 0, 1) := by decide +kernel
theorem dX10_sat_244 : decode cX10_sat 244 = .ok (.ireturn, 1) := by decide +kernel
theorem dX10_sat_245 : decode cX10_sat 245 = .ok (.aload_n 0, 1) := by decide +kernel
theorem dX10_sat_246 : decode cX10_sat 246 = .ok (.iload_n 3, 1) := by decide +kernel
theorem dX10_sat_247 : decode cX10_sat 247 = .ok (.putfield 142, 3) := by decide +kernel
theorem dX10_sat_250 : decode cX10_sat 250 = .ok (.aload_n 0, 1) := by decide +kernel
theorem dX10_sat_251 : decode cX10_sat 251 = .ok (.iconst (-1), 1) := by decide +kernel
theorem dX10_sat_252 : decode cX10_sat 252 = .ok (.putfield 145, 3) := by decide +kernel
theorem dX10_sat_255 : decode cX10_sat 255 = .ok (.iconst 0, 1) := by decide +kernel
theorem dX10_sat_256 : decode cX10_sat 256 = .ok (.istore 4, 2) := by decide +kernel
theorem dX10_sat_258 : decode cX10_sat 258 = .ok (.iload 4, 2) := by decide +kernel
theorem dX10_sat_260 : decode cX10_sat 260 = .ok (.aload_n 0, 1) := by decide +kernel
theorem dX10_sat_261 : decode cX10_sat 261 = .ok (.getfield 98, 3) := by decide +kernel
theorem dX10_sat_264 : decode cX10_sat 264 = .ok (.iconst 3, 1) := by decide +kernel
theorem dX10_sat_265 : decode cX10_sat 265 = .ok (.iaload, 1) := by decide +kernel
theorem dX10_sat_266 : decode cX10_sat 266 = .ok (.if_icmp .ge 56, 3) := by decide +kernel
theorem dX10_sat_269 : decode cX10_sat 269 = .ok (.aload_n 0, 1) := by decide +kernel
theorem dX10_sat_270 : decode cX10_sat 270 = .ok (.getfield 145, 3) := by decide +kernel
theorem dX10_sat_273 : decode cX10_sat 273 = .ok (.iconst (-1), 1) := by decide +kernel
theorem dX10_sat_274 : decode cX10_sat 274 = .ok (.if_icmp .eq 36, 3) := by decide +kernel
theorem dX10_sat_277 : decode cX10_sat 277 = .ok (.iconst 2, 1) := by decide +kernel
theorem dX10_sat_278 : decode cX10_sat 278 = .ok (.aload_n 0, 1) := by decide +kernel
theorem dX10_sat_279 : decode cX10_sat 279 = .ok (.getfield 139, 3) := by decide +kernel
theorem dX10_sat_282 : decode cX10_sat 282 = .ok (.iload 4, 2) := by decide +kernel
theorem dX10_sat_284 : decode cX10_sat 284 = .ok (.iaload, 1) := by decide +kernel
theorem dX10_sat_285 : decode cX10_sat 285 = .ok (.imul, 1) := by decide +kernel
theorem dX10_sat_286 : decode cX10_sat 286 = .ok (.iload_n 2, 1) := by decide +kernel
theorem dX10_sat_287 : decode cX10_sat 287 = .ok (.isub, 1) := by decide +kernel
theorem dX10_sat_288 : decode cX10_sat 288 = .ok (.invokestatic 344, 3) := by decide +kernel
theorem dX10_sat_291 : decode cX10_sat 291 = .ok (.iconst 2, 1) := by decide +kernel
theorem dX10_sat_292 : decode cX10_sat 292 = .ok (.aload_n 0, 1) := by decide +kernel
theorem dX10_sat_293 : decode cX10_sat 293 = .ok (.getfield 139, 3) := by decide +kernel
theorem dX10_sat_296 : decode cX10_sat 296 = .ok (.aload_n 0, 1) := by decide +kernel
theorem dX10_sat_297 : decode cX10_sat 297 = .ok (.getfield 145, 3) := by decide +kernel
theorem dX10_sat_300 : decode cX10_sat 300 = .ok (.iaload, 1) := by decide +kernel
theorem dX10_sat_301 : decode cX10_sat 301 = .ok (.imul, 1) := by decide +kernel
theorem dX10_sat_302 : decode cX10_sat 302 = .ok (.iload_n 2, 1) := by decide +kernel
theorem dX10_sat_303 : decode cX10_sat 303 = .ok (.isub, 1) := by decide +kernel
theorem dX10_sat_304 : decode cX10_sat 304 = .ok (.invokestatic 344, 3) := by decide +kernel
theorem dX10_sat_307 : decode cX10_sat 307 = .ok (.if_icmp .ge 9, 3) := by decide +kernel
theorem dX10_sat_310 : decode cX10_sat 310 = .ok (.aload_n 0, 1) := by decide +kernel
theorem dX10_sat_311 : decode cX10_sat 311 = .ok (.iload 4, 2) := by decide +kernel
theorem dX10_sat_313 : decode cX10_sat 313 = .ok (.putfield 145, 3) := by decide +kernel
theorem dX10_sat_316 : decode cX10_sat 316 = .ok (.iinc 4 1, 3) := by decide +kernel
theorem dX10_sat_319 : decode cX10_sat 319 = .ok (.goto (-61), 3) := by decide +kernel
theorem dX10_sat_322 : decode cX10_sat 322 = .ok (.iload_n 2, 1) := by decide +kernel
theorem dX10_sat_323 : decode cX10_sat 323 = .ok (.ireturn, 1) := by decide +kernel
theorem dX10_satSo_0 : decode cX10_satSo 0 = .ok (.aload_n 0, 1) := by decide +kernel
theorem dX10_satSo_1 : decode cX10_satSo 1 = .ok (.invokevirtual 334, 3) := by decide +kernel
theorem dX10_satSo_4 : decode cX10_satSo 4 = .ok (.iconst 0, 1) := by decide +kernel
theorem dX10_satSo_5 : decode cX10_satSo 5 = .ok (.istore 6, 2) := by decide +kernel
theorem dX10_satSo_7 : decode cX10_satSo 7 = .ok (.iload 6, 2) := by decide +kernel
theorem dX10_satSo_9 : decode cX10_satSo 9 = .ok (.iload_n 3, 1) := by decide +kernel
theorem dX10_satSo_10 : decode cX10_satSo 10 = .ok (.if_icmp .ge 63, 3) := by decide +kernel
theorem dX10_satSo_13 : decode cX10_satSo 13 = .ok (.iconst 0, 1) := by decide +kernel
theorem dX10_satSo_14 : decode cX10_satSo 14 = .ok (.istore 7, 2) := by decide +kernel
theorem dX10_satSo_16 : decode cX10_satSo 16 = .ok (.iload 7, 2) := by decide +kernel
theorem dX10_satSo_18 : decode cX10_satSo 18 = .ok (.aload_n 0, 1) := by decide +kernel
theorem dX10_satSo_19 : decode cX10_satSo 19 = .ok (.getfield 98, 3) := by decide +kernel
theorem dX10_satSo_22 : decode cX10_satSo 22 = .ok (.iconst 3, 1) := by decide +kernel
theorem dX10_satSo_23 : decode cX10_satSo 23 = .ok (.iaload, 1) := by decide +kernel
theorem dX10_satSo_24 : decode cX10_satSo 24 = .ok (.if_icmp .ge 43, 3) := by decide +kernel
theorem dX10_satSo_27 : decode cX10_satSo 27 = .ok (.iload_n 1, 1) := by decide +kernel
theorem dX10_satSo_28 : decode cX10_satSo 28 = .ok (.iload 7, 2) := by decide +kernel
theorem dX10_satSo_30 : decode cX10_satSo 30 = .ok (.invokestatic 203, 3) := by decide +kernel
theorem dX10_satSo_33 : decode cX10_satSo 33 = .ok (.ifCond .eq 28, 3) := by decide +kernel
theorem dX10_satSo_36 : decode cX10_satSo 36 = .ok (.aload_n 0, 1) := by decide +kernel
theorem dX10_satSo_37 : decode cX10_satSo 37 = .ok (.iload_n 2, 1) := by decide +kernel
theorem dX10_satSo_38 : decode cX10_satSo 38 = .ok (.aload_n 0, 1) := by decide +kernel
theorem dX10_satSo_39 : decode cX10_satSo 39 = .ok (.getfield 98, 3) := by decide +kernel
theorem dX10_satSo_42 : decode cX10_satSo 42 = .ok (.bipush 104, 2) := by decide +kernel
theorem dX10_satSo_44 : decode cX10_satSo 44 = .ok (.iload 7, 2) := by decide +kernel
theorem dX10_satSo_46 : decode cX10_satSo 46 = .ok (.iadd, 1) := by decide +kernel
theorem dX10_satSo_47 : decode cX10_satSo 47 = .ok (.iaload, 1) := by decide +kernel
theorem dX10_satSo_48 : decode cX10_satSo 48 = .ok (.aload_n 0, 1) := by decide +kernel
theorem dX10_satSo_49 : decode cX10_satSo 49 = .ok (.getfield 98, 3) := by decide +kernel
theorem dX10_satSo_52 : decode cX10_satSo 52 = .ok (.bipush 32, 2) := by decide +kernel
theorem dX10_satSo_54 : decode cX10_satSo 54 = .ok (.iload 7, 2) := by decide +kernel
theorem dX10_satSo_56 : decode cX10_satSo 56 = .ok (.iadd, 1) := by decide +kernel
theorem dX10_satSo_57 : decode cX10_satSo 57 = .ok (.iaload, 1) := by decide +kernel
theorem dX10_satSo_58 : decode cX10_satSo 58 = .ok (.invokevirtual 290, 3) := by decide +kernel
theorem dX10_satSo_61 : decode cX10_satSo 61 = .ok (.iinc 7 1, 3) := by decide +kernel
theorem dX10_satSo_64 : decode cX10_satSo 64 = .ok (.goto (-48), 3) := by decide +kernel
theorem dX10_satSo_67 : decode cX10_satSo 67 = .ok (.iinc 6 1, 3) := by decide +kernel
theorem dX10_satSo_70 : decode cX10_satSo 70 = .ok (.goto (-63), 3) := by decide +kernel
theorem dX10_satSo_73 : decode cX10_satSo 73 = .ok (.aload_n 0, 1) := by decide +kernel
theorem dX10_satSo_74 : decode cX10_satSo 74 = .ok (.iload_n 1, 1) := by decide +kernel
theorem dX10_satSo_75 : decode cX10_satSo 75 = .ok (.invokevirtual 319, 3) := by decide +kernel
theorem dX10_satSo_78 : decode cX10_satSo 78 = .ok (.ifCond .eq 22, 3) := by decide +kernel
theorem dX10_satSo_81 : decode cX10_satSo 81 = .ok (.iload_n 3, 1) := by decide +kernel
theorem dX10_satSo_82 : decode cX10_satSo 82 = .ok (.bipush 99, 2) := by decide +kernel
theorem dX10_satSo_84 : decode cX10_satSo 84 = .ok (.aload_n 0, 1) := by decide +kernel
theorem dX10_satSo_85 : decode cX10_satSo 85 = .ok (.getfield 98, 3) := by decide +kernel
theorem dX10_satSo_88 : decode cX10_satSo 88 = .ok (.bipush 92, 2) := by decide +kernel
theorem dX10_satSo_90 : decode cX10_satSo 90 = .ok (.iload_n 2, 1) := by decide +kernel
theorem dX10_satSo_91 : decode cX10_satSo 91 = .ok (.iadd, 1) := by decide +kernel
theorem dX10_satSo_92 : decode cX10_satSo 92 = .ok (.iaload, 1) := by decide +kernel
theorem dX10_satSo_93 : decode cX10_satSo 93 = .ok (.isub, 1) := by decide +kernel
theorem dX10_satSo_94 : decode cX10_satSo 94 = .ok (.invokestatic 283, 3) := by decide +kernel
theorem dX10_satSo_97 : decode cX10_satSo 97 = .ok (.goto 4, 3) := by decide +kernel
theorem dX10_satSo_100 : decode cX10_satSo 100 = .ok (.iconst 0, 1) := by decide +kernel
theorem dX10_satSo_101 : decode cX10_satSo 101 = .ok (.istore 6, 2) := by decide +kernel
theorem dX10_satSo_103 : decode cX10_satSo 103 = .ok (.aload_n 0, 1) := by decide +kernel
theorem dX10_satSo_104 : decode cX10_satSo 104 = .ok (.iload_n 2, 1) := by decide +kernel
theorem dX10_satSo_105 : decode cX10_satSo 105 = .ok (.invokevirtual 253, 3) := by decide +kernel
theorem dX10_satSo_108 : decode cX10_satSo 108 = .ok (.iload 4, 2) := by decide +kernel
theorem dX10_satSo_110 : decode cX10_satSo 110 = .ok (.if_icmp .ne 14, 3) := by decide +kernel
theorem dX10_satSo_113 : decode cX10_satSo 113 = .ok (.iload 6, 2) := by decide +kernel
theorem dX10_satSo_115 : decode cX10_satSo 115 = .ok (.iload 5, 2) := by decide +kernel
theorem dX10_satSo_117 : decode cX10_satSo 117 = .ok (.if_icmp .ne 7, 3) := by decide +kernel
theorem dX10_satSo_120 : decode cX10_satSo 120 = .ok (.iconst 1, 1) := by decide +kernel
theorem dX10_satSo_121 : decode cX10_satSo 121 = .ok (.goto 4, 3) := by decide +kernel
theorem dX10_satSo_124 : decode cX10_satSo 124 = .ok (.iconst 0, 1) := by decide +kernel
theorem dX10_satSo_125 : decode cX10_satSo 125 = .ok (.istore 7, 2) := by decide +kernel
theorem dX10_satSo_127 : decode cX10_satSo 127 = .ok (.aload_n 0, 1) := by decide +kernel
theorem dX10_satSo_128 : decode cX10_satSo 128 = .ok (.invokevirtual 337, 3) := by decide +kernel
theorem dX10_satSo_131 : decode cX10_satSo 131 = .ok (.iload 7, 2) := by decide +kernel
theorem dX10_satSo_133 : decode cX10_satSo 133 = .ok (.ireturn, 1) := by decide +kernel
theorem dX10_sitters_0 : decode cX10_sitters 0 = .ok (.aload_n 0, 1) := by decide +kernel
theorem dX10_sitters_1 : decode cX10_sitters 1 = .ok (.iconst 0, 1) := by decide +kernel
theorem dX10_sitters_2 : decode cX10_sitters 2 = .ok (.putfield 1, 3) := by decide +kernel
theorem dX10_sitters_5 : decode cX10_sitters 5 = .ok (.aload_n 0, 1) := by decide +kernel
theorem dX10_sitters_6 : decode cX10_sitters 6 = .ok (.iload_n 1, 1) := by decide +kernel
theorem dX10_sitters_7 : decode cX10_sitters 7 = .ok (.invokevirtual 256, 3) := by decide +kernel
theorem dX10_sitters_10 : decode cX10_sitters 10 = .ok (.ifCond .eq 44, 3) := by decide +kernel
theorem dX10_sitters_13 : decode cX10_sitters 13 = .ok (.aload_n 0, 1) := by decide +kernel
theorem dX10_sitters_14 : decode cX10_sitters 14 = .ok (.iload_n 2, 1) := by decide +kernel
theorem dX10_sitters_15 : decode cX10_sitters 15 = .ok (.invokevirtual 259, 3) := by decide +kernel
theorem dX10_sitters_18 : decode cX10_sitters 18 = .ok (.ifCond .eq 36, 3) := by decide +kernel
theorem dX10_sitters_21 : decode cX10_sitters 21 = .ok (.iload_n 3, 1) := by decide +kernel
theorem dX10_sitters_22 : decode cX10_sitters 22 = .ok (.iconst 1, 1) := by decide +kernel
theorem dX10_sitters_23 : decode cX10_sitters 23 = .ok (.bipush 30, 2) := by decide +kernel
theorem dX10_sitters_25 : decode cX10_sitters 25 = .ok (.invokestatic 75, 3) := by decide +kernel
theorem dX10_sitters_28 : decode cX10_sitters 28 = .ok (.ifCond .eq 26, 3) := by decide +kernel
theorem dX10_sitters_31 : decode cX10_sitters 31 = .ok (.aload_n 0, 1) := by decide +kernel
theorem dX10_sitters_32 : decode cX10_sitters 32 = .ok (.iload_n 1, 1) := by decide +kernel
theorem dX10_sitters_33 : decode cX10_sitters 33 = .ok (.invokevirtual 268, 3) := by decide +kernel
theorem dX10_sitters_36 : decode cX10_sitters 36 = .ok (.ifCond .ne 18, 3) := by decide +kernel
theorem dX10_sitters_39 : decode cX10_sitters 39 = .ok (.aload_n 0, 1) := by decide +kernel
theorem dX10_sitters_40 : decode cX10_sitters 40 = .ok (.getfield 98, 3) := by decide +kernel
theorem dX10_sitters_43 : decode cX10_sitters 43 = .ok (.bipush 84, 2) := by decide +kernel
theorem dX10_sitters_45 : decode cX10_sitters 45 = .ok (.iaload, 1) := by decide +kernel
theorem dX10_sitters_46 : decode cX10_sitters 46 = .ok (.iload_n 3, 1) := by decide +kernel
theorem dX10_sitters_47 : decode cX10_sitters 47 = .ok (.iadd, 1) := by decide +kernel
theorem dX10_sitters_48 : decode cX10_sitters 48 = .ok (.sipush 400, 3) := by decide +kernel
theorem dX10_sitters_51 : decode cX10_sitters 51 = .ok (.if_icmp .le 5, 3) := by decide +kernel
theorem dX10_sitters_54 : decode cX10_sitters 54 = .ok (.iconst (-1), 1) := by decide +kernel
theorem dX10_sitters_55 : decode cX10_sitters 55 = .ok (.ireturn, 1) := by decide +kernel
theorem dX10_sitters_56 : decode cX10_sitters 56 = .ok (.aload_n 0, 1) := by decide +kernel
theorem dX10_sitters_57 : decode cX10_sitters 57 = .ok (.invokevirtual 328, 3) := by decide +kernel
theorem dX10_sitters_60 : decode cX10_sitters 60 = .ok (.iconst (-1), 1) := by decide +kernel
theorem dX10_sitters_61 : decode cX10_sitters 61 = .ok (.istore 4, 2) := by decide +kernel
theorem dX10_sitters_63 : decode cX10_sitters 63 = .ok (.iconst 0, 1) := by decide +kernel
theorem dX10_sitters_64 : decode cX10_sitters 64 = .ok (.istore 5, 2) := by decide +kernel
theorem dX10_sitters_66 : decode cX10_sitters 66 = .ok (.iload 5, 2) := by decide +kernel
theorem dX10_sitters_68 : decode cX10_sitters 68 = .ok (.iconst 1, 1) := by decide +kernel
theorem dX10_sitters_69 : decode cX10_sitters 69 = .ok (.aload_n 0, 1) := by decide +kernel
theorem dX10_sitters_70 : decode cX10_sitters 70 = .ok (.getfield 98, 3) := by decide +kernel
theorem dX10_sitters_73 : decode cX10_sitters 73 = .ok (.iconst 3, 1) := by decide +kernel
theorem dX10_sitters_74 : decode cX10_sitters 74 = .ok (.iaload, 1) := by decide +kernel
theorem dX10_sitters_75 : decode cX10_sitters 75 = .ok (.ishl, 1) := by decide +kernel
theorem dX10_sitters_76 : decode cX10_sitters 76 = .ok (.if_icmp .ge 123, 3) := by decide +kernel
theorem dX10_sitters_79 : decode cX10_sitters 79 = .ok (.iload 4, 2) := by decide +kernel
theorem dX10_sitters_81 : decode cX10_sitters 81 = .ok (.iconst (-1), 1) := by decide +kernel
theorem dX10_sitters_82 : decode cX10_sitters 82 = .ok (.if_icmp .eq 19, 3) := by decide +kernel
theorem dX10_sitters_85 : decode cX10_sitters 85 = .ok (.iload 5, 2) := by decide +kernel
theorem dX10_sitters_87 : decode cX10_sitters 87 = .ok (.invokestatic 313, 3) := by decide +kernel
theorem dX10_sitters_90 : decode cX10_sitters 90 = .ok (.iload 4, 2) := by decide +kernel
theorem dX10_sitters_92 : decode cX10_sitters 92 = .ok (.invokestatic 313, 3) := by decide +kernel
theorem dX10_sitters_95 : decode cX10_sitters 95 = .ok (.if_icmp .lt 6, 3) := by decide +kernel
theorem dX10_sitters_98 : decode cX10_sitters 98 = .ok (.goto 95, 3) := by decide +kernel
theorem dX10_sitters_101 : decode cX10_sitters 101 = .ok (.iconst 0, 1) := by decide +kernel
theorem dX10_sitters_102 : decode cX10_sitters 102 = .ok (.istore 6, 2) := by decide +kernel
theorem dX10_sitters_104 : decode cX10_sitters 104 = .ok (.iload 6, 2) := by decide +kernel
theorem dX10_sitters_106 : decode cX10_sitters 106 = .ok (.aload_n 0, 1) := by decide +kernel
theorem dX10_sitters_107 : decode cX10_sitters 107 = .ok (.getfield 98, 3) := by decide +kernel
theorem dX10_sitters_110 : decode cX10_sitters 110 = .ok (.iconst 3, 1) := by decide +kernel
theorem dX10_sitters_111 : decode cX10_sitters 111 = .ok (.iaload, 1) := by decide +kernel
theorem dX10_sitters_112 : decode cX10_sitters 112 = .ok (.if_icmp .ge 58, 3) := by decide +kernel
theorem dX10_sitters_115 : decode cX10_sitters 115 = .ok (.iload 5, 2) := by decide +kernel
theorem dX10_sitters_117 : decode cX10_sitters 117 = .ok (.iload 6, 2) := by decide +kernel
theorem dX10_sitters_119 : decode cX10_sitters 119 = .ok (.invokestatic 203, 3) := by decide +kernel
theorem dX10_sitters_122 : decode cX10_sitters 122 = .ok (.ifCond .eq 17, 3) := by decide +kernel
theorem dX10_sitters_125 : decode cX10_sitters 125 = .ok (.aload_n 0, 1) := by decide +kernel
theorem dX10_sitters_126 : decode cX10_sitters 126 = .ok (.getfield 98, 3) := by decide +kernel
theorem dX10_sitters_129 : decode cX10_sitters 129 = .ok (.bipush 112, 2) := by decide +kernel
theorem dX10_sitters_131 : decode cX10_sitters 131 = .ok (.iload 6, 2) := by decide +kernel
theorem dX10_sitters_133 : decode cX10_sitters 133 = .ok (.iadd, 1) := by decide +kernel
theorem dX10_sitters_134 : decode cX10_sitters 134 = .ok (.iload_n 1, 1) := by decide +kernel
theorem dX10_sitters_135 : decode cX10_sitters 135 = .ok (.iastore, 1) := by decide +kernel
theorem dX10_sitters_136 : decode cX10_sitters 136 = .ok (.goto 28, 3) := by decide +kernel
theorem dX10_sitters_139 : decode cX10_sitters 139 = .ok (.aload_n 0, 1) := by decide +kernel
theorem dX10_sitters_140 : decode cX10_sitters 140 = .ok (.getfield 98, 3) := by decide +kernel
theorem dX10_sitters_143 : decode cX10_sitters 143 = .ok (.bipush 112, 2) := by decide +kernel
theorem dX10_sitters_145 : decode cX10_sitters 145 = .ok (.iload 6, 2) := by decide +kernel
theorem dX10_sitters_147 : decode cX10_sitters 147 = .ok (.iadd, 1) := by decide +kernel
theorem dX10_sitters_148 : decode cX10_sitters 148 = .ok (.iaload, 1) := by decide +kernel
theorem dX10_sitters_149 : decode cX10_sitters 149 = .ok (.iload_n 1, 1) := by decide +kernel
theorem dX10_sitters_150 : decode cX10_sitters 150 = .ok (.if_icmp .ne 14, 3) := by decide +kernel
theorem dX10_sitters_153 : decode cX10_sitters 153 = .ok (.aload_n 0, 1) := by decide +kernel
theorem dX10_sitters_154 : decode cX10_sitters 154 = .ok (.getfield 98, 3) := by decide +kernel
theorem dX10_sitters_157 : decode cX10_sitters 157 = .ok (.bipush 112, 2) := by decide +kernel
theorem dX10_sitters_159 : decode cX10_sitters 159 = .ok (.iload 6, 2) := by decide +kernel
theorem dX10_sitters_161 : decode cX10_sitters 161 = .ok (.iadd, 1) := by decide +kernel
theorem dX10_sitters_162 : decode cX10_sitters 162 = .ok (.iconst (-1), 1) := by decide +kernel
theorem dX10_sitters_163 : decode cX10_sitters 163 = .ok (.iastore, 1) := by decide +kernel
theorem dX10_sitters_164 : decode cX10_sitters 164 = .ok (.iinc 6 1, 3) := by decide +kernel
theorem dX10_sitters_167 : decode cX10_sitters 167 = .ok (.goto (-63), 3) := by decide +kernel
theorem dX10_sitters_170 : decode cX10_sitters 170 = .ok (.aload_n 0, 1) := by decide +kernel
theorem dX10_sitters_171 : decode cX10_sitters 171 = .ok (.iload_n 3, 1) := by decide +kernel
theorem dX10_sitters_172 : decode cX10_sitters 172 = .ok (.invokevirtual 325, 3) := by decide +kernel
theorem dX10_sitters_175 : decode cX10_sitters 175 = .ok (.pop, 1) := by decide +kernel
theorem dX10_sitters_176 : decode cX10_sitters 176 = .ok (.aload_n 0, 1) := by decide +kernel
theorem dX10_sitters_177 : decode cX10_sitters 177 = .ok (.iload_n 1, 1) := by decide +kernel
theorem dX10_sitters_178 : decode cX10_sitters 178 = .ok (.invokevirtual 253, 3) := by decide +kernel
theorem dX10_sitters_181 : decode cX10_sitters 181 = .ok (.iload_n 2, 1) := by decide +kernel
theorem dX10_sitters_182 : decode cX10_sitters 182 = .ok (.if_icmp .ne 7, 3) := by decide +kernel
theorem dX10_sitters_185 : decode cX10_sitters 185 = .ok (.iload 5, 2) := by decide +kernel
theorem dX10_sitters_187 : decode cX10_sitters 187 = .ok (.istore 4, 2) := by decide +kernel
theorem dX10_sitters_189 : decode cX10_sitters 189 = .ok (.aload_n 0, 1) := by decide +kernel
theorem dX10_sitters_190 : decode cX10_sitters 190 = .ok (.invokevirtual 331, 3) := by decide +kernel
theorem dX10_sitters_193 : decode cX10_sitters 193 = .ok (.iinc 5 1, 3) := by decide +kernel
theorem dX10_sitters_196 : decode cX10_sitters 196 = .ok (.goto (-130), 3) := by decide +kernel
theorem dX10_sitters_199 : decode cX10_sitters 199 = .ok (.iload 4, 2) := by decide +kernel
theorem dX10_sitters_201 : decode cX10_sitters 201 = .ok (.iconst (-1), 1) := by decide +kernel
theorem dX10_sitters_202 : decode cX10_sitters 202 = .ok (.if_icmp .ne 5, 3) := by decide +kernel
theorem dX10_sitters_205 : decode cX10_sitters 205 = .ok (.iconst (-1), 1) := by decide +kernel
theorem dX10_sitters_206 : decode cX10_sitters 206 = .ok (.ireturn, 1) := by decide +kernel
theorem dX10_sitters_207 : decode cX10_sitters 207 = .ok (.aload_n 0, 1) := by decide +kernel
theorem dX10_sitters_208 : decode cX10_sitters 208 = .ok (.iload 4, 2) := by decide +kernel
theorem dX10_sitters_210 : decode cX10_sitters 210 = .ok (.putfield 136, 3) := by decide +kernel
theorem dX10_sitters_213 : decode cX10_sitters 213 = .ok (.iload 4, 2) := by decide +kernel
theorem dX10_sitters_215 : decode cX10_sitters 215 = .ok (.invokestatic 313, 3) := by decide +kernel
theorem dX10_sitters_218 : decode cX10_sitters 218 = .ok (.ireturn, 1) := by decide +kernel
theorem dX10_size_0 : decode cX10_size 0 = .ok (.iload_n 0, 1) := by decide +kernel
theorem dX10_size_1 : decode cX10_size 1 = .ok (.ifCond .ge 8, 3) := by decide +kernel
theorem dX10_size_4 : decode cX10_size 4 = .ok (.iload_n 0, 1) := by decide +kernel
theorem dX10_size_5 : decode cX10_size 5 = .ok (.ineg, 1) := by decide +kernel
theorem dX10_size_6 : decode cX10_size 6 = .ok (.goto 4, 3) := by decide +kernel
theorem dX10_size_9 : decode cX10_size 9 = .ok (.iload_n 0, 1) := by decide +kernel
theorem dX10_size_10 : decode cX10_size 10 = .ok (.ireturn, 1) := by decide +kernel
theorem dX10_spelt_0 : decode cX10_spelt 0 = .ok (.ldc2_w 54, 3) := by decide +kernel
theorem dX10_spelt_3 : decode cX10_spelt 3 = .ok (.iload_n 0, 1) := by decide +kernel
theorem dX10_spelt_4 : decode cX10_spelt 4 = .ok (.i2l, 1) := by decide +kernel
theorem dX10_spelt_5 : decode cX10_spelt 5 = .ok (.ldc2_w 56, 3) := by decide +kernel
theorem dX10_spelt_8 : decode cX10_spelt 8 = .ok (.lsub, 1) := by decide +kernel
theorem dX10_spelt_9 : decode cX10_spelt 9 = .ok (.lmul, 1) := by decide +kernel
theorem dX10_spelt_10 : decode cX10_spelt 10 = .ok (.iload_n 1, 1) := by decide +kernel
theorem dX10_spelt_11 : decode cX10_spelt 11 = .ok (.i2l, 1) := by decide +kernel
theorem dX10_spelt_12 : decode cX10_spelt 12 = .ok (.ladd, 1) := by decide +kernel
theorem dX10_spelt_13 : decode cX10_spelt 13 = .ok (.ldc2_w 56, 3) := by decide +kernel
theorem dX10_spelt_16 : decode cX10_spelt 16 = .ok (.lsub, 1) := by decide +kernel
theorem dX10_spelt_17 : decode cX10_spelt 17 = .ok (.lstore 7, 2) := by decide +kernel
theorem dX10_spelt_19 : decode cX10_spelt 19 = .ok (.iload_n 2, 1) := by decide +kernel
theorem dX10_spelt_20 : decode cX10_spelt 20 = .ok (.ifCond .le 18, 3) := by decide +kernel
theorem dX10_spelt_23 : decode cX10_spelt 23 = .ok (.ldc2_w 54, 3) := by decide +kernel
theorem dX10_spelt_26 : decode cX10_spelt 26 = .ok (.lload 7, 2) := by decide +kernel
theorem dX10_spelt_28 : decode cX10_spelt 28 = .ok (.lmul, 1) := by decide +kernel
theorem dX10_spelt_29 : decode cX10_spelt 29 = .ok (.iload_n 2, 1) := by decide +kernel
theorem dX10_spelt_30 : decode cX10_spelt 30 = .ok (.i2l, 1) := by decide +kernel
theorem dX10_spelt_31 : decode cX10_spelt 31 = .ok (.ladd, 1) := by decide +kernel
theorem dX10_spelt_32 : decode cX10_spelt 32 = .ok (.ldc2_w 56, 3) := by decide +kernel
theorem dX10_spelt_35 : decode cX10_spelt 35 = .ok (.lsub, 1) := by decide +kernel
theorem dX10_spelt_36 : decode cX10_spelt 36 = .ok (.lstore 7, 2) := by decide +kernel
theorem dX10_spelt_38 : decode cX10_spelt 38 = .ok (.iload_n 3, 1) := by decide +kernel
theorem dX10_spelt_39 : decode cX10_spelt 39 = .ok (.ifCond .le 18, 3) := by decide +kernel
theorem dX10_spelt_42 : decode cX10_spelt 42 = .ok (.ldc2_w 54, 3) := by decide +kernel
theorem dX10_spelt_45 : decode cX10_spelt 45 = .ok (.lload 7, 2) := by decide +kernel
theorem dX10_spelt_47 : decode cX10_spelt 47 = .ok (.lmul, 1) := by decide +kernel
theorem dX10_spelt_48 : decode cX10_spelt 48 = .ok (.iload_n 3, 1) := by decide +kernel
theorem dX10_spelt_49 : decode cX10_spelt 49 = .ok (.i2l, 1) := by decide +kernel
theorem dX10_spelt_50 : decode cX10_spelt 50 = .ok (.ladd, 1) := by decide +kernel
theorem dX10_spelt_51 : decode cX10_spelt 51 = .ok (.ldc2_w 56, 3) := by decide +kernel
theorem dX10_spelt_54 : decode cX10_spelt 54 = .ok (.lsub, 1) := by decide +kernel
theorem dX10_spelt_55 : decode cX10_spelt 55 = .ok (.lstore 7, 2) := by decide +kernel
theorem dX10_spelt_57 : decode cX10_spelt 57 = .ok (.iload 4, 2) := by decide +kernel
theorem dX10_spelt_59 : decode cX10_spelt 59 = .ok (.ifCond .le 19, 3) := by decide +kernel
theorem dX10_spelt_62 : decode cX10_spelt 62 = .ok (.ldc2_w 54, 3) := by decide +kernel
theorem dX10_spelt_65 : decode cX10_spelt 65 = .ok (.lload 7, 2) := by decide +kernel
theorem dX10_spelt_67 : decode cX10_spelt 67 = .ok (.lmul, 1) := by decide +kernel
theorem dX10_spelt_68 : decode cX10_spelt 68 = .ok (.iload 4, 2) := by decide +kernel
theorem dX10_spelt_70 : decode cX10_spelt 70 = .ok (.i2l, 1) := by decide +kernel
theorem dX10_spelt_71 : decode cX10_spelt 71 = .ok (.ladd, 1) := by decide +kernel
theorem dX10_spelt_72 : decode cX10_spelt 72 = .ok (.ldc2_w 56, 3) := by decide +kernel
theorem dX10_spelt_75 : decode cX10_spelt 75 = .ok (.lsub, 1) := by decide +kernel
theorem dX10_spelt_76 : decode cX10_spelt 76 = .ok (.lstore 7, 2) := by decide +kernel
theorem dX10_spelt_78 : decode cX10_spelt 78 = .ok (.iload 5, 2) := by decide +kernel
theorem dX10_spelt_80 : decode cX10_spelt 80 = .ok (.ifCond .le 19, 3) := by decide +kernel
theorem dX10_spelt_83 : decode cX10_spelt 83 = .ok (.ldc2_w 54, 3) := by decide +kernel
theorem dX10_spelt_86 : decode cX10_spelt 86 = .ok (.lload 7, 2) := by decide +kernel
theorem dX10_spelt_88 : decode cX10_spelt 88 = .ok (.lmul, 1) := by decide +kernel
theorem dX10_spelt_89 : decode cX10_spelt 89 = .ok (.iload 5, 2) := by decide +kernel
theorem dX10_spelt_91 : decode cX10_spelt 91 = .ok (.i2l, 1) := by decide +kernel
theorem dX10_spelt_92 : decode cX10_spelt 92 = .ok (.ladd, 1) := by decide +kernel
theorem dX10_spelt_93 : decode cX10_spelt 93 = .ok (.ldc2_w 56, 3) := by decide +kernel
theorem dX10_spelt_96 : decode cX10_spelt 96 = .ok (.lsub, 1) := by decide +kernel
theorem dX10_spelt_97 : decode cX10_spelt 97 = .ok (.lstore 7, 2) := by decide +kernel
theorem dX10_spelt_99 : decode cX10_spelt 99 = .ok (.iload 6, 2) := by decide +kernel
theorem dX10_spelt_101 : decode cX10_spelt 101 = .ok (.ifCond .le 19, 3) := by decide +kernel
theorem dX10_spelt_104 : decode cX10_spelt 104 = .ok (.ldc2_w 54, 3) := by decide +kernel
theorem dX10_spelt_107 : decode cX10_spelt 107 = .ok (.lload 7, 2) := by decide +kernel
theorem dX10_spelt_109 : decode cX10_spelt 109 = .ok (.lmul, 1) := by decide +kernel
theorem dX10_spelt_110 : decode cX10_spelt 110 = .ok (.iload 6, 2) := by decide +kernel
theorem dX10_spelt_112 : decode cX10_spelt 112 = .ok (.i2l, 1) := by decide +kernel
theorem dX10_spelt_113 : decode cX10_spelt 113 = .ok (.ladd, 1) := by decide +kernel
theorem dX10_spelt_114 : decode cX10_spelt 114 = .ok (.ldc2_w 56, 3) := by decide +kernel
theorem dX10_spelt_117 : decode cX10_spelt 117 = .ok (.lsub, 1) := by decide +kernel
theorem dX10_spelt_118 : decode cX10_spelt 118 = .ok (.lstore 7, 2) := by decide +kernel
theorem dX10_spelt_120 : decode cX10_spelt 120 = .ok (.lload 7, 2) := by decide +kernel
theorem dX10_spelt_122 : decode cX10_spelt 122 = .ok (.lreturn, 1) := by decide +kernel
theorem dX10_tag_0 : decode cX10_tag 0 = .ok (.aload_n 0, 1) := by decide +kernel
theorem dX10_tag_1 : decode cX10_tag 1 = .ok (.iconst 0, 1) := by decide +kernel
theorem dX10_tag_2 : decode cX10_tag 2 = .ok (.putfield 1, 3) := by decide +kernel
theorem dX10_tag_5 : decode cX10_tag 5 = .ok (.aload_n 0, 1) := by decide +kernel
theorem dX10_tag_6 : decode cX10_tag 6 = .ok (.iload_n 1, 1) := by decide +kernel
theorem dX10_tag_7 : decode cX10_tag 7 = .ok (.invokevirtual 256, 3) := by decide +kernel
theorem dX10_tag_10 : decode cX10_tag 10 = .ok (.ifCond .ne 5, 3) := by decide +kernel
theorem dX10_tag_13 : decode cX10_tag 13 = .ok (.iconst (-1), 1) := by decide +kernel
theorem dX10_tag_14 : decode cX10_tag 14 = .ok (.ireturn, 1) := by decide +kernel
theorem dX10_tag_15 : decode cX10_tag 15 = .ok (.aload_n 0, 1) := by decide +kernel
theorem dX10_tag_16 : decode cX10_tag 16 = .ok (.iconst 0, 1) := by decide +kernel
theorem dX10_tag_17 : decode cX10_tag 17 = .ok (.putfield 368, 3) := by decide +kernel
theorem dX10_tag_20 : decode cX10_tag 20 = .ok (.aload_n 0, 1) := by decide +kernel
theorem dX10_tag_21 : decode cX10_tag 21 = .ok (.aload_n 0, 1) := by decide +kernel
theorem dX10_tag_22 : decode cX10_tag 22 = .ok (.getfield 116, 3) := by decide +kernel
theorem dX10_tag_25 : decode cX10_tag 25 = .ok (.bipush 10, 2) := by decide +kernel
theorem dX10_tag_27 : decode cX10_tag 27 = .ok (.iload_n 1, 1) := by decide +kernel
theorem dX10_tag_28 : decode cX10_tag 28 = .ok (.iadd, 1) := by decide +kernel
theorem dX10_tag_29 : decode cX10_tag 29 = .ok (.laload, 1) := by decide +kernel
theorem dX10_tag_30 : decode cX10_tag 30 = .ok (.invokevirtual 371, 3) := by decide +kernel
theorem dX10_tag_33 : decode cX10_tag 33 = .ok (.aload_n 0, 1) := by decide +kernel
theorem dX10_tag_34 : decode cX10_tag 34 = .ok (.bipush 22, 2) := by decide +kernel
theorem dX10_tag_36 : decode cX10_tag 36 = .ok (.invokestatic 62, 3) := by decide +kernel
theorem dX10_tag_39 : decode cX10_tag 39 = .ok (.invokevirtual 378, 3) := by decide +kernel
theorem dX10_tag_42 : decode cX10_tag 42 = .ok (.aload_n 0, 1) := by decide +kernel
theorem dX10_tag_43 : decode cX10_tag 43 = .ok (.aload_n 0, 1) := by decide +kernel
theorem dX10_tag_44 : decode cX10_tag 44 = .ok (.iload_n 1, 1) := by decide +kernel
theorem dX10_tag_45 : decode cX10_tag 45 = .ok (.invokevirtual 253, 3) := by decide +kernel
theorem dX10_tag_48 : decode cX10_tag 48 = .ok (.iconst (-1), 1) := by decide +kernel
theorem dX10_tag_49 : decode cX10_tag 49 = .ok (.if_icmp .ne 11, 3) := by decide +kernel
theorem dX10_tag_52 : decode cX10_tag 52 = .ok (.bipush 20, 2) := by decide +kernel
theorem dX10_tag_54 : decode cX10_tag 54 = .ok (.invokestatic 62, 3) := by decide +kernel
theorem dX10_tag_57 : decode cX10_tag 57 = .ok (.goto 13, 3) := by decide +kernel
theorem dX10_tag_60 : decode cX10_tag 60 = .ok (.aload_n 0, 1) := by decide +kernel
theorem dX10_tag_61 : decode cX10_tag 61 = .ok (.getfield 116, 3) := by decide +kernel
theorem dX10_tag_64 : decode cX10_tag 64 = .ok (.aload_n 0, 1) := by decide +kernel
theorem dX10_tag_65 : decode cX10_tag 65 = .ok (.iload_n 1, 1) := by decide +kernel
theorem dX10_tag_66 : decode cX10_tag 66 = .ok (.invokevirtual 253, 3) := by decide +kernel
theorem dX10_tag_69 : decode cX10_tag 69 = .ok (.laload, 1) := by decide +kernel
theorem dX10_tag_70 : decode cX10_tag 70 = .ok (.invokevirtual 378, 3) := by decide +kernel
theorem dX10_tag_73 : decode cX10_tag 73 = .ok (.aload_n 0, 1) := by decide +kernel
theorem dX10_tag_74 : decode cX10_tag 74 = .ok (.iload_n 1, 1) := by decide +kernel
theorem dX10_tag_75 : decode cX10_tag 75 = .ok (.invokevirtual 268, 3) := by decide +kernel
theorem dX10_tag_78 : decode cX10_tag 78 = .ok (.ifCond .ne 8, 3) := by decide +kernel
theorem dX10_tag_81 : decode cX10_tag 81 = .ok (.aload_n 0, 1) := by decide +kernel
theorem dX10_tag_82 : decode cX10_tag 82 = .ok (.getfield 368, 3) := by decide +kernel
theorem dX10_tag_85 : decode cX10_tag 85 = .ok (.ireturn, 1) := by decide +kernel
theorem dX10_tag_86 : decode cX10_tag 86 = .ok (.aload_n 0, 1) := by decide +kernel
theorem dX10_tag_87 : decode cX10_tag 87 = .ok (.bipush 97, 2) := by decide +kernel
theorem dX10_tag_89 : decode cX10_tag 89 = .ok (.bipush 116, 2) := by decide +kernel
theorem dX10_tag_91 : decode cX10_tag 91 = .ok (.iconst 0, 1) := by decide +kernel
theorem dX10_tag_92 : decode cX10_tag 92 = .ok (.iconst 0, 1) := by decide +kernel
theorem dX10_tag_93 : decode cX10_tag 93 = .ok (.iconst 0, 1) := by decide +kernel
theorem dX10_tag_94 : decode cX10_tag 94 = .ok (.iconst 0, 1) := by decide +kernel
theorem dX10_tag_95 : decode cX10_tag 95 = .ok (.iconst 0, 1) := by decide +kernel
theorem dX10_tag_96 : decode cX10_tag 96 = .ok (.invokestatic 58, 3) := by decide +kernel
theorem dX10_tag_99 : decode cX10_tag 99 = .ok (.invokevirtual 378, 3) := by decide +kernel
theorem dX10_tag_102 : decode cX10_tag 102 = .ok (.aload_n 0, 1) := by decide +kernel
theorem dX10_tag_103 : decode cX10_tag 103 = .ok (.bipush 108, 2) := by decide +kernel
theorem dX10_tag_105 : decode cX10_tag 105 = .ok (.bipush 97, 2) := by decide +kernel
theorem dX10_tag_107 : decode cX10_tag 107 = .ok (.bipush 115, 2) := by decide +kernel
theorem dX10_tag_109 : decode cX10_tag 109 = .ok (.bipush 116, 2) := by decide +kernel
theorem dX10_tag_111 : decode cX10_tag 111 = .ok (.iconst 0, 1) := by decide +kernel
theorem dX10_tag_112 : decode cX10_tag 112 = .ok (.iconst 0, 1) := by decide +kernel
theorem dX10_tag_113 : decode cX10_tag 113 = .ok (.iconst 0, 1) := by decide +kernel
theorem dX10_tag_114 : decode cX10_tag 114 = .ok (.invokestatic 58, 3) := by decide +kernel
theorem dX10_tag_117 : decode cX10_tag 117 = .ok (.invokevirtual 378, 3) := by decide +kernel
theorem dX10_tag_120 : decode cX10_tag 120 = .ok (.aload_n 0, 1) := by decide +kernel
theorem dX10_tag_121 : decode cX10_tag 121 = .ok (.getfield 368, 3) := by decide +kernel
theorem dX10_tag_124 : decode cX10_tag 124 = .ok (.ireturn, 1) := by decide +kernel
theorem dX10_tapeAt_0 : decode cX10_tapeAt 0 = .ok (.iload_n 1, 1) := by decide +kernel
theorem dX10_tapeAt_1 : decode cX10_tapeAt 1 = .ok (.aload_n 0, 1) := by decide +kernel
theorem dX10_tapeAt_2 : decode cX10_tapeAt 2 = .ok (.getfield 18, 3) := by decide +kernel
theorem dX10_tapeAt_5 : decode cX10_tapeAt 5 = .ok (.if_icmp .ge 12, 3) := by decide +kernel
theorem dX10_tapeAt_8 : decode cX10_tapeAt 8 = .ok (.aload_n 0, 1) := by decide +kernel
theorem dX10_tapeAt_9 : decode cX10_tapeAt 9 = .ok (.getfield 7, 3) := by decide +kernel
theorem dX10_tapeAt_12 : decode cX10_tapeAt 12 = .ok (.iload_n 1, 1) := by decide +kernel
theorem dX10_tapeAt_13 : decode cX10_tapeAt 13 = .ok (.iaload, 1) := by decide +kernel
theorem dX10_tapeAt_14 : decode cX10_tapeAt 14 = .ok (.goto 4, 3) := by decide +kernel
theorem dX10_tapeAt_17 : decode cX10_tapeAt 17 = .ok (.iconst 0, 1) := by decide +kernel
theorem dX10_tapeAt_18 : decode cX10_tapeAt 18 = .ok (.ireturn, 1) := by decide +kernel
theorem dX10_wordOf_0 : decode cX10_wordOf 0 = .ok (.iload_n 0, 1) := by decide +kernel
theorem dX10_wordOf_1 : decode cX10_wordOf 1 = .ok (.tableswitch 546 0 26 #[123, 138, 153, 170, 187, 202, 216, 234, 249, 265, 281, 298, 315, 333, 348, 364, 378, 391, 405, 419, 436, 454, 472, 485, 498, 513, 529], 123) := by decide +kernel
theorem dX10_wordOf_124 : decode cX10_wordOf 124 = .ok (.bipush 105, 2) := by decide +kernel
theorem dX10_wordOf_126 : decode cX10_wordOf 126 = .ok (.bipush 100, 2) := by decide +kernel
theorem dX10_wordOf_128 : decode cX10_wordOf 128 = .ok (.bipush 101, 2) := by decide +kernel
theorem dX10_wordOf_130 : decode cX10_wordOf 130 = .ok (.bipush 97, 2) := by decide +kernel
theorem dX10_wordOf_132 : decode cX10_wordOf 132 = .ok (.iconst 0, 1) := by decide +kernel
theorem dX10_wordOf_133 : decode cX10_wordOf 133 = .ok (.iconst 0, 1) := by decide +kernel
theorem dX10_wordOf_134 : decode cX10_wordOf 134 = .ok (.iconst 0, 1) := by decide +kernel
theorem dX10_wordOf_135 : decode cX10_wordOf 135 = .ok (.invokestatic 58, 3) := by decide +kernel
theorem dX10_wordOf_138 : decode cX10_wordOf 138 = .ok (.lreturn, 1) := by decide +kernel
theorem dX10_wordOf_139 : decode cX10_wordOf 139 = .ok (.bipush 114, 2) := by decide +kernel
theorem dX10_wordOf_141 : decode cX10_wordOf 141 = .ok (.bipush 111, 2) := by decide +kernel
theorem dX10_wordOf_143 : decode cX10_wordOf 143 = .ok (.bipush 111, 2) := by decide +kernel
theorem dX10_wordOf_145 : decode cX10_wordOf 145 = .ok (.bipush 109, 2) := by decide +kernel
theorem dX10_wordOf_147 : decode cX10_wordOf 147 = .ok (.iconst 0, 1) := by decide +kernel
theorem dX10_wordOf_148 : decode cX10_wordOf 148 = .ok (.iconst 0, 1) := by decide +kernel
theorem dX10_wordOf_149 : decode cX10_wordOf 149 = .ok (.iconst 0, 1) := by decide +kernel
theorem dX10_wordOf_150 : decode cX10_wordOf 150 = .ok (.invokestatic 58, 3) := by decide +kernel
theorem dX10_wordOf_153 : decode cX10_wordOf 153 = .ok (.lreturn, 1) := by decide +kernel
theorem dX10_wordOf_154 : decode cX10_wordOf 154 = .ok (.bipush 112, 2) := by decide +kernel
theorem dX10_wordOf_156 : decode cX10_wordOf 156 = .ok (.bipush 97, 2) := by decide +kernel
theorem dX10_wordOf_158 : decode cX10_wordOf 158 = .ok (.bipush 114, 2) := by decide +kernel
theorem dX10_wordOf_160 : decode cX10_wordOf 160 = .ok (.bipush 99, 2) := by decide +kernel
theorem dX10_wordOf_162 : decode cX10_wordOf 162 = .ok (.bipush 101, 2) := by decide +kernel
theorem dX10_wordOf_164 : decode cX10_wordOf 164 = .ok (.bipush 108, 2) := by decide +kernel
theorem dX10_wordOf_166 : decode cX10_wordOf 166 = .ok (.iconst 0, 1) := by decide +kernel
theorem dX10_wordOf_167 : decode cX10_wordOf 167 = .ok (.invokestatic 58, 3) := by decide +kernel
theorem dX10_wordOf_170 : decode cX10_wordOf 170 = .ok (.lreturn, 1) := by decide +kernel
theorem dX10_wordOf_171 : decode cX10_wordOf 171 = .ok (.bipush 112, 2) := by decide +kernel
theorem dX10_wordOf_173 : decode cX10_wordOf 173 = .ok (.bipush 101, 2) := by decide +kernel
theorem dX10_wordOf_175 : decode cX10_wordOf 175 = .ok (.bipush 114, 2) := by decide +kernel
theorem dX10_wordOf_177 : decode cX10_wordOf 177 = .ok (.bipush 115, 2) := by decide +kernel
theorem dX10_wordOf_179 : decode cX10_wordOf 179 = .ok (.bipush 111, 2) := by decide +kernel
theorem dX10_wordOf_181 : decode cX10_wordOf 181 = .ok (.bipush 110, 2) := by decide +kernel
theorem dX10_wordOf_183 : decode cX10_wordOf 183 = .ok (.iconst 0, 1) := by decide +kernel
theorem dX10_wordOf_184 : decode cX10_wordOf 184 = .ok (.invokestatic 58, 3) := by decide +kernel
theorem dX10_wordOf_187 : decode cX10_wordOf 187 = .ok (.lreturn, 1) := by decide +kernel
theorem dX10_wordOf_188 : decode cX10_wordOf 188 = .ok (.bipush 115, 2) := by decide +kernel
theorem dX10_wordOf_190 : decode cX10_wordOf 190 = .ok (.bipush 105, 2) := by decide +kernel
theorem dX10_wordOf_192 : decode cX10_wordOf 192 = .ok (.bipush 116, 2) := by decide +kernel
theorem dX10_wordOf_194 : decode cX10_wordOf 194 = .ok (.bipush 115, 2) := by decide +kernel
theorem dX10_wordOf_196 : decode cX10_wordOf 196 = .ok (.iconst 0, 1) := by decide +kernel
theorem dX10_wordOf_197 : decode cX10_wordOf 197 = .ok (.iconst 0, 1) := by decide +kernel
theorem dX10_wordOf_198 : decode cX10_wordOf 198 = .ok (.iconst 0, 1) := by decide +kernel
theorem dX10_wordOf_199 : decode cX10_wordOf 199 = .ok (.invokestatic 58, 3) := by decide +kernel
theorem dX10_wordOf_202 : decode cX10_wordOf 202 = .ok (.lreturn, 1) := by decide +kernel
theorem dX10_wordOf_203 : decode cX10_wordOf 203 = .ok (.bipush 104, 2) := by decide +kernel
theorem dX10_wordOf_205 : decode cX10_wordOf 205 = .ok (.bipush 97, 2) := by decide +kernel
theorem dX10_wordOf_207 : decode cX10_wordOf 207 = .ok (.bipush 115, 2) := by decide +kernel
theorem dX10_wordOf_209 : decode cX10_wordOf 209 = .ok (.iconst 0, 1) := by decide +kernel
theorem dX10_wordOf_210 : decode cX10_wordOf 210 = .ok (.iconst 0, 1) := by decide +kernel
theorem dX10_wordOf_211 : decode cX10_wordOf 211 = .ok (.iconst 0, 1) := by decide +kernel
theorem dX10_wordOf_212 : decode cX10_wordOf 212 = .ok (.iconst 0, 1) := by decide +kernel
theorem dX10_wordOf_213 : decode cX10_wordOf 213 = .ok (.invokestatic 58, 3) := by decide +kernel
theorem dX10_wordOf_216 : decode cX10_wordOf 216 = .ok (.lreturn, 1) := by decide +kernel
theorem dX10_wordOf_217 : decode cX10_wordOf 217 = .ok (.bipush 113, 2) := by decide +kernel
theorem dX10_wordOf_219 : decode cX10_wordOf 219 = .ok (.bipush 117, 2) := by decide +kernel
theorem dX10_wordOf_221 : decode cX10_wordOf 221 = .ok (.bipush 97, 2) := by decide +kernel
theorem dX10_wordOf_223 : decode cX10_wordOf 223 = .ok (.bipush 114, 2) := by decide +kernel
theorem dX10_wordOf_225 : decode cX10_wordOf 225 = .ok (.bipush 114, 2) := by decide +kernel
theorem dX10_wordOf_227 : decode cX10_wordOf 227 = .ok (.bipush 101, 2) := by decide +kernel
theorem dX10_wordOf_229 : decode cX10_wordOf 229 = .ok (.bipush 108, 2) := by decide +kernel
theorem dX10_wordOf_231 : decode cX10_wordOf 231 = .ok (.invokestatic 58, 3) := by decide +kernel
theorem dX10_wordOf_234 : decode cX10_wordOf 234 = .ok (.lreturn, 1) := by decide +kernel
theorem dX10_wordOf_235 : decode cX10_wordOf 235 = .ok (.bipush 108, 2) := by decide +kernel
theorem dX10_wordOf_237 : decode cX10_wordOf 237 = .ok (.bipush 101, 2) := by decide +kernel
theorem dX10_wordOf_239 : decode cX10_wordOf 239 = .ok (.bipush 97, 2) := by decide +kernel
theorem dX10_wordOf_241 : decode cX10_wordOf 241 = .ok (.bipush 107, 2) := by decide +kernel
theorem dX10_wordOf_243 : decode cX10_wordOf 243 = .ok (.iconst 0, 1) := by decide +kernel
theorem dX10_wordOf_244 : decode cX10_wordOf 244 = .ok (.iconst 0, 1) := by decide +kernel
theorem dX10_wordOf_245 : decode cX10_wordOf 245 = .ok (.iconst 0, 1) := by decide +kernel
theorem dX10_wordOf_246 : decode cX10_wordOf 246 = .ok (.invokestatic 58, 3) := by decide +kernel
theorem dX10_wordOf_249 : decode cX10_wordOf 249 = .ok (.lreturn, 1) := by decide +kernel
theorem dX10_wordOf_250 : decode cX10_wordOf 250 = .ok (.bipush 103, 2) := by decide +kernel
theorem dX10_wordOf_252 : decode cX10_wordOf 252 = .ok (.bipush 117, 2) := by decide +kernel
theorem dX10_wordOf_254 : decode cX10_wordOf 254 = .ok (.bipush 101, 2) := by decide +kernel
theorem dX10_wordOf_256 : decode cX10_wordOf 256 = .ok (.bipush 115, 2) := by decide +kernel
theorem dX10_wordOf_258 : decode cX10_wordOf 258 = .ok (.bipush 115, 2) := by decide +kernel
theorem dX10_wordOf_260 : decode cX10_wordOf 260 = .ok (.iconst 0, 1) := by decide +kernel
theorem dX10_wordOf_261 : decode cX10_wordOf 261 = .ok (.iconst 0, 1) := by decide +kernel
theorem dX10_wordOf_262 : decode cX10_wordOf 262 = .ok (.invokestatic 58, 3) := by decide +kernel
theorem dX10_wordOf_265 : decode cX10_wordOf 265 = .ok (.lreturn, 1) := by decide +kernel
theorem dX10_wordOf_266 : decode cX10_wordOf 266 = .ok (.bipush 106, 2) := by decide +kernel
theorem dX10_wordOf_268 : decode cX10_wordOf 268 = .ok (.bipush 111, 2) := by decide +kernel
theorem dX10_wordOf_270 : decode cX10_wordOf 270 = .ok (.bipush 105, 2) := by decide +kernel
theorem dX10_wordOf_272 : decode cX10_wordOf 272 = .ok (.bipush 110, 2) := by decide +kernel
theorem dX10_wordOf_274 : decode cX10_wordOf 274 = .ok (.bipush 115, 2) := by decide +kernel
theorem dX10_wordOf_276 : decode cX10_wordOf 276 = .ok (.iconst 0, 1) := by decide +kernel
theorem dX10_wordOf_277 : decode cX10_wordOf 277 = .ok (.iconst 0, 1) := by decide +kernel
theorem dX10_wordOf_278 : decode cX10_wordOf 278 = .ok (.invokestatic 58, 3) := by decide +kernel
theorem dX10_wordOf_281 : decode cX10_wordOf 281 = .ok (.lreturn, 1) := by decide +kernel
theorem dX10_wordOf_282 : decode cX10_wordOf 282 = .ok (.bipush 115, 2) := by decide +kernel
theorem dX10_wordOf_284 : decode cX10_wordOf 284 = .ok (.bipush 116, 2) := by decide +kernel
theorem dX10_wordOf_286 : decode cX10_wordOf 286 = .ok (.bipush 97, 2) := by decide +kernel
theorem dX10_wordOf_288 : decode cX10_wordOf 288 = .ok (.bipush 110, 2) := by decide +kernel
theorem dX10_wordOf_290 : decode cX10_wordOf 290 = .ok (.bipush 100, 2) := by decide +kernel
theorem dX10_wordOf_292 : decode cX10_wordOf 292 = .ok (.bipush 115, 2) := by decide +kernel
theorem dX10_wordOf_294 : decode cX10_wordOf 294 = .ok (.iconst 0, 1) := by decide +kernel
theorem dX10_wordOf_295 : decode cX10_wordOf 295 = .ok (.invokestatic 58, 3) := by decide +kernel
theorem dX10_wordOf_298 : decode cX10_wordOf 298 = .ok (.lreturn, 1) := by decide +kernel
theorem dX10_wordOf_299 : decode cX10_wordOf 299 = .ok (.bipush 119, 2) := by decide +kernel
theorem dX10_wordOf_301 : decode cX10_wordOf 301 = .ok (.bipush 105, 2) := by decide +kernel
theorem dX10_wordOf_303 : decode cX10_wordOf 303 = .ok (.bipush 115, 2) := by decide +kernel
theorem dX10_wordOf_305 : decode cX10_wordOf 305 = .ok (.bipush 104, 2) := by decide +kernel
theorem dX10_wordOf_307 : decode cX10_wordOf 307 = .ok (.bipush 101, 2) := by decide +kernel
theorem dX10_wordOf_309 : decode cX10_wordOf 309 = .ok (.bipush 115, 2) := by decide +kernel
theorem dX10_wordOf_311 : decode cX10_wordOf 311 = .ok (.iconst 0, 1) := by decide +kernel
theorem dX10_wordOf_312 : decode cX10_wordOf 312 = .ok (.invokestatic 58, 3) := by decide +kernel
theorem dX10_wordOf_315 : decode cX10_wordOf 315 = .ok (.lreturn, 1) := by decide +kernel
theorem dX10_wordOf_316 : decode cX10_wordOf 316 = .ok (.bipush 103, 2) := by decide +kernel
theorem dX10_wordOf_318 : decode cX10_wordOf 318 = .ok (.bipush 117, 2) := by decide +kernel
theorem dX10_wordOf_320 : decode cX10_wordOf 320 = .ok (.bipush 101, 2) := by decide +kernel
theorem dX10_wordOf_322 : decode cX10_wordOf 322 = .ok (.bipush 115, 2) := by decide +kernel
theorem dX10_wordOf_324 : decode cX10_wordOf 324 = .ok (.bipush 115, 2) := by decide +kernel
theorem dX10_wordOf_326 : decode cX10_wordOf 326 = .ok (.bipush 101, 2) := by decide +kernel
theorem dX10_wordOf_328 : decode cX10_wordOf 328 = .ok (.bipush 115, 2) := by decide +kernel
theorem dX10_wordOf_330 : decode cX10_wordOf 330 = .ok (.invokestatic 58, 3) := by decide +kernel
theorem dX10_wordOf_333 : decode cX10_wordOf 333 = .ok (.lreturn, 1) := by decide +kernel
theorem dX10_wordOf_334 : decode cX10_wordOf 334 = .ok (.bipush 111, 2) := by decide +kernel
theorem dX10_wordOf_336 : decode cX10_wordOf 336 = .ok (.bipush 112, 2) := by decide +kernel
theorem dX10_wordOf_338 : decode cX10_wordOf 338 = .ok (.bipush 101, 2) := by decide +kernel
theorem dX10_wordOf_340 : decode cX10_wordOf 340 = .ok (.bipush 110, 2) := by decide +kernel
theorem dX10_wordOf_342 : decode cX10_wordOf 342 = .ok (.iconst 0, 1) := by decide +kernel
theorem dX10_wordOf_343 : decode cX10_wordOf 343 = .ok (.iconst 0, 1) := by decide +kernel
theorem dX10_wordOf_344 : decode cX10_wordOf 344 = .ok (.iconst 0, 1) := by decide +kernel
theorem dX10_wordOf_345 : decode cX10_wordOf 345 = .ok (.invokestatic 58, 3) := by decide +kernel
theorem dX10_wordOf_348 : decode cX10_wordOf 348 = .ok (.lreturn, 1) := by decide +kernel
theorem dX10_wordOf_349 : decode cX10_wordOf 349 = .ok (.bipush 99, 2) := by decide +kernel
theorem dX10_wordOf_351 : decode cX10_wordOf 351 = .ok (.bipush 97, 2) := by decide +kernel
theorem dX10_wordOf_353 : decode cX10_wordOf 353 = .ok (.bipush 114, 2) := by decide +kernel
theorem dX10_wordOf_355 : decode cX10_wordOf 355 = .ok (.bipush 114, 2) := by decide +kernel
theorem dX10_wordOf_357 : decode cX10_wordOf 357 = .ok (.bipush 121, 2) := by decide +kernel
theorem dX10_wordOf_359 : decode cX10_wordOf 359 = .ok (.iconst 0, 1) := by decide +kernel
theorem dX10_wordOf_360 : decode cX10_wordOf 360 = .ok (.iconst 0, 1) := by decide +kernel
theorem dX10_wordOf_361 : decode cX10_wordOf 361 = .ok (.invokestatic 58, 3) := by decide +kernel
theorem dX10_wordOf_364 : decode cX10_wordOf 364 = .ok (.lreturn, 1) := by decide +kernel
theorem dX10_wordOf_365 : decode cX10_wordOf 365 = .ok (.bipush 100, 2) := by decide +kernel
theorem dX10_wordOf_367 : decode cX10_wordOf 367 = .ok (.bipush 97, 2) := by decide +kernel
theorem dX10_wordOf_369 : decode cX10_wordOf 369 = .ok (.bipush 121, 2) := by decide +kernel
theorem dX10_wordOf_371 : decode cX10_wordOf 371 = .ok (.iconst 0, 1) := by decide +kernel
theorem dX10_wordOf_372 : decode cX10_wordOf 372 = .ok (.iconst 0, 1) := by decide +kernel
theorem dX10_wordOf_373 : decode cX10_wordOf 373 = .ok (.iconst 0, 1) := by decide +kernel
theorem dX10_wordOf_374 : decode cX10_wordOf 374 = .ok (.iconst 0, 1) := by decide +kernel
theorem dX10_wordOf_375 : decode cX10_wordOf 375 = .ok (.invokestatic 58, 3) := by decide +kernel
theorem dX10_wordOf_378 : decode cX10_wordOf 378 = .ok (.lreturn, 1) := by decide +kernel
theorem dX10_wordOf_379 : decode cX10_wordOf 379 = .ok (.bipush 111, 2) := by decide +kernel
theorem dX10_wordOf_381 : decode cX10_wordOf 381 = .ok (.bipush 114, 2) := by decide +kernel
theorem dX10_wordOf_383 : decode cX10_wordOf 383 = .ok (.iconst 0, 1) := by decide +kernel
theorem dX10_wordOf_384 : decode cX10_wordOf 384 = .ok (.iconst 0, 1) := by decide +kernel
theorem dX10_wordOf_385 : decode cX10_wordOf 385 = .ok (.iconst 0, 1) := by decide +kernel
theorem dX10_wordOf_386 : decode cX10_wordOf 386 = .ok (.iconst 0, 1) := by decide +kernel
theorem dX10_wordOf_387 : decode cX10_wordOf 387 = .ok (.iconst 0, 1) := by decide +kernel
theorem dX10_wordOf_388 : decode cX10_wordOf 388 = .ok (.invokestatic 58, 3) := by decide +kernel
theorem dX10_wordOf_391 : decode cX10_wordOf 391 = .ok (.lreturn, 1) := by decide +kernel
theorem dX10_wordOf_392 : decode cX10_wordOf 392 = .ok (.bipush 97, 2) := by decide +kernel
theorem dX10_wordOf_394 : decode cX10_wordOf 394 = .ok (.bipush 110, 2) := by decide +kernel
theorem dX10_wordOf_396 : decode cX10_wordOf 396 = .ok (.bipush 100, 2) := by decide +kernel
theorem dX10_wordOf_398 : decode cX10_wordOf 398 = .ok (.iconst 0, 1) := by decide +kernel
theorem dX10_wordOf_399 : decode cX10_wordOf 399 = .ok (.iconst 0, 1) := by decide +kernel
theorem dX10_wordOf_400 : decode cX10_wordOf 400 = .ok (.iconst 0, 1) := by decide +kernel
theorem dX10_wordOf_401 : decode cX10_wordOf 401 = .ok (.iconst 0, 1) := by decide +kernel
theorem dX10_wordOf_402 : decode cX10_wordOf 402 = .ok (.invokestatic 58, 3) := by decide +kernel
theorem dX10_wordOf_405 : decode cX10_wordOf 405 = .ok (.lreturn, 1) := by decide +kernel
theorem dX10_wordOf_406 : decode cX10_wordOf 406 = .ok (.bipush 110, 2) := by decide +kernel
theorem dX10_wordOf_408 : decode cX10_wordOf 408 = .ok (.bipush 111, 2) := by decide +kernel
theorem dX10_wordOf_410 : decode cX10_wordOf 410 = .ok (.bipush 116, 2) := by decide +kernel
theorem dX10_wordOf_412 : decode cX10_wordOf 412 = .ok (.iconst 0, 1) := by decide +kernel
theorem dX10_wordOf_413 : decode cX10_wordOf 413 = .ok (.iconst 0, 1) := by decide +kernel
theorem dX10_wordOf_414 : decode cX10_wordOf 414 = .ok (.iconst 0, 1) := by decide +kernel
theorem dX10_wordOf_415 : decode cX10_wordOf 415 = .ok (.iconst 0, 1) := by decide +kernel
theorem dX10_wordOf_416 : decode cX10_wordOf 416 = .ok (.invokestatic 58, 3) := by decide +kernel
theorem dX10_wordOf_419 : decode cX10_wordOf 419 = .ok (.lreturn, 1) := by decide +kernel
theorem dX10_wordOf_420 : decode cX10_wordOf 420 = .ok (.bipush 111, 2) := by decide +kernel
theorem dX10_wordOf_422 : decode cX10_wordOf 422 = .ok (.bipush 112, 2) := by decide +kernel
theorem dX10_wordOf_424 : decode cX10_wordOf 424 = .ok (.bipush 101, 2) := by decide +kernel
theorem dX10_wordOf_426 : decode cX10_wordOf 426 = .ok (.bipush 110, 2) := by decide +kernel
theorem dX10_wordOf_428 : decode cX10_wordOf 428 = .ok (.bipush 101, 2) := by decide +kernel
theorem dX10_wordOf_430 : decode cX10_wordOf 430 = .ok (.bipush 100, 2) := by decide +kernel
theorem dX10_wordOf_432 : decode cX10_wordOf 432 = .ok (.iconst 0, 1) := by decide +kernel
theorem dX10_wordOf_433 : decode cX10_wordOf 433 = .ok (.invokestatic 58, 3) := by decide +kernel
theorem dX10_wordOf_436 : decode cX10_wordOf 436 = .ok (.lreturn, 1) := by decide +kernel
theorem dX10_wordOf_437 : decode cX10_wordOf 437 = .ok (.bipush 110, 2) := by decide +kernel
theorem dX10_wordOf_439 : decode cX10_wordOf 439 = .ok (.bipush 111, 2) := by decide +kernel
theorem dX10_wordOf_441 : decode cX10_wordOf 441 = .ok (.bipush 116, 2) := by decide +kernel
theorem dX10_wordOf_443 : decode cX10_wordOf 443 = .ok (.bipush 104, 2) := by decide +kernel
theorem dX10_wordOf_445 : decode cX10_wordOf 445 = .ok (.bipush 105, 2) := by decide +kernel
theorem dX10_wordOf_447 : decode cX10_wordOf 447 = .ok (.bipush 110, 2) := by decide +kernel
theorem dX10_wordOf_449 : decode cX10_wordOf 449 = .ok (.bipush 103, 2) := by decide +kernel
theorem dX10_wordOf_451 : decode cX10_wordOf 451 = .ok (.invokestatic 58, 3) := by decide +kernel
theorem dX10_wordOf_454 : decode cX10_wordOf 454 = .ok (.lreturn, 1) := by decide +kernel
theorem dX10_wordOf_455 : decode cX10_wordOf 455 = .ok (.bipush 119, 2) := by decide +kernel
theorem dX10_wordOf_457 : decode cX10_wordOf 457 = .ok (.bipush 97, 2) := by decide +kernel
theorem dX10_wordOf_459 : decode cX10_wordOf 459 = .ok (.bipush 116, 2) := by decide +kernel
theorem dX10_wordOf_461 : decode cX10_wordOf 461 = .ok (.bipush 99, 2) := by decide +kernel
theorem dX10_wordOf_463 : decode cX10_wordOf 463 = .ok (.bipush 104, 2) := by decide +kernel
theorem dX10_wordOf_465 : decode cX10_wordOf 465 = .ok (.bipush 101, 2) := by decide +kernel
theorem dX10_wordOf_467 : decode cX10_wordOf 467 = .ok (.bipush 100, 2) := by decide +kernel
theorem dX10_wordOf_469 : decode cX10_wordOf 469 = .ok (.invokestatic 58, 3) := by decide +kernel
theorem dX10_wordOf_472 : decode cX10_wordOf 472 = .ok (.lreturn, 1) := by decide +kernel
theorem dX10_wordOf_473 : decode cX10_wordOf 473 = .ok (.bipush 105, 2) := by decide +kernel
theorem dX10_wordOf_475 : decode cX10_wordOf 475 = .ok (.bipush 115, 2) := by decide +kernel
theorem dX10_wordOf_477 : decode cX10_wordOf 477 = .ok (.iconst 0, 1) := by decide +kernel
theorem dX10_wordOf_478 : decode cX10_wordOf 478 = .ok (.iconst 0, 1) := by decide +kernel
theorem dX10_wordOf_479 : decode cX10_wordOf 479 = .ok (.iconst 0, 1) := by decide +kernel
theorem dX10_wordOf_480 : decode cX10_wordOf 480 = .ok (.iconst 0, 1) := by decide +kernel
theorem dX10_wordOf_481 : decode cX10_wordOf 481 = .ok (.iconst 0, 1) := by decide +kernel
theorem dX10_wordOf_482 : decode cX10_wordOf 482 = .ok (.invokestatic 58, 3) := by decide +kernel
theorem dX10_wordOf_485 : decode cX10_wordOf 485 = .ok (.lreturn, 1) := by decide +kernel
theorem dX10_wordOf_486 : decode cX10_wordOf 486 = .ok (.bipush 105, 2) := by decide +kernel
theorem dX10_wordOf_488 : decode cX10_wordOf 488 = .ok (.bipush 110, 2) := by decide +kernel
theorem dX10_wordOf_490 : decode cX10_wordOf 490 = .ok (.iconst 0, 1) := by decide +kernel
theorem dX10_wordOf_491 : decode cX10_wordOf 491 = .ok (.iconst 0, 1) := by decide +kernel
theorem dX10_wordOf_492 : decode cX10_wordOf 492 = .ok (.iconst 0, 1) := by decide +kernel
theorem dX10_wordOf_493 : decode cX10_wordOf 493 = .ok (.iconst 0, 1) := by decide +kernel
theorem dX10_wordOf_494 : decode cX10_wordOf 494 = .ok (.iconst 0, 1) := by decide +kernel
theorem dX10_wordOf_495 : decode cX10_wordOf 495 = .ok (.invokestatic 58, 3) := by decide +kernel
theorem dX10_wordOf_498 : decode cX10_wordOf 498 = .ok (.lreturn, 1) := by decide +kernel
theorem dX10_wordOf_499 : decode cX10_wordOf 499 = .ok (.bipush 115, 2) := by decide +kernel
theorem dX10_wordOf_501 : decode cX10_wordOf 501 = .ok (.bipush 105, 2) := by decide +kernel
theorem dX10_wordOf_503 : decode cX10_wordOf 503 = .ok (.bipush 122, 2) := by decide +kernel
theorem dX10_wordOf_505 : decode cX10_wordOf 505 = .ok (.bipush 101, 2) := by decide +kernel
theorem dX10_wordOf_507 : decode cX10_wordOf 507 = .ok (.iconst 0, 1) := by decide +kernel
theorem dX10_wordOf_508 : decode cX10_wordOf 508 = .ok (.iconst 0, 1) := by decide +kernel
theorem dX10_wordOf_509 : decode cX10_wordOf 509 = .ok (.iconst 0, 1) := by decide +kernel
theorem dX10_wordOf_510 : decode cX10_wordOf 510 = .ok (.invokestatic 58, 3) := by decide +kernel
theorem dX10_wordOf_513 : decode cX10_wordOf 513 = .ok (.lreturn, 1) := by decide +kernel
theorem dX10_wordOf_514 : decode cX10_wordOf 514 = .ok (.bipush 98, 2) := by decide +kernel
theorem dX10_wordOf_516 : decode cX10_wordOf 516 = .ok (.bipush 117, 2) := by decide +kernel
theorem dX10_wordOf_518 : decode cX10_wordOf 518 = .ok (.bipush 108, 2) := by decide +kernel
theorem dX10_wordOf_520 : decode cX10_wordOf 520 = .ok (.bipush 103, 2) := by decide +kernel
theorem dX10_wordOf_522 : decode cX10_wordOf 522 = .ok (.bipush 101, 2) := by decide +kernel
theorem dX10_wordOf_524 : decode cX10_wordOf 524 = .ok (.iconst 0, 1) := by decide +kernel
theorem dX10_wordOf_525 : decode cX10_wordOf 525 = .ok (.iconst 0, 1) := by decide +kernel
theorem dX10_wordOf_526 : decode cX10_wordOf 526 = .ok (.invokestatic 58, 3) := by decide +kernel
theorem dX10_wordOf_529 : decode cX10_wordOf 529 = .ok (.lreturn, 1) := by decide +kernel
theorem dX10_wordOf_530 : decode cX10_wordOf 530 = .ok (.bipush 116, 2) := by decide +kernel
theorem dX10_wordOf_532 : decode cX10_wordOf 532 = .ok (.bipush 117, 2) := by decide +kernel
theorem dX10_wordOf_534 : decode cX10_wordOf 534 = .ok (.bipush 114, 2) := by decide +kernel
theorem dX10_wordOf_536 : decode cX10_wordOf 536 = .ok (.bipush 110, 2) := by decide +kernel
theorem dX10_wordOf_538 : decode cX10_wordOf 538 = .ok (.bipush 101, 2) := by decide +kernel
theorem dX10_wordOf_540 : decode cX10_wordOf 540 = .ok (.bipush 100, 2) := by decide +kernel
theorem dX10_wordOf_542 : decode cX10_wordOf 542 = .ok (.iconst 0, 1) := by decide +kernel
theorem dX10_wordOf_543 : decode cX10_wordOf 543 = .ok (.invokestatic 58, 3) := by decide +kernel
theorem dX10_wordOf_546 : decode cX10_wordOf 546 = .ok (.lreturn, 1) := by decide +kernel
theorem dX10_wordOf_547 : decode cX10_wordOf 547 = .ok (.bipush 110, 2) := by decide +kernel
theorem dX10_wordOf_549 : decode cX10_wordOf 549 = .ok (.bipush 117, 2) := by decide +kernel
theorem dX10_wordOf_551 : decode cX10_wordOf 551 = .ok (.bipush 109, 2) := by decide +kernel
theorem dX10_wordOf_553 : decode cX10_wordOf 553 = .ok (.bipush 98, 2) := by decide +kernel
theorem dX10_wordOf_555 : decode cX10_wordOf 555 = .ok (.bipush 101, 2) := by decide +kernel
theorem dX10_wordOf_557 : decode cX10_wordOf 557 = .ok (.bipush 114, 2) := by decide +kernel
theorem dX10_wordOf_559 : decode cX10_wordOf 559 = .ok (.iconst 0, 1) := by decide +kernel
theorem dX10_wordOf_560 : decode cX10_wordOf 560 = .ok (.invokestatic 58, 3) := by decide +kernel
theorem dX10_wordOf_563 : decode cX10_wordOf 563 = .ok (.lreturn, 1) := by decide +kernel
theorem dX10_worthOf_0 : decode cX10_worthOf 0 = .ok (.aload_n 0, 1) := by decide +kernel
theorem dX10_worthOf_1 : decode cX10_worthOf 1 = .ok (.invokevirtual 334, 3) := by decide +kernel
theorem dX10_worthOf_4 : decode cX10_worthOf 4 = .ok (.aload_n 0, 1) := by decide +kernel
theorem dX10_worthOf_5 : decode cX10_worthOf 5 = .ok (.getfield 98, 3) := by decide +kernel
theorem dX10_worthOf_8 : decode cX10_worthOf 8 = .ok (.bipush 112, 2) := by decide +kernel
theorem dX10_worthOf_10 : decode cX10_worthOf 10 = .ok (.iload_n 1, 1) := by decide +kernel
theorem dX10_worthOf_11 : decode cX10_worthOf 11 = .ok (.iadd, 1) := by decide +kernel
theorem dX10_worthOf_12 : decode cX10_worthOf 12 = .ok (.iload_n 2, 1) := by decide +kernel
theorem dX10_worthOf_13 : decode cX10_worthOf 13 = .ok (.iastore, 1) := by decide +kernel
theorem dX10_worthOf_14 : decode cX10_worthOf 14 = .ok (.aload_n 0, 1) := by decide +kernel
theorem dX10_worthOf_15 : decode cX10_worthOf 15 = .ok (.bipush 7, 2) := by decide +kernel
theorem dX10_worthOf_17 : decode cX10_worthOf 17 = .ok (.invokevirtual 325, 3) := by decide +kernel
theorem dX10_worthOf_20 : decode cX10_worthOf 20 = .ok (.pop, 1) := by decide +kernel
theorem dX10_worthOf_21 : decode cX10_worthOf 21 = .ok (.aload_n 0, 1) := by decide +kernel
theorem dX10_worthOf_22 : decode cX10_worthOf 22 = .ok (.iload_n 2, 1) := by decide +kernel
theorem dX10_worthOf_23 : decode cX10_worthOf 23 = .ok (.invokevirtual 253, 3) := by decide +kernel
theorem dX10_worthOf_26 : decode cX10_worthOf 26 = .ok (.aload_n 0, 1) := by decide +kernel
theorem dX10_worthOf_27 : decode cX10_worthOf 27 = .ok (.getfield 98, 3) := by decide +kernel
theorem dX10_worthOf_30 : decode cX10_worthOf 30 = .ok (.bipush 104, 2) := by decide +kernel
theorem dX10_worthOf_32 : decode cX10_worthOf 32 = .ok (.iload_n 1, 1) := by decide +kernel
theorem dX10_worthOf_33 : decode cX10_worthOf 33 = .ok (.iadd, 1) := by decide +kernel
theorem dX10_worthOf_34 : decode cX10_worthOf 34 = .ok (.iaload, 1) := by decide +kernel
theorem dX10_worthOf_35 : decode cX10_worthOf 35 = .ok (.if_icmp .ne 20, 3) := by decide +kernel
theorem dX10_worthOf_38 : decode cX10_worthOf 38 = .ok (.aload_n 0, 1) := by decide +kernel
theorem dX10_worthOf_39 : decode cX10_worthOf 39 = .ok (.iload_n 2, 1) := by decide +kernel
theorem dX10_worthOf_40 : decode cX10_worthOf 40 = .ok (.aload_n 0, 1) := by decide +kernel
theorem dX10_worthOf_41 : decode cX10_worthOf 41 = .ok (.getfield 98, 3) := by decide +kernel
theorem dX10_worthOf_44 : decode cX10_worthOf 44 = .ok (.bipush 104, 2) := by decide +kernel
theorem dX10_worthOf_46 : decode cX10_worthOf 46 = .ok (.iload_n 1, 1) := by decide +kernel
theorem dX10_worthOf_47 : decode cX10_worthOf 47 = .ok (.iadd, 1) := by decide +kernel
theorem dX10_worthOf_48 : decode cX10_worthOf 48 = .ok (.iaload, 1) := by decide +kernel
theorem dX10_worthOf_49 : decode cX10_worthOf 49 = .ok (.invokevirtual 249, 3) := by decide +kernel
theorem dX10_worthOf_52 : decode cX10_worthOf 52 = .ok (.goto 4, 3) := by decide +kernel
theorem dX10_worthOf_55 : decode cX10_worthOf 55 = .ok (.iconst 0, 1) := by decide +kernel
theorem dX10_worthOf_56 : decode cX10_worthOf 56 = .ok (.istore_n 3, 1) := by decide +kernel
theorem dX10_worthOf_57 : decode cX10_worthOf 57 = .ok (.aload_n 0, 1) := by decide +kernel
theorem dX10_worthOf_58 : decode cX10_worthOf 58 = .ok (.invokevirtual 337, 3) := by decide +kernel
theorem dX10_worthOf_61 : decode cX10_worthOf 61 = .ok (.iload_n 3, 1) := by decide +kernel
theorem dX10_worthOf_62 : decode cX10_worthOf 62 = .ok (.ireturn, 1) := by decide +kernel
theorem dX10_write_0 : decode cX10_write 0 = .ok (.aload_n 0, 1) := by decide +kernel
theorem dX10_write_1 : decode cX10_write 1 = .ok (.getfield 157, 3) := by decide +kernel
theorem dX10_write_4 : decode cX10_write 4 = .ok (.aload_n 0, 1) := by decide +kernel
theorem dX10_write_5 : decode cX10_write 5 = .ok (.getfield 368, 3) := by decide +kernel
theorem dX10_write_8 : decode cX10_write 8 = .ok (.iload_n 1, 1) := by decide +kernel
theorem dX10_write_9 : decode cX10_write 9 = .ok (.iastore, 1) := by decide +kernel
theorem dX10_write_10 : decode cX10_write 10 = .ok (.aload_n 0, 1) := by decide +kernel
theorem dX10_write_11 : decode cX10_write 11 = .ok (.dup, 1) := by decide +kernel
theorem dX10_write_12 : decode cX10_write 12 = .ok (.getfield 368, 3) := by decide +kernel
theorem dX10_write_15 : decode cX10_write 15 = .ok (.iconst 1, 1) := by decide +kernel
theorem dX10_write_16 : decode cX10_write 16 = .ok (.iadd, 1) := by decide +kernel
theorem dX10_write_17 : decode cX10_write 17 = .ok (.putfield 368, 3) := by decide +kernel
theorem dX10_write_20 : decode cX10_write 20 = .ok (.return_, 1) := by decide +kernel
theorem dX10_writeNext_0 : decode cX10_writeNext 0 = .ok (.aload_n 0, 1) := by decide +kernel
theorem dX10_writeNext_1 : decode cX10_writeNext 1 = .ok (.bipush 32, 2) := by decide +kernel
theorem dX10_writeNext_3 : decode cX10_writeNext 3 = .ok (.invokevirtual 375, 3) := by decide +kernel
theorem dX10_writeNext_6 : decode cX10_writeNext 6 = .ok (.aload_n 0, 1) := by decide +kernel
theorem dX10_writeNext_7 : decode cX10_writeNext 7 = .ok (.lload_n 1, 1) := by decide +kernel
theorem dX10_writeNext_8 : decode cX10_writeNext 8 = .ok (.invokevirtual 371, 3) := by decide +kernel
theorem dX10_writeNext_11 : decode cX10_writeNext 11 = .ok (.return_, 1) := by decide +kernel
theorem dX10_writeWord_0 : decode cX10_writeWord 0 = .ok (.lload_n 1, 1) := by decide +kernel
theorem dX10_writeWord_1 : decode cX10_writeWord 1 = .ok (.ldc2_w 54, 3) := by decide +kernel
theorem dX10_writeWord_4 : decode cX10_writeWord 4 = .ok (.lcmp, 1) := by decide +kernel
theorem dX10_writeWord_5 : decode cX10_writeWord 5 = .ok (.ifCond .lt 12, 3) := by decide +kernel
theorem dX10_writeWord_8 : decode cX10_writeWord 8 = .ok (.aload_n 0, 1) := by decide +kernel
theorem dX10_writeWord_9 : decode cX10_writeWord 9 = .ok (.lload_n 1, 1) := by decide +kernel
theorem dX10_writeWord_10 : decode cX10_writeWord 10 = .ok (.ldc2_w 54, 3) := by decide +kernel
theorem dX10_writeWord_13 : decode cX10_writeWord 13 = .ok (.ldiv, 1) := by decide +kernel
theorem dX10_writeWord_14 : decode cX10_writeWord 14 = .ok (.invokevirtual 371, 3) := by decide +kernel
theorem dX10_writeWord_17 : decode cX10_writeWord 17 = .ok (.aload_n 0, 1) := by decide +kernel
theorem dX10_writeWord_18 : decode cX10_writeWord 18 = .ok (.bipush 96, 2) := by decide +kernel
theorem dX10_writeWord_20 : decode cX10_writeWord 20 = .ok (.lload_n 1, 1) := by decide +kernel
theorem dX10_writeWord_21 : decode cX10_writeWord 21 = .ok (.ldc2_w 54, 3) := by decide +kernel
theorem dX10_writeWord_24 : decode cX10_writeWord 24 = .ok (.lrem, 1) := by decide +kernel
theorem dX10_writeWord_25 : decode cX10_writeWord 25 = .ok (.l2i, 1) := by decide +kernel
theorem dX10_writeWord_26 : decode cX10_writeWord 26 = .ok (.iadd, 1) := by decide +kernel
theorem dX10_writeWord_27 : decode cX10_writeWord 27 = .ok (.invokevirtual 375, 3) := by decide +kernel
theorem dX10_writeWord_30 : decode cX10_writeWord 30 = .ok (.return_, 1) := by decide +kernel
theorem rl_16 : RI 16 16 16 := by unfold RI; decide +kernel
theorem rl_22 : RI 22 22 22 := by unfold RI; decide +kernel
theorem rl_27 : RI 27 27 27 := by unfold RI; decide +kernel
theorem rl_100 : RI 100 100 100 := by unfold RI; decide +kernel
theorem rl_101 : RI 101 101 101 := by unfold RI; decide +kernel
theorem rl_103 : RI 103 103 103 := by unfold RI; decide +kernel
theorem rl_105 : RI 105 105 105 := by unfold RI; decide +kernel
theorem rl_106 : RI 106 106 106 := by unfold RI; decide +kernel
theorem rl_107 : RI 107 107 107 := by unfold RI; decide +kernel
theorem rl_108 : RI 108 108 108 := by unfold RI; decide +kernel
theorem rl_109 : RI 109 109 109 := by unfold RI; decide +kernel
theorem rl_110 : RI 110 110 110 := by unfold RI; decide +kernel
theorem rl_111 : RI 111 111 111 := by unfold RI; decide +kernel
theorem rl_113 : RI 113 113 113 := by unfold RI; decide +kernel
theorem rl_114 : RI 114 114 114 := by unfold RI; decide +kernel
theorem rl_115 : RI 115 115 115 := by unfold RI; decide +kernel
theorem rl_116 : RI 116 116 116 := by unfold RI; decide +kernel
theorem rl_117 : RI 117 117 117 := by unfold RI; decide +kernel
theorem rl_119 : RI 119 119 119 := by unfold RI; decide +kernel
theorem rl_121 : RI 121 121 121 := by unfold RI; decide +kernel
theorem rk_27 : RJ 27 27 27 := by unfold RJ; decide +kernel
theorem rk_96 : RJ 96 96 96 := by unfold RJ; decide +kernel
