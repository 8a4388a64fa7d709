theorem inX10 : ∀ w ∈ u_ws RX10 TX10 49, w ∈ gT := by decide +kernel
theorem tw_15 : Cond.initialized RX10 ∈ gT := gT_t (List.mem_of_getElem? (i := 15) (by decide +kernel)) (by decide +kernel)
theorem tw_1137 : Cond.fieldLink RX10 (1 : Nat) "WonderParcelsModel" "thrown" "I" ∈ gT := gT_t (List.mem_of_getElem? (i := 1137) (by decide +kernel)) (by decide +kernel)
theorem tw_1139 : Cond.fieldLink RX10 (11 : Nat) "WonderParcelsModel" "taped" "I" ∈ gT := gT_t (List.mem_of_getElem? (i := 1139) (by decide +kernel)) (by decide +kernel)
theorem tw_1147 : Cond.fieldLink RX10 (66 : Nat) "WonderParcelsModel" "fault" "I" ∈ gT := gT_t (List.mem_of_getElem? (i := 1147) (by decide +kernel)) (by decide +kernel)
theorem tw_1151 : Cond.fieldLink RX10 (98 : Nat) "WonderParcelsModel" "now" "[I" ∈ gT := gT_t (List.mem_of_getElem? (i := 1151) (by decide +kernel)) (by decide +kernel)
theorem tw_1154 : Cond.fieldLink RX10 (107 : Nat) "WonderParcelsModel" "snaps" "[I" ∈ gT := gT_t (List.mem_of_getElem? (i := 1154) (by decide +kernel)) (by decide +kernel)
theorem tw_1155 : Cond.fieldLink RX10 (110 : Nat) "WonderParcelsModel" "aside" "[I" ∈ gT := gT_t (List.mem_of_getElem? (i := 1155) (by decide +kernel)) (by decide +kernel)
theorem tw_1156 : Cond.fieldLink RX10 (113 : Nat) "WonderParcelsModel" "held" "[I" ∈ gT := gT_t (List.mem_of_getElem? (i := 1156) (by decide +kernel)) (by decide +kernel)
theorem tw_1162 : Cond.fieldLink RX10 (246 : Nat) "WonderParcelsModel" "snapMany" "I" ∈ gT := gT_t (List.mem_of_getElem? (i := 1162) (by decide +kernel)) (by decide +kernel)
theorem tw_1163 : Cond.fieldLink RX10 (133 : Nat) "WonderParcelsModel" "was" "[I" ∈ gT := gT_t (List.mem_of_getElem? (i := 1163) (by decide +kernel)) (by decide +kernel)
theorem tw_1164 : Cond.fieldLink RX10 (136 : Nat) "WonderParcelsModel" "sitting" "I" ∈ gT := gT_t (List.mem_of_getElem? (i := 1164) (by decide +kernel)) (by decide +kernel)
theorem tw_1166 : Cond.fieldLink RX10 (142 : Nat) "WonderParcelsModel" "surely" "I" ∈ gT := gT_t (List.mem_of_getElem? (i := 1166) (by decide +kernel)) (by decide +kernel)
theorem tw_1167 : Cond.fieldLink RX10 (145 : Nat) "WonderParcelsModel" "asking" "I" ∈ gT := gT_t (List.mem_of_getElem? (i := 1167) (by decide +kernel)) (by decide +kernel)
theorem tw_1169 : Cond.fieldLink RX10 (151 : Nat) "WonderParcelsModel" "placed" "[I" ∈ gT := gT_t (List.mem_of_getElem? (i := 1169) (by decide +kernel)) (by decide +kernel)
theorem tw_1170 : Cond.fieldLink RX10 (352 : Nat) "WonderParcelsModel" "placedMany" "I" ∈ gT := gT_t (List.mem_of_getElem? (i := 1170) (by decide +kernel)) (by decide +kernel)
theorem tw_1171 : Cond.fieldLink RX10 (355 : Nat) "WonderParcelsModel" "hasPlaced" "Z" ∈ gT := gT_t (List.mem_of_getElem? (i := 1171) (by decide +kernel)) (by decide +kernel)
theorem tw_1172 : Cond.fieldLink RX10 (154 : Nat) "WonderParcelsModel" "rested" "[I" ∈ gT := gT_t (List.mem_of_getElem? (i := 1172) (by decide +kernel)) (by decide +kernel)
theorem tw_1173 : Cond.fieldLink RX10 (365 : Nat) "WonderParcelsModel" "restedMany" "I" ∈ gT := gT_t (List.mem_of_getElem? (i := 1173) (by decide +kernel)) (by decide +kernel)
theorem tw_1174 : Cond.fieldLink RX10 (157 : Nat) "WonderParcelsModel" "text" "[I" ∈ gT := gT_t (List.mem_of_getElem? (i := 1174) (by decide +kernel)) (by decide +kernel)
theorem tw_1175 : Cond.fieldLink RX10 (368 : Nat) "WonderParcelsModel" "texts" "I" ∈ gT := gT_t (List.mem_of_getElem? (i := 1175) (by decide +kernel)) (by decide +kernel)
theorem tw_1178 : Cond.fieldLink RX10 (163 : Nat) "WonderParcelsModel" "written" "[I" ∈ gT := gT_t (List.mem_of_getElem? (i := 1178) (by decide +kernel)) (by decide +kernel)
theorem tw_1180 : Cond.fieldLink RX10 (418 : Nat) "WonderParcelsModel" "hasWritten" "Z" ∈ gT := gT_t (List.mem_of_getElem? (i := 1180) (by decide +kernel)) (by decide +kernel)
theorem tw_1359 : Cond.methodLink RX10 (75 : Nat) yX10_isIn ∈ gT := gT_t (List.mem_of_getElem? (i := 1359) (by decide +kernel)) (by decide +kernel)
theorem tw_1360 : Cond.static yX10_isIn ∈ gT := gT_t (List.mem_of_getElem? (i := 1360) (by decide +kernel)) (by decide +kernel)
theorem tw_1361 : Cond.code yX10_isIn cX10_isIn 3 (some .boolean) ∈ gT := gT_t (List.mem_of_getElem? (i := 1361) (by decide +kernel)) (by decide +kernel)
theorem tw_1402 : Cond.methodLink RX10 (203 : Nat) yX10_has ∈ gT := gT_t (List.mem_of_getElem? (i := 1402) (by decide +kernel)) (by decide +kernel)
theorem tw_1403 : Cond.static yX10_has ∈ gT := gT_t (List.mem_of_getElem? (i := 1403) (by decide +kernel)) (by decide +kernel)
theorem tw_1404 : Cond.code yX10_has cX10_has 2 (some .boolean) ∈ gT := gT_t (List.mem_of_getElem? (i := 1404) (by decide +kernel)) (by decide +kernel)
theorem tw_1429 : Cond.methodLink RX10 (256 : Nat) yX10_isParcel ∈ gT := gT_t (List.mem_of_getElem? (i := 1429) (by decide +kernel)) (by decide +kernel)
theorem tw_1431 : Cond.instanceMethod yX10_isParcel ∈ gT := gT_t (List.mem_of_getElem? (i := 1431) (by decide +kernel)) (by decide +kernel)
theorem tw_1432 : Cond.code yX10_isParcel cX10_isParcel 2 (some .boolean) ∈ gT := gT_t (List.mem_of_getElem? (i := 1432) (by decide +kernel)) (by decide +kernel)
theorem tw_1433 : Cond.methodLink RX10 (259 : Nat) yX10_isIdea ∈ gT := gT_t (List.mem_of_getElem? (i := 1433) (by decide +kernel)) (by decide +kernel)
theorem tw_1435 : Cond.instanceMethod yX10_isIdea ∈ gT := gT_t (List.mem_of_getElem? (i := 1435) (by decide +kernel)) (by decide +kernel)
theorem tw_1436 : Cond.code yX10_isIdea cX10_isIdea 2 (some .boolean) ∈ gT := gT_t (List.mem_of_getElem? (i := 1436) (by decide +kernel)) (by decide +kernel)
theorem tw_1437 : Cond.methodLink RX10 (249 : Nat) yX10_muchOf ∈ gT := gT_t (List.mem_of_getElem? (i := 1437) (by decide +kernel)) (by decide +kernel)
theorem tw_1439 : Cond.instanceMethod yX10_muchOf ∈ gT := gT_t (List.mem_of_getElem? (i := 1439) (by decide +kernel)) (by decide +kernel)
theorem tw_1440 : Cond.code yX10_muchOf cX10_muchOf 3 (some .int) ∈ gT := gT_t (List.mem_of_getElem? (i := 1440) (by decide +kernel)) (by decide +kernel)
theorem tw_1445 : Cond.methodLink RX10 (262 : Nat) yX10_refuse ∈ gT := gT_t (List.mem_of_getElem? (i := 1445) (by decide +kernel)) (by decide +kernel)
theorem tw_1447 : Cond.instanceMethod yX10_refuse ∈ gT := gT_t (List.mem_of_getElem? (i := 1447) (by decide +kernel)) (by decide +kernel)
theorem tw_1448 : Cond.code yX10_refuse cX10_refuse 1 (some .int) ∈ gT := gT_t (List.mem_of_getElem? (i := 1448) (by decide +kernel)) (by decide +kernel)
theorem tw_1449 : Cond.methodLink RX10 (253 : Nat) yX10_whatIs ∈ gT := gT_t (List.mem_of_getElem? (i := 1449) (by decide +kernel)) (by decide +kernel)
theorem tw_1451 : Cond.instanceMethod yX10_whatIs ∈ gT := gT_t (List.mem_of_getElem? (i := 1451) (by decide +kernel)) (by decide +kernel)
theorem tw_1452 : Cond.code yX10_whatIs cX10_whatIs 4 (some .int) ∈ gT := gT_t (List.mem_of_getElem? (i := 1452) (by decide +kernel)) (by decide +kernel)
theorem tw_1453 : Cond.methodLink RX10 (265 : Nat) yX10_sizeOf ∈ gT := gT_t (List.mem_of_getElem? (i := 1453) (by decide +kernel)) (by decide +kernel)
theorem tw_1455 : Cond.instanceMethod yX10_sizeOf ∈ gT := gT_t (List.mem_of_getElem? (i := 1455) (by decide +kernel)) (by decide +kernel)
theorem tw_1456 : Cond.code yX10_sizeOf cX10_sizeOf 4 (some .int) ∈ gT := gT_t (List.mem_of_getElem? (i := 1456) (by decide +kernel)) (by decide +kernel)
theorem tw_1457 : Cond.methodLink RX10 (268 : Nat) yX10_isOpen ∈ gT := gT_t (List.mem_of_getElem? (i := 1457) (by decide +kernel)) (by decide +kernel)
theorem tw_1459 : Cond.instanceMethod yX10_isOpen ∈ gT := gT_t (List.mem_of_getElem? (i := 1459) (by decide +kernel)) (by decide +kernel)
theorem tw_1460 : Cond.code yX10_isOpen cX10_isOpen 2 (some .boolean) ∈ gT := gT_t (List.mem_of_getElem? (i := 1460) (by decide +kernel)) (by decide +kernel)
theorem tw_1461 : Cond.methodLink RX10 (271 : Nat) yX10_sittersOf ∈ gT := gT_t (List.mem_of_getElem? (i := 1461) (by decide +kernel)) (by decide +kernel)
theorem tw_1463 : Cond.instanceMethod yX10_sittersOf ∈ gT := gT_t (List.mem_of_getElem? (i := 1463) (by decide +kernel)) (by decide +kernel)
theorem tw_1464 : Cond.code yX10_sittersOf cX10_sittersOf 4 (some .int) ∈ gT := gT_t (List.mem_of_getElem? (i := 1464) (by decide +kernel)) (by decide +kernel)
theorem tw_1469 : Cond.methodLink RX10 (274 : Nat) yX10_isPerson ∈ gT := gT_t (List.mem_of_getElem? (i := 1469) (by decide +kernel)) (by decide +kernel)
theorem tw_1471 : Cond.instanceMethod yX10_isPerson ∈ gT := gT_t (List.mem_of_getElem? (i := 1471) (by decide +kernel)) (by decide +kernel)
theorem tw_1472 : Cond.code yX10_isPerson cX10_isPerson 2 (some .boolean) ∈ gT := gT_t (List.mem_of_getElem? (i := 1472) (by decide +kernel)) (by decide +kernel)
theorem tw_1485 : Cond.methodLink RX10 (277 : Nat) yX10_nothings ∈ gT := gT_t (List.mem_of_getElem? (i := 1485) (by decide +kernel)) (by decide +kernel)
theorem tw_1487 : Cond.instanceMethod yX10_nothings ∈ gT := gT_t (List.mem_of_getElem? (i := 1487) (by decide +kernel)) (by decide +kernel)
theorem tw_1488 : Cond.code yX10_nothings cX10_nothings 3 (some .int) ∈ gT := gT_t (List.mem_of_getElem? (i := 1488) (by decide +kernel)) (by decide +kernel)
theorem tw_1489 : Cond.methodLink RX10 (280 : Nat) yX10_sum ∈ gT := gT_t (List.mem_of_getElem? (i := 1489) (by decide +kernel)) (by decide +kernel)
theorem tw_1491 : Cond.instanceMethod yX10_sum ∈ gT := gT_t (List.mem_of_getElem? (i := 1491) (by decide +kernel)) (by decide +kernel)
theorem tw_1492 : Cond.code yX10_sum cX10_sum 5 (some .int) ∈ gT := gT_t (List.mem_of_getElem? (i := 1492) (by decide +kernel)) (by decide +kernel)
theorem tw_1497 : Cond.methodLink RX10 (307 : Nat) yX10_act ∈ gT := gT_t (List.mem_of_getElem? (i := 1497) (by decide +kernel)) (by decide +kernel)
theorem tw_1499 : Cond.instanceMethod yX10_act ∈ gT := gT_t (List.mem_of_getElem? (i := 1499) (by decide +kernel)) (by decide +kernel)
theorem tw_1500 : Cond.code yX10_act cX10_act 5 (some .int) ∈ gT := gT_t (List.mem_of_getElem? (i := 1500) (by decide +kernel)) (by decide +kernel)
theorem tw_1501 : Cond.methodLink RX10 (297 : Nat) yX10_why ∈ gT := gT_t (List.mem_of_getElem? (i := 1501) (by decide +kernel)) (by decide +kernel)
theorem tw_1503 : Cond.instanceMethod yX10_why ∈ gT := gT_t (List.mem_of_getElem? (i := 1503) (by decide +kernel)) (by decide +kernel)
theorem tw_1504 : Cond.code yX10_why cX10_why 4 (some .int) ∈ gT := gT_t (List.mem_of_getElem? (i := 1504) (by decide +kernel)) (by decide +kernel)
theorem tw_1505 : Cond.methodLink RX10 (301 : Nat) yX10_snap ∈ gT := gT_t (List.mem_of_getElem? (i := 1505) (by decide +kernel)) (by decide +kernel)
theorem tw_1507 : Cond.instanceMethod yX10_snap ∈ gT := gT_t (List.mem_of_getElem? (i := 1507) (by decide +kernel)) (by decide +kernel)
theorem tw_1508 : Cond.code yX10_snap cX10_snap 2 none ∈ gT := gT_t (List.mem_of_getElem? (i := 1508) (by decide +kernel)) (by decide +kernel)
theorem tw_1509 : Cond.methodLink RX10 (304 : Nat) yX10_live ∈ gT := gT_t (List.mem_of_getElem? (i := 1509) (by decide +kernel)) (by decide +kernel)
theorem tw_1511 : Cond.instanceMethod yX10_live ∈ gT := gT_t (List.mem_of_getElem? (i := 1511) (by decide +kernel)) (by decide +kernel)
theorem tw_1512 : Cond.code yX10_live cX10_live 4 none ∈ gT := gT_t (List.mem_of_getElem? (i := 1512) (by decide +kernel)) (by decide +kernel)
theorem tw_1513 : Cond.methodLink RX10 (294 : Nat) yX10_doGuess ∈ gT := gT_t (List.mem_of_getElem? (i := 1513) (by decide +kernel)) (by decide +kernel)
theorem tw_1515 : Cond.instanceMethod yX10_doGuess ∈ gT := gT_t (List.mem_of_getElem? (i := 1515) (by decide +kernel)) (by decide +kernel)
theorem tw_1516 : Cond.code yX10_doGuess cX10_doGuess 4 none ∈ gT := gT_t (List.mem_of_getElem? (i := 1516) (by decide +kernel)) (by decide +kernel)
theorem tw_1517 : Cond.methodLink RX10 (286 : Nat) yX10_less ∈ gT := gT_t (List.mem_of_getElem? (i := 1517) (by decide +kernel)) (by decide +kernel)
theorem tw_1519 : Cond.instanceMethod yX10_less ∈ gT := gT_t (List.mem_of_getElem? (i := 1519) (by decide +kernel)) (by decide +kernel)
theorem tw_1520 : Cond.code yX10_less cX10_less 3 none ∈ gT := gT_t (List.mem_of_getElem? (i := 1520) (by decide +kernel)) (by decide +kernel)
theorem tw_1521 : Cond.methodLink RX10 (290 : Nat) yX10_adds ∈ gT := gT_t (List.mem_of_getElem? (i := 1521) (by decide +kernel)) (by decide +kernel)
theorem tw_1523 : Cond.instanceMethod yX10_adds ∈ gT := gT_t (List.mem_of_getElem? (i := 1523) (by decide +kernel)) (by decide +kernel)
theorem tw_1524 : Cond.code yX10_adds cX10_adds 4 none ∈ gT := gT_t (List.mem_of_getElem? (i := 1524) (by decide +kernel)) (by decide +kernel)
theorem tw_1525 : Cond.methodLink RX10 (283 : Nat) yX10_least ∈ gT := gT_t (List.mem_of_getElem? (i := 1525) (by decide +kernel)) (by decide +kernel)
theorem tw_1526 : Cond.static yX10_least ∈ gT := gT_t (List.mem_of_getElem? (i := 1526) (by decide +kernel)) (by decide +kernel)
theorem tw_1527 : Cond.code yX10_least cX10_least 2 (some .int) ∈ gT := gT_t (List.mem_of_getElem? (i := 1527) (by decide +kernel)) (by decide +kernel)
theorem tw_1548 : Cond.methodLink RX10 (310 : Nat) yX10_isRoom ∈ gT := gT_t (List.mem_of_getElem? (i := 1548) (by decide +kernel)) (by decide +kernel)
theorem tw_1550 : Cond.instanceMethod yX10_isRoom ∈ gT := gT_t (List.mem_of_getElem? (i := 1550) (by decide +kernel)) (by decide +kernel)
theorem tw_1551 : Cond.code yX10_isRoom cX10_isRoom 2 (some .boolean) ∈ gT := gT_t (List.mem_of_getElem? (i := 1551) (by decide +kernel)) (by decide +kernel)
theorem tw_1560 : Cond.methodLink RX10 (325 : Nat) yX10_passDays ∈ gT := gT_t (List.mem_of_getElem? (i := 1560) (by decide +kernel)) (by decide +kernel)
theorem tw_1562 : Cond.instanceMethod yX10_passDays ∈ gT := gT_t (List.mem_of_getElem? (i := 1562) (by decide +kernel)) (by decide +kernel)
theorem tw_1563 : Cond.code yX10_passDays cX10_passDays 4 (some .int) ∈ gT := gT_t (List.mem_of_getElem? (i := 1563) (by decide +kernel)) (by decide +kernel)
theorem tw_1564 : Cond.methodLink RX10 (322 : Nat) yX10_oneDay ∈ gT := gT_t (List.mem_of_getElem? (i := 1564) (by decide +kernel)) (by decide +kernel)
theorem tw_1566 : Cond.instanceMethod yX10_oneDay ∈ gT := gT_t (List.mem_of_getElem? (i := 1566) (by decide +kernel)) (by decide +kernel)
theorem tw_1567 : Cond.code yX10_oneDay cX10_oneDay 2 none ∈ gT := gT_t (List.mem_of_getElem? (i := 1567) (by decide +kernel)) (by decide +kernel)
theorem tw_1568 : Cond.methodLink RX10 (316 : Nat) yX10_wonders ∈ gT := gT_t (List.mem_of_getElem? (i := 1568) (by decide +kernel)) (by decide +kernel)
theorem tw_1570 : Cond.instanceMethod yX10_wonders ∈ gT := gT_t (List.mem_of_getElem? (i := 1570) (by decide +kernel)) (by decide +kernel)
theorem tw_1571 : Cond.code yX10_wonders cX10_wonders 4 none ∈ gT := gT_t (List.mem_of_getElem? (i := 1571) (by decide +kernel)) (by decide +kernel)
theorem tw_1572 : Cond.methodLink RX10 (319 : Nat) yX10_areUnlike ∈ gT := gT_t (List.mem_of_getElem? (i := 1572) (by decide +kernel)) (by decide +kernel)
theorem tw_1574 : Cond.instanceMethod yX10_areUnlike ∈ gT := gT_t (List.mem_of_getElem? (i := 1574) (by decide +kernel)) (by decide +kernel)
theorem tw_1575 : Cond.code yX10_areUnlike cX10_areUnlike 4 (some .boolean) ∈ gT := gT_t (List.mem_of_getElem? (i := 1575) (by decide +kernel)) (by decide +kernel)
theorem tw_1576 : Cond.methodLink RX10 (313 : Nat) yX10_bits ∈ gT := gT_t (List.mem_of_getElem? (i := 1576) (by decide +kernel)) (by decide +kernel)
theorem tw_1577 : Cond.static yX10_bits ∈ gT := gT_t (List.mem_of_getElem? (i := 1577) (by decide +kernel)) (by decide +kernel)
theorem tw_1578 : Cond.code yX10_bits cX10_bits 3 (some .int) ∈ gT := gT_t (List.mem_of_getElem? (i := 1578) (by decide +kernel)) (by decide +kernel)
theorem tw_1583 : Cond.methodLink RX10 (328 : Nat) yX10_layAside ∈ gT := gT_t (List.mem_of_getElem? (i := 1583) (by decide +kernel)) (by decide +kernel)
theorem tw_1585 : Cond.instanceMethod yX10_layAside ∈ gT := gT_t (List.mem_of_getElem? (i := 1585) (by decide +kernel)) (by decide +kernel)
theorem tw_1586 : Cond.code yX10_layAside cX10_layAside 2 none ∈ gT := gT_t (List.mem_of_getElem? (i := 1586) (by decide +kernel)) (by decide +kernel)
theorem tw_1587 : Cond.methodLink RX10 (331 : Nat) yX10_takeBack ∈ gT := gT_t (List.mem_of_getElem? (i := 1587) (by decide +kernel)) (by decide +kernel)
theorem tw_1589 : Cond.instanceMethod yX10_takeBack ∈ gT := gT_t (List.mem_of_getElem? (i := 1589) (by decide +kernel)) (by decide +kernel)
theorem tw_1590 : Cond.code yX10_takeBack cX10_takeBack 2 none ∈ gT := gT_t (List.mem_of_getElem? (i := 1590) (by decide +kernel)) (by decide +kernel)
theorem ts_65 : Cond.selects RX10 yX10_isParcel yX10_isParcel ∈ gT := gT_s (by decide +kernel) (by decide +kernel)
theorem ts_66 : Cond.selects RX10 yX10_isIdea yX10_isIdea ∈ gT := gT_s (by decide +kernel) (by decide +kernel)
theorem ts_67 : Cond.selects RX10 yX10_muchOf yX10_muchOf ∈ gT := gT_s (by decide +kernel) (by decide +kernel)
theorem ts_68 : Cond.selects RX10 yX10_refuse yX10_refuse ∈ gT := gT_s (by decide +kernel) (by decide +kernel)
theorem ts_69 : Cond.selects RX10 yX10_whatIs yX10_whatIs ∈ gT := gT_s (by decide +kernel) (by decide +kernel)
theorem ts_70 : Cond.selects RX10 yX10_sizeOf yX10_sizeOf ∈ gT := gT_s (by decide +kernel) (by decide +kernel)
theorem ts_71 : Cond.selects RX10 yX10_isOpen yX10_isOpen ∈ gT := gT_s (by decide +kernel) (by decide +kernel)
theorem ts_72 : Cond.selects RX10 yX10_sittersOf yX10_sittersOf ∈ gT := gT_s (by decide +kernel) (by decide +kernel)
theorem ts_73 : Cond.selects RX10 yX10_isPerson yX10_isPerson ∈ gT := gT_s (by decide +kernel) (by decide +kernel)
theorem ts_74 : Cond.selects RX10 yX10_nothings yX10_nothings ∈ gT := gT_s (by decide +kernel) (by decide +kernel)
theorem ts_75 : Cond.selects RX10 yX10_sum yX10_sum ∈ gT := gT_s (by decide +kernel) (by decide +kernel)
theorem ts_76 : Cond.selects RX10 yX10_act yX10_act ∈ gT := gT_s (by decide +kernel) (by decide +kernel)
theorem ts_77 : Cond.selects RX10 yX10_why yX10_why ∈ gT := gT_s (by decide +kernel) (by decide +kernel)
theorem ts_78 : Cond.selects RX10 yX10_snap yX10_snap ∈ gT := gT_s (by decide +kernel) (by decide +kernel)
theorem ts_79 : Cond.selects RX10 yX10_live yX10_live ∈ gT := gT_s (by decide +kernel) (by decide +kernel)
theorem ts_80 : Cond.selects RX10 yX10_doGuess yX10_doGuess ∈ gT := gT_s (by decide +kernel) (by decide +kernel)
theorem ts_81 : Cond.selects RX10 yX10_less yX10_less ∈ gT := gT_s (by decide +kernel) (by decide +kernel)
theorem ts_82 : Cond.selects RX10 yX10_adds yX10_adds ∈ gT := gT_s (by decide +kernel) (by decide +kernel)
theorem ts_83 : Cond.selects RX10 yX10_isRoom yX10_isRoom ∈ gT := gT_s (by decide +kernel) (by decide +kernel)
theorem ts_84 : Cond.selects RX10 yX10_passDays yX10_passDays ∈ gT := gT_s (by decide +kernel) (by decide +kernel)
theorem ts_85 : Cond.selects RX10 yX10_oneDay yX10_oneDay ∈ gT := gT_s (by decide +kernel) (by decide +kernel)
theorem ts_86 : Cond.selects RX10 yX10_wonders yX10_wonders ∈ gT := gT_s (by decide +kernel) (by decide +kernel)
theorem ts_87 : Cond.selects RX10 yX10_areUnlike yX10_areUnlike ∈ gT := gT_s (by decide +kernel) (by decide +kernel)
theorem ts_88 : Cond.selects RX10 yX10_layAside yX10_layAside ∈ gT := gT_s (by decide +kernel) (by decide +kernel)
theorem ts_89 : Cond.selects RX10 yX10_takeBack yX10_takeBack ∈ gT := gT_s (by decide +kernel) (by decide +kernel)
theorem dX10_act_0 : decode cX10_act 0 = .ok (.aload_n 0, 1) := by decide +kernel
theorem dX10_act_1 : decode cX10_act 1 = .ok (.iload_n 1, 1) := by decide +kernel
theorem dX10_act_2 : decode cX10_act 2 = .ok (.iload_n 2, 1) := by decide +kernel
theorem dX10_act_3 : decode cX10_act 3 = .ok (.iload_n 3, 1) := by decide +kernel
theorem dX10_act_4 : decode cX10_act 4 = .ok (.invokevirtual 297, 3) := by decide +kernel
theorem dX10_act_7 : decode cX10_act 7 = .ok (.istore 4, 2) := by decide +kernel
theorem dX10_act_9 : decode cX10_act 9 = .ok (.iload 4, 2) := by decide +kernel
theorem dX10_act_11 : decode cX10_act 11 = .ok (.ifCond .eq 6, 3) := by decide +kernel
theorem dX10_act_14 : decode cX10_act 14 = .ok (.iload 4, 2) := by decide +kernel
theorem dX10_act_16 : decode cX10_act 16 = .ok (.ireturn, 1) := by decide +kernel
theorem dX10_act_17 : decode cX10_act 17 = .ok (.aload_n 0, 1) := by decide +kernel
theorem dX10_act_18 : decode cX10_act 18 = .ok (.invokevirtual 301, 3) := by decide +kernel
theorem dX10_act_21 : decode cX10_act 21 = .ok (.aload_n 0, 1) := by decide +kernel
theorem dX10_act_22 : decode cX10_act 22 = .ok (.iload_n 1, 1) := by decide +kernel
theorem dX10_act_23 : decode cX10_act 23 = .ok (.iload_n 2, 1) := by decide +kernel
theorem dX10_act_24 : decode cX10_act 24 = .ok (.iload_n 3, 1) := by decide +kernel
theorem dX10_act_25 : decode cX10_act 25 = .ok (.invokevirtual 304, 3) := by decide +kernel
theorem dX10_act_28 : decode cX10_act 28 = .ok (.iconst 0, 1) := by decide +kernel
theorem dX10_act_29 : decode cX10_act 29 = .ok (.ireturn, 1) := by decide +kernel
theorem dX10_adds_0 : decode cX10_adds 0 = .ok (.aload_n 0, 1) := by decide +kernel
theorem dX10_adds_1 : decode cX10_adds 1 = .ok (.getfield 98, 3) := by decide +kernel
theorem dX10_adds_4 : decode cX10_adds 4 = .ok (.sipush 136, 3) := by decide +kernel
theorem dX10_adds_7 : decode cX10_adds 7 = .ok (.bipush 6, 2) := by decide +kernel
theorem dX10_adds_9 : decode cX10_adds 9 = .ok (.iload_n 1, 1) := by decide +kernel
theorem dX10_adds_10 : decode cX10_adds 10 = .ok (.imul, 1) := by decide +kernel
theorem dX10_adds_11 : decode cX10_adds 11 = .ok (.iadd, 1) := by decide +kernel
theorem dX10_adds_12 : decode cX10_adds 12 = .ok (.iload_n 2, 1) := by decide +kernel
theorem dX10_adds_13 : decode cX10_adds 13 = .ok (.iadd, 1) := by decide +kernel
theorem dX10_adds_14 : decode cX10_adds 14 = .ok (.bipush 99, 2) := by decide +kernel
theorem dX10_adds_16 : decode cX10_adds 16 = .ok (.aload_n 0, 1) := by decide +kernel
theorem dX10_adds_17 : decode cX10_adds 17 = .ok (.iload_n 1, 1) := by decide +kernel
theorem dX10_adds_18 : decode cX10_adds 18 = .ok (.iload_n 2, 1) := by decide +kernel
theorem dX10_adds_19 : decode cX10_adds 19 = .ok (.invokevirtual 249, 3) := by decide +kernel
theorem dX10_adds_22 : decode cX10_adds 22 = .ok (.iload_n 3, 1) := by decide +kernel
theorem dX10_adds_23 : decode cX10_adds 23 = .ok (.iadd, 1) := by decide +kernel
theorem dX10_adds_24 : decode cX10_adds 24 = .ok (.invokestatic 283, 3) := by decide +kernel
theorem dX10_adds_27 : decode cX10_adds 27 = .ok (.iastore, 1) := by decide +kernel
theorem dX10_adds_28 : decode cX10_adds 28 = .ok (.return_, 1) := by decide +kernel
theorem dX10_areUnlike_0 : decode cX10_areUnlike 0 = .ok (.iconst 0, 1) := by decide +kernel
theorem dX10_areUnlike_1 : decode cX10_areUnlike 1 = .ok (.istore_n 2, 1) := by decide +kernel
theorem dX10_areUnlike_2 : decode cX10_areUnlike 2 = .ok (.iconst 0, 1) := by decide +kernel
theorem dX10_areUnlike_3 : decode cX10_areUnlike 3 = .ok (.istore_n 3, 1) := by decide +kernel
theorem dX10_areUnlike_4 : decode cX10_areUnlike 4 = .ok (.iload_n 3, 1) := by decide +kernel
theorem dX10_areUnlike_5 : decode cX10_areUnlike 5 = .ok (.bipush 8, 2) := by decide +kernel
theorem dX10_areUnlike_7 : decode cX10_areUnlike 7 = .ok (.if_icmp .ge 31, 3) := by decide +kernel
theorem dX10_areUnlike_10 : decode cX10_areUnlike 10 = .ok (.iload_n 1, 1) := by decide +kernel
theorem dX10_areUnlike_11 : decode cX10_areUnlike 11 = .ok (.iload_n 3, 1) := by decide +kernel
theorem dX10_areUnlike_12 : decode cX10_areUnlike 12 = .ok (.invokestatic 203, 3) := by decide +kernel
theorem dX10_areUnlike_15 : decode cX10_areUnlike 15 = .ok (.ifCond .eq 17, 3) := by decide +kernel
theorem dX10_areUnlike_18 : decode cX10_areUnlike 18 = .ok (.iload_n 2, 1) := by decide +kernel
theorem dX10_areUnlike_19 : decode cX10_areUnlike 19 = .ok (.iconst 1, 1) := by decide +kernel
theorem dX10_areUnlike_20 : decode cX10_areUnlike 20 = .ok (.aload_n 0, 1) := by decide +kernel
theorem dX10_areUnlike_21 : decode cX10_areUnlike 21 = .ok (.getfield 98, 3) := by decide +kernel
theorem dX10_areUnlike_24 : decode cX10_areUnlike 24 = .ok (.bipush 104, 2) := by decide +kernel
theorem dX10_areUnlike_26 : decode cX10_areUnlike 26 = .ok (.iload_n 3, 1) := by decide +kernel
theorem dX10_areUnlike_27 : decode cX10_areUnlike 27 = .ok (.iadd, 1) := by decide +kernel
theorem dX10_areUnlike_28 : decode cX10_areUnlike 28 = .ok (.iaload, 1) := by decide +kernel
theorem dX10_areUnlike_29 : decode cX10_areUnlike 29 = .ok (.ishl, 1) := by decide +kernel
theorem dX10_areUnlike_30 : decode cX10_areUnlike 30 = .ok (.ior, 1) := by decide +kernel
theorem dX10_areUnlike_31 : decode cX10_areUnlike 31 = .ok (.istore_n 2, 1) := by decide +kernel
theorem dX10_areUnlike_32 : decode cX10_areUnlike 32 = .ok (.iinc 3 1, 3) := by decide +kernel
theorem dX10_areUnlike_35 : decode cX10_areUnlike 35 = .ok (.goto (-31), 3) := by decide +kernel
theorem dX10_areUnlike_38 : decode cX10_areUnlike 38 = .ok (.iload_n 2, 1) := by decide +kernel
theorem dX10_areUnlike_39 : decode cX10_areUnlike 39 = .ok (.invokestatic 313, 3) := by decide +kernel
theorem dX10_areUnlike_42 : decode cX10_areUnlike 42 = .ok (.iconst 1, 1) := by decide +kernel
theorem dX10_areUnlike_43 : decode cX10_areUnlike 43 = .ok (.if_icmp .le 7, 3) := by decide +kernel
theorem dX10_areUnlike_46 : decode cX10_areUnlike 46 = .ok (.iconst 1, 1) := by decide +kernel
theorem dX10_areUnlike_47 : decode cX10_areUnlike 47 = .ok (.goto 4, 3) := by decide +kernel
theorem dX10_areUnlike_50 : decode cX10_areUnlike 50 = .ok (.iconst 0, 1) := by decide +kernel
theorem dX10_areUnlike_51 : decode cX10_areUnlike 51 = .ok (.ireturn, 1) := by decide +kernel
theorem dX10_ask_0 : decode cX10_ask 0 = .ok (.aload_n 0, 1) := by decide +kernel
theorem dX10_ask_1 : decode cX10_ask 1 = .ok (.iconst 0, 1) := by decide +kernel
theorem dX10_ask_2 : decode cX10_ask 2 = .ok (.putfield 1, 3) := by decide +kernel
theorem dX10_ask_5 : decode cX10_ask 5 = .ok (.aload_n 0, 1) := by decide +kernel
theorem dX10_ask_6 : decode cX10_ask 6 = .ok (.getfield 145, 3) := by decide +kernel
theorem dX10_ask_9 : decode cX10_ask 9 = .ok (.ireturn, 1) := by decide +kernel
theorem dX10_back_0 : decode cX10_back 0 = .ok (.iconst 0, 1) := by decide +kernel
theorem dX10_back_1 : decode cX10_back 1 = .ok (.istore_n 1, 1) := by decide +kernel
theorem dX10_back_2 : decode cX10_back 2 = .ok (.iload_n 1, 1) := by decide +kernel
theorem dX10_back_3 : decode cX10_back 3 = .ok (.bipush 88, 2) := by decide +kernel
theorem dX10_back_5 : decode cX10_back 5 = .ok (.if_icmp .ge 24, 3) := by decide +kernel
theorem dX10_back_8 : decode cX10_back 8 = .ok (.aload_n 0, 1) := by decide +kernel
theorem dX10_back_9 : decode cX10_back 9 = .ok (.getfield 98, 3) := by decide +kernel
theorem dX10_back_12 : decode cX10_back 12 = .ok (.bipush 84, 2) := by decide +kernel
theorem dX10_back_14 : decode cX10_back 14 = .ok (.iload_n 1, 1) := by decide +kernel
theorem dX10_back_15 : decode cX10_back 15 = .ok (.iadd, 1) := by decide +kernel
theorem dX10_back_16 : decode cX10_back 16 = .ok (.aload_n 0, 1) := by decide +kernel
theorem dX10_back_17 : decode cX10_back 17 = .ok (.getfield 113, 3) := by decide +kernel
theorem dX10_back_20 : decode cX10_back 20 = .ok (.iload_n 1, 1) := by decide +kernel
theorem dX10_back_21 : decode cX10_back 21 = .ok (.iaload, 1) := by decide +kernel
theorem dX10_back_22 : decode cX10_back 22 = .ok (.iastore, 1) := by decide +kernel
theorem dX10_back_23 : decode cX10_back 23 = .ok (.iinc 1 1, 3) := by decide +kernel
theorem dX10_back_26 : decode cX10_back 26 = .ok (.goto (-24), 3) := by decide +kernel
theorem dX10_back_29 : decode cX10_back 29 = .ok (.return_, 1) := by decide +kernel
theorem dX10_bits_0 : decode cX10_bits 0 = .ok (.iconst 0, 1) := by decide +kernel
theorem dX10_bits_1 : decode cX10_bits 1 = .ok (.istore_n 1, 1) := by decide +kernel
theorem dX10_bits_2 : decode cX10_bits 2 = .ok (.iload_n 0, 1) := by decide +kernel
theorem dX10_bits_3 : decode cX10_bits 3 = .ok (.istore_n 2, 1) := by decide +kernel
theorem dX10_bits_4 : decode cX10_bits 4 = .ok (.iload_n 2, 1) := by decide +kernel
theorem dX10_bits_5 : decode cX10_bits 5 = .ok (.ifCond .eq 15, 3) := by decide +kernel
theorem dX10_bits_8 : decode cX10_bits 8 = .ok (.iinc 1 1, 3) := by decide +kernel
theorem dX10_bits_11 : decode cX10_bits 11 = .ok (.iload_n 2, 1) := by decide +kernel
theorem dX10_bits_12 : decode cX10_bits 12 = .ok (.iload_n 2, 1) := by decide +kernel
theorem dX10_bits_13 : decode cX10_bits 13 = .ok (.iconst 1, 1) := by decide +kernel
theorem dX10_bits_14 : decode cX10_bits 14 = .ok (.isub, 1) := by decide +kernel
theorem dX10_bits_15 : decode cX10_bits 15 = .ok (.iand, 1) := by decide +kernel
theorem dX10_bits_16 : decode cX10_bits 16 = .ok (.istore_n 2, 1) := by decide +kernel
theorem dX10_bits_17 : decode cX10_bits 17 = .ok (.goto (-13), 3) := by decide +kernel
theorem dX10_bits_20 : decode cX10_bits 20 = .ok (.iload_n 1, 1) := by decide +kernel
theorem dX10_bits_21 : decode cX10_bits 21 = .ok (.ireturn, 1) := by decide +kernel
theorem dX10_byteAt_0 : decode cX10_byteAt 0 = .ok (.aload_n 0, 1) := by decide +kernel
theorem dX10_byteAt_1 : decode cX10_byteAt 1 = .ok (.iconst 0, 1) := by decide +kernel
theorem dX10_byteAt_2 : decode cX10_byteAt 2 = .ok (.putfield 1, 3) := by decide +kernel
theorem dX10_byteAt_5 : decode cX10_byteAt 5 = .ok (.iload_n 1, 1) := by decide +kernel
theorem dX10_byteAt_6 : decode cX10_byteAt 6 = .ok (.iconst 0, 1) := by decide +kernel
theorem dX10_byteAt_7 : decode cX10_byteAt 7 = .ok (.aload_n 0, 1) := by decide +kernel
theorem dX10_byteAt_8 : decode cX10_byteAt 8 = .ok (.getfield 368, 3) := by decide +kernel
theorem dX10_byteAt_11 : decode cX10_byteAt 11 = .ok (.iconst 1, 1) := by decide +kernel
theorem dX10_byteAt_12 : decode cX10_byteAt 12 = .ok (.isub, 1) := by decide +kernel
theorem dX10_byteAt_13 : decode cX10_byteAt 13 = .ok (.invokestatic 75, 3) := by decide +kernel
theorem dX10_byteAt_16 : decode cX10_byteAt 16 = .ok (.ifCond .eq 12, 3) := by decide +kernel
theorem dX10_byteAt_19 : decode cX10_byteAt 19 = .ok (.aload_n 0, 1) := by decide +kernel
theorem dX10_byteAt_20 : decode cX10_byteAt 20 = .ok (.getfield 157, 3) := by decide +kernel
theorem dX10_byteAt_23 : decode cX10_byteAt 23 = .ok (.iload_n 1, 1) := by decide +kernel
theorem dX10_byteAt_24 : decode cX10_byteAt 24 = .ok (.iaload, 1) := by decide +kernel
theorem dX10_byteAt_25 : decode cX10_byteAt 25 = .ok (.goto 4, 3) := by decide +kernel
theorem dX10_byteAt_28 : decode cX10_byteAt 28 = .ok (.iconst (-1), 1) := by decide +kernel
theorem dX10_byteAt_29 : decode cX10_byteAt 29 = .ok (.ireturn, 1) := by decide +kernel
theorem dX10_carry_0 : decode cX10_carry 0 = .ok (.aload_n 0, 1) := by decide +kernel
theorem dX10_carry_1 : decode cX10_carry 1 = .ok (.iconst 0, 1) := by decide +kernel
theorem dX10_carry_2 : decode cX10_carry 2 = .ok (.putfield 1, 3) := by decide +kernel
theorem dX10_carry_5 : decode cX10_carry 5 = .ok (.aload_n 0, 1) := by decide +kernel
theorem dX10_carry_6 : decode cX10_carry 6 = .ok (.iload_n 1, 1) := by decide +kernel
theorem dX10_carry_7 : decode cX10_carry 7 = .ok (.invokevirtual 256, 3) := by decide +kernel
theorem dX10_carry_10 : decode cX10_carry 10 = .ok (.ifCond .eq 21, 3) := by decide +kernel
theorem dX10_carry_13 : decode cX10_carry 13 = .ok (.aload_n 0, 1) := by decide +kernel
theorem dX10_carry_14 : decode cX10_carry 14 = .ok (.iload_n 2, 1) := by decide +kernel
theorem dX10_carry_15 : decode cX10_carry 15 = .ok (.invokevirtual 310, 3) := by decide +kernel
theorem dX10_carry_18 : decode cX10_carry 18 = .ok (.ifCond .eq 13, 3) := by decide +kernel
theorem dX10_carry_21 : decode cX10_carry 21 = .ok (.aload_n 0, 1) := by decide +kernel
theorem dX10_carry_22 : decode cX10_carry 22 = .ok (.iconst 5, 1) := by decide +kernel
theorem dX10_carry_23 : decode cX10_carry 23 = .ok (.iload_n 1, 1) := by decide +kernel
theorem dX10_carry_24 : decode cX10_carry 24 = .ok (.iload_n 2, 1) := by decide +kernel
theorem dX10_carry_25 : decode cX10_carry 25 = .ok (.invokevirtual 307, 3) := by decide +kernel
theorem dX10_carry_28 : decode cX10_carry 28 = .ok (.goto 4, 3) := by decide +kernel
theorem dX10_carry_31 : decode cX10_carry 31 = .ok (.iconst (-1), 1) := by decide +kernel
theorem dX10_carry_32 : decode cX10_carry 32 = .ok (.ireturn, 1) := by decide +kernel
theorem dX10_count_0 : decode cX10_count 0 = .ok (.aload_n 0, 1) := by decide +kernel
theorem dX10_count_1 : decode cX10_count 1 = .ok (.iconst 0, 1) := by decide +kernel
theorem dX10_count_2 : decode cX10_count 2 = .ok (.putfield 1, 3) := by decide +kernel
theorem dX10_count_5 : decode cX10_count 5 = .ok (.iload_n 1, 1) := by decide +kernel
theorem dX10_count_6 : decode cX10_count 6 = .ok (.tableswitch 89 0 6 #[42, 49, 56, 63, 70, 77, 84], 42) := by decide +kernel
theorem dX10_count_48 : decode cX10_count 48 = .ok (.aload_n 0, 1) := by decide +kernel
theorem dX10_count_49 : decode cX10_count 49 = .ok (.getfield 98, 3) := by decide +kernel
theorem dX10_count_52 : decode cX10_count 52 = .ok (.iconst 0, 1) := by decide +kernel
theorem dX10_count_53 : decode cX10_count 53 = .ok (.iaload, 1) := by decide +kernel
theorem dX10_count_54 : decode cX10_count 54 = .ok (.ireturn, 1) := by decide +kernel
theorem dX10_count_55 : decode cX10_count 55 = .ok (.aload_n 0, 1) := by decide +kernel
theorem dX10_count_56 : decode cX10_count 56 = .ok (.getfield 98, 3) := by decide +kernel
theorem dX10_count_59 : decode cX10_count 59 = .ok (.iconst 1, 1) := by decide +kernel
theorem dX10_count_60 : decode cX10_count 60 = .ok (.iaload, 1) := by decide +kernel
theorem dX10_count_61 : decode cX10_count 61 = .ok (.ireturn, 1) := by decide +kernel
theorem dX10_count_62 : decode cX10_count 62 = .ok (.aload_n 0, 1) := by decide +kernel
theorem dX10_count_63 : decode cX10_count 63 = .ok (.getfield 98, 3) := by decide +kernel
theorem dX10_count_66 : decode cX10_count 66 = .ok (.iconst 2, 1) := by decide +kernel
theorem dX10_count_67 : decode cX10_count 67 = .ok (.iaload, 1) := by decide +kernel
theorem dX10_count_68 : decode cX10_count 68 = .ok (.ireturn, 1) := by decide +kernel
theorem dX10_count_69 : decode cX10_count 69 = .ok (.aload_n 0, 1) := by decide +kernel
theorem dX10_count_70 : decode cX10_count 70 = .ok (.getfield 98, 3) := by decide +kernel
theorem dX10_count_73 : decode cX10_count 73 = .ok (.iconst 3, 1) := by decide +kernel
theorem dX10_count_74 : decode cX10_count 74 = .ok (.iaload, 1) := by decide +kernel
theorem dX10_count_75 : decode cX10_count 75 = .ok (.ireturn, 1) := by decide +kernel
theorem dX10_count_76 : decode cX10_count 76 = .ok (.aload_n 0, 1) := by decide +kernel
theorem dX10_count_77 : decode cX10_count 77 = .ok (.getfield 98, 3) := by decide +kernel
theorem dX10_count_80 : decode cX10_count 80 = .ok (.iconst 4, 1) := by decide +kernel
theorem dX10_count_81 : decode cX10_count 81 = .ok (.iaload, 1) := by decide +kernel
theorem dX10_count_82 : decode cX10_count 82 = .ok (.ireturn, 1) := by decide +kernel
theorem dX10_count_83 : decode cX10_count 83 = .ok (.aload_n 0, 1) := by decide +kernel
theorem dX10_count_84 : decode cX10_count 84 = .ok (.getfield 98, 3) := by decide +kernel
theorem dX10_count_87 : decode cX10_count 87 = .ok (.iconst 5, 1) := by decide +kernel
theorem dX10_count_88 : decode cX10_count 88 = .ok (.iaload, 1) := by decide +kernel
theorem dX10_count_89 : decode cX10_count 89 = .ok (.ireturn, 1) := by decide +kernel
theorem dX10_count_90 : decode cX10_count 90 = .ok (.aload_n 0, 1) := by decide +kernel
theorem dX10_count_91 : decode cX10_count 91 = .ok (.getfield 11, 3) := by decide +kernel
theorem dX10_count_94 : decode cX10_count 94 = .ok (.ireturn, 1) := by decide +kernel
theorem dX10_count_95 : decode cX10_count 95 = .ok (.iconst (-1), 1) := by decide +kernel
theorem dX10_count_96 : decode cX10_count 96 = .ok (.ireturn, 1) := by decide +kernel
theorem dX10_days_0 : decode cX10_days 0 = .ok (.aload_n 0, 1) := by decide +kernel
theorem dX10_days_1 : decode cX10_days 1 = .ok (.iconst 0, 1) := by decide +kernel
theorem dX10_days_2 : decode cX10_days 2 = .ok (.putfield 1, 3) := by decide +kernel
theorem dX10_days_5 : decode cX10_days 5 = .ok (.iload_n 1, 1) := by decide +kernel
theorem dX10_days_6 : decode cX10_days 6 = .ok (.iconst 1, 1) := by decide +kernel
theorem dX10_days_7 : decode cX10_days 7 = .ok (.bipush 60, 2) := by decide +kernel
theorem dX10_days_9 : decode cX10_days 9 = .ok (.invokestatic 75, 3) := by decide +kernel
theorem dX10_days_12 : decode cX10_days 12 = .ok (.ifCond .ne 5, 3) := by decide +kernel
theorem dX10_days_15 : decode cX10_days 15 = .ok (.iconst (-1), 1) := by decide +kernel
theorem dX10_days_16 : decode cX10_days 16 = .ok (.ireturn, 1) := by decide +kernel
theorem dX10_days_17 : decode cX10_days 17 = .ok (.aload_n 0, 1) := by decide +kernel
theorem dX10_days_18 : decode cX10_days 18 = .ok (.getfield 98, 3) := by decide +kernel
theorem dX10_days_21 : decode cX10_days 21 = .ok (.bipush 84, 2) := by decide +kernel
theorem dX10_days_23 : decode cX10_days 23 = .ok (.iaload, 1) := by decide +kernel
theorem dX10_days_24 : decode cX10_days 24 = .ok (.sipush 400, 3) := by decide +kernel
theorem dX10_days_27 : decode cX10_days 27 = .ok (.if_icmp .ne 5, 3) := by decide +kernel
theorem dX10_days_30 : decode cX10_days 30 = .ok (.iconst 0, 1) := by decide +kernel
theorem dX10_days_31 : decode cX10_days 31 = .ok (.ireturn, 1) := by decide +kernel
theorem dX10_days_32 : decode cX10_days 32 = .ok (.aload_n 0, 1) := by decide +kernel
theorem dX10_days_33 : decode cX10_days 33 = .ok (.invokevirtual 301, 3) := by decide +kernel
theorem dX10_days_36 : decode cX10_days 36 = .ok (.aload_n 0, 1) := by decide +kernel
theorem dX10_days_37 : decode cX10_days 37 = .ok (.iload_n 1, 1) := by decide +kernel
theorem dX10_days_38 : decode cX10_days 38 = .ok (.invokevirtual 325, 3) := by decide +kernel
theorem dX10_days_41 : decode cX10_days 41 = .ok (.ireturn, 1) := by decide +kernel
theorem dX10_doGuess_0 : decode cX10_doGuess 0 = .ok (.aload_n 0, 1) := by decide +kernel
theorem dX10_doGuess_1 : decode cX10_doGuess 1 = .ok (.getfield 98, 3) := by decide +kernel
theorem dX10_doGuess_4 : decode cX10_doGuess 4 = .ok (.bipush 112, 2) := by decide +kernel
theorem dX10_doGuess_6 : decode cX10_doGuess 6 = .ok (.iload_n 1, 1) := by decide +kernel
theorem dX10_doGuess_7 : decode cX10_doGuess 7 = .ok (.iadd, 1) := by decide +kernel
theorem dX10_doGuess_8 : decode cX10_doGuess 8 = .ok (.iaload, 1) := by decide +kernel
theorem dX10_doGuess_9 : decode cX10_doGuess 9 = .ok (.istore_n 3, 1) := by decide +kernel
theorem dX10_doGuess_10 : decode cX10_doGuess 10 = .ok (.aload_n 0, 1) := by decide +kernel
theorem dX10_doGuess_11 : decode cX10_doGuess 11 = .ok (.iload_n 3, 1) := by decide +kernel
theorem dX10_doGuess_12 : decode cX10_doGuess 12 = .ok (.invokevirtual 253, 3) := by decide +kernel
theorem dX10_doGuess_15 : decode cX10_doGuess 15 = .ok (.iload_n 2, 1) := by decide +kernel
theorem dX10_doGuess_16 : decode cX10_doGuess 16 = .ok (.if_icmp .ne 23, 3) := by decide +kernel
theorem dX10_doGuess_19 : decode cX10_doGuess 19 = .ok (.aload_n 0, 1) := by decide +kernel
theorem dX10_doGuess_20 : decode cX10_doGuess 20 = .ok (.iload_n 3, 1) := by decide +kernel
theorem dX10_doGuess_21 : decode cX10_doGuess 21 = .ok (.iload_n 2, 1) := by decide +kernel
theorem dX10_doGuess_22 : decode cX10_doGuess 22 = .ok (.invokevirtual 286, 3) := by decide +kernel
theorem dX10_doGuess_25 : decode cX10_doGuess 25 = .ok (.aload_n 0, 1) := by decide +kernel
theorem dX10_doGuess_26 : decode cX10_doGuess 26 = .ok (.getfield 98, 3) := by decide +kernel
theorem dX10_doGuess_29 : decode cX10_doGuess 29 = .ok (.bipush 120, 2) := by decide +kernel
theorem dX10_doGuess_31 : decode cX10_doGuess 31 = .ok (.iload_n 1, 1) := by decide +kernel
theorem dX10_doGuess_32 : decode cX10_doGuess 32 = .ok (.iadd, 1) := by decide +kernel
theorem dX10_doGuess_33 : decode cX10_doGuess 33 = .ok (.dup2, 1) := by decide +kernel
theorem dX10_doGuess_34 : decode cX10_doGuess 34 = .ok (.iaload, 1) := by decide +kernel
theorem dX10_doGuess_35 : decode cX10_doGuess 35 = .ok (.iconst 1, 1) := by decide +kernel
theorem dX10_doGuess_36 : decode cX10_doGuess 36 = .ok (.iadd, 1) := by decide +kernel
theorem dX10_doGuess_37 : decode cX10_doGuess 37 = .ok (.iastore, 1) := by decide +kernel
theorem dX10_doGuess_38 : decode cX10_doGuess 38 = .ok (.return_, 1) := by decide +kernel
theorem dX10_doGuess_39 : decode cX10_doGuess 39 = .ok (.aload_n 0, 1) := by decide +kernel
theorem dX10_doGuess_40 : decode cX10_doGuess 40 = .ok (.iload_n 3, 1) := by decide +kernel
theorem dX10_doGuess_41 : decode cX10_doGuess 41 = .ok (.iload_n 2, 1) := by decide +kernel
theorem dX10_doGuess_42 : decode cX10_doGuess 42 = .ok (.iconst 1, 1) := by decide +kernel
theorem dX10_doGuess_43 : decode cX10_doGuess 43 = .ok (.invokevirtual 290, 3) := by decide +kernel
theorem dX10_doGuess_46 : decode cX10_doGuess 46 = .ok (.aload_n 0, 1) := by decide +kernel
theorem dX10_doGuess_47 : decode cX10_doGuess 47 = .ok (.getfield 98, 3) := by decide +kernel
theorem dX10_doGuess_50 : decode cX10_doGuess 50 = .ok (.sipush 128, 3) := by decide +kernel
theorem dX10_doGuess_53 : decode cX10_doGuess 53 = .ok (.iload_n 1, 1) := by decide +kernel
theorem dX10_doGuess_54 : decode cX10_doGuess 54 = .ok (.iadd, 1) := by decide +kernel
theorem dX10_doGuess_55 : decode cX10_doGuess 55 = .ok (.dup2, 1) := by decide +kernel
theorem dX10_doGuess_56 : decode cX10_doGuess 56 = .ok (.iaload, 1) := by decide +kernel
theorem dX10_doGuess_57 : decode cX10_doGuess 57 = .ok (.iconst 1, 1) := by decide +kernel
theorem dX10_doGuess_58 : decode cX10_doGuess 58 = .ok (.iadd, 1) := by decide +kernel
theorem dX10_doGuess_59 : decode cX10_doGuess 59 = .ok (.iastore, 1) := by decide +kernel
theorem dX10_doGuess_60 : decode cX10_doGuess 60 = .ok (.return_, 1) := by decide +kernel
theorem dX10_end_0 : decode cX10_end 0 = .ok (.aload_n 0, 1) := by decide +kernel
theorem dX10_end_1 : decode cX10_end 1 = .ok (.iconst 0, 1) := by decide +kernel
theorem dX10_end_2 : decode cX10_end 2 = .ok (.putfield 1, 3) := by decide +kernel
theorem dX10_end_5 : decode cX10_end 5 = .ok (.iload_n 1, 1) := by decide +kernel
theorem dX10_end_6 : decode cX10_end 6 = .ok (.ifCond .lt 11, 3) := by decide +kernel
theorem dX10_end_9 : decode cX10_end 9 = .ok (.iload_n 1, 1) := by decide +kernel
theorem dX10_end_10 : decode cX10_end 10 = .ok (.aload_n 0, 1) := by decide +kernel
theorem dX10_end_11 : decode cX10_end 11 = .ok (.getfield 11, 3) := by decide +kernel
theorem dX10_end_14 : decode cX10_end 14 = .ok (.if_icmp .le 5, 3) := by decide +kernel
theorem dX10_end_17 : decode cX10_end 17 = .ok (.iconst 0, 1) := by decide +kernel
theorem dX10_end_18 : decode cX10_end 18 = .ok (.ireturn, 1) := by decide +kernel
theorem dX10_end_19 : decode cX10_end 19 = .ok (.aload_n 0, 1) := by decide +kernel
theorem dX10_end_20 : decode cX10_end 20 = .ok (.iload_n 1, 1) := by decide +kernel
theorem dX10_end_21 : decode cX10_end 21 = .ok (.putfield 11, 3) := by decide +kernel
theorem dX10_end_24 : decode cX10_end 24 = .ok (.iconst 1, 1) := by decide +kernel
theorem dX10_end_25 : decode cX10_end 25 = .ok (.ireturn, 1) := by decide +kernel
theorem dX10_fault_0 : decode cX10_fault 0 = .ok (.aload_n 0, 1) := by decide +kernel
theorem dX10_fault_1 : decode cX10_fault 1 = .ok (.iconst 0, 1) := by decide +kernel
theorem dX10_fault_2 : decode cX10_fault 2 = .ok (.putfield 1, 3) := by decide +kernel
theorem dX10_fault_5 : decode cX10_fault 5 = .ok (.aload_n 0, 1) := by decide +kernel
theorem dX10_fault_6 : decode cX10_fault 6 = .ok (.getfield 66, 3) := by decide +kernel
theorem dX10_fault_9 : decode cX10_fault 9 = .ok (.ireturn, 1) := by decide +kernel
theorem dX10_greatest_0 : decode cX10_greatest 0 = .ok (.aload_n 0, 1) := by decide +kernel
theorem dX10_greatest_1 : decode cX10_greatest 1 = .ok (.iconst 0, 1) := by decide +kernel
theorem dX10_greatest_2 : decode cX10_greatest 2 = .ok (.putfield 1, 3) := by decide +kernel
theorem dX10_greatest_5 : decode cX10_greatest 5 = .ok (.iconst (-1), 1) := by decide +kernel
theorem dX10_greatest_6 : decode cX10_greatest 6 = .ok (.istore_n 1, 1) := by decide +kernel
theorem dX10_greatest_7 : decode cX10_greatest 7 = .ok (.iconst 0, 1) := by decide +kernel
theorem dX10_greatest_8 : decode cX10_greatest 8 = .ok (.istore_n 2, 1) := by decide +kernel
theorem dX10_greatest_9 : decode cX10_greatest 9 = .ok (.iload_n 2, 1) := by decide +kernel
theorem dX10_greatest_10 : decode cX10_greatest 10 = .ok (.aload_n 0, 1) := by decide +kernel
theorem dX10_greatest_11 : decode cX10_greatest 11 = .ok (.getfield 98, 3) := by decide +kernel
theorem dX10_greatest_14 : decode cX10_greatest 14 = .ok (.iconst 2, 1) := by decide +kernel
theorem dX10_greatest_15 : decode cX10_greatest 15 = .ok (.iaload, 1) := by decide +kernel
theorem dX10_greatest_16 : decode cX10_greatest 16 = .ok (.if_icmp .ge 37, 3) := by decide +kernel
theorem dX10_greatest_19 : decode cX10_greatest 19 = .ok (.aload_n 0, 1) := by decide +kernel
theorem dX10_greatest_20 : decode cX10_greatest 20 = .ok (.iload_n 2, 1) := by decide +kernel
theorem dX10_greatest_21 : decode cX10_greatest 21 = .ok (.invokevirtual 268, 3) := by decide +kernel
theorem dX10_greatest_24 : decode cX10_greatest 24 = .ok (.ifCond .ne 23, 3) := by decide +kernel
theorem dX10_greatest_27 : decode cX10_greatest 27 = .ok (.iload_n 1, 1) := by decide +kernel
theorem dX10_greatest_28 : decode cX10_greatest 28 = .ok (.iconst (-1), 1) := by decide +kernel
theorem dX10_greatest_29 : decode cX10_greatest 29 = .ok (.if_icmp .eq 16, 3) := by decide +kernel
theorem dX10_greatest_32 : decode cX10_greatest 32 = .ok (.aload_n 0, 1) := by decide +kernel
theorem dX10_greatest_33 : decode cX10_greatest 33 = .ok (.iload_n 2, 1) := by decide +kernel
theorem dX10_greatest_34 : decode cX10_greatest 34 = .ok (.invokevirtual 265, 3) := by decide +kernel
theorem dX10_greatest_37 : decode cX10_greatest 37 = .ok (.aload_n 0, 1) := by decide +kernel
theorem dX10_greatest_38 : decode cX10_greatest 38 = .ok (.iload_n 1, 1) := by decide +kernel
theorem dX10_greatest_39 : decode cX10_greatest 39 = .ok (.invokevirtual 265, 3) := by decide +kernel
theorem dX10_greatest_42 : decode cX10_greatest 42 = .ok (.if_icmp .le 5, 3) := by decide +kernel
theorem dX10_greatest_45 : decode cX10_greatest 45 = .ok (.iload_n 2, 1) := by decide +kernel
theorem dX10_greatest_46 : decode cX10_greatest 46 = .ok (.istore_n 1, 1) := by decide +kernel
theorem dX10_greatest_47 : decode cX10_greatest 47 = .ok (.iinc 2 1, 3) := by decide +kernel
theorem dX10_greatest_50 : decode cX10_greatest 50 = .ok (.goto (-41), 3) := by decide +kernel
theorem dX10_greatest_53 : decode cX10_greatest 53 = .ok (.iload_n 1, 1) := by decide +kernel
theorem dX10_greatest_54 : decode cX10_greatest 54 = .ok (.ireturn, 1) := by decide +kernel
theorem dX10_guess_0 : decode cX10_guess 0 = .ok (.aload_n 0, 1) := by decide +kernel
theorem dX10_guess_1 : decode cX10_guess 1 = .ok (.iconst 0, 1) := by decide +kernel
theorem dX10_guess_2 : decode cX10_guess 2 = .ok (.putfield 1, 3) := by decide +kernel
theorem dX10_guess_5 : decode cX10_guess 5 = .ok (.aload_n 0, 1) := by decide +kernel
theorem dX10_guess_6 : decode cX10_guess 6 = .ok (.iload_n 1, 1) := by decide +kernel
theorem dX10_guess_7 : decode cX10_guess 7 = .ok (.invokevirtual 274, 3) := by decide +kernel
theorem dX10_guess_10 : decode cX10_guess 10 = .ok (.ifCond .eq 11, 3) := by decide +kernel
theorem dX10_guess_13 : decode cX10_guess 13 = .ok (.aload_n 0, 1) := by decide +kernel
theorem dX10_guess_14 : decode cX10_guess 14 = .ok (.iload_n 2, 1) := by decide +kernel
theorem dX10_guess_15 : decode cX10_guess 15 = .ok (.invokevirtual 259, 3) := by decide +kernel
theorem dX10_guess_18 : decode cX10_guess 18 = .ok (.ifCond .ne 5, 3) := by decide +kernel
theorem dX10_guess_21 : decode cX10_guess 21 = .ok (.iconst (-1), 1) := by decide +kernel
theorem dX10_guess_22 : decode cX10_guess 22 = .ok (.ireturn, 1) := by decide +kernel
theorem dX10_guess_23 : decode cX10_guess 23 = .ok (.aload_n 0, 1) := by decide +kernel
theorem dX10_guess_24 : decode cX10_guess 24 = .ok (.getfield 98, 3) := by decide +kernel
theorem dX10_guess_27 : decode cX10_guess 27 = .ok (.bipush 120, 2) := by decide +kernel
theorem dX10_guess_29 : decode cX10_guess 29 = .ok (.iload_n 1, 1) := by decide +kernel
theorem dX10_guess_30 : decode cX10_guess 30 = .ok (.iadd, 1) := by decide +kernel
theorem dX10_guess_31 : decode cX10_guess 31 = .ok (.iaload, 1) := by decide +kernel
theorem dX10_guess_32 : decode cX10_guess 32 = .ok (.istore_n 3, 1) := by decide +kernel
theorem dX10_guess_33 : decode cX10_guess 33 = .ok (.aload_n 0, 1) := by decide +kernel
theorem dX10_guess_34 : decode cX10_guess 34 = .ok (.iconst 3, 1) := by decide +kernel
theorem dX10_guess_35 : decode cX10_guess 35 = .ok (.iload_n 1, 1) := by decide +kernel
theorem dX10_guess_36 : decode cX10_guess 36 = .ok (.iload_n 2, 1) := by decide +kernel
theorem dX10_guess_37 : decode cX10_guess 37 = .ok (.invokevirtual 307, 3) := by decide +kernel
theorem dX10_guess_40 : decode cX10_guess 40 = .ok (.istore 4, 2) := by decide +kernel
theorem dX10_guess_42 : decode cX10_guess 42 = .ok (.iload 4, 2) := by decide +kernel
theorem dX10_guess_44 : decode cX10_guess 44 = .ok (.ifCond .eq 10, 3) := by decide +kernel
theorem dX10_guess_47 : decode cX10_guess 47 = .ok (.iconst (-1), 1) := by decide +kernel
theorem dX10_guess_48 : decode cX10_guess 48 = .ok (.iload 4, 2) := by decide +kernel
theorem dX10_guess_50 : decode cX10_guess 50 = .ok (.isub, 1) := by decide +kernel
theorem dX10_guess_51 : decode cX10_guess 51 = .ok (.goto 21, 3) := by decide +kernel
theorem dX10_guess_54 : decode cX10_guess 54 = .ok (.aload_n 0, 1) := by decide +kernel
theorem dX10_guess_55 : decode cX10_guess 55 = .ok (.getfield 98, 3) := by decide +kernel
theorem dX10_guess_58 : decode cX10_guess 58 = .ok (.bipush 120, 2) := by decide +kernel
theorem dX10_guess_60 : decode cX10_guess 60 = .ok (.iload_n 1, 1) := by decide +kernel
theorem dX10_guess_61 : decode cX10_guess 61 = .ok (.iadd, 1) := by decide +kernel
theorem dX10_guess_62 : decode cX10_guess 62 = .ok (.iaload, 1) := by decide +kernel
theorem dX10_guess_63 : decode cX10_guess 63 = .ok (.iload_n 3, 1) := by decide +kernel
theorem dX10_guess_64 : decode cX10_guess 64 = .ok (.if_icmp .le 7, 3) := by decide +kernel
theorem dX10_guess_67 : decode cX10_guess 67 = .ok (.iconst 1, 1) := by decide +kernel
theorem dX10_guess_68 : decode cX10_guess 68 = .ok (.goto 4, 3) := by decide +kernel
theorem dX10_guess_71 : decode cX10_guess 71 = .ok (.iconst 0, 1) := by decide +kernel
theorem dX10_guess_72 : decode cX10_guess 72 = .ok (.ireturn, 1) := by decide +kernel
theorem dX10_has_0 : decode cX10_has 0 = .ok (.iload_n 0, 1) := by decide +kernel
theorem dX10_has_1 : decode cX10_has 1 = .ok (.iload_n 1, 1) := by decide +kernel
theorem dX10_has_2 : decode cX10_has 2 = .ok (.ishr, 1) := by decide +kernel
theorem dX10_has_3 : decode cX10_has 3 = .ok (.iconst 1, 1) := by decide +kernel
theorem dX10_has_4 : decode cX10_has 4 = .ok (.iand, 1) := by decide +kernel
theorem dX10_has_5 : decode cX10_has 5 = .ok (.iconst 1, 1) := by decide +kernel
theorem dX10_has_6 : decode cX10_has 6 = .ok (.if_icmp .ne 7, 3) := by decide +kernel
theorem dX10_has_9 : decode cX10_has 9 = .ok (.iconst 1, 1) := by decide +kernel
theorem dX10_has_10 : decode cX10_has 10 = .ok (.goto 4, 3) := by decide +kernel
theorem dX10_has_13 : decode cX10_has 13 = .ok (.iconst 0, 1) := by decide +kernel
theorem dX10_has_14 : decode cX10_has 14 = .ok (.ireturn, 1) := by decide +kernel
theorem dX10_hold_0 : decode cX10_hold 0 = .ok (.iconst 0, 1) := by decide +kernel
theorem dX10_hold_1 : decode cX10_hold 1 = .ok (.istore_n 1, 1) := by decide +kernel
theorem dX10_hold_2 : decode cX10_hold 2 = .ok (.iload_n 1, 1) := by decide +kernel
theorem dX10_hold_3 : decode cX10_hold 3 = .ok (.bipush 88, 2) := by decide +kernel
theorem dX10_hold_5 : decode cX10_hold 5 = .ok (.if_icmp .ge 24, 3) := by decide +kernel
theorem dX10_hold_8 : decode cX10_hold 8 = .ok (.aload_n 0, 1) := by decide +kernel
theorem dX10_hold_9 : decode cX10_hold 9 = .ok (.getfield 113, 3) := by decide +kernel
theorem dX10_hold_12 : decode cX10_hold 12 = .ok (.iload_n 1, 1) := by decide +kernel
theorem dX10_hold_13 : decode cX10_hold 13 = .ok (.aload_n 0, 1) := by decide +kernel
theorem dX10_hold_14 : decode cX10_hold 14 = .ok (.getfield 98, 3) := by decide +kernel
theorem dX10_hold_17 : decode cX10_hold 17 = .ok (.bipush 84, 2) := by decide +kernel
theorem dX10_hold_19 : decode cX10_hold 19 = .ok (.iload_n 1, 1) := by decide +kernel
theorem dX10_hold_20 : decode cX10_hold 20 = .ok (.iadd, 1) := by decide +kernel
theorem dX10_hold_21 : decode cX10_hold 21 = .ok (.iaload, 1) := by decide +kernel
theorem dX10_hold_22 : decode cX10_hold 22 = .ok (.iastore, 1) := by decide +kernel
theorem dX10_hold_23 : decode cX10_hold 23 = .ok (.iinc 1 1, 3) := by decide +kernel
theorem dX10_hold_26 : decode cX10_hold 26 = .ok (.goto (-24), 3) := by decide +kernel
theorem dX10_hold_29 : decode cX10_hold 29 = .ok (.return_, 1) := by decide +kernel
theorem dX10_isIdea_0 : decode cX10_isIdea 0 = .ok (.iload_n 1, 1) := by decide +kernel
theorem dX10_isIdea_1 : decode cX10_isIdea 1 = .ok (.iconst 0, 1) := by decide +kernel
theorem dX10_isIdea_2 : decode cX10_isIdea 2 = .ok (.aload_n 0, 1) := by decide +kernel
theorem dX10_isIdea_3 : decode cX10_isIdea 3 = .ok (.getfield 98, 3) := by decide +kernel
theorem dX10_isIdea_6 : decode cX10_isIdea 6 = .ok (.iconst 0, 1) := by decide +kernel
theorem dX10_isIdea_7 : decode cX10_isIdea 7 = .ok (.iaload, 1) := by decide +kernel
theorem dX10_isIdea_8 : decode cX10_isIdea 8 = .ok (.iconst 1, 1) := by decide +kernel
theorem dX10_isIdea_9 : decode cX10_isIdea 9 = .ok (.isub, 1) := by decide +kernel
theorem dX10_isIdea_10 : decode cX10_isIdea 10 = .ok (.invokestatic 75, 3) := by decide +kernel
theorem dX10_isIdea_13 : decode cX10_isIdea 13 = .ok (.ireturn, 1) := by decide +kernel
theorem dX10_isIn_0 : decode cX10_isIn 0 = .ok (.iload_n 0, 1) := by decide +kernel
theorem dX10_isIn_1 : decode cX10_isIn 1 = .ok (.iload_n 1, 1) := by decide +kernel
theorem dX10_isIn_2 : decode cX10_isIn 2 = .ok (.if_icmp .lt 12, 3) := by decide +kernel
theorem dX10_isIn_5 : decode cX10_isIn 5 = .ok (.iload_n 0, 1) := by decide +kernel
theorem dX10_isIn_6 : decode cX10_isIn 6 = .ok (.iload_n 2, 1) := by decide +kernel
theorem dX10_isIn_7 : decode cX10_isIn 7 = .ok (.if_icmp .gt 7, 3) := by decide +kernel
theorem dX10_isIn_10 : decode cX10_isIn 10 = .ok (.iconst 1, 1) := by decide +kernel
theorem dX10_isIn_11 : decode cX10_isIn 11 = .ok (.goto 4, 3) := by decide +kernel
theorem dX10_isIn_14 : decode cX10_isIn 14 = .ok (.iconst 0, 1) := by decide +kernel
theorem dX10_isIn_15 : decode cX10_isIn 15 = .ok (.ireturn, 1) := by decide +kernel
theorem dX10_isOpen_0 : decode cX10_isOpen 0 = .ok (.aload_n 0, 1) := by decide +kernel
theorem dX10_isOpen_1 : decode cX10_isOpen 1 = .ok (.getfield 98, 3) := by decide +kernel
theorem dX10_isOpen_4 : decode cX10_isOpen 4 = .ok (.bipush 85, 2) := by decide +kernel
theorem dX10_isOpen_6 : decode cX10_isOpen 6 = .ok (.iaload, 1) := by decide +kernel
theorem dX10_isOpen_7 : decode cX10_isOpen 7 = .ok (.iload_n 1, 1) := by decide +kernel
theorem dX10_isOpen_8 : decode cX10_isOpen 8 = .ok (.invokestatic 203, 3) := by decide +kernel
theorem dX10_isOpen_11 : decode cX10_isOpen 11 = .ok (.ireturn, 1) := by decide +kernel
theorem dX10_isParcel_0 : decode cX10_isParcel 0 = .ok (.iload_n 1, 1) := by decide +kernel
theorem dX10_isParcel_1 : decode cX10_isParcel 1 = .ok (.iconst 0, 1) := by decide +kernel
theorem dX10_isParcel_2 : decode cX10_isParcel 2 = .ok (.aload_n 0, 1) := by decide +kernel
theorem dX10_isParcel_3 : decode cX10_isParcel 3 = .ok (.getfield 98, 3) := by decide +kernel
theorem dX10_isParcel_6 : decode cX10_isParcel 6 = .ok (.iconst 2, 1) := by decide +kernel
theorem dX10_isParcel_7 : decode cX10_isParcel 7 = .ok (.iaload, 1) := by decide +kernel
theorem dX10_isParcel_8 : decode cX10_isParcel 8 = .ok (.iconst 1, 1) := by decide +kernel
theorem dX10_isParcel_9 : decode cX10_isParcel 9 = .ok (.isub, 1) := by decide +kernel
theorem dX10_isParcel_10 : decode cX10_isParcel 10 = .ok (.invokestatic 75, 3) := by decide +kernel
theorem dX10_isParcel_13 : decode cX10_isParcel 13 = .ok (.ireturn, 1) := by decide +kernel
theorem dX10_isPerson_0 : decode cX10_isPerson 0 = .ok (.iload_n 1, 1) := by decide +kernel
theorem dX10_isPerson_1 : decode cX10_isPerson 1 = .ok (.iconst 0, 1) := by decide +kernel
theorem dX10_isPerson_2 : decode cX10_isPerson 2 = .ok (.aload_n 0, 1) := by decide +kernel
theorem dX10_isPerson_3 : decode cX10_isPerson 3 = .ok (.getfield 98, 3) := by decide +kernel
theorem dX10_isPerson_6 : decode cX10_isPerson 6 = .ok (.iconst 3, 1) := by decide +kernel
theorem dX10_isPerson_7 : decode cX10_isPerson 7 = .ok (.iaload, 1) := by decide +kernel
theorem dX10_isPerson_8 : decode cX10_isPerson 8 = .ok (.iconst 1, 1) := by decide +kernel
theorem dX10_isPerson_9 : decode cX10_isPerson 9 = .ok (.isub, 1) := by decide +kernel
theorem dX10_isPerson_10 : decode cX10_isPerson 10 = .ok (.invokestatic 75, 3) := by decide +kernel
theorem dX10_isPerson_13 : decode cX10_isPerson 13 = .ok (.ireturn, 1) := by decide +kernel
theorem dX10_isRoom_0 : decode cX10_isRoom 0 = .ok (.iload_n 1, 1) := by decide +kernel
theorem dX10_isRoom_1 : decode cX10_isRoom 1 = .ok (.iconst 0, 1) := by decide +kernel
theorem dX10_isRoom_2 : decode cX10_isRoom 2 = .ok (.aload_n 0, 1) := by decide +kernel
theorem dX10_isRoom_3 : decode cX10_isRoom 3 = .ok (.getfield 98, 3) := by decide +kernel
theorem dX10_isRoom_6 : decode cX10_isRoom 6 = .ok (.iconst 1, 1) := by decide +kernel
theorem dX10_isRoom_7 : decode cX10_isRoom 7 = .ok (.iaload, 1) := by decide +kernel
theorem dX10_isRoom_8 : decode cX10_isRoom 8 = .ok (.iconst 1, 1) := by decide +kernel
theorem dX10_isRoom_9 : decode cX10_isRoom 9 = .ok (.isub, 1) := by decide +kernel
theorem dX10_isRoom_10 : decode cX10_isRoom 10 = .ok (.invokestatic 75, 3) := by decide +kernel
theorem dX10_isRoom_13 : decode cX10_isRoom 13 = .ok (.ireturn, 1) := by decide +kernel
theorem dX10_layAside_0 : decode cX10_layAside 0 = .ok (.iconst 0, 1) := by decide +kernel
theorem dX10_layAside_1 : decode cX10_layAside 1 = .ok (.istore_n 1, 1) := by decide +kernel
theorem dX10_layAside_2 : decode cX10_layAside 2 = .ok (.iload_n 1, 1) := by decide +kernel
theorem dX10_layAside_3 : decode cX10_layAside 3 = .ok (.bipush 88, 2) := by decide +kernel
theorem dX10_layAside_5 : decode cX10_layAside 5 = .ok (.if_icmp .ge 24, 3) := by decide +kernel
theorem dX10_layAside_8 : decode cX10_layAside 8 = .ok (.aload_n 0, 1) := by decide +kernel
theorem dX10_layAside_9 : decode cX10_layAside 9 = .ok (.getfield 110, 3) := by decide +kernel
theorem dX10_layAside_12 : decode cX10_layAside 12 = .ok (.iload_n 1, 1) := by decide +kernel
theorem dX10_layAside_13 : decode cX10_layAside 13 = .ok (.aload_n 0, 1) := by decide +kernel
theorem dX10_layAside_14 : decode cX10_layAside 14 = .ok (.getfield 98, 3) := by decide +kernel
theorem dX10_layAside_17 : decode cX10_layAside 17 = .ok (.bipush 84, 2) := by decide +kernel
theorem dX10_layAside_19 : decode cX10_layAside 19 = .ok (.iload_n 1, 1) := by decide +kernel
theorem dX10_layAside_20 : decode cX10_layAside 20 = .ok (.iadd, 1) := by decide +kernel
theorem dX10_layAside_21 : decode cX10_layAside 21 = .ok (.iaload, 1) := by decide +kernel
theorem dX10_layAside_22 : decode cX10_layAside 22 = .ok (.iastore, 1) := by decide +kernel
theorem dX10_layAside_23 : decode cX10_layAside 23 = .ok (.iinc 1 1, 3) := by decide +kernel
theorem dX10_layAside_26 : decode cX10_layAside 26 = .ok (.goto (-24), 3) := by decide +kernel
theorem dX10_layAside_29 : decode cX10_layAside 29 = .ok (.return_, 1) := by decide +kernel
theorem dX10_least_0 : decode cX10_least 0 = .ok (.iload_n 0, 1) := by decide +kernel
theorem dX10_least_1 : decode cX10_least 1 = .ok (.iload_n 1, 1) := by decide +kernel
theorem dX10_least_2 : decode cX10_least 2 = .ok (.if_icmp .ge 7, 3) := by decide +kernel
theorem dX10_least_5 : decode cX10_least 5 = .ok (.iload_n 0, 1) := by decide +kernel
theorem dX10_least_6 : decode cX10_least 6 = .ok (.goto 4, 3) := by decide +kernel
theorem dX10_least_9 : decode cX10_least 9 = .ok (.iload_n 1, 1) := by decide +kernel
theorem dX10_least_10 : decode cX10_least 10 = .ok (.ireturn, 1) := by decide +kernel
theorem dX10_less_0 : decode cX10_less 0 = .ok (.aload_n 0, 1) := by decide +kernel
theorem dX10_less_1 : decode cX10_less 1 = .ok (.getfield 98, 3) := by decide +kernel
theorem dX10_less_4 : decode cX10_less 4 = .ok (.sipush 136, 3) := by decide +kernel
theorem dX10_less_7 : decode cX10_less 7 = .ok (.bipush 6, 2) := by decide +kernel
theorem dX10_less_9 : decode cX10_less 9 = .ok (.iload_n 1, 1) := by decide +kernel
theorem dX10_less_10 : decode cX10_less 10 = .ok (.imul, 1) := by decide +kernel
theorem dX10_less_11 : decode cX10_less 11 = .ok (.iadd, 1) := by decide +kernel
theorem dX10_less_12 : decode cX10_less 12 = .ok (.iload_n 2, 1) := by decide +kernel
theorem dX10_less_13 : decode cX10_less 13 = .ok (.iadd, 1) := by decide +kernel
theorem dX10_less_14 : decode cX10_less 14 = .ok (.aload_n 0, 1) := by decide +kernel
theorem dX10_less_15 : decode cX10_less 15 = .ok (.iload_n 1, 1) := by decide +kernel
theorem dX10_less_16 : decode cX10_less 16 = .ok (.iload_n 2, 1) := by decide +kernel
theorem dX10_less_17 : decode cX10_less 17 = .ok (.invokevirtual 249, 3) := by decide +kernel
theorem dX10_less_20 : decode cX10_less 20 = .ok (.aload_n 0, 1) := by decide +kernel
theorem dX10_less_21 : decode cX10_less 21 = .ok (.getfield 98, 3) := by decide +kernel
theorem dX10_less_24 : decode cX10_less 24 = .ok (.iconst 5, 1) := by decide +kernel
theorem dX10_less_25 : decode cX10_less 25 = .ok (.iaload, 1) := by decide +kernel
theorem dX10_less_26 : decode cX10_less 26 = .ok (.if_icmp .ge 7, 3) := by decide +kernel
theorem dX10_less_29 : decode cX10_less 29 = .ok (.iconst 0, 1) := by decide +kernel
theorem dX10_less_30 : decode cX10_less 30 = .ok (.goto 16, 3) := by decide +kernel
theorem dX10_less_33 : decode cX10_less 33 = .ok (.aload_n 0, 1) := by decide +kernel
theorem dX10_less_34 : decode cX10_less 34 = .ok (.iload_n 1, 1) := by decide +kernel
theorem dX10_less_35 : decode cX10_less 35 = .ok (.iload_n 2, 1) := by decide +kernel
theorem dX10_less_36 : decode cX10_less 36 = .ok (.invokevirtual 249, 3) := by decide +kernel
theorem dX10_less_39 : decode cX10_less 39 = .ok (.aload_n 0, 1) := by decide +kernel
theorem dX10_less_40 : decode cX10_less 40 = .ok (.getfield 98, 3) := by decide +kernel
theorem dX10_less_43 : decode cX10_less 43 = .ok (.iconst 5, 1) := by decide +kernel
theorem dX10_less_44 : decode cX10_less 44 = .ok (.iaload, 1) := by decide +kernel
theorem dX10_less_45 : decode cX10_less 45 = .ok (.isub, 1) := by decide +kernel
theorem dX10_less_46 : decode cX10_less 46 = .ok (.iastore, 1) := by decide +kernel
theorem dX10_less_47 : decode cX10_less 47 = .ok (.return_, 1) := by decide +kernel
theorem dX10_live_0 : decode cX10_live 0 = .ok (.iload_n 1, 1) := by decide +kernel
theorem dX10_live_1 : decode cX10_live 1 = .ok (.tableswitch 89 0 4 #[35, 46, 57, 68, 75], 35) := by decide +kernel
theorem dX10_live_36 : decode cX10_live 36 = .ok (.aload_n 0, 1) := by decide +kernel
theorem dX10_live_37 : decode cX10_live 37 = .ok (.getfield 98, 3) := by decide +kernel
theorem dX10_live_40 : decode cX10_live 40 = .ok (.bipush 112, 2) := by decide +kernel
theorem dX10_live_42 : decode cX10_live 42 = .ok (.iload_n 2, 1) := by decide +kernel
theorem dX10_live_43 : decode cX10_live 43 = .ok (.iadd, 1) := by decide +kernel
theorem dX10_live_44 : decode cX10_live 44 = .ok (.iload_n 3, 1) := by decide +kernel
theorem dX10_live_45 : decode cX10_live 45 = .ok (.iastore, 1) := by decide +kernel
theorem dX10_live_46 : decode cX10_live 46 = .ok (.return_, 1) := by decide +kernel
theorem dX10_live_47 : decode cX10_live 47 = .ok (.aload_n 0, 1) := by decide +kernel
theorem dX10_live_48 : decode cX10_live 48 = .ok (.getfield 98, 3) := by decide +kernel
theorem dX10_live_51 : decode cX10_live 51 = .ok (.bipush 112, 2) := by decide +kernel
theorem dX10_live_53 : decode cX10_live 53 = .ok (.iload_n 2, 1) := by decide +kernel
theorem dX10_live_54 : decode cX10_live 54 = .ok (.iadd, 1) := by decide +kernel
theorem dX10_live_55 : decode cX10_live 55 = .ok (.iconst (-1), 1) := by decide +kernel
theorem dX10_live_56 : decode cX10_live 56 = .ok (.iastore, 1) := by decide +kernel
theorem dX10_live_57 : decode cX10_live 57 = .ok (.return_, 1) := by decide +kernel
theorem dX10_live_58 : decode cX10_live 58 = .ok (.aload_n 0, 1) := by decide +kernel
theorem dX10_live_59 : decode cX10_live 59 = .ok (.getfield 98, 3) := by decide +kernel
theorem dX10_live_62 : decode cX10_live 62 = .ok (.bipush 104, 2) := by decide +kernel
theorem dX10_live_64 : decode cX10_live 64 = .ok (.iload_n 2, 1) := by decide +kernel
theorem dX10_live_65 : decode cX10_live 65 = .ok (.iadd, 1) := by decide +kernel
theorem dX10_live_66 : decode cX10_live 66 = .ok (.iload_n 3, 1) := by decide +kernel
theorem dX10_live_67 : decode cX10_live 67 = .ok (.iastore, 1) := by decide +kernel
theorem dX10_live_68 : decode cX10_live 68 = .ok (.return_, 1) := by decide +kernel
theorem dX10_live_69 : decode cX10_live 69 = .ok (.aload_n 0, 1) := by decide +kernel
theorem dX10_live_70 : decode cX10_live 70 = .ok (.iload_n 2, 1) := by decide +kernel
theorem dX10_live_71 : decode cX10_live 71 = .ok (.iload_n 3, 1) := by decide +kernel
theorem dX10_live_72 : decode cX10_live 72 = .ok (.invokevirtual 294, 3) := by decide +kernel
theorem dX10_live_75 : decode cX10_live 75 = .ok (.return_, 1) := by decide +kernel
theorem dX10_live_76 : decode cX10_live 76 = .ok (.aload_n 0, 1) := by decide +kernel
theorem dX10_live_77 : decode cX10_live 77 = .ok (.getfield 98, 3) := by decide +kernel
theorem dX10_live_80 : decode cX10_live 80 = .ok (.bipush 85, 2) := by decide +kernel
theorem dX10_live_82 : decode cX10_live 82 = .ok (.dup2, 1) := by decide +kernel
theorem dX10_live_83 : decode cX10_live 83 = .ok (.iaload, 1) := by decide +kernel
theorem dX10_live_84 : decode cX10_live 84 = .ok (.iconst 1, 1) := by decide +kernel
theorem dX10_live_85 : decode cX10_live 85 = .ok (.iload_n 2, 1) := by decide +kernel
theorem dX10_live_86 : decode cX10_live 86 = .ok (.ishl, 1) := by decide +kernel
theorem dX10_live_87 : decode cX10_live 87 = .ok (.ior, 1) := by decide +kernel
theorem dX10_live_88 : decode cX10_live 88 = .ok (.iastore, 1) := by decide +kernel
theorem dX10_live_89 : decode cX10_live 89 = .ok (.return_, 1) := by decide +kernel
theorem dX10_live_90 : decode cX10_live 90 = .ok (.aload_n 0, 1) := by decide +kernel
theorem dX10_live_91 : decode cX10_live 91 = .ok (.getfield 98, 3) := by decide +kernel
theorem dX10_live_94 : decode cX10_live 94 = .ok (.bipush 86, 2) := by decide +kernel
theorem dX10_live_96 : decode cX10_live 96 = .ok (.iload_n 2, 1) := by decide +kernel
theorem dX10_live_97 : decode cX10_live 97 = .ok (.iadd, 1) := by decide +kernel
theorem dX10_live_98 : decode cX10_live 98 = .ok (.iload_n 3, 1) := by decide +kernel
theorem dX10_live_99 : decode cX10_live 99 = .ok (.iastore, 1) := by decide +kernel
theorem dX10_live_100 : decode cX10_live 100 = .ok (.return_, 1) := by decide +kernel
theorem dX10_much_0 : decode cX10_much 0 = .ok (.aload_n 0, 1) := by decide +kernel
theorem dX10_much_1 : decode cX10_much 1 = .ok (.iconst 0, 1) := by decide +kernel
theorem dX10_much_2 : decode cX10_much 2 = .ok (.putfield 1, 3) := by decide +kernel
theorem dX10_much_5 : decode cX10_much 5 = .ok (.aload_n 0, 1) := by decide +kernel
theorem dX10_much_6 : decode cX10_much 6 = .ok (.iload_n 1, 1) := by decide +kernel
theorem dX10_much_7 : decode cX10_much 7 = .ok (.invokevirtual 256, 3) := by decide +kernel
theorem dX10_much_10 : decode cX10_much 10 = .ok (.ifCond .eq 20, 3) := by decide +kernel
theorem dX10_much_13 : decode cX10_much 13 = .ok (.aload_n 0, 1) := by decide +kernel
theorem dX10_much_14 : decode cX10_much 14 = .ok (.iload_n 2, 1) := by decide +kernel
theorem dX10_much_15 : decode cX10_much 15 = .ok (.invokevirtual 259, 3) := by decide +kernel
theorem dX10_much_18 : decode cX10_much 18 = .ok (.ifCond .eq 12, 3) := by decide +kernel
theorem dX10_much_21 : decode cX10_much 21 = .ok (.aload_n 0, 1) := by decide +kernel
theorem dX10_much_22 : decode cX10_much 22 = .ok (.iload_n 1, 1) := by decide +kernel
theorem dX10_much_23 : decode cX10_much 23 = .ok (.iload_n 2, 1) := by decide +kernel
theorem dX10_much_24 : decode cX10_much 24 = .ok (.invokevirtual 249, 3) := by decide +kernel
theorem dX10_much_27 : decode cX10_much 27 = .ok (.goto 4, 3) := by decide +kernel
theorem dX10_much_30 : decode cX10_much 30 = .ok (.iconst (-1), 1) := by decide +kernel
theorem dX10_much_31 : decode cX10_much 31 = .ok (.ireturn, 1) := by decide +kernel
theorem dX10_muchOf_0 : decode cX10_muchOf 0 = .ok (.aload_n 0, 1) := by decide +kernel
theorem dX10_muchOf_1 : decode cX10_muchOf 1 = .ok (.getfield 98, 3) := by decide +kernel
theorem dX10_muchOf_4 : decode cX10_muchOf 4 = .ok (.sipush 136, 3) := by decide +kernel
theorem dX10_muchOf_7 : decode cX10_muchOf 7 = .ok (.bipush 6, 2) := by decide +kernel
theorem dX10_muchOf_9 : decode cX10_muchOf 9 = .ok (.iload_n 1, 1) := by decide +kernel
theorem dX10_muchOf_10 : decode cX10_muchOf 10 = .ok (.imul, 1) := by decide +kernel
theorem dX10_muchOf_11 : decode cX10_muchOf 11 = .ok (.iadd, 1) := by decide +kernel
theorem dX10_muchOf_12 : decode cX10_muchOf 12 = .ok (.iload_n 2, 1) := by decide +kernel
theorem dX10_muchOf_13 : decode cX10_muchOf 13 = .ok (.iadd, 1) := by decide +kernel
theorem dX10_muchOf_14 : decode cX10_muchOf 14 = .ok (.iaload, 1) := by decide +kernel
theorem dX10_muchOf_15 : decode cX10_muchOf 15 = .ok (.ireturn, 1) := by decide +kernel
theorem dX10_need_0 : decode cX10_need 0 = .ok (.aload_n 0, 1) := by decide +kernel
theorem dX10_need_1 : decode cX10_need 1 = .ok (.iconst 0, 1) := by decide +kernel
theorem dX10_need_2 : decode cX10_need 2 = .ok (.putfield 1, 3) := by decide +kernel
theorem dX10_need_5 : decode cX10_need 5 = .ok (.aload_n 0, 1) := by decide +kernel
theorem dX10_need_6 : decode cX10_need 6 = .ok (.iload_n 1, 1) := by decide +kernel
theorem dX10_need_7 : decode cX10_need 7 = .ok (.invokevirtual 259, 3) := by decide +kernel
theorem dX10_need_10 : decode cX10_need 10 = .ok (.ifCond .eq 15, 3) := by decide +kernel
theorem dX10_need_13 : decode cX10_need 13 = .ok (.aload_n 0, 1) := by decide +kernel
theorem dX10_need_14 : decode cX10_need 14 = .ok (.getfield 98, 3) := by decide +kernel
theorem dX10_need_17 : decode cX10_need 17 = .ok (.bipush 6, 2) := by decide +kernel
theorem dX10_need_19 : decode cX10_need 19 = .ok (.iload_n 1, 1) := by decide +kernel
theorem dX10_need_20 : decode cX10_need 20 = .ok (.iadd, 1) := by decide +kernel
theorem dX10_need_21 : decode cX10_need 21 = .ok (.iaload, 1) := by decide +kernel
theorem dX10_need_22 : decode cX10_need 22 = .ok (.goto 4, 3) := by decide +kernel
theorem dX10_need_25 : decode cX10_need 25 = .ok (.iconst (-1), 1) := by decide +kernel
theorem dX10_need_26 : decode cX10_need 26 = .ok (.ireturn, 1) := by decide +kernel
theorem dX10_nothings_0 : decode cX10_nothings 0 = .ok (.iconst 0, 1) := by decide +kernel
theorem dX10_nothings_1 : decode cX10_nothings 1 = .ok (.istore_n 1, 1) := by decide +kernel
theorem dX10_nothings_2 : decode cX10_nothings 2 = .ok (.iconst 0, 1) := by decide +kernel
theorem dX10_nothings_3 : decode cX10_nothings 3 = .ok (.istore_n 2, 1) := by decide +kernel
theorem dX10_nothings_4 : decode cX10_nothings 4 = .ok (.iload_n 2, 1) := by decide +kernel
theorem dX10_nothings_5 : decode cX10_nothings 5 = .ok (.aload_n 0, 1) := by decide +kernel
theorem dX10_nothings_6 : decode cX10_nothings 6 = .ok (.getfield 98, 3) := by decide +kernel
theorem dX10_nothings_9 : decode cX10_nothings 9 = .ok (.iconst 2, 1) := by decide +kernel
theorem dX10_nothings_10 : decode cX10_nothings 10 = .ok (.iaload, 1) := by decide +kernel
theorem dX10_nothings_11 : decode cX10_nothings 11 = .ok (.if_icmp .ge 24, 3) := by decide +kernel
theorem dX10_nothings_14 : decode cX10_nothings 14 = .ok (.aload_n 0, 1) := by decide +kernel
theorem dX10_nothings_15 : decode cX10_nothings 15 = .ok (.iload_n 2, 1) := by decide +kernel
theorem dX10_nothings_16 : decode cX10_nothings 16 = .ok (.invokevirtual 253, 3) := by decide +kernel
theorem dX10_nothings_19 : decode cX10_nothings 19 = .ok (.iconst (-1), 1) := by decide +kernel
theorem dX10_nothings_20 : decode cX10_nothings 20 = .ok (.if_icmp .ne 9, 3) := by decide +kernel
theorem dX10_nothings_23 : decode cX10_nothings 23 = .ok (.iload_n 1, 1) := by decide +kernel
theorem dX10_nothings_24 : decode cX10_nothings 24 = .ok (.iconst 1, 1) := by decide +kernel
theorem dX10_nothings_25 : decode cX10_nothings 25 = .ok (.iload_n 2, 1) := by decide +kernel
theorem dX10_nothings_26 : decode cX10_nothings 26 = .ok (.ishl, 1) := by decide +kernel
theorem dX10_nothings_27 : decode cX10_nothings 27 = .ok (.ior, 1) := by decide +kernel
theorem dX10_nothings_28 : decode cX10_nothings 28 = .ok (.istore_n 1, 1) := by decide +kernel
theorem dX10_nothings_29 : decode cX10_nothings 29 = .ok (.iinc 2 1, 3) := by decide +kernel
theorem dX10_nothings_32 : decode cX10_nothings 32 = .ok (.goto (-28), 3) := by decide +kernel
theorem dX10_nothings_35 : decode cX10_nothings 35 = .ok (.iload_n 1, 1) := by decide +kernel
theorem dX10_nothings_36 : decode cX10_nothings 36 = .ok (.ireturn, 1) := by decide +kernel
theorem dX10_now_0 : decode cX10_now 0 = .ok (.aload_n 0, 1) := by decide +kernel
theorem dX10_now_1 : decode cX10_now 1 = .ok (.iconst 0, 1) := by decide +kernel
theorem dX10_now_2 : decode cX10_now 2 = .ok (.putfield 1, 3) := by decide +kernel
theorem dX10_now_5 : decode cX10_now 5 = .ok (.iconst 0, 1) := by decide +kernel
theorem dX10_now_6 : decode cX10_now 6 = .ok (.istore_n 2, 1) := by decide +kernel
theorem dX10_now_7 : decode cX10_now 7 = .ok (.iload_n 1, 1) := by decide +kernel
theorem dX10_now_8 : decode cX10_now 8 = .ok (.tableswitch 127 0 6 #[44, 52, 60, 65, 99, 109, 118], 44) := by decide +kernel
theorem dX10_now_52 : decode cX10_now 52 = .ok (.aload_n 0, 1) := by decide +kernel
theorem dX10_now_53 : decode cX10_now 53 = .ok (.getfield 98, 3) := by decide +kernel
theorem dX10_now_56 : decode cX10_now 56 = .ok (.bipush 84, 2) := by decide +kernel
theorem dX10_now_58 : decode cX10_now 58 = .ok (.iaload, 1) := by decide +kernel
theorem dX10_now_59 : decode cX10_now 59 = .ok (.ireturn, 1) := by decide +kernel
theorem dX10_now_60 : decode cX10_now 60 = .ok (.aload_n 0, 1) := by decide +kernel
theorem dX10_now_61 : decode cX10_now 61 = .ok (.getfield 98, 3) := by decide +kernel
theorem dX10_now_64 : decode cX10_now 64 = .ok (.bipush 85, 2) := by decide +kernel
theorem dX10_now_66 : decode cX10_now 66 = .ok (.iaload, 1) := by decide +kernel
theorem dX10_now_67 : decode cX10_now 67 = .ok (.ireturn, 1) := by decide +kernel
theorem dX10_now_68 : decode cX10_now 68 = .ok (.aload_n 0, 1) := by decide +kernel
theorem dX10_now_69 : decode cX10_now 69 = .ok (.invokevirtual 277, 3) := by decide +kernel
theorem dX10_now_72 : decode cX10_now 72 = .ok (.ireturn, 1) := by decide +kernel
theorem dX10_now_73 : decode cX10_now 73 = .ok (.iconst 0, 1) := by decide +kernel
theorem dX10_now_74 : decode cX10_now 74 = .ok (.istore_n 3, 1) := by decide +kernel
theorem dX10_now_75 : decode cX10_now 75 = .ok (.iload_n 3, 1) := by decide +kernel
theorem dX10_now_76 : decode cX10_now 76 = .ok (.aload_n 0, 1) := by decide +kernel
theorem dX10_now_77 : decode cX10_now 77 = .ok (.getfield 98, 3) := by decide +kernel
theorem dX10_now_80 : decode cX10_now 80 = .ok (.iconst 2, 1) := by decide +kernel
theorem dX10_now_81 : decode cX10_now 81 = .ok (.iaload, 1) := by decide +kernel
theorem dX10_now_82 : decode cX10_now 82 = .ok (.if_icmp .ge 23, 3) := by decide +kernel
theorem dX10_now_85 : decode cX10_now 85 = .ok (.aload_n 0, 1) := by decide +kernel
theorem dX10_now_86 : decode cX10_now 86 = .ok (.iload_n 3, 1) := by decide +kernel
theorem dX10_now_87 : decode cX10_now 87 = .ok (.invokevirtual 271, 3) := by decide +kernel
theorem dX10_now_90 : decode cX10_now 90 = .ok (.ifCond .eq 9, 3) := by decide +kernel
theorem dX10_now_93 : decode cX10_now 93 = .ok (.iload_n 2, 1) := by decide +kernel
theorem dX10_now_94 : decode cX10_now 94 = .ok (.iconst 1, 1) := by decide +kernel
theorem dX10_now_95 : decode cX10_now 95 = .ok (.iload_n 3, 1) := by decide +kernel
theorem dX10_now_96 : decode cX10_now 96 = .ok (.ishl, 1) := by decide +kernel
theorem dX10_now_97 : decode cX10_now 97 = .ok (.ior, 1) := by decide +kernel
theorem dX10_now_98 : decode cX10_now 98 = .ok (.istore_n 2, 1) := by decide +kernel
theorem dX10_now_99 : decode cX10_now 99 = .ok (.iinc 3 1, 3) := by decide +kernel
theorem dX10_now_102 : decode cX10_now 102 = .ok (.goto (-27), 3) := by decide +kernel
theorem dX10_now_105 : decode cX10_now 105 = .ok (.iload_n 2, 1) := by decide +kernel
theorem dX10_now_106 : decode cX10_now 106 = .ok (.ireturn, 1) := by decide +kernel
theorem dX10_now_107 : decode cX10_now 107 = .ok (.aload_n 0, 1) := by decide +kernel
theorem dX10_now_108 : decode cX10_now 108 = .ok (.sipush 136, 3) := by decide +kernel
theorem dX10_now_111 : decode cX10_now 111 = .ok (.bipush 36, 2) := by decide +kernel
theorem dX10_now_113 : decode cX10_now 113 = .ok (.invokevirtual 280, 3) := by decide +kernel
theorem dX10_now_116 : decode cX10_now 116 = .ok (.ireturn, 1) := by decide +kernel
theorem dX10_now_117 : decode cX10_now 117 = .ok (.aload_n 0, 1) := by decide +kernel
theorem dX10_now_118 : decode cX10_now 118 = .ok (.bipush 92, 2) := by decide +kernel
theorem dX10_now_120 : decode cX10_now 120 = .ok (.bipush 6, 2) := by decide +kernel
theorem dX10_now_122 : decode cX10_now 122 = .ok (.invokevirtual 280, 3) := by decide +kernel
theorem dX10_now_125 : decode cX10_now 125 = .ok (.ireturn, 1) := by decide +kernel
theorem dX10_now_126 : decode cX10_now 126 = .ok (.aload_n 0, 1) := by decide +kernel
theorem dX10_now_127 : decode cX10_now 127 = .ok (.bipush 98, 2) := by decide +kernel
theorem dX10_now_129 : decode cX10_now 129 = .ok (.bipush 6, 2) := by decide +kernel
theorem dX10_now_131 : decode cX10_now 131 = .ok (.invokevirtual 280, 3) := by decide +kernel
theorem dX10_now_134 : decode cX10_now 134 = .ok (.ireturn, 1) := by decide +kernel
theorem dX10_now_135 : decode cX10_now 135 = .ok (.iconst (-1), 1) := by decide +kernel
theorem dX10_now_136 : decode cX10_now 136 = .ok (.ireturn, 1) := by decide +kernel
theorem dX10_oneDay_0 : decode cX10_oneDay 0 = .ok (.iconst 0, 1) := by decide +kernel
theorem dX10_oneDay_1 : decode cX10_oneDay 1 = .ok (.istore_n 1, 1) := by decide +kernel
theorem dX10_oneDay_2 : decode cX10_oneDay 2 = .ok (.iload_n 1, 1) := by decide +kernel
theorem dX10_oneDay_3 : decode cX10_oneDay 3 = .ok (.aload_n 0, 1) := by decide +kernel
theorem dX10_oneDay_4 : decode cX10_oneDay 4 = .ok (.getfield 98, 3) := by decide +kernel
theorem dX10_oneDay_7 : decode cX10_oneDay 7 = .ok (.iconst 2, 1) := by decide +kernel
theorem dX10_oneDay_8 : decode cX10_oneDay 8 = .ok (.iaload, 1) := by decide +kernel
theorem dX10_oneDay_9 : decode cX10_oneDay 9 = .ok (.if_icmp .ge 20, 3) := by decide +kernel
theorem dX10_oneDay_12 : decode cX10_oneDay 12 = .ok (.aload_n 0, 1) := by decide +kernel
theorem dX10_oneDay_13 : decode cX10_oneDay 13 = .ok (.getfield 133, 3) := by decide +kernel
theorem dX10_oneDay_16 : decode cX10_oneDay 16 = .ok (.iload_n 1, 1) := by decide +kernel
theorem dX10_oneDay_17 : decode cX10_oneDay 17 = .ok (.aload_n 0, 1) := by decide +kernel
theorem dX10_oneDay_18 : decode cX10_oneDay 18 = .ok (.iload_n 1, 1) := by decide +kernel
theorem dX10_oneDay_19 : decode cX10_oneDay 19 = .ok (.invokevirtual 253, 3) := by decide +kernel
theorem dX10_oneDay_22 : decode cX10_oneDay 22 = .ok (.iastore, 1) := by decide +kernel
theorem dX10_oneDay_23 : decode cX10_oneDay 23 = .ok (.iinc 1 1, 3) := by decide +kernel
theorem dX10_oneDay_26 : decode cX10_oneDay 26 = .ok (.goto (-24), 3) := by decide +kernel
theorem dX10_oneDay_29 : decode cX10_oneDay 29 = .ok (.iconst 0, 1) := by decide +kernel
theorem dX10_oneDay_30 : decode cX10_oneDay 30 = .ok (.istore_n 1, 1) := by decide +kernel
theorem dX10_oneDay_31 : decode cX10_oneDay 31 = .ok (.iload_n 1, 1) := by decide +kernel
theorem dX10_oneDay_32 : decode cX10_oneDay 32 = .ok (.aload_n 0, 1) := by decide +kernel
theorem dX10_oneDay_33 : decode cX10_oneDay 33 = .ok (.getfield 98, 3) := by decide +kernel
theorem dX10_oneDay_36 : decode cX10_oneDay 36 = .ok (.iconst 3, 1) := by decide +kernel
theorem dX10_oneDay_37 : decode cX10_oneDay 37 = .ok (.iaload, 1) := by decide +kernel
theorem dX10_oneDay_38 : decode cX10_oneDay 38 = .ok (.if_icmp .ge 14, 3) := by decide +kernel
theorem dX10_oneDay_41 : decode cX10_oneDay 41 = .ok (.aload_n 0, 1) := by decide +kernel
theorem dX10_oneDay_42 : decode cX10_oneDay 42 = .ok (.iload_n 1, 1) := by decide +kernel
theorem dX10_oneDay_43 : decode cX10_oneDay 43 = .ok (.invokevirtual 316, 3) := by decide +kernel
theorem dX10_oneDay_46 : decode cX10_oneDay 46 = .ok (.iinc 1 1, 3) := by decide +kernel
theorem dX10_oneDay_49 : decode cX10_oneDay 49 = .ok (.goto (-18), 3) := by decide +kernel
theorem dX10_oneDay_52 : decode cX10_oneDay 52 = .ok (.iconst 0, 1) := by decide +kernel
theorem dX10_oneDay_53 : decode cX10_oneDay 53 = .ok (.istore_n 1, 1) := by decide +kernel
theorem dX10_oneDay_54 : decode cX10_oneDay 54 = .ok (.iload_n 1, 1) := by decide +kernel
theorem dX10_oneDay_55 : decode cX10_oneDay 55 = .ok (.aload_n 0, 1) := by decide +kernel
theorem dX10_oneDay_56 : decode cX10_oneDay 56 = .ok (.getfield 98, 3) := by decide +kernel
theorem dX10_oneDay_59 : decode cX10_oneDay 59 = .ok (.iconst 2, 1) := by decide +kernel
theorem dX10_oneDay_60 : decode cX10_oneDay 60 = .ok (.iaload, 1) := by decide +kernel
theorem dX10_oneDay_61 : decode cX10_oneDay 61 = .ok (.if_icmp .ge 81, 3) := by decide +kernel
theorem dX10_oneDay_64 : decode cX10_oneDay 64 = .ok (.aload_n 0, 1) := by decide +kernel
theorem dX10_oneDay_65 : decode cX10_oneDay 65 = .ok (.iload_n 1, 1) := by decide +kernel
theorem dX10_oneDay_66 : decode cX10_oneDay 66 = .ok (.invokevirtual 268, 3) := by decide +kernel
theorem dX10_oneDay_69 : decode cX10_oneDay 69 = .ok (.ifCond .ne 40, 3) := by decide +kernel
theorem dX10_oneDay_72 : decode cX10_oneDay 72 = .ok (.aload_n 0, 1) := by decide +kernel
theorem dX10_oneDay_73 : decode cX10_oneDay 73 = .ok (.aload_n 0, 1) := by decide +kernel
theorem dX10_oneDay_74 : decode cX10_oneDay 74 = .ok (.iload_n 1, 1) := by decide +kernel
theorem dX10_oneDay_75 : decode cX10_oneDay 75 = .ok (.invokevirtual 271, 3) := by decide +kernel
theorem dX10_oneDay_78 : decode cX10_oneDay 78 = .ok (.invokevirtual 319, 3) := by decide +kernel
theorem dX10_oneDay_81 : decode cX10_oneDay 81 = .ok (.ifCond .eq 28, 3) := by decide +kernel
theorem dX10_oneDay_84 : decode cX10_oneDay 84 = .ok (.aload_n 0, 1) := by decide +kernel
theorem dX10_oneDay_85 : decode cX10_oneDay 85 = .ok (.getfield 98, 3) := by decide +kernel
theorem dX10_oneDay_88 : decode cX10_oneDay 88 = .ok (.bipush 92, 2) := by decide +kernel
theorem dX10_oneDay_90 : decode cX10_oneDay 90 = .ok (.iload_n 1, 1) := by decide +kernel
theorem dX10_oneDay_91 : decode cX10_oneDay 91 = .ok (.iadd, 1) := by decide +kernel
theorem dX10_oneDay_92 : decode cX10_oneDay 92 = .ok (.bipush 99, 2) := by decide +kernel
theorem dX10_oneDay_94 : decode cX10_oneDay 94 = .ok (.aload_n 0, 1) := by decide +kernel
theorem dX10_oneDay_95 : decode cX10_oneDay 95 = .ok (.getfield 98, 3) := by decide +kernel
theorem dX10_oneDay_98 : decode cX10_oneDay 98 = .ok (.bipush 92, 2) := by decide +kernel
theorem dX10_oneDay_100 : decode cX10_oneDay 100 = .ok (.iload_n 1, 1) := by decide +kernel
theorem dX10_oneDay_101 : decode cX10_oneDay 101 = .ok (.iadd, 1) := by decide +kernel
theorem dX10_oneDay_102 : decode cX10_oneDay 102 = .ok (.iaload, 1) := by decide +kernel
theorem dX10_oneDay_103 : decode cX10_oneDay 103 = .ok (.iconst 1, 1) := by decide +kernel
theorem dX10_oneDay_104 : decode cX10_oneDay 104 = .ok (.iadd, 1) := by decide +kernel
theorem dX10_oneDay_105 : decode cX10_oneDay 105 = .ok (.invokestatic 283, 3) := by decide +kernel
theorem dX10_oneDay_108 : decode cX10_oneDay 108 = .ok (.iastore, 1) := by decide +kernel
theorem dX10_oneDay_109 : decode cX10_oneDay 109 = .ok (.aload_n 0, 1) := by decide +kernel
theorem dX10_oneDay_110 : decode cX10_oneDay 110 = .ok (.iload_n 1, 1) := by decide +kernel
theorem dX10_oneDay_111 : decode cX10_oneDay 111 = .ok (.invokevirtual 253, 3) := by decide +kernel
theorem dX10_oneDay_114 : decode cX10_oneDay 114 = .ok (.aload_n 0, 1) := by decide +kernel
theorem dX10_oneDay_115 : decode cX10_oneDay 115 = .ok (.getfield 133, 3) := by decide +kernel
theorem dX10_oneDay_118 : decode cX10_oneDay 118 = .ok (.iload_n 1, 1) := by decide +kernel
theorem dX10_oneDay_119 : decode cX10_oneDay 119 = .ok (.iaload, 1) := by decide +kernel
theorem dX10_oneDay_120 : decode cX10_oneDay 120 = .ok (.if_icmp .eq 16, 3) := by decide +kernel
theorem dX10_oneDay_123 : decode cX10_oneDay 123 = .ok (.aload_n 0, 1) := by decide +kernel
theorem dX10_oneDay_124 : decode cX10_oneDay 124 = .ok (.getfield 98, 3) := by decide +kernel
theorem dX10_oneDay_127 : decode cX10_oneDay 127 = .ok (.bipush 98, 2) := by decide +kernel
theorem dX10_oneDay_129 : decode cX10_oneDay 129 = .ok (.iload_n 1, 1) := by decide +kernel
theorem dX10_oneDay_130 : decode cX10_oneDay 130 = .ok (.iadd, 1) := by decide +kernel
theorem dX10_oneDay_131 : decode cX10_oneDay 131 = .ok (.dup2, 1) := by decide +kernel
theorem dX10_oneDay_132 : decode cX10_oneDay 132 = .ok (.iaload, 1) := by decide +kernel
theorem dX10_oneDay_133 : decode cX10_oneDay 133 = .ok (.iconst 1, 1) := by decide +kernel
theorem dX10_oneDay_134 : decode cX10_oneDay 134 = .ok (.iadd, 1) := by decide +kernel
theorem dX10_oneDay_135 : decode cX10_oneDay 135 = .ok (.iastore, 1) := by decide +kernel
theorem dX10_oneDay_136 : decode cX10_oneDay 136 = .ok (.iinc 1 1, 3) := by decide +kernel
theorem dX10_oneDay_139 : decode cX10_oneDay 139 = .ok (.goto (-85), 3) := by decide +kernel
theorem dX10_oneDay_142 : decode cX10_oneDay 142 = .ok (.aload_n 0, 1) := by decide +kernel
theorem dX10_oneDay_143 : decode cX10_oneDay 143 = .ok (.getfield 98, 3) := by decide +kernel
theorem dX10_oneDay_146 : decode cX10_oneDay 146 = .ok (.bipush 84, 2) := by decide +kernel
theorem dX10_oneDay_148 : decode cX10_oneDay 148 = .ok (.dup2, 1) := by decide +kernel
theorem dX10_oneDay_149 : decode cX10_oneDay 149 = .ok (.iaload, 1) := by decide +kernel
theorem dX10_oneDay_150 : decode cX10_oneDay 150 = .ok (.iconst 1, 1) := by decide +kernel
theorem dX10_oneDay_151 : decode cX10_oneDay 151 = .ok (.iadd, 1) := by decide +kernel
theorem dX10_oneDay_152 : decode cX10_oneDay 152 = .ok (.iastore, 1) := by decide +kernel
theorem dX10_oneDay_153 : decode cX10_oneDay 153 = .ok (.return_, 1) := by decide +kernel
theorem dX10_open_0 : decode cX10_open 0 = .ok (.aload_n 0, 1) := by decide +kernel
theorem dX10_open_1 : decode cX10_open 1 = .ok (.iconst 0, 1) := by decide +kernel
theorem dX10_open_2 : decode cX10_open 2 = .ok (.putfield 1, 3) := by decide +kernel
theorem dX10_open_5 : decode cX10_open 5 = .ok (.aload_n 0, 1) := by decide +kernel
theorem dX10_open_6 : decode cX10_open 6 = .ok (.iload_n 1, 1) := by decide +kernel
theorem dX10_open_7 : decode cX10_open 7 = .ok (.invokevirtual 256, 3) := by decide +kernel
theorem dX10_open_10 : decode cX10_open 10 = .ok (.ifCond .eq 13, 3) := by decide +kernel
theorem dX10_open_13 : decode cX10_open 13 = .ok (.aload_n 0, 1) := by decide +kernel
theorem dX10_open_14 : decode cX10_open 14 = .ok (.iconst 4, 1) := by decide +kernel
theorem dX10_open_15 : decode cX10_open 15 = .ok (.iload_n 1, 1) := by decide +kernel
theorem dX10_open_16 : decode cX10_open 16 = .ok (.iconst 0, 1) := by decide +kernel
theorem dX10_open_17 : decode cX10_open 17 = .ok (.invokevirtual 307, 3) := by decide +kernel
theorem dX10_open_20 : decode cX10_open 20 = .ok (.goto 4, 3) := by decide +kernel
theorem dX10_open_23 : decode cX10_open 23 = .ok (.iconst (-1), 1) := by decide +kernel
theorem dX10_open_24 : decode cX10_open 24 = .ok (.ireturn, 1) := by decide +kernel
theorem dX10_parcel_0 : decode cX10_parcel 0 = .ok (.aload_n 0, 1) := by decide +kernel
theorem dX10_parcel_1 : decode cX10_parcel 1 = .ok (.iconst 0, 1) := by decide +kernel
theorem dX10_parcel_2 : decode cX10_parcel 2 = .ok (.putfield 1, 3) := by decide +kernel
theorem dX10_parcel_5 : decode cX10_parcel 5 = .ok (.aload_n 0, 1) := by decide +kernel
theorem dX10_parcel_6 : decode cX10_parcel 6 = .ok (.iload_n 1, 1) := by decide +kernel
theorem dX10_parcel_7 : decode cX10_parcel 7 = .ok (.invokevirtual 256, 3) := by decide +kernel
theorem dX10_parcel_10 : decode cX10_parcel 10 = .ok (.ifCond .ne 8, 3) := by decide +kernel
theorem dX10_parcel_13 : decode cX10_parcel 13 = .ok (.aload_n 0, 1) := by decide +kernel
theorem dX10_parcel_14 : decode cX10_parcel 14 = .ok (.invokevirtual 262, 3) := by decide +kernel
theorem dX10_parcel_17 : decode cX10_parcel 17 = .ok (.ireturn, 1) := by decide +kernel
theorem dX10_parcel_18 : decode cX10_parcel 18 = .ok (.iload_n 2, 1) := by decide +kernel
theorem dX10_parcel_19 : decode cX10_parcel 19 = .ok (.tableswitch 103 0 6 #[41, 47, 57, 63, 73, 87, 97], 41) := by decide +kernel
theorem dX10_parcel_60 : decode cX10_parcel 60 = .ok (.aload_n 0, 1) := by decide +kernel
theorem dX10_parcel_61 : decode cX10_parcel 61 = .ok (.iload_n 1, 1) := by decide +kernel
theorem dX10_parcel_62 : decode cX10_parcel 62 = .ok (.invokevirtual 253, 3) := by decide +kernel
theorem dX10_parcel_65 : decode cX10_parcel 65 = .ok (.ireturn, 1) := by decide +kernel
theorem dX10_parcel_66 : decode cX10_parcel 66 = .ok (.aload_n 0, 1) := by decide +kernel
theorem dX10_parcel_67 : decode cX10_parcel 67 = .ok (.getfield 98, 3) := by decide +kernel
theorem dX10_parcel_70 : decode cX10_parcel 70 = .ok (.bipush 86, 2) := by decide +kernel
theorem dX10_parcel_72 : decode cX10_parcel 72 = .ok (.iload_n 1, 1) := by decide +kernel
theorem dX10_parcel_73 : decode cX10_parcel 73 = .ok (.iadd, 1) := by decide +kernel
theorem dX10_parcel_74 : decode cX10_parcel 74 = .ok (.iaload, 1) := by decide +kernel
theorem dX10_parcel_75 : decode cX10_parcel 75 = .ok (.ireturn, 1) := by decide +kernel
theorem dX10_parcel_76 : decode cX10_parcel 76 = .ok (.aload_n 0, 1) := by decide +kernel
theorem dX10_parcel_77 : decode cX10_parcel 77 = .ok (.iload_n 1, 1) := by decide +kernel
theorem dX10_parcel_78 : decode cX10_parcel 78 = .ok (.invokevirtual 265, 3) := by decide +kernel
theorem dX10_parcel_81 : decode cX10_parcel 81 = .ok (.ireturn, 1) := by decide +kernel
theorem dX10_parcel_82 : decode cX10_parcel 82 = .ok (.aload_n 0, 1) := by decide +kernel
theorem dX10_parcel_83 : decode cX10_parcel 83 = .ok (.getfield 98, 3) := by decide +kernel
theorem dX10_parcel_86 : decode cX10_parcel 86 = .ok (.bipush 92, 2) := by decide +kernel
theorem dX10_parcel_88 : decode cX10_parcel 88 = .ok (.iload_n 1, 1) := by decide +kernel
theorem dX10_parcel_89 : decode cX10_parcel 89 = .ok (.iadd, 1) := by decide +kernel
theorem dX10_parcel_90 : decode cX10_parcel 90 = .ok (.iaload, 1) := by decide +kernel
theorem dX10_parcel_91 : decode cX10_parcel 91 = .ok (.ireturn, 1) := by decide +kernel
theorem dX10_parcel_92 : decode cX10_parcel 92 = .ok (.aload_n 0, 1) := by decide +kernel
theorem dX10_parcel_93 : decode cX10_parcel 93 = .ok (.iload_n 1, 1) := by decide +kernel
theorem dX10_parcel_94 : decode cX10_parcel 94 = .ok (.invokevirtual 268, 3) := by decide +kernel
theorem dX10_parcel_97 : decode cX10_parcel 97 = .ok (.ifCond .eq 7, 3) := by decide +kernel
theorem dX10_parcel_100 : decode cX10_parcel 100 = .ok (.iconst 1, 1) := by decide +kernel
theorem dX10_parcel_101 : decode cX10_parcel 101 = .ok (.goto 4, 3) := by decide +kernel
theorem dX10_parcel_104 : decode cX10_parcel 104 = .ok (.iconst 0, 1) := by decide +kernel
theorem dX10_parcel_105 : decode cX10_parcel 105 = .ok (.ireturn, 1) := by decide +kernel
theorem dX10_parcel_106 : decode cX10_parcel 106 = .ok (.aload_n 0, 1) := by decide +kernel
theorem dX10_parcel_107 : decode cX10_parcel 107 = .ok (.getfield 98, 3) := by decide +kernel
theorem dX10_parcel_110 : decode cX10_parcel 110 = .ok (.bipush 98, 2) := by decide +kernel
theorem dX10_parcel_112 : decode cX10_parcel 112 = .ok (.iload_n 1, 1) := by decide +kernel
theorem dX10_parcel_113 : decode cX10_parcel 113 = .ok (.iadd, 1) := by decide +kernel
theorem dX10_parcel_114 : decode cX10_parcel 114 = .ok (.iaload, 1) := by decide +kernel
theorem dX10_parcel_115 : decode cX10_parcel 115 = .ok (.ireturn, 1) := by decide +kernel
theorem dX10_parcel_116 : decode cX10_parcel 116 = .ok (.aload_n 0, 1) := by decide +kernel
theorem dX10_parcel_117 : decode cX10_parcel 117 = .ok (.iload_n 1, 1) := by decide +kernel
theorem dX10_parcel_118 : decode cX10_parcel 118 = .ok (.invokevirtual 271, 3) := by decide +kernel
theorem dX10_parcel_121 : decode cX10_parcel 121 = .ok (.ireturn, 1) := by decide +kernel
theorem dX10_parcel_122 : decode cX10_parcel 122 = .ok (.aload_n 0, 1) := by decide +kernel
theorem dX10_parcel_123 : decode cX10_parcel 123 = .ok (.invokevirtual 262, 3) := by decide +kernel
theorem dX10_parcel_126 : decode cX10_parcel 126 = .ok (.ireturn, 1) := by decide +kernel
theorem dX10_passDays_0 : decode cX10_passDays 0 = .ok (.iload_n 1, 1) := by decide +kernel
theorem dX10_passDays_1 : decode cX10_passDays 1 = .ok (.sipush 400, 3) := by decide +kernel
theorem dX10_passDays_4 : decode cX10_passDays 4 = .ok (.aload_n 0, 1) := by decide +kernel
theorem dX10_passDays_5 : decode cX10_passDays 5 = .ok (.getfield 98, 3) := by decide +kernel
theorem dX10_passDays_8 : decode cX10_passDays 8 = .ok (.bipush 84, 2) := by decide +kernel
theorem dX10_passDays_10 : decode cX10_passDays 10 = .ok (.iaload, 1) := by decide +kernel
theorem dX10_passDays_11 : decode cX10_passDays 11 = .ok (.isub, 1) := by decide +kernel
theorem dX10_passDays_12 : decode cX10_passDays 12 = .ok (.invokestatic 283, 3) := by decide +kernel
theorem dX10_passDays_15 : decode cX10_passDays 15 = .ok (.istore_n 2, 1) := by decide +kernel
theorem dX10_passDays_16 : decode cX10_passDays 16 = .ok (.iconst 0, 1) := by decide +kernel
theorem dX10_passDays_17 : decode cX10_passDays 17 = .ok (.istore_n 3, 1) := by decide +kernel
theorem dX10_passDays_18 : decode cX10_passDays 18 = .ok (.iload_n 3, 1) := by decide +kernel
theorem dX10_passDays_19 : decode cX10_passDays 19 = .ok (.iload_n 2, 1) := by decide +kernel
theorem dX10_passDays_20 : decode cX10_passDays 20 = .ok (.if_icmp .ge 13, 3) := by decide +kernel
theorem dX10_passDays_23 : decode cX10_passDays 23 = .ok (.aload_n 0, 1) := by decide +kernel
theorem dX10_passDays_24 : decode cX10_passDays 24 = .ok (.invokevirtual 322, 3) := by decide +kernel
theorem dX10_passDays_27 : decode cX10_passDays 27 = .ok (.iinc 3 1, 3) := by decide +kernel
theorem dX10_passDays_30 : decode cX10_passDays 30 = .ok (.goto (-12), 3) := by decide +kernel
theorem dX10_passDays_33 : decode cX10_passDays 33 = .ok (.iload_n 2, 1) := by decide +kernel
theorem dX10_passDays_34 : decode cX10_passDays 34 = .ok (.ireturn, 1) := by decide +kernel
theorem dX10_person_0 : decode cX10_person 0 = .ok (.aload_n 0, 1) := by decide +kernel
theorem dX10_person_1 : decode cX10_person 1 = .ok (.iconst 0, 1) := by decide +kernel
theorem dX10_person_2 : decode cX10_person 2 = .ok (.putfield 1, 3) := by decide +kernel
theorem dX10_person_5 : decode cX10_person 5 = .ok (.aload_n 0, 1) := by decide +kernel
theorem dX10_person_6 : decode cX10_person 6 = .ok (.iload_n 1, 1) := by decide +kernel
theorem dX10_person_7 : decode cX10_person 7 = .ok (.invokevirtual 274, 3) := by decide +kernel
theorem dX10_person_10 : decode cX10_person 10 = .ok (.ifCond .ne 8, 3) := by decide +kernel
theorem dX10_person_13 : decode cX10_person 13 = .ok (.aload_n 0, 1) := by decide +kernel
theorem dX10_person_14 : decode cX10_person 14 = .ok (.invokevirtual 262, 3) := by decide +kernel
theorem dX10_person_17 : decode cX10_person 17 = .ok (.ireturn, 1) := by decide +kernel
theorem dX10_person_18 : decode cX10_person 18 = .ok (.iload_n 2, 1) := by decide +kernel
theorem dX10_person_19 : decode cX10_person 19 = .ok (.tableswitch 84 0 4 #[33, 43, 53, 63, 73], 33) := by decide +kernel
theorem dX10_person_52 : decode cX10_person 52 = .ok (.aload_n 0, 1) := by decide +kernel
theorem dX10_person_53 : decode cX10_person 53 = .ok (.getfield 98, 3) := by decide +kernel
theorem dX10_person_56 : decode cX10_person 56 = .ok (.bipush 104, 2) := by decide +kernel
theorem dX10_person_58 : decode cX10_person 58 = .ok (.iload_n 1, 1) := by decide +kernel
theorem dX10_person_59 : decode cX10_person 59 = .ok (.iadd, 1) := by decide +kernel
theorem dX10_person_60 : decode cX10_person 60 = .ok (.iaload, 1) := by decide +kernel
theorem dX10_person_61 : decode cX10_person 61 = .ok (.ireturn, 1) := by decide +kernel
theorem dX10_person_62 : decode cX10_person 62 = .ok (.aload_n 0, 1) := by decide +kernel
theorem dX10_person_63 : decode cX10_person 63 = .ok (.getfield 98, 3) := by decide +kernel
theorem dX10_person_66 : decode cX10_person 66 = .ok (.bipush 32, 2) := by decide +kernel
theorem dX10_person_68 : decode cX10_person 68 = .ok (.iload_n 1, 1) := by decide +kernel
theorem dX10_person_69 : decode cX10_person 69 = .ok (.iadd, 1) := by decide +kernel
theorem dX10_person_70 : decode cX10_person 70 = .ok (.iaload, 1) := by decide +kernel
theorem dX10_person_71 : decode cX10_person 71 = .ok (.ireturn, 1) := by decide +kernel
theorem dX10_person_72 : decode cX10_person 72 = .ok (.aload_n 0, 1) := by decide +kernel
theorem dX10_person_73 : decode cX10_person 73 = .ok (.getfield 98, 3) := by decide +kernel
theorem dX10_person_76 : decode cX10_person 76 = .ok (.bipush 112, 2) := by decide +kernel
theorem dX10_person_78 : decode cX10_person 78 = .ok (.iload_n 1, 1) := by decide +kernel
theorem dX10_person_79 : decode cX10_person 79 = .ok (.iadd, 1) := by decide +kernel
theorem dX10_person_80 : decode cX10_person 80 = .ok (.iaload, 1) := by decide +kernel
theorem dX10_person_81 : decode cX10_person 81 = .ok (.ireturn, 1) := by decide +kernel
theorem dX10_person_82 : decode cX10_person 82 = .ok (.aload_n 0, 1) := by decide +kernel
theorem dX10_person_83 : decode cX10_person 83 = .ok (.getfield 98, 3) := by decide +kernel
theorem dX10_person_86 : decode cX10_person 86 = .ok (.bipush 120, 2) := by decide +kernel
theorem dX10_person_88 : decode cX10_person 88 = .ok (.iload_n 1, 1) := by decide +kernel
theorem dX10_person_89 : decode cX10_person 89 = .ok (.iadd, 1) := by decide +kernel
theorem dX10_person_90 : decode cX10_person 90 = .ok (.iaload, 1) := by decide +kernel
theorem dX10_person_91 : decode cX10_person 91 = .ok (.ireturn, 1) := by decide +kernel
theorem dX10_person_92 : decode cX10_person 92 = .ok (.aload_n 0, 1) := by decide +kernel
theorem dX10_person_93 : decode cX10_person 93 = .ok (.getfield 98, 3) := by decide +kernel
theorem dX10_person_96 : decode cX10_person 96 = .ok (.sipush 128, 3) := by decide +kernel
theorem dX10_person_99 : decode cX10_person 99 = .ok (.iload_n 1, 1) := by decide +kernel
theorem dX10_person_100 : decode cX10_person 100 = .ok (.iadd, 1) := by decide +kernel
theorem dX10_person_101 : decode cX10_person 101 = .ok (.iaload, 1) := by decide +kernel
theorem dX10_person_102 : decode cX10_person 102 = .ok (.ireturn, 1) := by decide +kernel
theorem dX10_person_103 : decode cX10_person 103 = .ok (.aload_n 0, 1) := by decide +kernel
theorem dX10_person_104 : decode cX10_person 104 = .ok (.invokevirtual 262, 3) := by decide +kernel
theorem dX10_person_107 : decode cX10_person 107 = .ok (.ireturn, 1) := by decide +kernel
theorem dX10_quarrels_0 : decode cX10_quarrels 0 = .ok (.aload_n 0, 1) := by decide +kernel
theorem dX10_quarrels_1 : decode cX10_quarrels 1 = .ok (.iconst 0, 1) := by decide +kernel
theorem dX10_quarrels_2 : decode cX10_quarrels 2 = .ok (.putfield 1, 3) := by decide +kernel
theorem dX10_quarrels_5 : decode cX10_quarrels 5 = .ok (.aload_n 0, 1) := by decide +kernel
theorem dX10_quarrels_6 : decode cX10_quarrels 6 = .ok (.iload_n 1, 1) := by decide +kernel
theorem dX10_quarrels_7 : decode cX10_quarrels 7 = .ok (.invokevirtual 259, 3) := by decide +kernel
theorem dX10_quarrels_10 : decode cX10_quarrels 10 = .ok (.ifCond .eq 15, 3) := by decide +kernel
theorem dX10_quarrels_13 : decode cX10_quarrels 13 = .ok (.aload_n 0, 1) := by decide +kernel
theorem dX10_quarrels_14 : decode cX10_quarrels 14 = .ok (.getfield 98, 3) := by decide +kernel
theorem dX10_quarrels_17 : decode cX10_quarrels 17 = .ok (.bipush 12, 2) := by decide +kernel
theorem dX10_quarrels_19 : decode cX10_quarrels 19 = .ok (.iload_n 1, 1) := by decide +kernel
theorem dX10_quarrels_20 : decode cX10_quarrels 20 = .ok (.iadd, 1) := by decide +kernel
theorem dX10_quarrels_21 : decode cX10_quarrels 21 = .ok (.iaload, 1) := by decide +kernel
theorem dX10_quarrels_22 : decode cX10_quarrels 22 = .ok (.goto 4, 3) := by decide +kernel
theorem dX10_quarrels_25 : decode cX10_quarrels 25 = .ok (.iconst (-1), 1) := by decide +kernel
theorem dX10_quarrels_26 : decode cX10_quarrels 26 = .ok (.ireturn, 1) := by decide +kernel
theorem dX10_refuse_0 : decode cX10_refuse 0 = .ok (.aload_n 0, 1) := by decide +kernel
theorem dX10_refuse_1 : decode cX10_refuse 1 = .ok (.iconst 1, 1) := by decide +kernel
theorem dX10_refuse_2 : decode cX10_refuse 2 = .ok (.putfield 1, 3) := by decide +kernel
theorem dX10_refuse_5 : decode cX10_refuse 5 = .ok (.iconst 0, 1) := by decide +kernel
theorem dX10_refuse_6 : decode cX10_refuse 6 = .ok (.ireturn, 1) := by decide +kernel
theorem dX10_rested_0 : decode cX10_rested 0 = .ok (.aload_n 0, 1) := by decide +kernel
theorem dX10_rested_1 : decode cX10_rested 1 = .ok (.iconst 0, 1) := by decide +kernel
theorem dX10_rested_2 : decode cX10_rested 2 = .ok (.putfield 1, 3) := by decide +kernel
theorem dX10_rested_5 : decode cX10_rested 5 = .ok (.iload_n 1, 1) := by decide +kernel
theorem dX10_rested_6 : decode cX10_rested 6 = .ok (.iconst 0, 1) := by decide +kernel
theorem dX10_rested_7 : decode cX10_rested 7 = .ok (.aload_n 0, 1) := by decide +kernel
theorem dX10_rested_8 : decode cX10_rested 8 = .ok (.getfield 365, 3) := by decide +kernel
theorem dX10_rested_11 : decode cX10_rested 11 = .ok (.iconst 1, 1) := by decide +kernel
theorem dX10_rested_12 : decode cX10_rested 12 = .ok (.isub, 1) := by decide +kernel
theorem dX10_rested_13 : decode cX10_rested 13 = .ok (.invokestatic 75, 3) := by decide +kernel
theorem dX10_rested_16 : decode cX10_rested 16 = .ok (.ifCond .eq 12, 3) := by decide +kernel
theorem dX10_rested_19 : decode cX10_rested 19 = .ok (.aload_n 0, 1) := by decide +kernel
theorem dX10_rested_20 : decode cX10_rested 20 = .ok (.getfield 154, 3) := by decide +kernel
theorem dX10_rested_23 : decode cX10_rested 23 = .ok (.iload_n 1, 1) := by decide +kernel
theorem dX10_rested_24 : decode cX10_rested 24 = .ok (.iaload, 1) := by decide +kernel
theorem dX10_rested_25 : decode cX10_rested 25 = .ok (.goto 4, 3) := by decide +kernel
theorem dX10_rested_28 : decode cX10_rested 28 = .ok (.iconst (-1), 1) := by decide +kernel
theorem dX10_rested_29 : decode cX10_rested 29 = .ok (.ireturn, 1) := by decide +kernel
theorem dX10_roomOf_0 : decode cX10_roomOf 0 = .ok (.aload_n 0, 1) := by decide +kernel
theorem dX10_roomOf_1 : decode cX10_roomOf 1 = .ok (.iconst 0, 1) := by decide +kernel
theorem dX10_roomOf_2 : decode cX10_roomOf 2 = .ok (.putfield 1, 3) := by decide +kernel
theorem dX10_roomOf_5 : decode cX10_roomOf 5 = .ok (.aload_n 0, 1) := by decide +kernel
theorem dX10_roomOf_6 : decode cX10_roomOf 6 = .ok (.getfield 355, 3) := by decide +kernel
theorem dX10_roomOf_9 : decode cX10_roomOf 9 = .ok (.ifCond .eq 26, 3) := by decide +kernel
theorem dX10_roomOf_12 : decode cX10_roomOf 12 = .ok (.iload_n 1, 1) := by decide +kernel
theorem dX10_roomOf_13 : decode cX10_roomOf 13 = .ok (.iconst 0, 1) := by decide +kernel
theorem dX10_roomOf_14 : decode cX10_roomOf 14 = .ok (.aload_n 0, 1) := by decide +kernel
theorem dX10_roomOf_15 : decode cX10_roomOf 15 = .ok (.getfield 352, 3) := by decide +kernel
theorem dX10_roomOf_18 : decode cX10_roomOf 18 = .ok (.iconst 1, 1) := by decide +kernel
theorem dX10_roomOf_19 : decode cX10_roomOf 19 = .ok (.isub, 1) := by decide +kernel
theorem dX10_roomOf_20 : decode cX10_roomOf 20 = .ok (.invokestatic 75, 3) := by decide +kernel
theorem dX10_roomOf_23 : decode cX10_roomOf 23 = .ok (.ifCond .eq 12, 3) := by decide +kernel
theorem dX10_roomOf_26 : decode cX10_roomOf 26 = .ok (.aload_n 0, 1) := by decide +kernel
theorem dX10_roomOf_27 : decode cX10_roomOf 27 = .ok (.getfield 151, 3) := by decide +kernel
theorem dX10_roomOf_30 : decode cX10_roomOf 30 = .ok (.iload_n 1, 1) := by decide +kernel
theorem dX10_roomOf_31 : decode cX10_roomOf 31 = .ok (.iaload, 1) := by decide +kernel
theorem dX10_roomOf_32 : decode cX10_roomOf 32 = .ok (.goto 4, 3) := by decide +kernel
theorem dX10_roomOf_35 : decode cX10_roomOf 35 = .ok (.iconst (-1), 1) := by decide +kernel
theorem dX10_roomOf_36 : decode cX10_roomOf 36 = .ok (.ireturn, 1) := by decide +kernel
theorem dX10_sit_0 : decode cX10_sit 0 = .ok (.aload_n 0, 1) := by decide +kernel
theorem dX10_sit_1 : decode cX10_sit 1 = .ok (.iconst 0, 1) := by decide +kernel
theorem dX10_sit_2 : decode cX10_sit 2 = .ok (.putfield 1, 3) := by decide +kernel
theorem dX10_sit_5 : decode cX10_sit 5 = .ok (.aload_n 0, 1) := by decide +kernel
theorem dX10_sit_6 : decode cX10_sit 6 = .ok (.iload_n 1, 1) := by decide +kernel
theorem dX10_sit_7 : decode cX10_sit 7 = .ok (.invokevirtual 274, 3) := by decide +kernel
theorem dX10_sit_10 : decode cX10_sit 10 = .ok (.ifCond .eq 21, 3) := by decide +kernel
theorem dX10_sit_13 : decode cX10_sit 13 = .ok (.aload_n 0, 1) := by decide +kernel
theorem dX10_sit_14 : decode cX10_sit 14 = .ok (.iload_n 2, 1) := by decide +kernel
theorem dX10_sit_15 : decode cX10_sit 15 = .ok (.invokevirtual 256, 3) := by decide +kernel
theorem dX10_sit_18 : decode cX10_sit 18 = .ok (.ifCond .eq 13, 3) := by decide +kernel
theorem dX10_sit_21 : decode cX10_sit 21 = .ok (.aload_n 0, 1) := by decide +kernel
theorem dX10_sit_22 : decode cX10_sit 22 = .ok (.iconst 0, 1) := by decide +kernel
theorem dX10_sit_23 : decode cX10_sit 23 = .ok (.iload_n 1, 1) := by decide +kernel
theorem dX10_sit_24 : decode cX10_sit 24 = .ok (.iload_n 2, 1) := by decide +kernel
theorem dX10_sit_25 : decode cX10_sit 25 = .ok (.invokevirtual 307, 3) := by decide +kernel
theorem dX10_sit_28 : decode cX10_sit 28 = .ok (.goto 4, 3) := by decide +kernel
theorem dX10_sit_31 : decode cX10_sit 31 = .ok (.iconst (-1), 1) := by decide +kernel
theorem dX10_sit_32 : decode cX10_sit 32 = .ok (.ireturn, 1) := by decide +kernel
theorem dX10_sittersOf_0 : decode cX10_sittersOf 0 = .ok (.iconst 0, 1) := by decide +kernel
theorem dX10_sittersOf_1 : decode cX10_sittersOf 1 = .ok (.istore_n 2, 1) := by decide +kernel
theorem dX10_sittersOf_2 : decode cX10_sittersOf 2 = .ok (.iconst 0, 1) := by decide +kernel
theorem dX10_sittersOf_3 : decode cX10_sittersOf 3 = .ok (.istore_n 3, 1) := by decide +kernel
theorem dX10_sittersOf_4 : decode cX10_sittersOf 4 = .ok (.iload_n 3, 1) := by decide +kernel
theorem dX10_sittersOf_5 : decode cX10_sittersOf 5 = .ok (.aload_n 0, 1) := by decide +kernel
theorem dX10_sittersOf_6 : decode cX10_sittersOf 6 = .ok (.getfield 98, 3) := by decide +kernel
theorem dX10_sittersOf_9 : decode cX10_sittersOf 9 = .ok (.iconst 3, 1) := by decide +kernel
theorem dX10_sittersOf_10 : decode cX10_sittersOf 10 = .ok (.iaload, 1) := by decide +kernel
theorem dX10_sittersOf_11 : decode cX10_sittersOf 11 = .ok (.if_icmp .ge 28, 3) := by decide +kernel
theorem dX10_sittersOf_14 : decode cX10_sittersOf 14 = .ok (.aload_n 0, 1) := by decide +kernel
theorem dX10_sittersOf_15 : decode cX10_sittersOf 15 = .ok (.getfield 98, 3) := by decide +kernel
theorem dX10_sittersOf_18 : decode cX10_sittersOf 18 = .ok (.bipush 112, 2) := by decide +kernel
theorem dX10_sittersOf_20 : decode cX10_sittersOf 20 = .ok (.iload_n 3, 1) := by decide +kernel
theorem dX10_sittersOf_21 : decode cX10_sittersOf 21 = .ok (.iadd, 1) := by decide +kernel
theorem dX10_sittersOf_22 : decode cX10_sittersOf 22 = .ok (.iaload, 1) := by decide +kernel
theorem dX10_sittersOf_23 : decode cX10_sittersOf 23 = .ok (.iload_n 1, 1) := by decide +kernel
theorem dX10_sittersOf_24 : decode cX10_sittersOf 24 = .ok (.if_icmp .ne 9, 3) := by decide +kernel
theorem dX10_sittersOf_27 : decode cX10_sittersOf 27 = .ok (.iload_n 2, 1) := by decide +kernel
theorem dX10_sittersOf_28 : decode cX10_sittersOf 28 = .ok (.iconst 1, 1) := by decide +kernel
theorem dX10_sittersOf_29 : decode cX10_sittersOf 29 = .ok (.iload_n 3, 1) := by decide +kernel
theorem dX10_sittersOf_30 : decode cX10_sittersOf 30 = .ok (.ishl, 1) := by decide +kernel
theorem dX10_sittersOf_31 : decode cX10_sittersOf 31 = .ok (.ior, 1) := by decide +kernel
theorem dX10_sittersOf_32 : decode cX10_sittersOf 32 = .ok (.istore_n 2, 1) := by decide +kernel
theorem dX10_sittersOf_33 : decode cX10_sittersOf 33 = .ok (.iinc 3 1, 3) := by decide +kernel
theorem dX10_sittersOf_36 : decode cX10_sittersOf 36 = .ok (.goto (-32), 3) := by decide +kernel
theorem dX10_sittersOf_39 : decode cX10_sittersOf 39 = .ok (.iload_n 2, 1) := by decide +kernel
theorem dX10_sittersOf_40 : decode cX10_sittersOf 40 = .ok (.ireturn, 1) := by decide +kernel
theorem dX10_sitting_0 : decode cX10_sitting 0 = .ok (.aload_n 0, 1) := by decide +kernel
theorem dX10_sitting_1 : decode cX10_sitting 1 = .ok (.iconst 0, 1) := by decide +kernel
theorem dX10_sitting_2 : decode cX10_sitting 2 = .ok (.putfield 1, 3) := by decide +kernel
theorem dX10_sitting_5 : decode cX10_sitting 5 = .ok (.aload_n 0, 1) := by decide +kernel
theorem dX10_sitting_6 : decode cX10_sitting 6 = .ok (.getfield 136, 3) := by decide +kernel
theorem dX10_sitting_9 : decode cX10_sitting 9 = .ok (.ireturn, 1) := by decide +kernel
theorem dX10_sizeOf_0 : decode cX10_sizeOf 0 = .ok (.iconst 0, 1) := by decide +kernel
theorem dX10_sizeOf_1 : decode cX10_sizeOf 1 = .ok (.istore_n 2, 1) := by decide +kernel
theorem dX10_sizeOf_2 : decode cX10_sizeOf 2 = .ok (.iconst 0, 1) := by decide +kernel
theorem dX10_sizeOf_3 : decode cX10_sizeOf 3 = .ok (.istore_n 3, 1) := by decide +kernel
theorem dX10_sizeOf_4 : decode cX10_sizeOf 4 = .ok (.iload_n 3, 1) := by decide +kernel
theorem dX10_sizeOf_5 : decode cX10_sizeOf 5 = .ok (.bipush 6, 2) := by decide +kernel
theorem dX10_sizeOf_7 : decode cX10_sizeOf 7 = .ok (.if_icmp .ge 18, 3) := by decide +kernel
theorem dX10_sizeOf_10 : decode cX10_sizeOf 10 = .ok (.iload_n 2, 1) := by decide +kernel
theorem dX10_sizeOf_11 : decode cX10_sizeOf 11 = .ok (.aload_n 0, 1) := by decide +kernel
theorem dX10_sizeOf_12 : decode cX10_sizeOf 12 = .ok (.iload_n 1, 1) := by decide +kernel
theorem dX10_sizeOf_13 : decode cX10_sizeOf 13 = .ok (.iload_n 3, 1) := by decide +kernel
theorem dX10_sizeOf_14 : decode cX10_sizeOf 14 = .ok (.invokevirtual 249, 3) := by decide +kernel
theorem dX10_sizeOf_17 : decode cX10_sizeOf 17 = .ok (.iadd, 1) := by decide +kernel
theorem dX10_sizeOf_18 : decode cX10_sizeOf 18 = .ok (.istore_n 2, 1) := by decide +kernel
theorem dX10_sizeOf_19 : decode cX10_sizeOf 19 = .ok (.iinc 3 1, 3) := by decide +kernel
theorem dX10_sizeOf_22 : decode cX10_sizeOf 22 = .ok (.goto (-18), 3) := by decide +kernel
theorem dX10_sizeOf_25 : decode cX10_sizeOf 25 = .ok (.iload_n 2, 1) := by decide +kernel
theorem dX10_sizeOf_26 : decode cX10_sizeOf 26 = .ok (.ireturn, 1) := by decide +kernel
theorem dX10_snap_0 : decode cX10_snap 0 = .ok (.aload_n 0, 1) := by decide +kernel
theorem dX10_snap_1 : decode cX10_snap 1 = .ok (.getfield 246, 3) := by decide +kernel
theorem dX10_snap_4 : decode cX10_snap 4 = .ok (.bipush 8, 2) := by decide +kernel
theorem dX10_snap_6 : decode cX10_snap 6 = .ok (.if_icmp .ne 43, 3) := by decide +kernel
theorem dX10_snap_9 : decode cX10_snap 9 = .ok (.iconst 0, 1) := by decide +kernel
theorem dX10_snap_10 : decode cX10_snap 10 = .ok (.istore_n 1, 1) := by decide +kernel
theorem dX10_snap_11 : decode cX10_snap 11 = .ok (.iload_n 1, 1) := by decide +kernel
theorem dX10_snap_12 : decode cX10_snap 12 = .ok (.sipush 616, 3) := by decide +kernel
theorem dX10_snap_15 : decode cX10_snap 15 = .ok (.if_icmp .ge 24, 3) := by decide +kernel
theorem dX10_snap_18 : decode cX10_snap 18 = .ok (.aload_n 0, 1) := by decide +kernel
theorem dX10_snap_19 : decode cX10_snap 19 = .ok (.getfield 107, 3) := by decide +kernel
theorem dX10_snap_22 : decode cX10_snap 22 = .ok (.iload_n 1, 1) := by decide +kernel
theorem dX10_snap_23 : decode cX10_snap 23 = .ok (.aload_n 0, 1) := by decide +kernel
theorem dX10_snap_24 : decode cX10_snap 24 = .ok (.getfield 107, 3) := by decide +kernel
theorem dX10_snap_27 : decode cX10_snap 27 = .ok (.iload_n 1, 1) := by decide +kernel
theorem dX10_snap_28 : decode cX10_snap 28 = .ok (.bipush 88, 2) := by decide +kernel
theorem dX10_snap_30 : decode cX10_snap 30 = .ok (.iadd, 1) := by decide +kernel
theorem dX10_snap_31 : decode cX10_snap 31 = .ok (.iaload, 1) := by decide +kernel
theorem dX10_snap_32 : decode cX10_snap 32 = .ok (.iastore, 1) := by decide +kernel
theorem dX10_snap_33 : decode cX10_snap 33 = .ok (.iinc 1 1, 3) := by decide +kernel
theorem dX10_snap_36 : decode cX10_snap 36 = .ok (.goto (-25), 3) := by decide +kernel
theorem dX10_snap_39 : decode cX10_snap 39 = .ok (.aload_n 0, 1) := by decide +kernel
theorem dX10_snap_40 : decode cX10_snap 40 = .ok (.dup, 1) := by decide +kernel
theorem dX10_snap_41 : decode cX10_snap 41 = .ok (.getfield 246, 3) := by decide +kernel
theorem dX10_snap_44 : decode cX10_snap 44 = .ok (.iconst 1, 1) := by decide +kernel
theorem dX10_snap_45 : decode cX10_snap 45 = .ok (.isub, 1) := by decide +kernel
theorem dX10_snap_46 : decode cX10_snap 46 = .ok (.putfield 246, 3) := by decide +kernel
theorem dX10_snap_49 : decode cX10_snap 49 = .ok (.iconst 0, 1) := by decide +kernel
theorem dX10_snap_50 : decode cX10_snap 50 = .ok (.istore_n 1, 1) := by decide +kernel
theorem dX10_snap_51 : decode cX10_snap 51 = .ok (.iload_n 1, 1) := by decide +kernel
theorem dX10_snap_52 : decode cX10_snap 52 = .ok (.bipush 88, 2) := by decide +kernel
theorem dX10_snap_54 : decode cX10_snap 54 = .ok (.if_icmp .ge 32, 3) := by decide +kernel
theorem dX10_snap_57 : decode cX10_snap 57 = .ok (.aload_n 0, 1) := by decide +kernel
theorem dX10_snap_58 : decode cX10_snap 58 = .ok (.getfield 107, 3) := by decide +kernel
theorem dX10_snap_61 : decode cX10_snap 61 = .ok (.bipush 88, 2) := by decide +kernel
theorem dX10_snap_63 : decode cX10_snap 63 = .ok (.aload_n 0, 1) := by decide +kernel
theorem dX10_snap_64 : decode cX10_snap 64 = .ok (.getfield 246, 3) := by decide +kernel
theorem dX10_snap_67 : decode cX10_snap 67 = .ok (.imul, 1) := by decide +kernel
theorem dX10_snap_68 : decode cX10_snap 68 = .ok (.iload_n 1, 1) := by decide +kernel
theorem dX10_snap_69 : decode cX10_snap 69 = .ok (.iadd, 1) := by decide +kernel
theorem dX10_snap_70 : decode cX10_snap 70 = .ok (.aload_n 0, 1) := by decide +kernel
theorem dX10_snap_71 : decode cX10_snap 71 = .ok (.getfield 98, 3) := by decide +kernel
theorem dX10_snap_74 : decode cX10_snap 74 = .ok (.bipush 84, 2) := by decide +kernel
theorem dX10_snap_76 : decode cX10_snap 76 = .ok (.iload_n 1, 1) := by decide +kernel
theorem dX10_snap_77 : decode cX10_snap 77 = .ok (.iadd, 1) := by decide +kernel
theorem dX10_snap_78 : decode cX10_snap 78 = .ok (.iaload, 1) := by decide +kernel
theorem dX10_snap_79 : decode cX10_snap 79 = .ok (.iastore, 1) := by decide +kernel
theorem dX10_snap_80 : decode cX10_snap 80 = .ok (.iinc 1 1, 3) := by decide +kernel
theorem dX10_snap_83 : decode cX10_snap 83 = .ok (.goto (-32), 3) := by decide +kernel
theorem dX10_snap_86 : decode cX10_snap 86 = .ok (.aload_n 0, 1) := by decide +kernel
theorem dX10_snap_87 : decode cX10_snap 87 = .ok (.dup, 1) := by decide +kernel
theorem dX10_snap_88 : decode cX10_snap 88 = .ok (.getfield 246, 3) := by decide +kernel
theorem dX10_snap_91 : decode cX10_snap 91 = .ok (.iconst 1, 1) := by decide +kernel
theorem dX10_snap_92 : decode cX10_snap 92 = .ok (.iadd, 1) := by decide +kernel
theorem dX10_snap_93 : decode cX10_snap 93 = .ok (.putfield 246, 3) := by decide +kernel
theorem dX10_snap_96 : decode cX10_snap 96 = .ok (.return_, 1) := by decide +kernel
theorem dX10_stand_0 : decode cX10_stand 0 = .ok (.aload_n 0, 1) := by decide +kernel
theorem dX10_stand_1 : decode cX10_stand 1 = .ok (.iconst 0, 1) := by decide +kernel
theorem dX10_stand_2 : decode cX10_stand 2 = .ok (.putfield 1, 3) := by decide +kernel
theorem dX10_stand_5 : decode cX10_stand 5 = .ok (.aload_n 0, 1) := by decide +kernel
theorem dX10_stand_6 : decode cX10_stand 6 = .ok (.iload_n 1, 1) := by decide +kernel
theorem dX10_stand_7 : decode cX10_stand 7 = .ok (.invokevirtual 274, 3) := by decide +kernel
theorem dX10_stand_10 : decode cX10_stand 10 = .ok (.ifCond .eq 13, 3) := by decide +kernel
theorem dX10_stand_13 : decode cX10_stand 13 = .ok (.aload_n 0, 1) := by decide +kernel
theorem dX10_stand_14 : decode cX10_stand 14 = .ok (.iconst 1, 1) := by decide +kernel
theorem dX10_stand_15 : decode cX10_stand 15 = .ok (.iload_n 1, 1) := by decide +kernel
theorem dX10_stand_16 : decode cX10_stand 16 = .ok (.iconst 0, 1) := by decide +kernel
theorem dX10_stand_17 : decode cX10_stand 17 = .ok (.invokevirtual 307, 3) := by decide +kernel
theorem dX10_stand_20 : decode cX10_stand 20 = .ok (.goto 4, 3) := by decide +kernel
theorem dX10_stand_23 : decode cX10_stand 23 = .ok (.iconst (-1), 1) := by decide +kernel
theorem dX10_stand_24 : decode cX10_stand 24 = .ok (.ireturn, 1) := by decide +kernel
theorem dX10_startSo_0 : decode cX10_startSo 0 = .ok (.bipush 84, 2) := by decide +kernel
theorem dX10_startSo_2 : decode cX10_startSo 2 = .ok (.istore_n 1, 1) := by decide +kernel
theorem dX10_startSo_3 : decode cX10_startSo 3 = .ok (.iload_n 1, 1) := by decide +kernel
theorem dX10_startSo_4 : decode cX10_startSo 4 = .ok (.sipush 414, 3) := by decide +kernel
theorem dX10_startSo_7 : decode cX10_startSo 7 = .ok (.if_icmp .ge 16, 3) := by decide +kernel
theorem dX10_startSo_10 : decode cX10_startSo 10 = .ok (.aload_n 0, 1) := by decide +kernel
theorem dX10_startSo_11 : decode cX10_startSo 11 = .ok (.getfield 98, 3) := by decide +kernel
theorem dX10_startSo_14 : decode cX10_startSo 14 = .ok (.iload_n 1, 1) := by decide +kernel
theorem dX10_startSo_15 : decode cX10_startSo 15 = .ok (.iconst 0, 1) := by decide +kernel
theorem dX10_startSo_16 : decode cX10_startSo 16 = .ok (.iastore, 1) := by decide +kernel
theorem dX10_startSo_17 : decode cX10_startSo 17 = .ok (.iinc 1 1, 3) := by decide +kernel
theorem dX10_startSo_20 : decode cX10_startSo 20 = .ok (.goto (-17), 3) := by decide +kernel
theorem dX10_startSo_23 : decode cX10_startSo 23 = .ok (.iconst 0, 1) := by decide +kernel
theorem dX10_startSo_24 : decode cX10_startSo 24 = .ok (.istore_n 1, 1) := by decide +kernel
theorem dX10_startSo_25 : decode cX10_startSo 25 = .ok (.iload_n 1, 1) := by decide +kernel
theorem dX10_startSo_26 : decode cX10_startSo 26 = .ok (.bipush 6, 2) := by decide +kernel
theorem dX10_startSo_28 : decode cX10_startSo 28 = .ok (.if_icmp .ge 27, 3) := by decide +kernel
theorem dX10_startSo_31 : decode cX10_startSo 31 = .ok (.aload_n 0, 1) := by decide +kernel
theorem dX10_startSo_32 : decode cX10_startSo 32 = .ok (.getfield 98, 3) := by decide +kernel
theorem dX10_startSo_35 : decode cX10_startSo 35 = .ok (.bipush 86, 2) := by decide +kernel
theorem dX10_startSo_37 : decode cX10_startSo 37 = .ok (.iload_n 1, 1) := by decide +kernel
theorem dX10_startSo_38 : decode cX10_startSo 38 = .ok (.iadd, 1) := by decide +kernel
theorem dX10_startSo_39 : decode cX10_startSo 39 = .ok (.aload_n 0, 1) := by decide +kernel
theorem dX10_startSo_40 : decode cX10_startSo 40 = .ok (.getfield 98, 3) := by decide +kernel
theorem dX10_startSo_43 : decode cX10_startSo 43 = .ok (.bipush 18, 2) := by decide +kernel
theorem dX10_startSo_45 : decode cX10_startSo 45 = .ok (.iload_n 1, 1) := by decide +kernel
theorem dX10_startSo_46 : decode cX10_startSo 46 = .ok (.iadd, 1) := by decide +kernel
theorem dX10_startSo_47 : decode cX10_startSo 47 = .ok (.iaload, 1) := by decide +kernel
theorem dX10_startSo_48 : decode cX10_startSo 48 = .ok (.iastore, 1) := by decide +kernel
theorem dX10_startSo_49 : decode cX10_startSo 49 = .ok (.iinc 1 1, 3) := by decide +kernel
theorem dX10_startSo_52 : decode cX10_startSo 52 = .ok (.goto (-27), 3) := by decide +kernel
theorem dX10_startSo_55 : decode cX10_startSo 55 = .ok (.iconst 0, 1) := by decide +kernel
theorem dX10_startSo_56 : decode cX10_startSo 56 = .ok (.istore_n 1, 1) := by decide +kernel
theorem dX10_startSo_57 : decode cX10_startSo 57 = .ok (.iload_n 1, 1) := by decide +kernel
theorem dX10_startSo_58 : decode cX10_startSo 58 = .ok (.bipush 8, 2) := by decide +kernel
theorem dX10_startSo_60 : decode cX10_startSo 60 = .ok (.if_icmp .ge 45, 3) := by decide +kernel
theorem dX10_startSo_63 : decode cX10_startSo 63 = .ok (.aload_n 0, 1) := by decide +kernel
theorem dX10_startSo_64 : decode cX10_startSo 64 = .ok (.getfield 98, 3) := by decide +kernel
theorem dX10_startSo_67 : decode cX10_startSo 67 = .ok (.bipush 104, 2) := by decide +kernel
theorem dX10_startSo_69 : decode cX10_startSo 69 = .ok (.iload_n 1, 1) := by decide +kernel
theorem dX10_startSo_70 : decode cX10_startSo 70 = .ok (.iadd, 1) := by decide +kernel
theorem dX10_startSo_71 : decode cX10_startSo 71 = .ok (.aload_n 0, 1) := by decide +kernel
theorem dX10_startSo_72 : decode cX10_startSo 72 = .ok (.getfield 98, 3) := by decide +kernel
theorem dX10_startSo_75 : decode cX10_startSo 75 = .ok (.bipush 24, 2) := by decide +kernel
theorem dX10_startSo_77 : decode cX10_startSo 77 = .ok (.iload_n 1, 1) := by decide +kernel
theorem dX10_startSo_78 : decode cX10_startSo 78 = .ok (.iadd, 1) := by decide +kernel
theorem dX10_startSo_79 : decode cX10_startSo 79 = .ok (.iaload, 1) := by decide +kernel
theorem dX10_startSo_80 : decode cX10_startSo 80 = .ok (.iastore, 1) := by decide +kernel
theorem dX10_startSo_81 : decode cX10_startSo 81 = .ok (.aload_n 0, 1) := by decide +kernel
theorem dX10_startSo_82 : decode cX10_startSo 82 = .ok (.getfield 98, 3) := by decide +kernel
theorem dX10_startSo_85 : decode cX10_startSo 85 = .ok (.bipush 112, 2) := by decide +kernel
theorem dX10_startSo_87 : decode cX10_startSo 87 = .ok (.iload_n 1, 1) := by decide +kernel
theorem dX10_startSo_88 : decode cX10_startSo 88 = .ok (.iadd, 1) := by decide +kernel
theorem dX10_startSo_89 : decode cX10_startSo 89 = .ok (.aload_n 0, 1) := by decide +kernel
theorem dX10_startSo_90 : decode cX10_startSo 90 = .ok (.getfield 98, 3) := by decide +kernel
theorem dX10_startSo_93 : decode cX10_startSo 93 = .ok (.bipush 40, 2) := by decide +kernel
theorem dX10_startSo_95 : decode cX10_startSo 95 = .ok (.iload_n 1, 1) := by decide +kernel
theorem dX10_startSo_96 : decode cX10_startSo 96 = .ok (.iadd, 1) := by decide +kernel
theorem dX10_startSo_97 : decode cX10_startSo 97 = .ok (.iaload, 1) := by decide +kernel
theorem dX10_startSo_98 : decode cX10_startSo 98 = .ok (.iastore, 1) := by decide +kernel
theorem dX10_startSo_99 : decode cX10_startSo 99 = .ok (.iinc 1 1, 3) := by decide +kernel
theorem dX10_startSo_102 : decode cX10_startSo 102 = .ok (.goto (-45), 3) := by decide +kernel
theorem dX10_startSo_105 : decode cX10_startSo 105 = .ok (.iconst 0, 1) := by decide +kernel
theorem dX10_startSo_106 : decode cX10_startSo 106 = .ok (.istore_n 1, 1) := by decide +kernel
theorem dX10_startSo_107 : decode cX10_startSo 107 = .ok (.iload_n 1, 1) := by decide +kernel
theorem dX10_startSo_108 : decode cX10_startSo 108 = .ok (.bipush 36, 2) := by decide +kernel
theorem dX10_startSo_110 : decode cX10_startSo 110 = .ok (.if_icmp .ge 28, 3) := by decide +kernel
theorem dX10_startSo_113 : decode cX10_startSo 113 = .ok (.aload_n 0, 1) := by decide +kernel
theorem dX10_startSo_114 : decode cX10_startSo 114 = .ok (.getfield 98, 3) := by decide +kernel
theorem dX10_startSo_117 : decode cX10_startSo 117 = .ok (.sipush 136, 3) := by decide +kernel
theorem dX10_startSo_120 : decode cX10_startSo 120 = .ok (.iload_n 1, 1) := by decide +kernel
theorem dX10_startSo_121 : decode cX10_startSo 121 = .ok (.iadd, 1) := by decide +kernel
theorem dX10_startSo_122 : decode cX10_startSo 122 = .ok (.aload_n 0, 1) := by decide +kernel
theorem dX10_startSo_123 : decode cX10_startSo 123 = .ok (.getfield 98, 3) := by decide +kernel
theorem dX10_startSo_126 : decode cX10_startSo 126 = .ok (.bipush 48, 2) := by decide +kernel
theorem dX10_startSo_128 : decode cX10_startSo 128 = .ok (.iload_n 1, 1) := by decide +kernel
theorem dX10_startSo_129 : decode cX10_startSo 129 = .ok (.iadd, 1) := by decide +kernel
theorem dX10_startSo_130 : decode cX10_startSo 130 = .ok (.iaload, 1) := by decide +kernel
theorem dX10_startSo_131 : decode cX10_startSo 131 = .ok (.iastore, 1) := by decide +kernel
theorem dX10_startSo_132 : decode cX10_startSo 132 = .ok (.iinc 1 1, 3) := by decide +kernel
theorem dX10_startSo_135 : decode cX10_startSo 135 = .ok (.goto (-28), 3) := by decide +kernel
theorem dX10_startSo_138 : decode cX10_startSo 138 = .ok (.return_, 1) := by decide +kernel
theorem dX10_stay_0 : decode cX10_stay 0 = .ok (.iconst 0, 1) := by decide +kernel
theorem dX10_stay_1 : decode cX10_stay 1 = .ok (.istore_n 2, 1) := by decide +kernel
theorem dX10_stay_2 : decode cX10_stay 2 = .ok (.iload_n 2, 1) := by decide +kernel
theorem dX10_stay_3 : decode cX10_stay 3 = .ok (.bipush 88, 2) := by decide +kernel
theorem dX10_stay_5 : decode cX10_stay 5 = .ok (.if_icmp .ge 41, 3) := by decide +kernel
theorem dX10_stay_8 : decode cX10_stay 8 = .ok (.aload_n 0, 1) := by decide +kernel
theorem dX10_stay_9 : decode cX10_stay 9 = .ok (.getfield 98, 3) := by decide +kernel
theorem dX10_stay_12 : decode cX10_stay 12 = .ok (.bipush 84, 2) := by decide +kernel
theorem dX10_stay_14 : decode cX10_stay 14 = .ok (.iload_n 2, 1) := by decide +kernel
theorem dX10_stay_15 : decode cX10_stay 15 = .ok (.iadd, 1) := by decide +kernel
theorem dX10_stay_16 : decode cX10_stay 16 = .ok (.iaload, 1) := by decide +kernel
theorem dX10_stay_17 : decode cX10_stay 17 = .ok (.istore_n 3, 1) := by decide +kernel
theorem dX10_stay_18 : decode cX10_stay 18 = .ok (.aload_n 0, 1) := by decide +kernel
theorem dX10_stay_19 : decode cX10_stay 19 = .ok (.getfield 98, 3) := by decide +kernel
theorem dX10_stay_22 : decode cX10_stay 22 = .ok (.bipush 84, 2) := by decide +kernel
theorem dX10_stay_24 : decode cX10_stay 24 = .ok (.iload_n 2, 1) := by decide +kernel
theorem dX10_stay_25 : decode cX10_stay 25 = .ok (.iadd, 1) := by decide +kernel
theorem dX10_stay_26 : decode cX10_stay 26 = .ok (.aload_n 0, 1) := by decide +kernel
theorem dX10_stay_27 : decode cX10_stay 27 = .ok (.getfield 110, 3) := by decide +kernel
theorem dX10_stay_30 : decode cX10_stay 30 = .ok (.iload_n 2, 1) := by decide +kernel
theorem dX10_stay_31 : decode cX10_stay 31 = .ok (.iaload, 1) := by decide +kernel
theorem dX10_stay_32 : decode cX10_stay 32 = .ok (.iastore, 1) := by decide +kernel
theorem dX10_stay_33 : decode cX10_stay 33 = .ok (.aload_n 0, 1) := by decide +kernel
theorem dX10_stay_34 : decode cX10_stay 34 = .ok (.getfield 110, 3) := by decide +kernel
theorem dX10_stay_37 : decode cX10_stay 37 = .ok (.iload_n 2, 1) := by decide +kernel
theorem dX10_stay_38 : decode cX10_stay 38 = .ok (.iload_n 3, 1) := by decide +kernel
theorem dX10_stay_39 : decode cX10_stay 39 = .ok (.iastore, 1) := by decide +kernel
theorem dX10_stay_40 : decode cX10_stay 40 = .ok (.iinc 2 1, 3) := by decide +kernel
theorem dX10_stay_43 : decode cX10_stay 43 = .ok (.goto (-41), 3) := by decide +kernel
theorem dX10_stay_46 : decode cX10_stay 46 = .ok (.iload_n 1, 1) := by decide +kernel
theorem dX10_stay_47 : decode cX10_stay 47 = .ok (.ifCond .ne 4, 3) := by decide +kernel
theorem dX10_stay_50 : decode cX10_stay 50 = .ok (.return_, 1) := by decide +kernel
theorem dX10_stay_51 : decode cX10_stay 51 = .ok (.aload_n 0, 1) := by decide +kernel
theorem dX10_stay_52 : decode cX10_stay 52 = .ok (.invokevirtual 301, 3) := by decide +kernel
theorem dX10_stay_55 : decode cX10_stay 55 = .ok (.aload_n 0, 1) := by decide +kernel
theorem dX10_stay_56 : decode cX10_stay 56 = .ok (.invokevirtual 331, 3) := by decide +kernel
theorem dX10_stay_59 : decode cX10_stay 59 = .ok (.return_, 1) := by decide +kernel
theorem dX10_sum_0 : decode cX10_sum 0 = .ok (.iconst 0, 1) := by decide +kernel
theorem dX10_sum_1 : decode cX10_sum 1 = .ok (.istore_n 3, 1) := by decide +kernel
theorem dX10_sum_2 : decode cX10_sum 2 = .ok (.iconst 0, 1) := by decide +kernel
theorem dX10_sum_3 : decode cX10_sum 3 = .ok (.istore 4, 2) := by decide +kernel
theorem dX10_sum_5 : decode cX10_sum 5 = .ok (.iload 4, 2) := by decide +kernel
theorem dX10_sum_7 : decode cX10_sum 7 = .ok (.iload_n 2, 1) := by decide +kernel
theorem dX10_sum_8 : decode cX10_sum 8 = .ok (.if_icmp .ge 21, 3) := by decide +kernel
theorem dX10_sum_11 : decode cX10_sum 11 = .ok (.iload_n 3, 1) := by decide +kernel
theorem dX10_sum_12 : decode cX10_sum 12 = .ok (.aload_n 0, 1) := by decide +kernel
theorem dX10_sum_13 : decode cX10_sum 13 = .ok (.getfield 98, 3) := by decide +kernel
theorem dX10_sum_16 : decode cX10_sum 16 = .ok (.iload_n 1, 1) := by decide +kernel
theorem dX10_sum_17 : decode cX10_sum 17 = .ok (.iload 4, 2) := by decide +kernel
theorem dX10_sum_19 : decode cX10_sum 19 = .ok (.iadd, 1) := by decide +kernel
theorem dX10_sum_20 : decode cX10_sum 20 = .ok (.iaload, 1) := by decide +kernel
theorem dX10_sum_21 : decode cX10_sum 21 = .ok (.iadd, 1) := by decide +kernel
theorem dX10_sum_22 : decode cX10_sum 22 = .ok (.istore_n 3, 1) := by decide +kernel
theorem dX10_sum_23 : decode cX10_sum 23 = .ok (.iinc 4 1, 3) := by decide +kernel
theorem dX10_sum_26 : decode cX10_sum 26 = .ok (.goto (-21), 3) := by decide +kernel
theorem dX10_sum_29 : decode cX10_sum 29 = .ok (.iload_n 3, 1) := by decide +kernel
theorem dX10_sum_30 : decode cX10_sum 30 = .ok (.ireturn, 1) := by decide +kernel
theorem dX10_surely_0 : decode cX10_surely 0 = .ok (.aload_n 0, 1) := by decide +kernel
theorem dX10_surely_1 : decode cX10_surely 1 = .ok (.iconst 0, 1) := by decide +kernel
theorem dX10_surely_2 : decode cX10_surely 2 = .ok (.putfield 1, 3) := by decide +kernel
theorem dX10_surely_5 : decode cX10_surely 5 = .ok (.aload_n 0, 1) := by decide +kernel
theorem dX10_surely_6 : decode cX10_surely 6 = .ok (.getfield 142, 3) := by decide +kernel
theorem dX10_surely_9 : decode cX10_surely 9 = .ok (.ireturn, 1) := by decide +kernel
theorem dX10_take_0 : decode cX10_take 0 = .ok (.aload_n 0, 1) := by decide +kernel
theorem dX10_take_1 : decode cX10_take 1 = .ok (.getfield 11, 3) := by decide +kernel
theorem dX10_take_4 : decode cX10_take 4 = .ok (.istore_n 1, 1) := by decide +kernel
theorem dX10_take_5 : decode cX10_take 5 = .ok (.aload_n 0, 1) := by decide +kernel
theorem dX10_take_6 : decode cX10_take 6 = .ok (.iconst 0, 1) := by decide +kernel
theorem dX10_take_7 : decode cX10_take 7 = .ok (.putfield 11, 3) := by decide +kernel
theorem dX10_take_10 : decode cX10_take 10 = .ok (.iload_n 1, 1) := by decide +kernel
theorem dX10_take_11 : decode cX10_take 11 = .ok (.ireturn, 1) := by decide +kernel
theorem dX10_takeBack_0 : decode cX10_takeBack 0 = .ok (.iconst 0, 1) := by decide +kernel
theorem dX10_takeBack_1 : decode cX10_takeBack 1 = .ok (.istore_n 1, 1) := by decide +kernel
theorem dX10_takeBack_2 : decode cX10_takeBack 2 = .ok (.iload_n 1, 1) := by decide +kernel
theorem dX10_takeBack_3 : decode cX10_takeBack 3 = .ok (.bipush 88, 2) := by decide +kernel
theorem dX10_takeBack_5 : decode cX10_takeBack 5 = .ok (.if_icmp .ge 24, 3) := by decide +kernel
theorem dX10_takeBack_8 : decode cX10_takeBack 8 = .ok (.aload_n 0, 1) := by decide +kernel
theorem dX10_takeBack_9 : decode cX10_takeBack 9 = .ok (.getfield 98, 3) := by decide +kernel
theorem dX10_takeBack_12 : decode cX10_takeBack 12 = .ok (.bipush 84, 2) := by decide +kernel
theorem dX10_takeBack_14 : decode cX10_takeBack 14 = .ok (.iload_n 1, 1) := by decide +kernel
theorem dX10_takeBack_15 : decode cX10_takeBack 15 = .ok (.iadd, 1) := by decide +kernel
theorem dX10_takeBack_16 : decode cX10_takeBack 16 = .ok (.aload_n 0, 1) := by decide +kernel
theorem dX10_takeBack_17 : decode cX10_takeBack 17 = .ok (.getfield 110, 3) := by decide +kernel
theorem dX10_takeBack_20 : decode cX10_takeBack 20 = .ok (.iload_n 1, 1) := by decide +kernel
theorem dX10_takeBack_21 : decode cX10_takeBack 21 = .ok (.iaload, 1) := by decide +kernel
theorem dX10_takeBack_22 : decode cX10_takeBack 22 = .ok (.iastore, 1) := by decide +kernel
theorem dX10_takeBack_23 : decode cX10_takeBack 23 = .ok (.iinc 1 1, 3) := by decide +kernel
theorem dX10_takeBack_26 : decode cX10_takeBack 26 = .ok (.goto (-24), 3) := by decide +kernel
theorem dX10_takeBack_29 : decode cX10_takeBack 29 = .ok (.return_, 1) := by decide +kernel
theorem dX10_told_0 : decode cX10_told 0 = .ok (.aload_n 0, 1) := by decide +kernel
theorem dX10_told_1 : decode cX10_told 1 = .ok (.iconst 0, 1) := by decide +kernel
theorem dX10_told_2 : decode cX10_told 2 = .ok (.putfield 1, 3) := by decide +kernel
theorem dX10_told_5 : decode cX10_told 5 = .ok (.aload_n 0, 1) := by decide +kernel
theorem dX10_told_6 : decode cX10_told 6 = .ok (.getfield 418, 3) := by decide +kernel
theorem dX10_told_9 : decode cX10_told 9 = .ok (.ifCond .eq 21, 3) := by decide +kernel
theorem dX10_told_12 : decode cX10_told 12 = .ok (.iload_n 1, 1) := by decide +kernel
theorem dX10_told_13 : decode cX10_told 13 = .ok (.iconst 0, 1) := by decide +kernel
theorem dX10_told_14 : decode cX10_told 14 = .ok (.iconst 3, 1) := by decide +kernel
theorem dX10_told_15 : decode cX10_told 15 = .ok (.invokestatic 75, 3) := by decide +kernel
theorem dX10_told_18 : decode cX10_told 18 = .ok (.ifCond .eq 12, 3) := by decide +kernel
theorem dX10_told_21 : decode cX10_told 21 = .ok (.aload_n 0, 1) := by decide +kernel
theorem dX10_told_22 : decode cX10_told 22 = .ok (.getfield 163, 3) := by decide +kernel
theorem dX10_told_25 : decode cX10_told 25 = .ok (.iload_n 1, 1) := by decide +kernel
theorem dX10_told_26 : decode cX10_told 26 = .ok (.iaload, 1) := by decide +kernel
theorem dX10_told_27 : decode cX10_told 27 = .ok (.goto 4, 3) := by decide +kernel
theorem dX10_told_30 : decode cX10_told 30 = .ok (.iconst (-1), 1) := by decide +kernel
theorem dX10_told_31 : decode cX10_told 31 = .ok (.ireturn, 1) := by decide +kernel
theorem dX10_undo_0 : decode cX10_undo 0 = .ok (.aload_n 0, 1) := by decide +kernel
theorem dX10_undo_1 : decode cX10_undo 1 = .ok (.iconst 0, 1) := by decide +kernel
theorem dX10_undo_2 : decode cX10_undo 2 = .ok (.putfield 1, 3) := by decide +kernel
theorem dX10_undo_5 : decode cX10_undo 5 = .ok (.aload_n 0, 1) := by decide +kernel
theorem dX10_undo_6 : decode cX10_undo 6 = .ok (.getfield 246, 3) := by decide +kernel
theorem dX10_undo_9 : decode cX10_undo 9 = .ok (.ifCond .ne 5, 3) := by decide +kernel
theorem dX10_undo_12 : decode cX10_undo 12 = .ok (.iconst (-1), 1) := by decide +kernel
theorem dX10_undo_13 : decode cX10_undo 13 = .ok (.ireturn, 1) := by decide +kernel
theorem dX10_undo_14 : decode cX10_undo 14 = .ok (.aload_n 0, 1) := by decide +kernel
theorem dX10_undo_15 : decode cX10_undo 15 = .ok (.dup, 1) := by decide +kernel
theorem dX10_undo_16 : decode cX10_undo 16 = .ok (.getfield 246, 3) := by decide +kernel
theorem dX10_undo_19 : decode cX10_undo 19 = .ok (.iconst 1, 1) := by decide +kernel
theorem dX10_undo_20 : decode cX10_undo 20 = .ok (.isub, 1) := by decide +kernel
theorem dX10_undo_21 : decode cX10_undo 21 = .ok (.putfield 246, 3) := by decide +kernel
theorem dX10_undo_24 : decode cX10_undo 24 = .ok (.iconst 0, 1) := by decide +kernel
theorem dX10_undo_25 : decode cX10_undo 25 = .ok (.istore_n 1, 1) := by decide +kernel
theorem dX10_undo_26 : decode cX10_undo 26 = .ok (.iload_n 1, 1) := by decide +kernel
theorem dX10_undo_27 : decode cX10_undo 27 = .ok (.bipush 88, 2) := by decide +kernel
theorem dX10_undo_29 : decode cX10_undo 29 = .ok (.if_icmp .ge 32, 3) := by decide +kernel
theorem dX10_undo_32 : decode cX10_undo 32 = .ok (.aload_n 0, 1) := by decide +kernel
theorem dX10_undo_33 : decode cX10_undo 33 = .ok (.getfield 98, 3) := by decide +kernel
theorem dX10_undo_36 : decode cX10_undo 36 = .ok (.bipush 84, 2) := by decide +kernel
theorem dX10_undo_38 : decode cX10_undo 38 = .ok (.iload_n 1, 1) := by decide +kernel
theorem dX10_undo_39 : decode cX10_undo 39 = .ok (.iadd, 1) := by decide +kernel
theorem dX10_undo_40 : decode cX10_undo 40 = .ok (.aload_n 0, 1) := by decide +kernel
theorem dX10_undo_41 : decode cX10_undo 41 = .ok (.getfield 107, 3) := by decide +kernel
theorem dX10_undo_44 : decode cX10_undo 44 = .ok (.bipush 88, 2) := by decide +kernel
theorem dX10_undo_46 : decode cX10_undo 46 = .ok (.aload_n 0, 1) := by decide +kernel
theorem dX10_undo_47 : decode cX10_undo 47 = .ok (.getfield 246, 3) := by decide +kernel
theorem dX10_undo_50 : decode cX10_undo 50 = .ok (.imul, 1) := by decide +kernel
theorem dX10_undo_51 : decode cX10_undo 51 = .ok (.iload_n 1, 1) := by decide +kernel
theorem dX10_undo_52 : decode cX10_undo 52 = .ok (.iadd, 1) := by decide +kernel
theorem dX10_undo_53 : decode cX10_undo 53 = .ok (.iaload, 1) := by decide +kernel
theorem dX10_undo_54 : decode cX10_undo 54 = .ok (.iastore, 1) := by decide +kernel
theorem dX10_undo_55 : decode cX10_undo 55 = .ok (.iinc 1 1, 3) := by decide +kernel
theorem dX10_undo_58 : decode cX10_undo 58 = .ok (.goto (-32), 3) := by decide +kernel
theorem dX10_undo_61 : decode cX10_undo 61 = .ok (.aload_n 0, 1) := by decide +kernel
theorem dX10_undo_62 : decode cX10_undo 62 = .ok (.getfield 246, 3) := by decide +kernel
theorem dX10_undo_65 : decode cX10_undo 65 = .ok (.ireturn, 1) := by decide +kernel
theorem dX10_whatIs_0 : decode cX10_whatIs 0 = .ok (.iconst (-1), 1) := by decide +kernel
theorem dX10_whatIs_1 : decode cX10_whatIs 1 = .ok (.istore_n 2, 1) := by decide +kernel
theorem dX10_whatIs_2 : decode cX10_whatIs 2 = .ok (.aload_n 0, 1) := by decide +kernel
theorem dX10_whatIs_3 : decode cX10_whatIs 3 = .ok (.getfield 98, 3) := by decide +kernel
theorem dX10_whatIs_6 : decode cX10_whatIs 6 = .ok (.iconst 0, 1) := by decide +kernel
theorem dX10_whatIs_7 : decode cX10_whatIs 7 = .ok (.iaload, 1) := by decide +kernel
theorem dX10_whatIs_8 : decode cX10_whatIs 8 = .ok (.iconst 1, 1) := by decide +kernel
theorem dX10_whatIs_9 : decode cX10_whatIs 9 = .ok (.isub, 1) := by decide +kernel
theorem dX10_whatIs_10 : decode cX10_whatIs 10 = .ok (.istore_n 3, 1) := by decide +kernel
theorem dX10_whatIs_11 : decode cX10_whatIs 11 = .ok (.iload_n 3, 1) := by decide +kernel
theorem dX10_whatIs_12 : decode cX10_whatIs 12 = .ok (.ifCond .lt 49, 3) := by decide +kernel
theorem dX10_whatIs_15 : decode cX10_whatIs 15 = .ok (.aload_n 0, 1) := by decide +kernel
theorem dX10_whatIs_16 : decode cX10_whatIs 16 = .ok (.iload_n 1, 1) := by decide +kernel
theorem dX10_whatIs_17 : decode cX10_whatIs 17 = .ok (.iload_n 3, 1) := by decide +kernel
theorem dX10_whatIs_18 : decode cX10_whatIs 18 = .ok (.invokevirtual 249, 3) := by decide +kernel
theorem dX10_whatIs_21 : decode cX10_whatIs 21 = .ok (.aload_n 0, 1) := by decide +kernel
theorem dX10_whatIs_22 : decode cX10_whatIs 22 = .ok (.getfield 98, 3) := by decide +kernel
theorem dX10_whatIs_25 : decode cX10_whatIs 25 = .ok (.bipush 6, 2) := by decide +kernel
theorem dX10_whatIs_27 : decode cX10_whatIs 27 = .ok (.iload_n 3, 1) := by decide +kernel
theorem dX10_whatIs_28 : decode cX10_whatIs 28 = .ok (.iadd, 1) := by decide +kernel
theorem dX10_whatIs_29 : decode cX10_whatIs 29 = .ok (.iaload, 1) := by decide +kernel
theorem dX10_whatIs_30 : decode cX10_whatIs 30 = .ok (.if_icmp .lt 25, 3) := by decide +kernel
theorem dX10_whatIs_33 : decode cX10_whatIs 33 = .ok (.iload_n 2, 1) := by decide +kernel
theorem dX10_whatIs_34 : decode cX10_whatIs 34 = .ok (.iconst (-1), 1) := by decide +kernel
theorem dX10_whatIs_35 : decode cX10_whatIs 35 = .ok (.if_icmp .eq 18, 3) := by decide +kernel
theorem dX10_whatIs_38 : decode cX10_whatIs 38 = .ok (.aload_n 0, 1) := by decide +kernel
theorem dX10_whatIs_39 : decode cX10_whatIs 39 = .ok (.iload_n 1, 1) := by decide +kernel
theorem dX10_whatIs_40 : decode cX10_whatIs 40 = .ok (.iload_n 3, 1) := by decide +kernel
theorem dX10_whatIs_41 : decode cX10_whatIs 41 = .ok (.invokevirtual 249, 3) := by decide +kernel
theorem dX10_whatIs_44 : decode cX10_whatIs 44 = .ok (.aload_n 0, 1) := by decide +kernel
theorem dX10_whatIs_45 : decode cX10_whatIs 45 = .ok (.iload_n 1, 1) := by decide +kernel
theorem dX10_whatIs_46 : decode cX10_whatIs 46 = .ok (.iload_n 2, 1) := by decide +kernel
theorem dX10_whatIs_47 : decode cX10_whatIs 47 = .ok (.invokevirtual 249, 3) := by decide +kernel
theorem dX10_whatIs_50 : decode cX10_whatIs 50 = .ok (.if_icmp .lt 5, 3) := by decide +kernel
theorem dX10_whatIs_53 : decode cX10_whatIs 53 = .ok (.iload_n 3, 1) := by decide +kernel
theorem dX10_whatIs_54 : decode cX10_whatIs 54 = .ok (.istore_n 2, 1) := by decide +kernel
theorem dX10_whatIs_55 : decode cX10_whatIs 55 = .ok (.iinc 3 (-1), 3) := by decide +kernel
theorem dX10_whatIs_58 : decode cX10_whatIs 58 = .ok (.goto (-47), 3) := by decide +kernel
theorem dX10_whatIs_61 : decode cX10_whatIs 61 = .ok (.iload_n 2, 1) := by decide +kernel
theorem dX10_whatIs_62 : decode cX10_whatIs 62 = .ok (.ireturn, 1) := by decide +kernel
theorem dX10_when_0 : decode cX10_when 0 = .ok (.aload_n 0, 1) := by decide +kernel
theorem dX10_when_1 : decode cX10_when 1 = .ok (.iconst 0, 1) := by decide +kernel
theorem dX10_when_2 : decode cX10_when 2 = .ok (.putfield 1, 3) := by decide +kernel
theorem dX10_when_5 : decode cX10_when 5 = .ok (.aload_n 0, 1) := by decide +kernel
theorem dX10_when_6 : decode cX10_when 6 = .ok (.iload_n 1, 1) := by decide +kernel
theorem dX10_when_7 : decode cX10_when 7 = .ok (.invokevirtual 256, 3) := by decide +kernel
theorem dX10_when_10 : decode cX10_when 10 = .ok (.ifCond .eq 11, 3) := by decide +kernel
theorem dX10_when_13 : decode cX10_when 13 = .ok (.aload_n 0, 1) := by decide +kernel
theorem dX10_when_14 : decode cX10_when 14 = .ok (.iload_n 2, 1) := by decide +kernel
theorem dX10_when_15 : decode cX10_when 15 = .ok (.invokevirtual 259, 3) := by decide +kernel
theorem dX10_when_18 : decode cX10_when 18 = .ok (.ifCond .ne 5, 3) := by decide +kernel
theorem dX10_when_21 : decode cX10_when 21 = .ok (.iconst (-1), 1) := by decide +kernel
theorem dX10_when_22 : decode cX10_when 22 = .ok (.ireturn, 1) := by decide +kernel
theorem dX10_when_23 : decode cX10_when 23 = .ok (.aload_n 0, 1) := by decide +kernel
theorem dX10_when_24 : decode cX10_when 24 = .ok (.invokevirtual 328, 3) := by decide +kernel
theorem dX10_when_27 : decode cX10_when 27 = .ok (.iconst 0, 1) := by decide +kernel
theorem dX10_when_28 : decode cX10_when 28 = .ok (.istore_n 3, 1) := by decide +kernel
theorem dX10_when_29 : decode cX10_when 29 = .ok (.iload_n 3, 1) := by decide +kernel
theorem dX10_when_30 : decode cX10_when 30 = .ok (.bipush 60, 2) := by decide +kernel
theorem dX10_when_32 : decode cX10_when 32 = .ok (.if_icmp .gt 41, 3) := by decide +kernel
theorem dX10_when_35 : decode cX10_when 35 = .ok (.aload_n 0, 1) := by decide +kernel
theorem dX10_when_36 : decode cX10_when 36 = .ok (.iload_n 1, 1) := by decide +kernel
theorem dX10_when_37 : decode cX10_when 37 = .ok (.invokevirtual 253, 3) := by decide +kernel
theorem dX10_when_40 : decode cX10_when 40 = .ok (.iload_n 2, 1) := by decide +kernel
theorem dX10_when_41 : decode cX10_when 41 = .ok (.if_icmp .eq 32, 3) := by decide +kernel
theorem dX10_when_44 : decode cX10_when 44 = .ok (.aload_n 0, 1) := by decide +kernel
theorem dX10_when_45 : decode cX10_when 45 = .ok (.getfield 98, 3) := by decide +kernel
theorem dX10_when_48 : decode cX10_when 48 = .ok (.bipush 84, 2) := by decide +kernel
theorem dX10_when_50 : decode cX10_when 50 = .ok (.iaload, 1) := by decide +kernel
theorem dX10_when_51 : decode cX10_when 51 = .ok (.sipush 400, 3) := by decide +kernel
theorem dX10_when_54 : decode cX10_when 54 = .ok (.if_icmp .ne 9, 3) := by decide +kernel
theorem dX10_when_57 : decode cX10_when 57 = .ok (.bipush 60, 2) := by decide +kernel
theorem dX10_when_59 : decode cX10_when 59 = .ok (.istore_n 3, 1) := by decide +kernel
theorem dX10_when_60 : decode cX10_when 60 = .ok (.goto 7, 3) := by decide +kernel
theorem dX10_when_63 : decode cX10_when 63 = .ok (.aload_n 0, 1) := by decide +kernel
theorem dX10_when_64 : decode cX10_when 64 = .ok (.invokevirtual 322, 3) := by decide +kernel
theorem dX10_when_67 : decode cX10_when 67 = .ok (.iinc 3 1, 3) := by decide +kernel
theorem dX10_when_70 : decode cX10_when 70 = .ok (.goto (-41), 3) := by decide +kernel
theorem dX10_when_73 : decode cX10_when 73 = .ok (.aload_n 0, 1) := by decide +kernel
theorem dX10_when_74 : decode cX10_when 74 = .ok (.invokevirtual 331, 3) := by decide +kernel
theorem dX10_when_77 : decode cX10_when 77 = .ok (.iload_n 3, 1) := by decide +kernel
theorem dX10_when_78 : decode cX10_when 78 = .ok (.bipush 60, 2) := by decide +kernel
theorem dX10_when_80 : decode cX10_when 80 = .ok (.if_icmp .le 7, 3) := by decide +kernel
theorem dX10_when_83 : decode cX10_when 83 = .ok (.iconst (-1), 1) := by decide +kernel
theorem dX10_when_84 : decode cX10_when 84 = .ok (.goto 4, 3) := by decide +kernel
theorem dX10_when_87 : decode cX10_when 87 = .ok (.iload_n 3, 1) := by decide +kernel
theorem dX10_when_88 : decode cX10_when 88 = .ok (.ireturn, 1) := by decide +kernel
theorem dX10_why_0 : decode cX10_why 0 = .ok (.iload_n 1, 1) := by decide +kernel
theorem dX10_why_1 : decode cX10_why 1 = .ok (.tableswitch 145 0 4 #[35, 54, 73, 92, 131], 35) := by decide +kernel
theorem dX10_why_36 : decode cX10_why 36 = .ok (.aload_n 0, 1) := by decide +kernel
theorem dX10_why_37 : decode cX10_why 37 = .ok (.getfield 98, 3) := by decide +kernel
theorem dX10_why_40 : decode cX10_why 40 = .ok (.bipush 112, 2) := by decide +kernel
theorem dX10_why_42 : decode cX10_why 42 = .ok (.iload_n 2, 1) := by decide +kernel
theorem dX10_why_43 : decode cX10_why 43 = .ok (.iadd, 1) := by decide +kernel
theorem dX10_why_44 : decode cX10_why 44 = .ok (.iaload, 1) := by decide +kernel
theorem dX10_why_45 : decode cX10_why 45 = .ok (.iload_n 3, 1) := by decide +kernel
theorem dX10_why_46 : decode cX10_why 46 = .ok (.if_icmp .ne 7, 3) := by decide +kernel
theorem dX10_why_49 : decode cX10_why 49 = .ok (.iconst 1, 1) := by decide +kernel
theorem dX10_why_50 : decode cX10_why 50 = .ok (.goto 4, 3) := by decide +kernel
theorem dX10_why_53 : decode cX10_why 53 = .ok (.iconst 0, 1) := by decide +kernel
theorem dX10_why_54 : decode cX10_why 54 = .ok (.ireturn, 1) := by decide +kernel
theorem dX10_why_55 : decode cX10_why 55 = .ok (.aload_n 0, 1) := by decide +kernel
theorem dX10_why_56 : decode cX10_why 56 = .ok (.getfield 98, 3) := by decide +kernel
theorem dX10_why_59 : decode cX10_why 59 = .ok (.bipush 112, 2) := by decide +kernel
theorem dX10_why_61 : decode cX10_why 61 = .ok (.iload_n 2, 1) := by decide +kernel
theorem dX10_why_62 : decode cX10_why 62 = .ok (.iadd, 1) := by decide +kernel
theorem dX10_why_63 : decode cX10_why 63 = .ok (.iaload, 1) := by decide +kernel
theorem dX10_why_64 : decode cX10_why 64 = .ok (.iconst (-1), 1) := by decide +kernel
theorem dX10_why_65 : decode cX10_why 65 = .ok (.if_icmp .ne 7, 3) := by decide +kernel
theorem dX10_why_68 : decode cX10_why 68 = .ok (.iconst 1, 1) := by decide +kernel
theorem dX10_why_69 : decode cX10_why 69 = .ok (.goto 4, 3) := by decide +kernel
theorem dX10_why_72 : decode cX10_why 72 = .ok (.iconst 0, 1) := by decide +kernel
theorem dX10_why_73 : decode cX10_why 73 = .ok (.ireturn, 1) := by decide +kernel
theorem dX10_why_74 : decode cX10_why 74 = .ok (.aload_n 0, 1) := by decide +kernel
theorem dX10_why_75 : decode cX10_why 75 = .ok (.getfield 98, 3) := by decide +kernel
theorem dX10_why_78 : decode cX10_why 78 = .ok (.bipush 104, 2) := by decide +kernel
theorem dX10_why_80 : decode cX10_why 80 = .ok (.iload_n 2, 1) := by decide +kernel
theorem dX10_why_81 : decode cX10_why 81 = .ok (.iadd, 1) := by decide +kernel
theorem dX10_why_82 : decode cX10_why 82 = .ok (.iaload, 1) := by decide +kernel
theorem dX10_why_83 : decode cX10_why 83 = .ok (.iload_n 3, 1) := by decide +kernel
theorem dX10_why_84 : decode cX10_why 84 = .ok (.if_icmp .ne 7, 3) := by decide +kernel
theorem dX10_why_87 : decode cX10_why 87 = .ok (.iconst 1, 1) := by decide +kernel
theorem dX10_why_88 : decode cX10_why 88 = .ok (.goto 4, 3) := by decide +kernel
theorem dX10_why_91 : decode cX10_why 91 = .ok (.iconst 0, 1) := by decide +kernel
theorem dX10_why_92 : decode cX10_why 92 = .ok (.ireturn, 1) := by decide +kernel
theorem dX10_why_93 : decode cX10_why 93 = .ok (.aload_n 0, 1) := by decide +kernel
theorem dX10_why_94 : decode cX10_why 94 = .ok (.getfield 98, 3) := by decide +kernel
theorem dX10_why_97 : decode cX10_why 97 = .ok (.bipush 112, 2) := by decide +kernel
theorem dX10_why_99 : decode cX10_why 99 = .ok (.iload_n 2, 1) := by decide +kernel
theorem dX10_why_100 : decode cX10_why 100 = .ok (.iadd, 1) := by decide +kernel
theorem dX10_why_101 : decode cX10_why 101 = .ok (.iaload, 1) := by decide +kernel
theorem dX10_why_102 : decode cX10_why 102 = .ok (.iconst (-1), 1) := by decide +kernel
theorem dX10_why_103 : decode cX10_why 103 = .ok (.if_icmp .ne 7, 3) := by decide +kernel
theorem dX10_why_106 : decode cX10_why 106 = .ok (.iconst 1, 1) := by decide +kernel
theorem dX10_why_107 : decode cX10_why 107 = .ok (.goto 24, 3) := by decide +kernel
theorem dX10_why_110 : decode cX10_why 110 = .ok (.aload_n 0, 1) := by decide +kernel
theorem dX10_why_111 : decode cX10_why 111 = .ok (.aload_n 0, 1) := by decide +kernel
theorem dX10_why_112 : decode cX10_why 112 = .ok (.getfield 98, 3) := by decide +kernel
theorem dX10_why_115 : decode cX10_why 115 = .ok (.bipush 112, 2) := by decide +kernel
theorem dX10_why_117 : decode cX10_why 117 = .ok (.iload_n 2, 1) := by decide +kernel
theorem dX10_why_118 : decode cX10_why 118 = .ok (.iadd, 1) := by decide +kernel
theorem dX10_why_119 : decode cX10_why 119 = .ok (.iaload, 1) := by decide +kernel
theorem dX10_why_120 : decode cX10_why 120 = .ok (.invokevirtual 268, 3) := by decide +kernel
theorem dX10_why_123 : decode cX10_why 123 = .ok (.ifCond .eq 7, 3) := by decide +kernel
theorem dX10_why_126 : decode cX10_why 126 = .ok (.iconst 2, 1) := by decide +kernel
theorem dX10_why_127 : decode cX10_why 127 = .ok (.goto 4, 3) := by decide +kernel
theorem dX10_why_130 : decode cX10_why 130 = .ok (.iconst 0, 1) := by decide +kernel
theorem dX10_why_131 : decode cX10_why 131 = .ok (.ireturn, 1) := by decide +kernel
theorem dX10_why_132 : decode cX10_why 132 = .ok (.aload_n 0, 1) := by decide +kernel
theorem dX10_why_133 : decode cX10_why 133 = .ok (.iload_n 2, 1) := by decide +kernel
theorem dX10_why_134 : decode cX10_why 134 = .ok (.invokevirtual 268, 3) := by decide +kernel
theorem dX10_why_137 : decode cX10_why 137 = .ok (.ifCond .eq 7, 3) := by decide +kernel
theorem dX10_why_140 : decode cX10_why 140 = .ok (.iconst 1, 1) := by decide +kernel
theorem dX10_why_141 : decode cX10_why 141 = .ok (.goto 4, 3) := by decide +kernel
theorem dX10_why_144 : decode cX10_why 144 = .ok (.iconst 0, 1) := by decide +kernel
theorem dX10_why_145 : decode cX10_why 145 = .ok (.ireturn, 1) := by decide +kernel
theorem dX10_why_146 : decode cX10_why 146 = .ok (.aload_n 0, 1) := by decide +kernel
theorem dX10_why_147 : decode cX10_why 147 = .ok (.iload_n 2, 1) := by decide +kernel
theorem dX10_why_148 : decode cX10_why 148 = .ok (.invokevirtual 268, 3) := by decide +kernel
theorem dX10_why_151 : decode cX10_why 151 = .ok (.ifCond .eq 7, 3) := by decide +kernel
theorem dX10_why_154 : decode cX10_why 154 = .ok (.iconst 1, 1) := by decide +kernel
theorem dX10_why_155 : decode cX10_why 155 = .ok (.goto 21, 3) := by decide +kernel
theorem dX10_why_158 : decode cX10_why 158 = .ok (.aload_n 0, 1) := by decide +kernel
theorem dX10_why_159 : decode cX10_why 159 = .ok (.getfield 98, 3) := by decide +kernel
theorem dX10_why_162 : decode cX10_why 162 = .ok (.bipush 86, 2) := by decide +kernel
theorem dX10_why_164 : decode cX10_why 164 = .ok (.iload_n 2, 1) := by decide +kernel
theorem dX10_why_165 : decode cX10_why 165 = .ok (.iadd, 1) := by decide +kernel
theorem dX10_why_166 : decode cX10_why 166 = .ok (.iaload, 1) := by decide +kernel
theorem dX10_why_167 : decode cX10_why 167 = .ok (.iload_n 3, 1) := by decide +kernel
theorem dX10_why_168 : decode cX10_why 168 = .ok (.if_icmp .ne 7, 3) := by decide +kernel
theorem dX10_why_171 : decode cX10_why 171 = .ok (.iconst 2, 1) := by decide +kernel
theorem dX10_why_172 : decode cX10_why 172 = .ok (.goto 4, 3) := by decide +kernel
theorem dX10_why_175 : decode cX10_why 175 = .ok (.iconst 0, 1) := by decide +kernel
theorem dX10_why_176 : decode cX10_why 176 = .ok (.ireturn, 1) := by decide +kernel
theorem dX10_wish_0 : decode cX10_wish 0 = .ok (.aload_n 0, 1) := by decide +kernel
theorem dX10_wish_1 : decode cX10_wish 1 = .ok (.iconst 0, 1) := by decide +kernel
theorem dX10_wish_2 : decode cX10_wish 2 = .ok (.putfield 1, 3) := by decide +kernel
theorem dX10_wish_5 : decode cX10_wish 5 = .ok (.aload_n 0, 1) := by decide +kernel
theorem dX10_wish_6 : decode cX10_wish 6 = .ok (.iload_n 1, 1) := by decide +kernel
theorem dX10_wish_7 : decode cX10_wish 7 = .ok (.invokevirtual 274, 3) := by decide +kernel
theorem dX10_wish_10 : decode cX10_wish 10 = .ok (.ifCond .eq 21, 3) := by decide +kernel
theorem dX10_wish_13 : decode cX10_wish 13 = .ok (.aload_n 0, 1) := by decide +kernel
theorem dX10_wish_14 : decode cX10_wish 14 = .ok (.iload_n 2, 1) := by decide +kernel
theorem dX10_wish_15 : decode cX10_wish 15 = .ok (.invokevirtual 259, 3) := by decide +kernel
theorem dX10_wish_18 : decode cX10_wish 18 = .ok (.ifCond .eq 13, 3) := by decide +kernel
theorem dX10_wish_21 : decode cX10_wish 21 = .ok (.aload_n 0, 1) := by decide +kernel
theorem dX10_wish_22 : decode cX10_wish 22 = .ok (.iconst 2, 1) := by decide +kernel
theorem dX10_wish_23 : decode cX10_wish 23 = .ok (.iload_n 1, 1) := by decide +kernel
theorem dX10_wish_24 : decode cX10_wish 24 = .ok (.iload_n 2, 1) := by decide +kernel
theorem dX10_wish_25 : decode cX10_wish 25 = .ok (.invokevirtual 307, 3) := by decide +kernel
theorem dX10_wish_28 : decode cX10_wish 28 = .ok (.goto 4, 3) := by decide +kernel
theorem dX10_wish_31 : decode cX10_wish 31 = .ok (.iconst (-1), 1) := by decide +kernel
theorem dX10_wish_32 : decode cX10_wish 32 = .ok (.ireturn, 1) := by decide +kernel
theorem dX10_wonders_0 : decode cX10_wonders 0 = .ok (.aload_n 0, 1) := by decide +kernel
theorem dX10_wonders_1 : decode cX10_wonders 1 = .ok (.getfield 98, 3) := by decide +kernel
theorem dX10_wonders_4 : decode cX10_wonders 4 = .ok (.bipush 112, 2) := by decide +kernel
theorem dX10_wonders_6 : decode cX10_wonders 6 = .ok (.iload_n 1, 1) := by decide +kernel
theorem dX10_wonders_7 : decode cX10_wonders 7 = .ok (.iadd, 1) := by decide +kernel
theorem dX10_wonders_8 : decode cX10_wonders 8 = .ok (.iaload, 1) := by decide +kernel
theorem dX10_wonders_9 : decode cX10_wonders 9 = .ok (.istore_n 2, 1) := by decide +kernel
theorem dX10_wonders_10 : decode cX10_wonders 10 = .ok (.iload_n 2, 1) := by decide +kernel
theorem dX10_wonders_11 : decode cX10_wonders 11 = .ok (.iconst (-1), 1) := by decide +kernel
theorem dX10_wonders_12 : decode cX10_wonders 12 = .ok (.if_icmp .eq 11, 3) := by decide +kernel
theorem dX10_wonders_15 : decode cX10_wonders 15 = .ok (.aload_n 0, 1) := by decide +kernel
theorem dX10_wonders_16 : decode cX10_wonders 16 = .ok (.iload_n 2, 1) := by decide +kernel
theorem dX10_wonders_17 : decode cX10_wonders 17 = .ok (.invokevirtual 268, 3) := by decide +kernel
theorem dX10_wonders_20 : decode cX10_wonders 20 = .ok (.ifCond .eq 4, 3) := by decide +kernel
theorem dX10_wonders_23 : decode cX10_wonders 23 = .ok (.return_, 1) := by decide +kernel
theorem dX10_wonders_24 : decode cX10_wonders 24 = .ok (.aload_n 0, 1) := by decide +kernel
theorem dX10_wonders_25 : decode cX10_wonders 25 = .ok (.iload_n 2, 1) := by decide +kernel
theorem dX10_wonders_26 : decode cX10_wonders 26 = .ok (.aload_n 0, 1) := by decide +kernel
theorem dX10_wonders_27 : decode cX10_wonders 27 = .ok (.getfield 98, 3) := by decide +kernel
theorem dX10_wonders_30 : decode cX10_wonders 30 = .ok (.bipush 104, 2) := by decide +kernel
theorem dX10_wonders_32 : decode cX10_wonders 32 = .ok (.iload_n 1, 1) := by decide +kernel
theorem dX10_wonders_33 : decode cX10_wonders 33 = .ok (.iadd, 1) := by decide +kernel
theorem dX10_wonders_34 : decode cX10_wonders 34 = .ok (.iaload, 1) := by decide +kernel
theorem dX10_wonders_35 : decode cX10_wonders 35 = .ok (.aload_n 0, 1) := by decide +kernel
theorem dX10_wonders_36 : decode cX10_wonders 36 = .ok (.getfield 98, 3) := by decide +kernel
theorem dX10_wonders_39 : decode cX10_wonders 39 = .ok (.bipush 32, 2) := by decide +kernel
theorem dX10_wonders_41 : decode cX10_wonders 41 = .ok (.iload_n 1, 1) := by decide +kernel
theorem dX10_wonders_42 : decode cX10_wonders 42 = .ok (.iadd, 1) := by decide +kernel
theorem dX10_wonders_43 : decode cX10_wonders 43 = .ok (.iaload, 1) := by decide +kernel
theorem dX10_wonders_44 : decode cX10_wonders 44 = .ok (.invokevirtual 290, 3) := by decide +kernel
theorem dX10_wonders_47 : decode cX10_wonders 47 = .ok (.iconst 0, 1) := by decide +kernel
theorem dX10_wonders_48 : decode cX10_wonders 48 = .ok (.istore_n 3, 1) := by decide +kernel
theorem dX10_wonders_49 : decode cX10_wonders 49 = .ok (.iload_n 3, 1) := by decide +kernel
theorem dX10_wonders_50 : decode cX10_wonders 50 = .ok (.aload_n 0, 1) := by decide +kernel
theorem dX10_wonders_51 : decode cX10_wonders 51 = .ok (.getfield 98, 3) := by decide +kernel
theorem dX10_wonders_54 : decode cX10_wonders 54 = .ok (.iconst 2, 1) := by decide +kernel
theorem dX10_wonders_55 : decode cX10_wonders 55 = .ok (.iaload, 1) := by decide +kernel
theorem dX10_wonders_56 : decode cX10_wonders 56 = .ok (.if_icmp .ge 63, 3) := by decide +kernel
theorem dX10_wonders_59 : decode cX10_wonders 59 = .ok (.iload_n 3, 1) := by decide +kernel
theorem dX10_wonders_60 : decode cX10_wonders 60 = .ok (.iload_n 2, 1) := by decide +kernel
theorem dX10_wonders_61 : decode cX10_wonders 61 = .ok (.if_icmp .eq 52, 3) := by decide +kernel
theorem dX10_wonders_64 : decode cX10_wonders 64 = .ok (.aload_n 0, 1) := by decide +kernel
theorem dX10_wonders_65 : decode cX10_wonders 65 = .ok (.iload_n 3, 1) := by decide +kernel
theorem dX10_wonders_66 : decode cX10_wonders 66 = .ok (.invokevirtual 268, 3) := by decide +kernel
theorem dX10_wonders_69 : decode cX10_wonders 69 = .ok (.ifCond .ne 44, 3) := by decide +kernel
theorem dX10_wonders_72 : decode cX10_wonders 72 = .ok (.aload_n 0, 1) := by decide +kernel
theorem dX10_wonders_73 : decode cX10_wonders 73 = .ok (.getfield 98, 3) := by decide +kernel
theorem dX10_wonders_76 : decode cX10_wonders 76 = .ok (.bipush 86, 2) := by decide +kernel
theorem dX10_wonders_78 : decode cX10_wonders 78 = .ok (.iload_n 3, 1) := by decide +kernel
theorem dX10_wonders_79 : decode cX10_wonders 79 = .ok (.iadd, 1) := by decide +kernel
theorem dX10_wonders_80 : decode cX10_wonders 80 = .ok (.iaload, 1) := by decide +kernel
theorem dX10_wonders_81 : decode cX10_wonders 81 = .ok (.aload_n 0, 1) := by decide +kernel
theorem dX10_wonders_82 : decode cX10_wonders 82 = .ok (.getfield 98, 3) := by decide +kernel
theorem dX10_wonders_85 : decode cX10_wonders 85 = .ok (.bipush 86, 2) := by decide +kernel
theorem dX10_wonders_87 : decode cX10_wonders 87 = .ok (.iload_n 2, 1) := by decide +kernel
theorem dX10_wonders_88 : decode cX10_wonders 88 = .ok (.iadd, 1) := by decide +kernel
theorem dX10_wonders_89 : decode cX10_wonders 89 = .ok (.iaload, 1) := by decide +kernel
theorem dX10_wonders_90 : decode cX10_wonders 90 = .ok (.if_icmp .ne 23, 3) := by decide +kernel
theorem dX10_wonders_93 : decode cX10_wonders 93 = .ok (.aload_n 0, 1) := by decide +kernel
theorem dX10_wonders_94 : decode cX10_wonders 94 = .ok (.iload_n 3, 1) := by decide +kernel
theorem dX10_wonders_95 : decode cX10_wonders 95 = .ok (.aload_n 0, 1) := by decide +kernel
theorem dX10_wonders_96 : decode cX10_wonders 96 = .ok (.getfield 98, 3) := by decide +kernel
theorem dX10_wonders_99 : decode cX10_wonders 99 = .ok (.bipush 104, 2) := by decide +kernel
theorem dX10_wonders_101 : decode cX10_wonders 101 = .ok (.iload_n 1, 1) := by decide +kernel
theorem dX10_wonders_102 : decode cX10_wonders 102 = .ok (.iadd, 1) := by decide +kernel
theorem dX10_wonders_103 : decode cX10_wonders 103 = .ok (.iaload, 1) := by decide +kernel
theorem dX10_wonders_104 : decode cX10_wonders 104 = .ok (.aload_n 0, 1) := by decide +kernel
theorem dX10_wonders_105 : decode cX10_wonders 105 = .ok (.getfield 98, 3) := by decide +kernel
theorem dX10_wonders_108 : decode cX10_wonders 108 = .ok (.iconst 4, 1) := by decide +kernel
theorem dX10_wonders_109 : decode cX10_wonders 109 = .ok (.iaload, 1) := by decide +kernel
theorem dX10_wonders_110 : decode cX10_wonders 110 = .ok (.invokevirtual 290, 3) := by decide +kernel
theorem dX10_wonders_113 : decode cX10_wonders 113 = .ok (.iinc 3 1, 3) := by decide +kernel
theorem dX10_wonders_116 : decode cX10_wonders 116 = .ok (.goto (-67), 3) := by decide +kernel
theorem dX10_wonders_119 : decode cX10_wonders 119 = .ok (.return_, 1) := by decide +kernel
theorem rl_5 : RI 5 5 5 := by unfold RI; decide +kernel
theorem rl_12 : RI 12 12 12 := by unfold RI; decide +kernel
theorem rl_18 : RI 18 18 18 := by unfold RI; decide +kernel
theorem rl_84 : RI 84 84 84 := by unfold RI; decide +kernel
theorem rl_85 : RI 85 85 85 := by unfold RI; decide +kernel
theorem rl_86 : RI 86 86 86 := by unfold RI; decide +kernel
theorem rl_88 : RI 88 88 88 := by unfold RI; decide +kernel
theorem rl_92 : RI 92 92 92 := by unfold RI; decide +kernel
theorem rl_98 : RI 98 98 98 := by unfold RI; decide +kernel
theorem rl_104 : RI 104 104 104 := by unfold RI; decide +kernel
theorem rl_112 : RI 112 112 112 := by unfold RI; decide +kernel
theorem rl_120 : RI 120 120 120 := by unfold RI; decide +kernel
theorem rl_400 : RI 400 400 400 := by unfold RI; decide +kernel
theorem rl_414 : RI 414 414 414 := by unfold RI; decide +kernel
theorem rl_616 : RI 616 616 616 := by unfold RI; decide +kernel
